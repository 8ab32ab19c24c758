theorem u9_wsX10_orders_X10 : ∀ w ∈ u_ws RX10 TX10 56, w ∈ wsX10_orders := fun w h => List.mem_cons_of_mem _ (vW10_wsX100 w h)
theorem f9_wsX10_orders_292 : (Cond.fieldLink RX10 11 "TurnedFloorsModel" "undoMany" "I") ∈ wsX10_orders := List.mem_cons_of_mem _ mvW10_33
theorem f9_wsX10_orders_293 : (Cond.fieldLink RX10 110 "TurnedFloorsModel" "stopped0" "I") ∈ wsX10_orders := List.mem_cons_of_mem _ mvW10_248
theorem f9_wsX10_orders_294 : (Cond.fieldLink RX10 69 "TurnedFloorsModel" "left0" "[I") ∈ wsX10_orders := List.mem_cons_of_mem _ mvW10_250
theorem f9_wsX10_orders_295 : (Cond.fieldLink RX10 72 "TurnedFloorsModel" "leftAhead" "[I") ∈ wsX10_orders := List.mem_cons_of_mem _ mvW10_249
theorem f9_wsX10_orders_296 : (Cond.fieldLink RX10 475 "TurnedFloorsModel" "orderAt" "I") ∈ wsX10_orders := List.mem_cons_of_mem _ mvW10_251
theorem f9_wsX10_orders_297 : (Cond.fieldLink RX10 314 "TurnedFloorsModel" "orderDone" "I") ∈ wsX10_orders := List.mem_cons_of_mem _ mvW10_97
theorem f9_wsX10_orders_298 : (Cond.fieldLink RX10 317 "TurnedFloorsModel" "orderLatest" "I") ∈ wsX10_orders := List.mem_cons_of_mem _ mvW10_98
theorem f9_wsX10_orders_299 : (Cond.fieldLink RX10 28 "TurnedFloorsModel" "kept" "[I") ∈ wsX10_orders := List.mem_cons_of_mem _ mvW10_20
theorem u9_wsX10_draws_X10 : ∀ w ∈ u_ws RX10 TX10 56, w ∈ wsX10_draws := fun w h => List.mem_cons_of_mem _ (vW10_wsX100 w h)
theorem f9_wsX10_draws_301 : (Cond.constantLong RX10 513 1103) ∈ wsX10_draws := List.mem_cons_of_mem _ mvW10_450
theorem f9_wsX10_draws_302 : (Cond.fieldLink RX10 515 "TurnedFloorsModel" "latest" "I") ∈ wsX10_draws := List.mem_cons_of_mem _ mvW10_443
theorem f9_wsX10_draws_303 : (Cond.constantLong RX10 518 12345) ∈ wsX10_draws := List.mem_cons_of_mem _ mvW10_451
theorem f9_wsX10_draws_304 : (Cond.constantLong RX10 520 1000003) ∈ wsX10_draws := List.mem_cons_of_mem _ mvW10_452
theorem u9_wsX10_years_X10 : ∀ w ∈ u_ws RX10 TX10 56, w ∈ wsX10_years := fun w h => List.mem_cons_of_mem _ (vW10_wsX100 w h)
theorem f9_wsX10_years_306 : (Cond.fieldLink RX10 113 "TurnedFloorsModel" "drawnMoved" "[I") ∈ wsX10_years := List.mem_cons_of_mem _ mvW10_445
theorem f9_wsX10_years_307 : (Cond.fieldLink RX10 28 "TurnedFloorsModel" "kept" "[I") ∈ wsX10_years := List.mem_cons_of_mem _ mvW10_20
theorem f9_wsX10_years_308 : (Cond.constant RX10 188 1000000) ∈ wsX10_years := List.mem_cons_of_mem _ mvW10_172
theorem f9_wsX10_years_309 : (Cond.fieldLink RX10 515 "TurnedFloorsModel" "latest" "I") ∈ wsX10_years := List.mem_cons_of_mem _ mvW10_443
theorem f9_wsX10_years_310 : (Cond.fieldLink RX10 116 "TurnedFloorsModel" "drawnMany" "I") ∈ wsX10_years := List.mem_cons_of_mem _ mvW10_444
theorem u9_wsX10_drawn_X10 : ∀ w ∈ u_ws RX10 TX10 56, w ∈ wsX10_drawn := fun w h => List.mem_cons_of_mem _ (vW10_wsX100 w h)
theorem f9_wsX10_drawn_312 : (Cond.fieldLink RX10 116 "TurnedFloorsModel" "drawnMany" "I") ∈ wsX10_drawn := List.mem_cons_of_mem _ mvW10_444
theorem f9_wsX10_drawn_313 : (Cond.fieldLink RX10 113 "TurnedFloorsModel" "drawnMoved" "[I") ∈ wsX10_drawn := List.mem_cons_of_mem _ mvW10_445
theorem u9_wsX10_onHeads_X10 : ∀ w ∈ u_ws RX10 TX10 56, w ∈ wsX10_onHeads := fun w h => List.mem_cons_of_mem _ (vW10_wsX100 w h)
theorem f9_wsX10_onHeads_315 : (Cond.fieldLink RX10 28 "TurnedFloorsModel" "kept" "[I") ∈ wsX10_onHeads := List.mem_cons_of_mem _ mvW10_20
theorem u9_wsX10_count_X10 : ∀ w ∈ u_ws RX10 TX10 56, w ∈ wsX10_count := fun w h => List.mem_cons_of_mem _ (vW10_wsX100 w h)
theorem f9_wsX10_count_317 : (Cond.fieldLink RX10 28 "TurnedFloorsModel" "kept" "[I") ∈ wsX10_count := List.mem_cons_of_mem _ mvW10_20
theorem f9_wsX10_count_318 : (Cond.fieldLink RX10 11 "TurnedFloorsModel" "undoMany" "I") ∈ wsX10_count := List.mem_cons_of_mem _ mvW10_33
theorem f9_wsX10_count_319 : (Cond.fieldLink RX10 169 "TurnedFloorsModel" "taped" "I") ∈ wsX10_count := List.mem_cons_of_mem _ mvW10_145
theorem f9_wsX10_count_320 : (Cond.fieldLink RX10 7 "TurnedFloorsModel" "refused" "[I") ∈ wsX10_count := List.mem_cons_of_mem _ mvW10_15
theorem u9_wsX10_status_X10 : ∀ w ∈ u_ws RX10 TX10 56, w ∈ wsX10_status := fun w h => List.mem_cons_of_mem _ (vW10_wsX100 w h)
theorem f9_wsX10_status_322 : (Cond.fieldLink RX10 3 "TurnedFloorsModel" "status" "I") ∈ wsX10_status := List.mem_cons_of_mem _ mvW10_14
set_option maxHeartbeats 4000000 in
set_option maxRecDepth 100000 in
theorem WX10_orders_122b {p : Program} {l : Launch} {e : Env} {s : State} {m : MethodId} {args : Array Value} {below : List Frame} {meth : Method} {c : Code} {D : va_G} {ty : Nat → ClassId} {eo : Nat → Nat} {A : Nat → Prop} {ad : Nat → Nat} {o1 : Int32} {o2 : dS} (C : dc_C p s m args meth c cX10_orders (some .int) 5 RX10 wsX10_orders D ty eo A) {k122 : dS → Int32 → Int32 → Int32 → Option (Int32 × dS)} (hk122 : ∀ (q : dS) (x1 : Int32) (x3 : Int32) (x4 : Int32) (H : Heap) (locs : List Loc) (ls : Array Slot), k122 q x1 x3 x4 = some (o1, o2) → va_P D vwCl (w10 ty ad q) H → va_D A (w10 ty ad q) → va_S A s.heap H locs → lv_has ls 5 [(0, .ref (ad 0)), (1, .int x1), (3, .int x3), (4, .int x4)] → W p l e ({ frames := 92, cells := 0, slots := 0, locals := 2331 } : Room) s m args below meth c H locs 0 0 (MQ below (va_Qi (fun (r : Int32) (u : va_W) => o1 = r ∧ w10 ty ad o2 = u) (kz_B D ty A) A) args s 0 0 A) (F0 m 122 ls [])) (q : dS) (x1 : Int32) (x3 : Int32) (x4 : Int32) (H : Heap) (locs : List Loc) (ls : Array Slot) (h : zX10_orders_122b k122 q x1 x3 x4 = some (o1, o2)) (hP : va_P D vwCl (w10 ty ad q) H) (hD : va_D A (w10 ty ad q)) (hS : va_S A s.heap H locs) (hl : lv_has ls 5 [(0, .ref (ad 0)), (1, .int x1), (3, .int x3), (4, .int x4)]) : W p l e ({ frames := 92, cells := 0, slots := 0, locals := 2331 } : Room) s m args below meth c H locs 0 0 (MQ below (va_Qi (fun (r : Int32) (u : va_W) => o1 = r ∧ w10 ty ad o2 = u) (kz_B D ty A) A) args s 0 0 A) (F0 m 122 ls []) := by
  have C0 := C
  obtain ⟨hx, hb, hr, hts, hown, hlocks, hml, hK, hN, hE, hA⟩ := C
  unfold zX10_orders_122b at h
  refine lv_iload hx hb dX10_orders_122 (lv_at hl 3 rfl) ?_
  refine lv_sipush (v := 240) hx hb dX10_orders_124 (by decide) ?_
  refine lv_icmp_ge (tgt := 150) hx hb dX10_orders_127 (by decide) (fun c9 => ?_) (fun c9 => ?_)
  · rw [if_pos c9] at h
    refine lv_aload_n hx hb dX10_orders_150 rfl (lv_at hl 0 rfl) ?_
    refine lv_iload_n hx hb dX10_orders_151 rfl (lv_at hl 1 rfl) ?_
    refine va_put (D := D) (ci := 10) (v := .int x1) (ty := .int) (C := RX10) (T := TX10) (N := 56) hx hb hts u9_wsX10_orders_X10 tyX10 tyX10_ok nmX10 hown hK hP hD hS 0 rfl rfl 32 (by decide) (hts (.fieldLink RX10 11 "TurnedFloorsModel" "undoMany" "I") f9_wsX10_orders_292) (fun _ h9 => h9) rfl (by decide +kernel) rfl rfl (Nat.le_of_ble_eq_true rfl) dX10_orders_152 (fun H locs hp hd hs => ?_)
    obtain ⟨q1, eq1, h⟩ := dL_some h
    refine kz_re (w2 := w10 ty ad q1) hp hd hs (by rw [← eq1]; exact w10_f32 ty ad q x1) ?_
    clear hp hd hs hP hD hS
    intro hP hD hS
    refine lv_aload_n hx hb dX10_orders_155 rfl (lv_at hl 0 rfl) ?_
    refine lv_iload_n hx hb dX10_orders_156 rfl (lv_at hl 2 rfl) ?_
    refine va_put (D := D) (ci := 10) (v := .int x3) (ty := .int) (C := RX10) (T := TX10) (N := 56) hx hb hts u9_wsX10_orders_X10 tyX10 tyX10_ok nmX10 hown hK hP hD hS 0 rfl rfl 46 (by decide) (hts (.fieldLink RX10 110 "TurnedFloorsModel" "stopped0" "I") f9_wsX10_orders_293) (fun _ h9 => h9) rfl (by decide +kernel) rfl rfl (Nat.le_of_ble_eq_true rfl) dX10_orders_157 (fun H locs hp hd hs => ?_)
    obtain ⟨q2, eq2, h⟩ := dL_some h
    refine kz_re (w2 := w10 ty ad q2) hp hd hs (by rw [← eq2]; exact w10_f46 ty ad q1 x3) ?_
    clear hp hd hs hP hD hS
    intro hP hD hS
    refine lv_aload_n hx hb dX10_orders_160 rfl (lv_at hl 0 rfl) ?_
    refine lv_bipush (v := (-3)) hx hb dX10_orders_161 (by decide) ?_
    obtain ⟨r3, q5, h4, h⟩ := dB_some h
    refine dw_ki (va_runV (As := [.int (-3)]) (rest := []) ⟨hx, hb, hml, hown, hts⟩ (qX10_refuses l D ty eo _ ad q2 (-3) r3 q5 h4) (cwV 1 hts gX10_orders_X10_refuses rfl rfl rfl hd_X10_refuses_v ⟨Nat.le_of_ble_eq_true rfl, Nat.le_of_ble_eq_true rfl⟩) (pv10_10_0 hK hN hE hP hD hS hA) rfl rfl hl.1 rfl (lv_room (Nat.le_of_ble_eq_true rfl)) dX10_orders_163 ⟨Nat.le_of_ble_eq_true rfl, Nat.le_of_ble_eq_true rfl⟩) hD hS hA (fun r9 u9 H locs hw hp hd hs => ?_)
    clear hP hD hS
    obtain ⟨rfl, rfl⟩ := hw
    have hP := hp; have hD := hd; have hS := hs; clear hp hd hs
    cases h
    exact kz_iret hx hb hr hlocks hP hK hD hS dX10_orders_166 ⟨rfl, rfl⟩
  · rw [if_neg c9] at h
    refine lv_aload_n hx hb dX10_orders_130 rfl (lv_at hl 0 rfl) ?_
    refine va_get (D := D) (ci := 10) (v := .ref (ad 14)) (C := RX10) (T := TX10) (N := 56) hx hb hts u9_wsX10_orders_X10 hown hK hP 0 rfl rfl 30 (by decide) (hts (.fieldLink RX10 69 "TurnedFloorsModel" "left0" "[I") f9_wsX10_orders_294) (fun _ h9 => h9) rfl dX10_orders_131 ?_
    refine lv_iload hx hb dX10_orders_134 (lv_at hl 3 rfl) ?_
    refine lv_aload_n hx hb dX10_orders_136 rfl (lv_at hl 0 rfl) ?_
    refine va_get (D := D) (ci := 10) (v := .ref (ad 15)) (C := RX10) (T := TX10) (N := 56) hx hb hts u9_wsX10_orders_X10 hown hK hP 0 rfl rfl 31 (by decide) (hts (.fieldLink RX10 72 "TurnedFloorsModel" "leftAhead" "[I") f9_wsX10_orders_295) (fun _ h9 => h9) rfl dX10_orders_137 ?_
    refine lv_iload hx hb dX10_orders_140 (lv_at hl 3 rfl) ?_
    obtain ⟨g6, h⟩ := dG_some h
    refine va_iald hx hb hK hP 15 0 rfl rfl (dg_in g6) dX10_orders_142 ?_
    obtain ⟨v7, ev7, h⟩ := dL_some h
    refine kz_topi v7 ev7 ?_
    obtain ⟨g8, h⟩ := dG_some h
    refine va_iast hx hb hK hP hD hS 14 0 rfl rfl (dg_in g8) dX10_orders_143 (fun H locs hp hd hs => ?_)
    obtain ⟨q9, eq9, h⟩ := dL_some h
    refine kz_re (w2 := w10 ty ad q9) hp hd hs (by rw [← eq9]; exact w10_a14 ty ad q (Int32.toNatClampNeg x4) v7) ?_
    clear hp hd hs hP hD hS
    intro hP hD hS
    refine lv_iinc (v := x4 + 1) (lv' := [(4, .int (x4 + 1)), (0, .ref (ad 0)), (1, .int x1), (3, .int x3)]) hx hb dX10_orders_144 hl (k := 3) rfl rfl (by decide) rfl (fun ls hl => ?_)
    refine lv_goto (tgt := 122) hx hb dX10_orders_147 (by decide) ?_
    exact hk122 _ _ _ _ _ _ _ h hP hD hS (lv_sub hl [1, 2, 3, 0] rfl)
set_option maxHeartbeats 4000000 in
set_option maxRecDepth 100000 in
theorem WX10_orders_122 {p : Program} {l : Launch} {e : Env} {s : State} {m : MethodId} {args : Array Value} {below : List Frame} {meth : Method} {c : Code} {D : va_G} {ty : Nat → ClassId} {eo : Nat → Nat} {A : Nat → Prop} {ad : Nat → Nat} {o1 : Int32} {o2 : dS} (C : dc_C p s m args meth c cX10_orders (some .int) 5 RX10 wsX10_orders D ty eo A)   (n : Nat) (q : dS) (x1 : Int32) (x3 : Int32) (x4 : Int32) (H : Heap) (locs : List Loc) (ls : Array Slot) (h : zX10_orders_122  n q x1 x3 x4 = some (o1, o2)) (hP : va_P D vwCl (w10 ty ad q) H) (hD : va_D A (w10 ty ad q)) (hS : va_S A s.heap H locs) (hl : lv_has ls 5 [(0, .ref (ad 0)), (1, .int x1), (3, .int x3), (4, .int x4)]) : W p l e ({ frames := 92, cells := 0, slots := 0, locals := 2331 } : Room) s m args below meth c H locs 0 0 (MQ below (va_Qi (fun (r : Int32) (u : va_W) => o1 = r ∧ w10 ty ad o2 = u) (kz_B D ty A) A) args s 0 0 A) (F0 m 122 ls []) := by
  exact dFix_W (F := fun k (a : dS × Int32 × Int32 × Int32) => zX10_orders_122b  (fun q x1 x3 x4 => k (q, x1, x3, x4)) a.1 a.2.1 a.2.2.1 a.2.2.2) (o := (o1, o2)) (P := fun (a : dS × Int32 × Int32 × Int32) H locs ls => va_P D vwCl (w10 ty ad a.1) H ∧ va_D A (w10 ty ad a.1) ∧ va_S A s.heap H locs ∧ lv_has ls 5 [(0, .ref (ad 0)), (1, .int a.2.1), (3, .int a.2.2.1), (4, .int a.2.2.2)]) (G := fun H locs ls => W p l e ({ frames := 92, cells := 0, slots := 0, locals := 2331 } : Room) s m args below meth c H locs 0 0 (MQ below (va_Qi (fun (r : Int32) (u : va_W) => o1 = r ∧ w10 ty ad o2 = u) (kz_B D ty A) A) args s 0 0 A) (F0 m 122 ls []))
    (fun k hk a H locs ls h hp => WX10_orders_122b C  (fun q x1 x3 x4 H locs ls h h1 h2 h3 h4 => hk (q, x1, x3, x4) H locs ls h ⟨h1, h2, h3, h4⟩) a.1 a.2.1 a.2.2.1 a.2.2.2 H locs ls h hp.1 hp.2.1 hp.2.2.1 hp.2.2.2) n (q, x1, x3, x4) H locs ls h ⟨hP, hD, hS, hl⟩
set_option maxHeartbeats 4000000 in
set_option maxRecDepth 100000 in
theorem WX10_orders_95b {p : Program} {l : Launch} {e : Env} {s : State} {m : MethodId} {args : Array Value} {below : List Frame} {meth : Method} {c : Code} {D : va_G} {ty : Nat → ClassId} {eo : Nat → Nat} {A : Nat → Prop} {ad : Nat → Nat} {o1 : Int32} {o2 : dS} (C : dc_C p s m args meth c cX10_orders (some .int) 5 RX10 wsX10_orders D ty eo A) {k95 : dS → Int32 → Int32 → Int32 → Option (Int32 × dS)} (hk95 : ∀ (q : dS) (x1 : Int32) (x2 : Int32) (x3 : Int32) (H : Heap) (locs : List Loc) (ls : Array Slot), k95 q x1 x2 x3 = some (o1, o2) → va_P D vwCl (w10 ty ad q) H → va_D A (w10 ty ad q) → va_S A s.heap H locs → lv_has ls 5 [(0, .ref (ad 0)), (1, .int x1), (2, .int x2), (3, .int x3)] → W p l e ({ frames := 92, cells := 0, slots := 0, locals := 2331 } : Room) s m args below meth c H locs 0 0 (MQ below (va_Qi (fun (r : Int32) (u : va_W) => o1 = r ∧ w10 ty ad o2 = u) (kz_B D ty A) A) args s 0 0 A) (F0 m 95 ls [])) (q : dS) (x1 : Int32) (x2 : Int32) (x3 : Int32) (H : Heap) (locs : List Loc) (ls : Array Slot) (h : zX10_orders_95b k95 q x1 x2 x3 = some (o1, o2)) (hP : va_P D vwCl (w10 ty ad q) H) (hD : va_D A (w10 ty ad q)) (hS : va_S A s.heap H locs) (hl : lv_has ls 5 [(0, .ref (ad 0)), (1, .int x1), (2, .int x2), (3, .int x3)]) : W p l e ({ frames := 92, cells := 0, slots := 0, locals := 2331 } : Room) s m args below meth c H locs 0 0 (MQ below (va_Qi (fun (r : Int32) (u : va_W) => o1 = r ∧ w10 ty ad o2 = u) (kz_B D ty A) A) args s 0 0 A) (F0 m 95 ls []) := by
  have C0 := C
  obtain ⟨hx, hb, hr, hts, hown, hlocks, hml, hK, hN, hE, hA⟩ := C
  unfold zX10_orders_95b at h
  refine lv_aload_n hx hb dX10_orders_95 rfl (lv_at hl 0 rfl) ?_
  refine va_get (D := D) (ci := 10) (v := .int (q.1 0 47)) (C := RX10) (T := TX10) (N := 56) hx hb hts u9_wsX10_orders_X10 hown hK hP 0 rfl rfl 47 (by decide) (hts (.fieldLink RX10 475 "TurnedFloorsModel" "orderAt" "I") f9_wsX10_orders_296) (fun _ h9 => h9) rfl dX10_orders_96 ?_
  refine lv_iload_n hx hb dX10_orders_99 rfl (lv_at hl 2 rfl) ?_
  refine lv_icmp_ge (tgt := 173) hx hb dX10_orders_100 (by decide) (fun c9 => ?_) (fun c9 => ?_)
  · rw [if_pos c9] at h
    refine lv_aload_n hx hb dX10_orders_173 rfl (lv_at hl 0 rfl) ?_
    refine lv_aload_n hx hb dX10_orders_174 rfl (lv_at hl 0 rfl) ?_
    refine va_get (D := D) (ci := 10) (v := .int (q.1 0 27)) (C := RX10) (T := TX10) (N := 56) hx hb hts u9_wsX10_orders_X10 hown hK hP 0 rfl rfl 27 (by decide) (hts (.fieldLink RX10 314 "TurnedFloorsModel" "orderDone" "I") f9_wsX10_orders_297) (fun _ h9 => h9) rfl dX10_orders_175 ?_
    obtain ⟨r1, q3, h2, h⟩ := dB_some h
    refine dw_ki (va_runV (As := [.int (q.1 0 27)]) (rest := []) ⟨hx, hb, hml, hown, hts⟩ (qX10_good l D ty eo _ ad q (q.1 0 27) r1 q3 h2) (cwV 1 hts gX10_orders_X10_good rfl rfl rfl hd_X10_good_v ⟨Nat.le_of_ble_eq_true rfl, Nat.le_of_ble_eq_true rfl⟩) (pv10_10_0 hK hN hE hP hD hS hA) rfl rfl hl.1 rfl (lv_room (Nat.le_of_ble_eq_true rfl)) dX10_orders_178 ⟨Nat.le_of_ble_eq_true rfl, Nat.le_of_ble_eq_true rfl⟩) hD hS hA (fun r9 u9 H locs hw hp hd hs => ?_)
    clear hP hD hS
    obtain ⟨rfl, rfl⟩ := hw
    have hP := hp; have hD := hd; have hS := hs; clear hp hd hs
    cases h
    exact kz_iret hx hb hr hlocks hP hK hD hS dX10_orders_181 ⟨rfl, rfl⟩
  · rw [if_neg c9] at h
    refine lv_aload_n hx hb dX10_orders_103 rfl (lv_at hl 0 rfl) ?_
    refine lv_iload_n hx hb dX10_orders_104 rfl (lv_at hl 2 rfl) ?_
    obtain ⟨r4, q6, h5, h⟩ := dB_some h
    refine dw_ki (va_runV (As := [.int x2]) (rest := []) ⟨hx, hb, hml, hown, hts⟩ (qX10_runs l D ty eo _ ad q x2 r4 q6 h5) (cwV 1 hts gX10_orders_X10_runs rfl rfl rfl hd_X10_runs_v ⟨Nat.le_of_ble_eq_true rfl, Nat.le_of_ble_eq_true rfl⟩) (pv10_10_0 hK hN hE hP hD hS hA) rfl rfl hl.1 rfl (lv_room (Nat.le_of_ble_eq_true rfl)) dX10_orders_105 ⟨Nat.le_of_ble_eq_true rfl, Nat.le_of_ble_eq_true rfl⟩) hD hS hA (fun r9 u9 H locs hw hp hd hs => ?_)
    clear hP hD hS
    obtain ⟨rfl, rfl⟩ := hw
    have hP := hp; have hD := hd; have hS := hs; clear hp hd hs
    refine lv_if_eq (tgt := 114) hx hb dX10_orders_108 (by decide) (fun c9 => ?_) (fun c9 => ?_)
    · rw [if_pos c9] at h
      refine lv_aload_n hx hb dX10_orders_114 rfl (lv_at hl 0 rfl) ?_
      refine lv_iconst (v := 1) hx hb dX10_orders_115 (by decide) ?_
      obtain ⟨q9, h8, h⟩ := dV_some h
      refine dw_kv (va_runV (As := [.int 1]) (rest := []) ⟨hx, hb, hml, hown, hts⟩ (qX10_takesBack l D ty eo _ ad q6 1 q9 h8) (cwV 1 hts gX10_orders_X10_takesBack rfl rfl rfl hd_X10_takesBack_v ⟨Nat.le_of_ble_eq_true rfl, Nat.le_of_ble_eq_true rfl⟩) (pv10_10_0 hK hN hE hP hD hS hA) rfl rfl hl.1 rfl (lv_room (Nat.le_of_ble_eq_true rfl)) dX10_orders_116 ⟨Nat.le_of_ble_eq_true rfl, Nat.le_of_ble_eq_true rfl⟩) hD hS hA (fun u9 H locs hw hp hd hs => ?_)
      clear hP hD hS
      obtain rfl := hw
      have hP := hp; have hD := hd; have hS := hs; clear hp hd hs
      refine lv_iconst (v := 0) hx hb dX10_orders_119 (by decide) ?_
      refine lv_istore (lv' := [(4, .int 0), (0, .ref (ad 0)), (1, .int x1), (2, .int x2), (3, .int x3)]) hx hb dX10_orders_120 hl (by decide) rfl (fun ls hl => ?_)
      exact WX10_orders_122 C0  _ _ _ _ _ _ _ _ h hP hD hS (lv_sub hl [1, 2, 4, 0] rfl)
    · rw [if_neg c9] at h
      refine lv_goto (tgt := 167) hx hb dX10_orders_111 (by decide) ?_
      refine lv_iinc (v := x3 + 1) (lv' := [(3, .int (x3 + 1)), (0, .ref (ad 0)), (1, .int x1), (2, .int x2)]) hx hb dX10_orders_167 hl (k := 3) rfl rfl (by decide) rfl (fun ls hl => ?_)
      refine lv_goto (tgt := 95) hx hb dX10_orders_170 (by decide) ?_
      exact hk95 _ _ _ _ _ _ _ h hP hD hS (lv_sub hl [1, 2, 3, 0] rfl)
set_option maxHeartbeats 4000000 in
set_option maxRecDepth 100000 in
theorem WX10_orders_95 {p : Program} {l : Launch} {e : Env} {s : State} {m : MethodId} {args : Array Value} {below : List Frame} {meth : Method} {c : Code} {D : va_G} {ty : Nat → ClassId} {eo : Nat → Nat} {A : Nat → Prop} {ad : Nat → Nat} {o1 : Int32} {o2 : dS} (C : dc_C p s m args meth c cX10_orders (some .int) 5 RX10 wsX10_orders D ty eo A)   (n : Nat) (q : dS) (x1 : Int32) (x2 : Int32) (x3 : Int32) (H : Heap) (locs : List Loc) (ls : Array Slot) (h : zX10_orders_95  n q x1 x2 x3 = some (o1, o2)) (hP : va_P D vwCl (w10 ty ad q) H) (hD : va_D A (w10 ty ad q)) (hS : va_S A s.heap H locs) (hl : lv_has ls 5 [(0, .ref (ad 0)), (1, .int x1), (2, .int x2), (3, .int x3)]) : W p l e ({ frames := 92, cells := 0, slots := 0, locals := 2331 } : Room) s m args below meth c H locs 0 0 (MQ below (va_Qi (fun (r : Int32) (u : va_W) => o1 = r ∧ w10 ty ad o2 = u) (kz_B D ty A) A) args s 0 0 A) (F0 m 95 ls []) := by
  exact dFix_W (F := fun k (a : dS × Int32 × Int32 × Int32) => zX10_orders_95b  (fun q x1 x2 x3 => k (q, x1, x2, x3)) a.1 a.2.1 a.2.2.1 a.2.2.2) (o := (o1, o2)) (P := fun (a : dS × Int32 × Int32 × Int32) H locs ls => va_P D vwCl (w10 ty ad a.1) H ∧ va_D A (w10 ty ad a.1) ∧ va_S A s.heap H locs ∧ lv_has ls 5 [(0, .ref (ad 0)), (1, .int a.2.1), (2, .int a.2.2.1), (3, .int a.2.2.2)]) (G := fun H locs ls => W p l e ({ frames := 92, cells := 0, slots := 0, locals := 2331 } : Room) s m args below meth c H locs 0 0 (MQ below (va_Qi (fun (r : Int32) (u : va_W) => o1 = r ∧ w10 ty ad o2 = u) (kz_B D ty A) A) args s 0 0 A) (F0 m 95 ls []))
    (fun k hk a H locs ls h hp => WX10_orders_95b C  (fun q x1 x2 x3 H locs ls h h1 h2 h3 h4 => hk (q, x1, x2, x3) H locs ls h ⟨h1, h2, h3, h4⟩) a.1 a.2.1 a.2.2.1 a.2.2.2 H locs ls h hp.1 hp.2.1 hp.2.2.1 hp.2.2.2) n (q, x1, x2, x3) H locs ls h ⟨hP, hD, hS, hl⟩
set_option maxHeartbeats 4000000 in
set_option maxRecDepth 100000 in
theorem WX10_orders_27b {p : Program} {l : Launch} {e : Env} {s : State} {m : MethodId} {args : Array Value} {below : List Frame} {meth : Method} {c : Code} {D : va_G} {ty : Nat → ClassId} {eo : Nat → Nat} {A : Nat → Prop} {ad : Nat → Nat} {o1 : Int32} {o2 : dS} (C : dc_C p s m args meth c cX10_orders (some .int) 5 RX10 wsX10_orders D ty eo A) {k27 : dS → Int32 → Option (Int32 × dS)} (hk27 : ∀ (q : dS) (x1 : Int32) (H : Heap) (locs : List Loc) (ls : Array Slot), k27 q x1 = some (o1, o2) → va_P D vwCl (w10 ty ad q) H → va_D A (w10 ty ad q) → va_S A s.heap H locs → lv_has ls 5 [(0, .ref (ad 0)), (1, .int x1)] → W p l e ({ frames := 92, cells := 0, slots := 0, locals := 2331 } : Room) s m args below meth c H locs 0 0 (MQ below (va_Qi (fun (r : Int32) (u : va_W) => o1 = r ∧ w10 ty ad o2 = u) (kz_B D ty A) A) args s 0 0 A) (F0 m 27 ls [])) (q : dS) (x1 : Int32) (H : Heap) (locs : List Loc) (ls : Array Slot) (h : zX10_orders_27b k27 q x1 = some (o1, o2)) (hP : va_P D vwCl (w10 ty ad q) H) (hD : va_D A (w10 ty ad q)) (hS : va_S A s.heap H locs) (hl : lv_has ls 5 [(0, .ref (ad 0)), (1, .int x1)]) : W p l e ({ frames := 92, cells := 0, slots := 0, locals := 2331 } : Room) s m args below meth c H locs 0 0 (MQ below (va_Qi (fun (r : Int32) (u : va_W) => o1 = r ∧ w10 ty ad o2 = u) (kz_B D ty A) A) args s 0 0 A) (F0 m 27 ls []) := by
  have C0 := C
  obtain ⟨hx, hb, hr, hts, hown, hlocks, hml, hK, hN, hE, hA⟩ := C
  unfold zX10_orders_27b at h
  refine lv_iload_n hx hb dX10_orders_27 rfl (lv_at hl 1 rfl) ?_
  refine lv_sipush (v := 240) hx hb dX10_orders_28 (by decide) ?_
  refine lv_icmp_ge (tgt := 52) hx hb dX10_orders_31 (by decide) (fun c9 => ?_) (fun c9 => ?_)
  · rw [if_pos c9] at h
    refine lv_aload_n hx hb dX10_orders_52 rfl (lv_at hl 0 rfl) ?_
    refine va_get (D := D) (ci := 10) (v := .int (q.1 0 32)) (C := RX10) (T := TX10) (N := 56) hx hb hts u9_wsX10_orders_X10 hown hK hP 0 rfl rfl 32 (by decide) (hts (.fieldLink RX10 11 "TurnedFloorsModel" "undoMany" "I") f9_wsX10_orders_292) (fun _ h9 => h9) rfl dX10_orders_53 ?_
    refine lv_istore_n (lv' := [(1, .int (q.1 0 32)), (0, .ref (ad 0))]) hx hb dX10_orders_56 rfl hl (by decide) rfl (fun ls hl => ?_)
    refine lv_aload_n hx hb dX10_orders_57 rfl (lv_at hl 1 rfl) ?_
    refine lv_bipush (v := 6) hx hb dX10_orders_58 (by decide) ?_
    obtain ⟨q3, h2, h⟩ := dV_some h
    refine dw_kv (va_runV (As := [.int 6]) (rest := []) ⟨hx, hb, hml, hown, hts⟩ (qX10_lays l D ty eo _ ad q 6 q3 h2) (cwV 1 hts gX10_orders_X10_lays rfl rfl rfl hd_X10_lays_v ⟨Nat.le_of_ble_eq_true rfl, Nat.le_of_ble_eq_true rfl⟩) (pv10_10_0 hK hN hE hP hD hS hA) rfl rfl hl.1 rfl (lv_room (Nat.le_of_ble_eq_true rfl)) dX10_orders_60 ⟨Nat.le_of_ble_eq_true rfl, Nat.le_of_ble_eq_true rfl⟩) hD hS hA (fun u9 H locs hw hp hd hs => ?_)
    clear hP hD hS
    obtain rfl := hw
    have hP := hp; have hD := hd; have hS := hs; clear hp hd hs
    refine lv_aload_n hx hb dX10_orders_63 rfl (lv_at hl 1 rfl) ?_
    refine lv_iconst (v := 0) hx hb dX10_orders_64 (by decide) ?_
    refine va_put (D := D) (ci := 10) (v := .int 0) (ty := .int) (C := RX10) (T := TX10) (N := 56) hx hb hts u9_wsX10_orders_X10 tyX10 tyX10_ok nmX10 hown hK hP hD hS 0 rfl rfl 27 (by decide) (hts (.fieldLink RX10 314 "TurnedFloorsModel" "orderDone" "I") f9_wsX10_orders_297) (fun _ h9 => h9) rfl (by decide +kernel) rfl rfl (Nat.le_of_ble_eq_true rfl) dX10_orders_65 (fun H locs hp hd hs => ?_)
    obtain ⟨q4, eq4, h⟩ := dL_some h
    refine kz_re (w2 := w10 ty ad q4) hp hd hs (by rw [← eq4]; exact w10_f27 ty ad q3 0) ?_
    clear hp hd hs hP hD hS
    intro hP hD hS
    refine lv_aload_n hx hb dX10_orders_68 rfl (lv_at hl 1 rfl) ?_
    refine lv_iconst (v := (-1)) hx hb dX10_orders_69 (by decide) ?_
    refine va_put (D := D) (ci := 10) (v := .int (-1)) (ty := .int) (C := RX10) (T := TX10) (N := 56) hx hb hts u9_wsX10_orders_X10 tyX10 tyX10_ok nmX10 hown hK hP hD hS 0 rfl rfl 28 (by decide) (hts (.fieldLink RX10 317 "TurnedFloorsModel" "orderLatest" "I") f9_wsX10_orders_298) (fun _ h9 => h9) rfl (by decide +kernel) rfl rfl (Nat.le_of_ble_eq_true rfl) dX10_orders_70 (fun H locs hp hd hs => ?_)
    obtain ⟨q5, eq5, h⟩ := dL_some h
    refine kz_re (w2 := w10 ty ad q5) hp hd hs (by rw [← eq5]; exact w10_f28 ty ad q4 (-1)) ?_
    clear hp hd hs hP hD hS
    intro hP hD hS
    refine lv_aload_n hx hb dX10_orders_73 rfl (lv_at hl 1 rfl) ?_
    refine lv_sipush (v := 2400) hx hb dX10_orders_74 (by decide) ?_
    refine va_put (D := D) (ci := 10) (v := .int 2400) (ty := .int) (C := RX10) (T := TX10) (N := 56) hx hb hts u9_wsX10_orders_X10 tyX10 tyX10_ok nmX10 hown hK hP hD hS 0 rfl rfl 47 (by decide) (hts (.fieldLink RX10 475 "TurnedFloorsModel" "orderAt" "I") f9_wsX10_orders_296) (fun _ h9 => h9) rfl (by decide +kernel) rfl rfl (Nat.le_of_ble_eq_true rfl) dX10_orders_77 (fun H locs hp hd hs => ?_)
    obtain ⟨q6, eq6, h⟩ := dL_some h
    refine kz_re (w2 := w10 ty ad q6) hp hd hs (by rw [← eq6]; exact w10_f47 ty ad q5 2400) ?_
    clear hp hd hs hP hD hS
    intro hP hD hS
    refine lv_aload_n hx hb dX10_orders_80 rfl (lv_at hl 1 rfl) ?_
    refine va_get (D := D) (ci := 10) (v := .int (q6.1 0 47)) (C := RX10) (T := TX10) (N := 56) hx hb hts u9_wsX10_orders_X10 hown hK hP 0 rfl rfl 47 (by decide) (hts (.fieldLink RX10 475 "TurnedFloorsModel" "orderAt" "I") f9_wsX10_orders_296) (fun _ h9 => h9) rfl dX10_orders_81 ?_
    refine lv_aload_n hx hb dX10_orders_84 rfl (lv_at hl 1 rfl) ?_
    refine va_get (D := D) (ci := 10) (v := .ref (ad 2)) (C := RX10) (T := TX10) (N := 56) hx hb hts u9_wsX10_orders_X10 hown hK hP 0 rfl rfl 2 (by decide) (hts (.fieldLink RX10 28 "TurnedFloorsModel" "kept" "[I") f9_wsX10_orders_299) (fun _ h9 => h9) rfl dX10_orders_85 ?_
    refine lv_bipush (v := 39) hx hb dX10_orders_88 (by decide) ?_
    refine va_iald hx hb hK hP 2 0 rfl rfl (by simp only [vp_in]; decide) dX10_orders_90 ?_
    refine kz_topi (q6.1 2 39) (congrArg (q6.1 2) (by decide +kernel : Int32.toNatClampNeg 39 = 39)) ?_
    refine lv_iadd hx hb dX10_orders_91 ?_
    refine lv_istore_n (lv' := [(2, .int ((q6.1 0 47) + (q6.1 2 39))), (1, .int (q.1 0 32)), (0, .ref (ad 0))]) hx hb dX10_orders_92 rfl hl (by decide) rfl (fun ls hl => ?_)
    refine lv_iconst (v := 0) hx hb dX10_orders_93 (by decide) ?_
    refine lv_istore_n (lv' := [(3, .int 0), (2, .int ((q6.1 0 47) + (q6.1 2 39))), (1, .int (q.1 0 32)), (0, .ref (ad 0))]) hx hb dX10_orders_94 rfl hl (by decide) rfl (fun ls hl => ?_)
    exact WX10_orders_95 C0  _ _ _ _ _ _ _ _ h hP hD hS (lv_sub hl [3, 2, 1, 0] rfl)
  · rw [if_neg c9] at h
    refine lv_aload_n hx hb dX10_orders_34 rfl (lv_at hl 0 rfl) ?_
    refine va_get (D := D) (ci := 10) (v := .ref (ad 15)) (C := RX10) (T := TX10) (N := 56) hx hb hts u9_wsX10_orders_X10 hown hK hP 0 rfl rfl 31 (by decide) (hts (.fieldLink RX10 72 "TurnedFloorsModel" "leftAhead" "[I") f9_wsX10_orders_295) (fun _ h9 => h9) rfl dX10_orders_35 ?_
    refine lv_iload_n hx hb dX10_orders_38 rfl (lv_at hl 1 rfl) ?_
    refine lv_aload_n hx hb dX10_orders_39 rfl (lv_at hl 0 rfl) ?_
    refine va_get (D := D) (ci := 10) (v := .ref (ad 14)) (C := RX10) (T := TX10) (N := 56) hx hb hts u9_wsX10_orders_X10 hown hK hP 0 rfl rfl 30 (by decide) (hts (.fieldLink RX10 69 "TurnedFloorsModel" "left0" "[I") f9_wsX10_orders_294) (fun _ h9 => h9) rfl dX10_orders_40 ?_
    refine lv_iload_n hx hb dX10_orders_43 rfl (lv_at hl 1 rfl) ?_
    obtain ⟨g7, h⟩ := dG_some h
    refine va_iald hx hb hK hP 14 0 rfl rfl (dg_in g7) dX10_orders_44 ?_
    obtain ⟨v8, ev8, h⟩ := dL_some h
    refine kz_topi v8 ev8 ?_
    obtain ⟨g9, h⟩ := dG_some h
    refine va_iast hx hb hK hP hD hS 15 0 rfl rfl (dg_in g9) dX10_orders_45 (fun H locs hp hd hs => ?_)
    obtain ⟨q10, eq10, h⟩ := dL_some h
    refine kz_re (w2 := w10 ty ad q10) hp hd hs (by rw [← eq10]; exact w10_a15 ty ad q (Int32.toNatClampNeg x1) v8) ?_
    clear hp hd hs hP hD hS
    intro hP hD hS
    refine lv_iinc (v := x1 + 1) (lv' := [(1, .int (x1 + 1)), (0, .ref (ad 0))]) hx hb dX10_orders_46 hl (k := 1) rfl rfl (by decide) rfl (fun ls hl => ?_)
    refine lv_goto (tgt := 27) hx hb dX10_orders_49 (by decide) ?_
    exact hk27 _ _ _ _ _ h hP hD hS (lv_sub hl [1, 0] rfl)
set_option maxHeartbeats 4000000 in
set_option maxRecDepth 100000 in
theorem WX10_orders_27 {p : Program} {l : Launch} {e : Env} {s : State} {m : MethodId} {args : Array Value} {below : List Frame} {meth : Method} {c : Code} {D : va_G} {ty : Nat → ClassId} {eo : Nat → Nat} {A : Nat → Prop} {ad : Nat → Nat} {o1 : Int32} {o2 : dS} (C : dc_C p s m args meth c cX10_orders (some .int) 5 RX10 wsX10_orders D ty eo A)   (n : Nat) (q : dS) (x1 : Int32) (H : Heap) (locs : List Loc) (ls : Array Slot) (h : zX10_orders_27  n q x1 = some (o1, o2)) (hP : va_P D vwCl (w10 ty ad q) H) (hD : va_D A (w10 ty ad q)) (hS : va_S A s.heap H locs) (hl : lv_has ls 5 [(0, .ref (ad 0)), (1, .int x1)]) : W p l e ({ frames := 92, cells := 0, slots := 0, locals := 2331 } : Room) s m args below meth c H locs 0 0 (MQ below (va_Qi (fun (r : Int32) (u : va_W) => o1 = r ∧ w10 ty ad o2 = u) (kz_B D ty A) A) args s 0 0 A) (F0 m 27 ls []) := by
  exact dFix_W (F := fun k (a : dS × Int32) => zX10_orders_27b  (fun q x1 => k (q, x1)) a.1 a.2) (o := (o1, o2)) (P := fun (a : dS × Int32) H locs ls => va_P D vwCl (w10 ty ad a.1) H ∧ va_D A (w10 ty ad a.1) ∧ va_S A s.heap H locs ∧ lv_has ls 5 [(0, .ref (ad 0)), (1, .int a.2)]) (G := fun H locs ls => W p l e ({ frames := 92, cells := 0, slots := 0, locals := 2331 } : Room) s m args below meth c H locs 0 0 (MQ below (va_Qi (fun (r : Int32) (u : va_W) => o1 = r ∧ w10 ty ad o2 = u) (kz_B D ty A) A) args s 0 0 A) (F0 m 27 ls []))
    (fun k hk a H locs ls h hp => WX10_orders_27b C  (fun q x1 H locs ls h h1 h2 h3 h4 => hk (q, x1) H locs ls h ⟨h1, h2, h3, h4⟩) a.1 a.2 H locs ls h hp.1 hp.2.1 hp.2.2.1 hp.2.2.2) n (q, x1) H locs ls h ⟨hP, hD, hS, hl⟩
set_option maxHeartbeats 4000000 in
set_option maxRecDepth 100000 in
theorem qX10_orders (l : Launch) (D : va_G) (ty : Nat → ClassId) (eo : Nat → Nat) (sz : Nat) (ad : Nat → Nat) (q : dS)  (o1 : Int32) (o2 : dS) (h : zX10_orders q = some (o1, o2)) : Met l yX10_orders wsX10_orders ({ frames := 92, cells := 0, slots := 0, locals := 2331 } : Room) (va_Pc [.ref (ad 0)] (kz_pre D ty eo (w10 ty ad q) sz)) (va_Qi (fun (r : Int32) (u : va_W) => o1 = r ∧ w10 ty ad o2 = u) (kz_B D ty (va_A (w10 ty ad q) sz)) (va_A (w10 ty ad q) sz)) 0 0 (va_A (w10 ty ad q) sz) := by
  refine Met.ofW (cc := cX10_orders) (maxL := 5) (ret := (some .int)) (by decide) rfl ?_
  intro p e s m args below meth c s₁ B hml hv
  obtain ⟨rfl, hsz, hP, hK, hD0, hN, hE⟩ := hv
  have hx := B.exec
  have hb := B.bytes
  have hr := B.returns
  have hts := atoms_spec (ws := wsX10_orders) B.pre
  have hown : s.vm.findClass RX10 = some m.cls := findClass_of_methodNamed B.named
  have hlocks := B.notSynchronized
  subst hsz
  have hD := hD0.self (sz := s.heap.size)
  generalize hAe : va_A (w10 ty ad q) s.heap.size = A at hD hE ⊢
  have hA : ∀ q : Nat, s.heap.size ≤ q → A q := fun q h => by rw [← hAe]; exact Or.inr h
  clear hAe
  have hS : va_S A s.heap s.heap [] := va_S.rf
  have hl := lv_entry ([.ref (ad 0)]) (n := 5) (Nat.le_of_ble_eq_true rfl)
  rw [lg_entry_eq]
  generalize (lg_sl ([.ref (ad 0)]) ++ List.replicate (5 - (lg_sl ([.ref (ad 0)])).length) Slot.unset).toArray = ls at hl ⊢
  have hl : lv_has ls 5 [(0, .ref (ad 0))] := hl
  have C : dc_C p s m _ meth c cX10_orders (some .int) 5 RX10 wsX10_orders D ty eo A := ⟨hx, hb, hr, hts, hown, hlocks, hml, hK, hN, hE, hA⟩
  unfold zX10_orders at h
  refine lv_aload_n hx hb dX10_orders_0 rfl (lv_at hl 0 rfl) ?_
  refine lv_iconst (v := (-1)) hx hb dX10_orders_1 (by decide) ?_
  refine va_put (D := D) (ci := 10) (v := .int (-1)) (ty := .int) (C := RX10) (T := TX10) (N := 56) hx hb hts u9_wsX10_orders_X10 tyX10 tyX10_ok nmX10 hown hK hP hD hS 0 rfl rfl 46 (by decide) (hts (.fieldLink RX10 110 "TurnedFloorsModel" "stopped0" "I") f9_wsX10_orders_293) (fun _ h9 => h9) rfl (by decide +kernel) rfl rfl (Nat.le_of_ble_eq_true rfl) dX10_orders_2 (fun H locs hp hd hs => ?_)
  obtain ⟨q1, eq1, h⟩ := dL_some h
  refine kz_re (w2 := w10 ty ad q1) hp hd hs (by rw [← eq1]; exact w10_f46 ty ad q (-1)) ?_
  clear hp hd hs hP hD hS
  intro hP hD hS
  refine lv_aload_n hx hb dX10_orders_5 rfl (lv_at hl 0 rfl) ?_
  refine lv_iconst (v := 1) hx hb dX10_orders_6 (by decide) ?_
  obtain ⟨r2, q4, h3, h⟩ := dB_some h
  refine dw_ki (va_runV (As := [.int 1]) (rest := []) ⟨hx, hb, hml, hown, hts⟩ (qX10_readsAs l D ty eo _ ad q1 1 r2 q4 h3) (cwV 1 hts gX10_orders_X10_readsAs rfl rfl rfl hd_X10_readsAs_v ⟨Nat.le_of_ble_eq_true rfl, Nat.le_of_ble_eq_true rfl⟩) (pv10_10_0 hK hN hE hP hD hS hA) rfl rfl hl.1 rfl (lv_room (Nat.le_of_ble_eq_true rfl)) dX10_orders_7 ⟨Nat.le_of_ble_eq_true rfl, Nat.le_of_ble_eq_true rfl⟩) hD hS hA (fun r9 u9 H locs hw hp hd hs => ?_)
  clear hP hD hS
  obtain ⟨rfl, rfl⟩ := hw
  have hP := hp; have hD := hd; have hS := hs; clear hp hd hs
  refine lv_if_ne (tgt := 20) hx hb dX10_orders_10 (by decide) (fun c9 => ?_) (fun c9 => ?_)
  · rw [if_neg c9] at h
    refine lv_aload_n hx hb dX10_orders_20 rfl (lv_at hl 0 rfl) ?_
    refine lv_iconst (v := 1) hx hb dX10_orders_21 (by decide) ?_
    obtain ⟨q7, h6, h⟩ := dV_some h
    refine dw_kv (va_runV (As := [.int 1]) (rest := []) ⟨hx, hb, hml, hown, hts⟩ (qX10_laysAside l D ty eo _ ad q4 1 q7 h6) (cwV 1 hts gX10_orders_X10_laysAside rfl rfl rfl hd_X10_laysAside_v ⟨Nat.le_of_ble_eq_true rfl, Nat.le_of_ble_eq_true rfl⟩) (pv10_10_0 hK hN hE hP hD hS hA) rfl rfl hl.1 rfl (lv_room (Nat.le_of_ble_eq_true rfl)) dX10_orders_22 ⟨Nat.le_of_ble_eq_true rfl, Nat.le_of_ble_eq_true rfl⟩) hD hS hA (fun u9 H locs hw hp hd hs => ?_)
    clear hP hD hS
    obtain rfl := hw
    have hP := hp; have hD := hd; have hS := hs; clear hp hd hs
    refine lv_iconst (v := 0) hx hb dX10_orders_25 (by decide) ?_
    refine lv_istore_n (lv' := [(1, .int 0), (0, .ref (ad 0))]) hx hb dX10_orders_26 rfl hl (by decide) rfl (fun ls hl => ?_)
    exact WX10_orders_27 C  _ _ _ _ _ _ h hP hD hS (lv_sub hl [1, 0] rfl)
  · rw [if_pos c9] at h
    refine lv_aload_n hx hb dX10_orders_13 rfl (lv_at hl 0 rfl) ?_
    refine lv_bipush (v := (-6)) hx hb dX10_orders_14 (by decide) ?_
    obtain ⟨r8, q10, h9, h⟩ := dB_some h
    refine dw_ki (va_runV (As := [.int (-6)]) (rest := []) ⟨hx, hb, hml, hown, hts⟩ (qX10_refuses l D ty eo _ ad q4 (-6) r8 q10 h9) (cwV 1 hts gX10_orders_X10_refuses rfl rfl rfl hd_X10_refuses_v ⟨Nat.le_of_ble_eq_true rfl, Nat.le_of_ble_eq_true rfl⟩) (pv10_10_0 hK hN hE hP hD hS hA) rfl rfl hl.1 rfl (lv_room (Nat.le_of_ble_eq_true rfl)) dX10_orders_16 ⟨Nat.le_of_ble_eq_true rfl, Nat.le_of_ble_eq_true rfl⟩) hD hS hA (fun r9 u9 H locs hw hp hd hs => ?_)
    clear hP hD hS
    obtain ⟨rfl, rfl⟩ := hw
    have hP := hp; have hD := hd; have hS := hs; clear hp hd hs
    cases h
    exact kz_iret hx hb hr hlocks hP hK hD hS dX10_orders_19 ⟨rfl, rfl⟩

set_option maxHeartbeats 4000000 in
set_option maxRecDepth 100000 in
theorem qX10_draws (l : Launch) (D : va_G) (ty : Nat → ClassId) (eo : Nat → Nat) (sz : Nat) (ad : Nat → Nat) (q : dS) (p1 : Int32) (o1 : Int32) (o2 : dS) (h : zX10_draws q p1 = some (o1, o2)) : Met l yX10_draws wsX10_draws ({ frames := 0, cells := 0, slots := 0, locals := 0 } : Room) (va_Pc [.ref (ad 0), .int p1] (kz_pre D ty eo (w10 ty ad q) sz)) (va_Qi (fun (r : Int32) (u : va_W) => o1 = r ∧ w10 ty ad o2 = u) (kz_B D ty (va_A (w10 ty ad q) sz)) (va_A (w10 ty ad q) sz)) 0 0 (va_A (w10 ty ad q) sz) := by
  refine Met.ofW (cc := cX10_draws) (maxL := 2) (ret := (some .int)) (by decide) rfl ?_
  intro p e s m args below meth c s₁ B hml hv
  obtain ⟨rfl, hsz, hP, hK, hD0, hN, hE⟩ := hv
  have hx := B.exec
  have hb := B.bytes
  have hr := B.returns
  have hts := atoms_spec (ws := wsX10_draws) B.pre
  have hown : s.vm.findClass RX10 = some m.cls := findClass_of_methodNamed B.named
  have hlocks := B.notSynchronized
  subst hsz
  have hD := hD0.self (sz := s.heap.size)
  generalize hAe : va_A (w10 ty ad q) s.heap.size = A at hD hE ⊢
  have hA : ∀ q : Nat, s.heap.size ≤ q → A q := fun q h => by rw [← hAe]; exact Or.inr h
  clear hAe
  have hS : va_S A s.heap s.heap [] := va_S.rf
  have hl := lv_entry ([.ref (ad 0), .int p1]) (n := 2) (Nat.le_of_ble_eq_true rfl)
  rw [lg_entry_eq]
  generalize (lg_sl ([.ref (ad 0), .int p1]) ++ List.replicate (2 - (lg_sl ([.ref (ad 0), .int p1])).length) Slot.unset).toArray = ls at hl ⊢
  have hl : lv_has ls 2 [(0, .ref (ad 0)), (1, .int p1)] := hl
  have C : dc_C p s m _ meth c cX10_draws (some .int) 2 RX10 wsX10_draws D ty eo A := ⟨hx, hb, hr, hts, hown, hlocks, hml, hK, hN, hE, hA⟩
  unfold zX10_draws at h
  refine lv_aload_n hx hb dX10_draws_0 rfl (lv_at hl 0 rfl) ?_
  refine lv_ldc2 (v := 1103) hx hb hown (hts (.constantLong RX10 513 1103) f9_wsX10_draws_301) dX10_draws_1 ?_
  refine lv_aload_n hx hb dX10_draws_4 rfl (lv_at hl 0 rfl) ?_
  refine va_get (D := D) (ci := 10) (v := .int (q.1 0 55)) (C := RX10) (T := TX10) (N := 56) hx hb hts u9_wsX10_draws_X10 hown hK hP 0 rfl rfl 55 (by decide) (hts (.fieldLink RX10 515 "TurnedFloorsModel" "latest" "I") f9_wsX10_draws_302) (fun _ h9 => h9) rfl dX10_draws_5 ?_
  refine lv_i2l (v := Int32.toInt64 (q.1 0 55)) hx hb dX10_draws_8 rfl ?_
  refine lv_lmul hx hb dX10_draws_9 ?_
  refine lv_ldc2 (v := 12345) hx hb hown (hts (.constantLong RX10 518 12345) f9_wsX10_draws_303) dX10_draws_10 ?_
  refine lv_ladd hx hb dX10_draws_13 ?_
  obtain ⟨v1, ev1, h⟩ := dL_some h
  refine kz_topl v1 ev1 ?_
  refine lv_ldc2 (v := 1000003) hx hb hown (hts (.constantLong RX10 520 1000003) f9_wsX10_draws_304) dX10_draws_14 ?_
  refine lv_lrem hx hb dX10_draws_17 (by decide) ?_
  refine lv_l2i (v := Int64.toInt32 (v1 - v1 / 1000003 * 1000003 : Int64)) hx hb dX10_draws_18 rfl ?_
  refine va_put (D := D) (ci := 10) (v := .int (Int64.toInt32 (v1 - v1 / 1000003 * 1000003 : Int64))) (ty := .int) (C := RX10) (T := TX10) (N := 56) hx hb hts u9_wsX10_draws_X10 tyX10 tyX10_ok nmX10 hown hK hP hD hS 0 rfl rfl 55 (by decide) (hts (.fieldLink RX10 515 "TurnedFloorsModel" "latest" "I") f9_wsX10_draws_302) (fun _ h9 => h9) rfl (by decide +kernel) rfl rfl (Nat.le_of_ble_eq_true rfl) dX10_draws_19 (fun H locs hp hd hs => ?_)
  obtain ⟨q2, eq2, h⟩ := dL_some h
  refine kz_re (w2 := w10 ty ad q2) hp hd hs (by rw [← eq2]; exact w10_f55 ty ad q (Int64.toInt32 (v1 - v1 / 1000003 * 1000003 : Int64))) ?_
  clear hp hd hs hP hD hS
  intro hP hD hS
  refine lv_aload_n hx hb dX10_draws_22 rfl (lv_at hl 0 rfl) ?_
  refine va_get (D := D) (ci := 10) (v := .int (q2.1 0 55)) (C := RX10) (T := TX10) (N := 56) hx hb hts u9_wsX10_draws_X10 hown hK hP 0 rfl rfl 55 (by decide) (hts (.fieldLink RX10 515 "TurnedFloorsModel" "latest" "I") f9_wsX10_draws_302) (fun _ h9 => h9) rfl dX10_draws_23 ?_
  refine lv_iload_n hx hb dX10_draws_26 rfl (lv_at hl 1 rfl) ?_
  obtain ⟨g3, h⟩ := dG_some h
  refine lv_irem hx hb dX10_draws_27 (dnz_ne g3) ?_
  cases h
  exact kz_iret hx hb hr hlocks hP hK hD hS dX10_draws_28 ⟨rfl, rfl⟩

set_option maxHeartbeats 4000000 in
set_option maxRecDepth 100000 in
theorem WX10_years_191b {p : Program} {l : Launch} {e : Env} {s : State} {m : MethodId} {args : Array Value} {below : List Frame} {meth : Method} {c : Code} {D : va_G} {ty : Nat → ClassId} {eo : Nat → Nat} {A : Nat → Prop} {ad : Nat → Nat} {o1 : Int32} {o2 : dS} (C : dc_C p s m args meth c cX10_years (some .int) 7 RX10 wsX10_years D ty eo A) {k191 : dS → Int32 → Int32 → Option (Int32 × dS)} (hk191 : ∀ (q : dS) (x4 : Int32) (x5 : Int32) (H : Heap) (locs : List Loc) (ls : Array Slot), k191 q x4 x5 = some (o1, o2) → va_P D vwCl (w10 ty ad q) H → va_D A (w10 ty ad q) → va_S A s.heap H locs → lv_has ls 7 [(0, .ref (ad 0)), (4, .int x4), (5, .int x5)] → W p l e ({ frames := 89, cells := 0, slots := 0, locals := 2266 } : Room) s m args below meth c H locs 0 0 (MQ below (va_Qi (fun (r : Int32) (u : va_W) => o1 = r ∧ w10 ty ad o2 = u) (kz_B D ty A) A) args s 0 0 A) (F0 m 191 ls [])) (q : dS) (x4 : Int32) (x5 : Int32) (H : Heap) (locs : List Loc) (ls : Array Slot) (h : zX10_years_191b k191 q x4 x5 = some (o1, o2)) (hP : va_P D vwCl (w10 ty ad q) H) (hD : va_D A (w10 ty ad q)) (hS : va_S A s.heap H locs) (hl : lv_has ls 7 [(0, .ref (ad 0)), (4, .int x4), (5, .int x5)]) : W p l e ({ frames := 89, cells := 0, slots := 0, locals := 2266 } : Room) s m args below meth c H locs 0 0 (MQ below (va_Qi (fun (r : Int32) (u : va_W) => o1 = r ∧ w10 ty ad o2 = u) (kz_B D ty A) A) args s 0 0 A) (F0 m 191 ls []) := by
  have C0 := C
  obtain ⟨hx, hb, hr, hts, hown, hlocks, hml, hK, hN, hE, hA⟩ := C
  unfold zX10_years_191b at h
  refine lv_iload hx hb dX10_years_191 (lv_at hl 2 rfl) ?_
  refine lv_bipush (v := 14) hx hb dX10_years_193 (by decide) ?_
  refine lv_icmp_ge (tgt := 218) hx hb dX10_years_195 (by decide) (fun c9 => ?_) (fun c9 => ?_)
  · rw [if_pos c9] at h
    refine lv_aload_n hx hb dX10_years_218 rfl (lv_at hl 0 rfl) ?_
    refine lv_iconst (v := 0) hx hb dX10_years_219 (by decide) ?_
    obtain ⟨q3, h2, h⟩ := dV_some h
    refine dw_kv (va_runV (As := [.int 0]) (rest := []) ⟨hx, hb, hml, hown, hts⟩ (qX10_takesBack l D ty eo _ ad q 0 q3 h2) (cwV 1 hts gX10_years_X10_takesBack rfl rfl rfl hd_X10_takesBack_v ⟨Nat.le_of_ble_eq_true rfl, Nat.le_of_ble_eq_true rfl⟩) (pv10_10_0 hK hN hE hP hD hS hA) rfl rfl hl.1 rfl (lv_room (Nat.le_of_ble_eq_true rfl)) dX10_years_220 ⟨Nat.le_of_ble_eq_true rfl, Nat.le_of_ble_eq_true rfl⟩) hD hS hA (fun u9 H locs hw hp hd hs => ?_)
    clear hP hD hS
    obtain rfl := hw
    have hP := hp; have hD := hd; have hS := hs; clear hp hd hs
    refine lv_aload_n hx hb dX10_years_223 rfl (lv_at hl 0 rfl) ?_
    refine lv_iload hx hb dX10_years_224 (lv_at hl 1 rfl) ?_
    obtain ⟨r4, q6, h5, h⟩ := dB_some h
    refine dw_ki (va_runV (As := [.int x4]) (rest := []) ⟨hx, hb, hml, hown, hts⟩ (qX10_good l D ty eo _ ad q3 x4 r4 q6 h5) (cwV 1 hts gX10_years_X10_good rfl rfl rfl hd_X10_good_v ⟨Nat.le_of_ble_eq_true rfl, Nat.le_of_ble_eq_true rfl⟩) (pv10_10_0 hK hN hE hP hD hS hA) rfl rfl hl.1 rfl (lv_room (Nat.le_of_ble_eq_true rfl)) dX10_years_226 ⟨Nat.le_of_ble_eq_true rfl, Nat.le_of_ble_eq_true rfl⟩) hD hS hA (fun r9 u9 H locs hw hp hd hs => ?_)
    clear hP hD hS
    obtain ⟨rfl, rfl⟩ := hw
    have hP := hp; have hD := hd; have hS := hs; clear hp hd hs
    cases h
    exact kz_iret hx hb hr hlocks hP hK hD hS dX10_years_229 ⟨rfl, rfl⟩
  · rw [if_neg c9] at h
    refine lv_aload_n hx hb dX10_years_198 rfl (lv_at hl 0 rfl) ?_
    refine va_get (D := D) (ci := 10) (v := .ref (ad 27)) (C := RX10) (T := TX10) (N := 56) hx hb hts u9_wsX10_years_X10 hown hK hP 0 rfl rfl 53 (by decide) (hts (.fieldLink RX10 113 "TurnedFloorsModel" "drawnMoved" "[I") f9_wsX10_years_306) (fun _ h9 => h9) rfl dX10_years_199 ?_
    refine lv_iload hx hb dX10_years_202 (lv_at hl 2 rfl) ?_
    refine lv_aload_n hx hb dX10_years_204 rfl (lv_at hl 0 rfl) ?_
    refine va_get (D := D) (ci := 10) (v := .ref (ad 2)) (C := RX10) (T := TX10) (N := 56) hx hb hts u9_wsX10_years_X10 hown hK hP 0 rfl rfl 2 (by decide) (hts (.fieldLink RX10 28 "TurnedFloorsModel" "kept" "[I") f9_wsX10_years_307) (fun _ h9 => h9) rfl dX10_years_205 ?_
    refine lv_iload hx hb dX10_years_208 (lv_at hl 2 rfl) ?_
    obtain ⟨g7, h⟩ := dG_some h
    refine va_iald hx hb hK hP 2 0 rfl rfl (dg_in g7) dX10_years_210 ?_
    obtain ⟨v8, ev8, h⟩ := dL_some h
    refine kz_topi v8 ev8 ?_
    obtain ⟨g9, h⟩ := dG_some h
    refine va_iast hx hb hK hP hD hS 27 0 rfl rfl (dg_in g9) dX10_years_211 (fun H locs hp hd hs => ?_)
    obtain ⟨q10, eq10, h⟩ := dL_some h
    refine kz_re (w2 := w10 ty ad q10) hp hd hs (by rw [← eq10]; exact w10_a27 ty ad q (Int32.toNatClampNeg x5) v8) ?_
    clear hp hd hs hP hD hS
    intro hP hD hS
    refine lv_iinc (v := x5 + 1) (lv' := [(5, .int (x5 + 1)), (0, .ref (ad 0)), (4, .int x4)]) hx hb dX10_years_212 hl (k := 2) rfl rfl (by decide) rfl (fun ls hl => ?_)
    refine lv_goto (tgt := 191) hx hb dX10_years_215 (by decide) ?_
    exact hk191 _ _ _ _ _ _ h hP hD hS (lv_sub hl [1, 2, 0] rfl)
set_option maxHeartbeats 4000000 in
set_option maxRecDepth 100000 in
theorem WX10_years_191 {p : Program} {l : Launch} {e : Env} {s : State} {m : MethodId} {args : Array Value} {below : List Frame} {meth : Method} {c : Code} {D : va_G} {ty : Nat → ClassId} {eo : Nat → Nat} {A : Nat → Prop} {ad : Nat → Nat} {o1 : Int32} {o2 : dS} (C : dc_C p s m args meth c cX10_years (some .int) 7 RX10 wsX10_years D ty eo A)   (n : Nat) (q : dS) (x4 : Int32) (x5 : Int32) (H : Heap) (locs : List Loc) (ls : Array Slot) (h : zX10_years_191  n q x4 x5 = some (o1, o2)) (hP : va_P D vwCl (w10 ty ad q) H) (hD : va_D A (w10 ty ad q)) (hS : va_S A s.heap H locs) (hl : lv_has ls 7 [(0, .ref (ad 0)), (4, .int x4), (5, .int x5)]) : W p l e ({ frames := 89, cells := 0, slots := 0, locals := 2266 } : Room) s m args below meth c H locs 0 0 (MQ below (va_Qi (fun (r : Int32) (u : va_W) => o1 = r ∧ w10 ty ad o2 = u) (kz_B D ty A) A) args s 0 0 A) (F0 m 191 ls []) := by
  exact dFix_W (F := fun k (a : dS × Int32 × Int32) => zX10_years_191b  (fun q x4 x5 => k (q, x4, x5)) a.1 a.2.1 a.2.2) (o := (o1, o2)) (P := fun (a : dS × Int32 × Int32) H locs ls => va_P D vwCl (w10 ty ad a.1) H ∧ va_D A (w10 ty ad a.1) ∧ va_S A s.heap H locs ∧ lv_has ls 7 [(0, .ref (ad 0)), (4, .int a.2.1), (5, .int a.2.2)]) (G := fun H locs ls => W p l e ({ frames := 89, cells := 0, slots := 0, locals := 2266 } : Room) s m args below meth c H locs 0 0 (MQ below (va_Qi (fun (r : Int32) (u : va_W) => o1 = r ∧ w10 ty ad o2 = u) (kz_B D ty A) A) args s 0 0 A) (F0 m 191 ls []))
    (fun k hk a H locs ls h hp => WX10_years_191b C  (fun q x4 x5 H locs ls h h1 h2 h3 h4 => hk (q, x4, x5) H locs ls h ⟨h1, h2, h3, h4⟩) a.1 a.2.1 a.2.2 H locs ls h hp.1 hp.2.1 hp.2.2.1 hp.2.2.2) n (q, x4, x5) H locs ls h ⟨hP, hD, hS, hl⟩
set_option maxHeartbeats 4000000 in
set_option maxRecDepth 100000 in
theorem WX10_years_177 {p : Program} {l : Launch} {e : Env} {s : State} {m : MethodId} {args : Array Value} {below : List Frame} {meth : Method} {c : Code} {D : va_G} {ty : Nat → ClassId} {eo : Nat → Nat} {A : Nat → Prop} {ad : Nat → Nat} {o1 : Int32} {o2 : dS} (C : dc_C p s m args meth c cX10_years (some .int) 7 RX10 wsX10_years D ty eo A)   (q : dS) (x3 : Int32) (H : Heap) (locs : List Loc) (ls : Array Slot) (h : zX10_years_177  q x3 = some (o1, o2)) (hP : va_P D vwCl (w10 ty ad q) H) (hD : va_D A (w10 ty ad q)) (hS : va_S A s.heap H locs) (hl : lv_has ls 7 [(0, .ref (ad 0)), (3, .int x3)]) : W p l e ({ frames := 89, cells := 0, slots := 0, locals := 2266 } : Room) s m args below meth c H locs 0 0 (MQ below (va_Qi (fun (r : Int32) (u : va_W) => o1 = r ∧ w10 ty ad o2 = u) (kz_B D ty A) A) args s 0 0 A) (F0 m 177 ls []) := by
  have C0 := C
  obtain ⟨hx, hb, hr, hts, hown, hlocks, hml, hK, hN, hE, hA⟩ := C
  unfold zX10_years_177 at h
  refine lv_aload_n hx hb dX10_years_177 rfl (lv_at hl 0 rfl) ?_
  refine va_get (D := D) (ci := 10) (v := .ref (ad 2)) (C := RX10) (T := TX10) (N := 56) hx hb hts u9_wsX10_years_X10 hown hK hP 0 rfl rfl 2 (by decide) (hts (.fieldLink RX10 28 "TurnedFloorsModel" "kept" "[I") f9_wsX10_years_307) (fun _ h9 => h9) rfl dX10_years_178 ?_
  refine lv_bipush (v := 12) hx hb dX10_years_181 (by decide) ?_
  refine va_iald hx hb hK hP 2 0 rfl rfl (by simp only [vp_in]; decide) dX10_years_183 ?_
  refine kz_topi (q.1 2 12) (congrArg (q.1 2) (by decide +kernel : Int32.toNatClampNeg 12 = 12)) ?_
  refine lv_iload_n hx hb dX10_years_184 rfl (lv_at hl 1 rfl) ?_
  refine lv_isub hx hb dX10_years_185 ?_
  refine lv_istore (lv' := [(4, .int ((q.1 2 12) - x3)), (0, .ref (ad 0)), (3, .int x3)]) hx hb dX10_years_186 hl (by decide) rfl (fun ls hl => ?_)
  refine lv_iconst (v := 0) hx hb dX10_years_188 (by decide) ?_
  refine lv_istore (lv' := [(5, .int 0), (4, .int ((q.1 2 12) - x3)), (0, .ref (ad 0)), (3, .int x3)]) hx hb dX10_years_189 hl (by decide) rfl (fun ls hl => ?_)
  exact WX10_years_191 C0  _ _ _ _ _ _ _ h hP hD hS (lv_sub hl [2, 1, 0] rfl)
set_option maxHeartbeats 4000000 in
set_option maxRecDepth 100000 in
theorem WX10_years_166 {p : Program} {l : Launch} {e : Env} {s : State} {m : MethodId} {args : Array Value} {below : List Frame} {meth : Method} {c : Code} {D : va_G} {ty : Nat → ClassId} {eo : Nat → Nat} {A : Nat → Prop} {ad : Nat → Nat} {o1 : Int32} {o2 : dS} (C : dc_C p s m args meth c cX10_years (some .int) 7 RX10 wsX10_years D ty eo A) {k69 : dS → Int32 → Int32 → Int32 → Option (Int32 × dS)} (hk69 : ∀ (q : dS) (x2 : Int32) (x3 : Int32) (x4 : Int32) (H : Heap) (locs : List Loc) (ls : Array Slot), k69 q x2 x3 x4 = some (o1, o2) → va_P D vwCl (w10 ty ad q) H → va_D A (w10 ty ad q) → va_S A s.heap H locs → lv_has ls 7 [(0, .ref (ad 0)), (2, .int x2), (3, .int x3), (4, .int x4)] → W p l e ({ frames := 89, cells := 0, slots := 0, locals := 2266 } : Room) s m args below meth c H locs 0 0 (MQ below (va_Qi (fun (r : Int32) (u : va_W) => o1 = r ∧ w10 ty ad o2 = u) (kz_B D ty A) A) args s 0 0 A) (F0 m 69 ls [])) (q : dS) (x2 : Int32) (x3 : Int32) (x4 : Int32) (H : Heap) (locs : List Loc) (ls : Array Slot) (h : zX10_years_166 k69 q x2 x3 x4 = some (o1, o2)) (hP : va_P D vwCl (w10 ty ad q) H) (hD : va_D A (w10 ty ad q)) (hS : va_S A s.heap H locs) (hl : lv_has ls 7 [(0, .ref (ad 0)), (2, .int x2), (3, .int x3), (4, .int x4)]) : W p l e ({ frames := 89, cells := 0, slots := 0, locals := 2266 } : Room) s m args below meth c H locs 0 0 (MQ below (va_Qi (fun (r : Int32) (u : va_W) => o1 = r ∧ w10 ty ad o2 = u) (kz_B D ty A) A) args s 0 0 A) (F0 m 166 ls []) := by
  have C0 := C
  obtain ⟨hx, hb, hr, hts, hown, hlocks, hml, hK, hN, hE, hA⟩ := C
  unfold zX10_years_166 at h
  refine lv_aload_n hx hb dX10_years_166 rfl (lv_at hl 0 rfl) ?_
  obtain ⟨r1, q3, h2, h⟩ := dB_some h
  refine dw_ki (va_runV (As := []) (rest := []) ⟨hx, hb, hml, hown, hts⟩ (qX10_yearPasses l D ty eo _ ad q  r1 q3 h2) (cwV 0 hts gX10_years_X10_yearPasses rfl rfl rfl hd_X10_yearPasses_v ⟨Nat.le_of_ble_eq_true rfl, Nat.le_of_ble_eq_true rfl⟩) (pv10_10_0 hK hN hE hP hD hS hA) rfl rfl hl.1 rfl (lv_room (Nat.le_of_ble_eq_true rfl)) dX10_years_167 ⟨Nat.le_of_ble_eq_true rfl, Nat.le_of_ble_eq_true rfl⟩) hD hS hA (fun r9 u9 H locs hw hp hd hs => ?_)
  clear hP hD hS
  obtain ⟨rfl, rfl⟩ := hw
  have hP := hp; have hD := hd; have hS := hs; clear hp hd hs
  refine lv_pop hx hb dX10_years_170 rfl ?_
  refine lv_iinc (v := x4 + 1) (lv' := [(4, .int (x4 + 1)), (0, .ref (ad 0)), (2, .int x2), (3, .int x3)]) hx hb dX10_years_171 hl (k := 3) rfl rfl (by decide) rfl (fun ls hl => ?_)
  refine lv_goto (tgt := 69) hx hb dX10_years_174 (by decide) ?_
  exact hk69 _ _ _ _ _ _ _ h hP hD hS (lv_sub hl [1, 2, 3, 0] rfl)
set_option maxHeartbeats 4000000 in
set_option maxRecDepth 100000 in
theorem WX10_years_129 {p : Program} {l : Launch} {e : Env} {s : State} {m : MethodId} {args : Array Value} {below : List Frame} {meth : Method} {c : Code} {D : va_G} {ty : Nat → ClassId} {eo : Nat → Nat} {A : Nat → Prop} {ad : Nat → Nat} {o1 : Int32} {o2 : dS} (C : dc_C p s m args meth c cX10_years (some .int) 7 RX10 wsX10_years D ty eo A) {k69 : dS → Int32 → Int32 → Int32 → Option (Int32 × dS)} (hk69 : ∀ (q : dS) (x2 : Int32) (x3 : Int32) (x4 : Int32) (H : Heap) (locs : List Loc) (ls : Array Slot), k69 q x2 x3 x4 = some (o1, o2) → va_P D vwCl (w10 ty ad q) H → va_D A (w10 ty ad q) → va_S A s.heap H locs → lv_has ls 7 [(0, .ref (ad 0)), (2, .int x2), (3, .int x3), (4, .int x4)] → W p l e ({ frames := 89, cells := 0, slots := 0, locals := 2266 } : Room) s m args below meth c H locs 0 0 (MQ below (va_Qi (fun (r : Int32) (u : va_W) => o1 = r ∧ w10 ty ad o2 = u) (kz_B D ty A) A) args s 0 0 A) (F0 m 69 ls [])) (q : dS) (x2 : Int32) (x3 : Int32) (x4 : Int32) (x5 : Int32) (x6 : Int32) (H : Heap) (locs : List Loc) (ls : Array Slot) (h : zX10_years_129 k69 q x2 x3 x4 x5 x6 = some (o1, o2)) (hP : va_P D vwCl (w10 ty ad q) H) (hD : va_D A (w10 ty ad q)) (hS : va_S A s.heap H locs) (hl : lv_has ls 7 [(0, .ref (ad 0)), (2, .int x2), (3, .int x3), (4, .int x4), (5, .int x5), (6, .int x6)]) : W p l e ({ frames := 89, cells := 0, slots := 0, locals := 2266 } : Room) s m args below meth c H locs 0 0 (MQ below (va_Qi (fun (r : Int32) (u : va_W) => o1 = r ∧ w10 ty ad o2 = u) (kz_B D ty A) A) args s 0 0 A) (F0 m 129 ls []) := by
  have C0 := C
  obtain ⟨hx, hb, hr, hts, hown, hlocks, hml, hK, hN, hE, hA⟩ := C
  unfold zX10_years_129 at h
  refine lv_iload hx hb dX10_years_129 (lv_at hl 5 rfl) ?_
  refine lv_iconst (v := 2) hx hb dX10_years_131 (by decide) ?_
  refine lv_icmp_ne (tgt := 166) hx hb dX10_years_132 (by decide) (fun c9 => ?_) (fun c9 => ?_)
  · rw [if_neg c9] at h
    exact WX10_years_166 C0 hk69 _ _ _ _ _ _ _ h hP hD hS (lv_sub hl [0, 1, 2, 3] rfl)
  · rw [if_pos c9] at h
    refine lv_aload_n hx hb dX10_years_135 rfl (lv_at hl 0 rfl) ?_
    refine lv_iload hx hb dX10_years_136 (lv_at hl 4 rfl) ?_
    obtain ⟨r1, q3, h2, h⟩ := dB_some h
    refine dw_ki (va_runV (As := [.int x5]) (rest := []) ⟨hx, hb, hml, hown, hts⟩ (qX10_isPlace l D ty eo _ ad q x5 r1 q3 h2) (cwV 1 hts gX10_years_X10_isPlace rfl rfl rfl hd_X10_isPlace_v ⟨Nat.le_of_ble_eq_true rfl, Nat.le_of_ble_eq_true rfl⟩) (pv10_10_0 hK hN hE hP hD hS hA) rfl rfl hl.1 rfl (lv_room (Nat.le_of_ble_eq_true rfl)) dX10_years_138 ⟨Nat.le_of_ble_eq_true rfl, Nat.le_of_ble_eq_true rfl⟩) hD hS hA (fun r9 u9 H locs hw hp hd hs => ?_)
    clear hP hD hS
    obtain ⟨rfl, rfl⟩ := hw
    have hP := hp; have hD := hd; have hS := hs; clear hp hd hs
    refine lv_if_eq (tgt := 166) hx hb dX10_years_141 (by decide) (fun c9 => ?_) (fun c9 => ?_)
    · rw [if_pos c9] at h
      exact WX10_years_166 C0 hk69 _ _ _ _ _ _ _ h hP hD hS (lv_sub hl [0, 1, 2, 3] rfl)
    · rw [if_neg c9] at h
      refine lv_aload_n hx hb dX10_years_144 rfl (lv_at hl 0 rfl) ?_
      refine va_get (D := D) (ci := 10) (v := .ref (ad 2)) (C := RX10) (T := TX10) (N := 56) hx hb hts u9_wsX10_years_X10 hown hK hP 0 rfl rfl 2 (by decide) (hts (.fieldLink RX10 28 "TurnedFloorsModel" "kept" "[I") f9_wsX10_years_307) (fun _ h9 => h9) rfl dX10_years_145 ?_
      refine lv_bipush (v := 6) hx hb dX10_years_148 (by decide) ?_
      refine lv_iload hx hb dX10_years_150 (lv_at hl 4 rfl) ?_
      refine lv_iadd hx hb dX10_years_152 ?_
      refine lv_iconst (v := 1) hx hb dX10_years_153 (by decide) ?_
      refine lv_aload_n hx hb dX10_years_154 rfl (lv_at hl 0 rfl) ?_
      refine va_get (D := D) (ci := 10) (v := .ref (ad 2)) (C := RX10) (T := TX10) (N := 56) hx hb hts u9_wsX10_years_X10 hown hK hP 0 rfl rfl 2 (by decide) (hts (.fieldLink RX10 28 "TurnedFloorsModel" "kept" "[I") f9_wsX10_years_307) (fun _ h9 => h9) rfl dX10_years_155 ?_
      refine lv_bipush (v := 6) hx hb dX10_years_158 (by decide) ?_
      refine lv_iload hx hb dX10_years_160 (lv_at hl 4 rfl) ?_
      refine lv_iadd hx hb dX10_years_162 ?_
      obtain ⟨g4, h⟩ := dG_some h
      refine va_iald hx hb hK hP 2 0 rfl rfl (dg_in g4) dX10_years_163 ?_
      obtain ⟨v5, ev5, h⟩ := dL_some h
      refine kz_topi v5 ev5 ?_
      refine lv_isub hx hb dX10_years_164 ?_
      obtain ⟨g6, h⟩ := dG_some h
      refine va_iast hx hb hK hP hD hS 2 0 rfl rfl (dg_in g6) dX10_years_165 (fun H locs hp hd hs => ?_)
      obtain ⟨q7, eq7, h⟩ := dL_some h
      refine kz_re (w2 := w10 ty ad q7) hp hd hs (by rw [← eq7]; exact w10_a2 ty ad q3 (Int32.toNatClampNeg (6 + x5 : Int32)) (1 - v5 : Int32)) ?_
      clear hp hd hs hP hD hS
      intro hP hD hS
      exact WX10_years_166 C0 hk69 _ _ _ _ _ _ _ h hP hD hS (lv_sub hl [0, 1, 2, 3] rfl)
set_option maxHeartbeats 4000000 in
set_option maxRecDepth 100000 in
theorem WX10_years_69b {p : Program} {l : Launch} {e : Env} {s : State} {m : MethodId} {args : Array Value} {below : List Frame} {meth : Method} {c : Code} {D : va_G} {ty : Nat → ClassId} {eo : Nat → Nat} {A : Nat → Prop} {ad : Nat → Nat} {o1 : Int32} {o2 : dS} (C : dc_C p s m args meth c cX10_years (some .int) 7 RX10 wsX10_years D ty eo A) {k69 : dS → Int32 → Int32 → Int32 → Option (Int32 × dS)} (hk69 : ∀ (q : dS) (x2 : Int32) (x3 : Int32) (x4 : Int32) (H : Heap) (locs : List Loc) (ls : Array Slot), k69 q x2 x3 x4 = some (o1, o2) → va_P D vwCl (w10 ty ad q) H → va_D A (w10 ty ad q) → va_S A s.heap H locs → lv_has ls 7 [(0, .ref (ad 0)), (2, .int x2), (3, .int x3), (4, .int x4)] → W p l e ({ frames := 89, cells := 0, slots := 0, locals := 2266 } : Room) s m args below meth c H locs 0 0 (MQ below (va_Qi (fun (r : Int32) (u : va_W) => o1 = r ∧ w10 ty ad o2 = u) (kz_B D ty A) A) args s 0 0 A) (F0 m 69 ls [])) (q : dS) (x2 : Int32) (x3 : Int32) (x4 : Int32) (H : Heap) (locs : List Loc) (ls : Array Slot) (h : zX10_years_69b k69 q x2 x3 x4 = some (o1, o2)) (hP : va_P D vwCl (w10 ty ad q) H) (hD : va_D A (w10 ty ad q)) (hS : va_S A s.heap H locs) (hl : lv_has ls 7 [(0, .ref (ad 0)), (2, .int x2), (3, .int x3), (4, .int x4)]) : W p l e ({ frames := 89, cells := 0, slots := 0, locals := 2266 } : Room) s m args below meth c H locs 0 0 (MQ below (va_Qi (fun (r : Int32) (u : va_W) => o1 = r ∧ w10 ty ad o2 = u) (kz_B D ty A) A) args s 0 0 A) (F0 m 69 ls []) := by
  have C0 := C
  obtain ⟨hx, hb, hr, hts, hown, hlocks, hml, hK, hN, hE, hA⟩ := C
  unfold zX10_years_69b at h
  refine lv_iload hx hb dX10_years_69 (lv_at hl 3 rfl) ?_
  refine lv_iload_n hx hb dX10_years_71 rfl (lv_at hl 1 rfl) ?_
  refine lv_icmp_ge (tgt := 177) hx hb dX10_years_72 (by decide) (fun c9 => ?_) (fun c9 => ?_)
  · rw [if_pos c9] at h
    exact WX10_years_177 C0  _ _ _ _ _ h hP hD hS (lv_sub hl [0, 2] rfl)
  · rw [if_neg c9] at h
    refine lv_aload_n hx hb dX10_years_75 rfl (lv_at hl 0 rfl) ?_
    refine va_get (D := D) (ci := 10) (v := .ref (ad 2)) (C := RX10) (T := TX10) (N := 56) hx hb hts u9_wsX10_years_X10 hown hK hP 0 rfl rfl 2 (by decide) (hts (.fieldLink RX10 28 "TurnedFloorsModel" "kept" "[I") f9_wsX10_years_307) (fun _ h9 => h9) rfl dX10_years_76 ?_
    refine lv_bipush (v := 13) hx hb dX10_years_79 (by decide) ?_
    refine va_iald hx hb hK hP 2 0 rfl rfl (by simp only [vp_in]; decide) dX10_years_81 ?_
    refine kz_topi (q.1 2 13) (congrArg (q.1 2) (by decide +kernel : Int32.toNatClampNeg 13 = 13)) ?_
    refine lv_sipush (v := 999) hx hb dX10_years_82 (by decide) ?_
    refine lv_icmp_ge (tgt := 177) hx hb dX10_years_85 (by decide) (fun c9 => ?_) (fun c9 => ?_)
    · rw [if_pos c9] at h
      exact WX10_years_177 C0  _ _ _ _ _ h hP hD hS (lv_sub hl [0, 2] rfl)
    · rw [if_neg c9] at h
      refine lv_aload_n hx hb dX10_years_88 rfl (lv_at hl 0 rfl) ?_
      refine lv_bipush (v := 6) hx hb dX10_years_89 (by decide) ?_
      obtain ⟨r1, q3, h2, h⟩ := dB_some h
      refine dw_ki (va_runV (As := [.int 6]) (rest := []) ⟨hx, hb, hml, hown, hts⟩ (qX10_draws l D ty eo _ ad q 6 r1 q3 h2) (cwV 1 hts gX10_years_X10_draws rfl rfl rfl hd_X10_draws_v ⟨Nat.le_of_ble_eq_true rfl, Nat.le_of_ble_eq_true rfl⟩) (pv10_10_0 hK hN hE hP hD hS hA) rfl rfl hl.1 rfl (lv_room (Nat.le_of_ble_eq_true rfl)) dX10_years_91 ⟨Nat.le_of_ble_eq_true rfl, Nat.le_of_ble_eq_true rfl⟩) hD hS hA (fun r9 u9 H locs hw hp hd hs => ?_)
      clear hP hD hS
      obtain ⟨rfl, rfl⟩ := hw
      have hP := hp; have hD := hd; have hS := hs; clear hp hd hs
      refine lv_istore (lv' := [(5, .int r1), (0, .ref (ad 0)), (2, .int x2), (3, .int x3), (4, .int x4)]) hx hb dX10_years_94 hl (by decide) rfl (fun ls hl => ?_)
      refine lv_aload_n hx hb dX10_years_96 rfl (lv_at hl 1 rfl) ?_
      refine lv_iconst (v := 3) hx hb dX10_years_97 (by decide) ?_
      obtain ⟨r4, q6, h5, h⟩ := dB_some h
      refine dw_ki (va_runV (As := [.int 3]) (rest := []) ⟨hx, hb, hml, hown, hts⟩ (qX10_draws l D ty eo _ ad q3 3 r4 q6 h5) (cwV 1 hts gX10_years_X10_draws rfl rfl rfl hd_X10_draws_v ⟨Nat.le_of_ble_eq_true rfl, Nat.le_of_ble_eq_true rfl⟩) (pv10_10_0 hK hN hE hP hD hS hA) rfl rfl hl.1 rfl (lv_room (Nat.le_of_ble_eq_true rfl)) dX10_years_98 ⟨Nat.le_of_ble_eq_true rfl, Nat.le_of_ble_eq_true rfl⟩) hD hS hA (fun r9 u9 H locs hw hp hd hs => ?_)
      clear hP hD hS
      obtain ⟨rfl, rfl⟩ := hw
      have hP := hp; have hD := hd; have hS := hs; clear hp hd hs
      refine lv_istore (lv' := [(6, .int r4), (5, .int r1), (0, .ref (ad 0)), (2, .int x2), (3, .int x3), (4, .int x4)]) hx hb dX10_years_101 hl (by decide) rfl (fun ls hl => ?_)
      refine lv_iload hx hb dX10_years_103 (lv_at hl 0 rfl) ?_
      refine lv_iconst (v := 2) hx hb dX10_years_105 (by decide) ?_
      refine lv_icmp_ge (tgt := 129) hx hb dX10_years_106 (by decide) (fun c9 => ?_) (fun c9 => ?_)
      · rw [if_pos c9] at h
        exact WX10_years_129 C0 hk69 _ _ _ _ _ _ _ _ _ h hP hD hS (lv_sub hl [2, 3, 4, 5, 1, 0] rfl)
      · rw [if_neg c9] at h
        refine lv_aload_n hx hb dX10_years_109 rfl (lv_at hl 2 rfl) ?_
        refine lv_iload hx hb dX10_years_110 (lv_at hl 1 rfl) ?_
        refine lv_iconst (v := 1) hx hb dX10_years_112 (by decide) ?_
        refine lv_iadd hx hb dX10_years_113 ?_
        obtain ⟨r7, q9, h8, h⟩ := dB_some h
        refine dw_ki (va_runV (As := [.int (r1 + 1 : Int32)]) (rest := []) ⟨hx, hb, hml, hown, hts⟩ (qX10_canTurn l D ty eo _ ad q6 (r1 + 1 : Int32) r7 q9 h8) (cwV 1 hts gX10_years_X10_canTurn rfl rfl rfl hd_X10_canTurn_v ⟨Nat.le_of_ble_eq_true rfl, Nat.le_of_ble_eq_true rfl⟩) (pv10_10_0 hK hN hE hP hD hS hA) rfl rfl hl.1 rfl (lv_room (Nat.le_of_ble_eq_true rfl)) dX10_years_114 ⟨Nat.le_of_ble_eq_true rfl, Nat.le_of_ble_eq_true rfl⟩) hD hS hA (fun r9 u9 H locs hw hp hd hs => ?_)
        clear hP hD hS
        obtain ⟨rfl, rfl⟩ := hw
        have hP := hp; have hD := hd; have hS := hs; clear hp hd hs
        refine lv_if_eq (tgt := 129) hx hb dX10_years_117 (by decide) (fun c9 => ?_) (fun c9 => ?_)
        · rw [if_pos c9] at h
          exact WX10_years_129 C0 hk69 _ _ _ _ _ _ _ _ _ h hP hD hS (lv_sub hl [2, 3, 4, 5, 1, 0] rfl)
        · rw [if_neg c9] at h
          refine lv_aload_n hx hb dX10_years_120 rfl (lv_at hl 2 rfl) ?_
          refine lv_iload hx hb dX10_years_121 (lv_at hl 1 rfl) ?_
          refine lv_iconst (v := 1) hx hb dX10_years_123 (by decide) ?_
          refine lv_iadd hx hb dX10_years_124 ?_
          obtain ⟨r10, q12, h11, h⟩ := dB_some h
          refine dw_ki (va_runV (As := [.int (r1 + 1 : Int32)]) (rest := []) ⟨hx, hb, hml, hown, hts⟩ (qX10_turns l D ty eo _ ad q9 (r1 + 1 : Int32) r10 q12 h11) (cwV 1 hts gX10_years_X10_turns rfl rfl rfl hd_X10_turns_v ⟨Nat.le_of_ble_eq_true rfl, Nat.le_of_ble_eq_true rfl⟩) (pv10_10_0 hK hN hE hP hD hS hA) rfl rfl hl.1 rfl (lv_room (Nat.le_of_ble_eq_true rfl)) dX10_years_125 ⟨Nat.le_of_ble_eq_true rfl, Nat.le_of_ble_eq_true rfl⟩) hD hS hA (fun r9 u9 H locs hw hp hd hs => ?_)
          clear hP hD hS
          obtain ⟨rfl, rfl⟩ := hw
          have hP := hp; have hD := hd; have hS := hs; clear hp hd hs
          refine lv_pop hx hb dX10_years_128 rfl ?_
          exact WX10_years_129 C0 hk69 _ _ _ _ _ _ _ _ _ h hP hD hS (lv_sub hl [2, 3, 4, 5, 1, 0] rfl)
set_option maxHeartbeats 4000000 in
set_option maxRecDepth 100000 in
theorem WX10_years_69 {p : Program} {l : Launch} {e : Env} {s : State} {m : MethodId} {args : Array Value} {below : List Frame} {meth : Method} {c : Code} {D : va_G} {ty : Nat → ClassId} {eo : Nat → Nat} {A : Nat → Prop} {ad : Nat → Nat} {o1 : Int32} {o2 : dS} (C : dc_C p s m args meth c cX10_years (some .int) 7 RX10 wsX10_years D ty eo A)   (n : Nat) (q : dS) (x2 : Int32) (x3 : Int32) (x4 : Int32) (H : Heap) (locs : List Loc) (ls : Array Slot) (h : zX10_years_69  n q x2 x3 x4 = some (o1, o2)) (hP : va_P D vwCl (w10 ty ad q) H) (hD : va_D A (w10 ty ad q)) (hS : va_S A s.heap H locs) (hl : lv_has ls 7 [(0, .ref (ad 0)), (2, .int x2), (3, .int x3), (4, .int x4)]) : W p l e ({ frames := 89, cells := 0, slots := 0, locals := 2266 } : Room) s m args below meth c H locs 0 0 (MQ below (va_Qi (fun (r : Int32) (u : va_W) => o1 = r ∧ w10 ty ad o2 = u) (kz_B D ty A) A) args s 0 0 A) (F0 m 69 ls []) := by
  exact dFix_W (F := fun k (a : dS × Int32 × Int32 × Int32) => zX10_years_69b  (fun q x2 x3 x4 => k (q, x2, x3, x4)) a.1 a.2.1 a.2.2.1 a.2.2.2) (o := (o1, o2)) (P := fun (a : dS × Int32 × Int32 × Int32) H locs ls => va_P D vwCl (w10 ty ad a.1) H ∧ va_D A (w10 ty ad a.1) ∧ va_S A s.heap H locs ∧ lv_has ls 7 [(0, .ref (ad 0)), (2, .int a.2.1), (3, .int a.2.2.1), (4, .int a.2.2.2)]) (G := fun H locs ls => W p l e ({ frames := 89, cells := 0, slots := 0, locals := 2266 } : Room) s m args below meth c H locs 0 0 (MQ below (va_Qi (fun (r : Int32) (u : va_W) => o1 = r ∧ w10 ty ad o2 = u) (kz_B D ty A) A) args s 0 0 A) (F0 m 69 ls []))
    (fun k hk a H locs ls h hp => WX10_years_69b C  (fun q x2 x3 x4 H locs ls h h1 h2 h3 h4 => hk (q, x2, x3, x4) H locs ls h ⟨h1, h2, h3, h4⟩) a.1 a.2.1 a.2.2.1 a.2.2.2 H locs ls h hp.1 hp.2.1 hp.2.2.1 hp.2.2.2) n (q, x2, x3, x4) H locs ls h ⟨hP, hD, hS, hl⟩
set_option maxHeartbeats 4000000 in
set_option maxRecDepth 100000 in
theorem WX10_years_20 {p : Program} {l : Launch} {e : Env} {s : State} {m : MethodId} {args : Array Value} {below : List Frame} {meth : Method} {c : Code} {D : va_G} {ty : Nat → ClassId} {eo : Nat → Nat} {A : Nat → Prop} {ad : Nat → Nat} {o1 : Int32} {o2 : dS} (C : dc_C p s m args meth c cX10_years (some .int) 7 RX10 wsX10_years D ty eo A)   (q : dS)  (H : Heap) (locs : List Loc) (ls : Array Slot) (h : zX10_years_20  q = some (o1, o2)) (hP : va_P D vwCl (w10 ty ad q) H) (hD : va_D A (w10 ty ad q)) (hS : va_S A s.heap H locs) (hl : lv_has ls 7 [(0, .ref (ad 0))]) : W p l e ({ frames := 89, cells := 0, slots := 0, locals := 2266 } : Room) s m args below meth c H locs 0 0 (MQ below (va_Qi (fun (r : Int32) (u : va_W) => o1 = r ∧ w10 ty ad o2 = u) (kz_B D ty A) A) args s 0 0 A) (F0 m 20 ls []) := by
  have C0 := C
  obtain ⟨hx, hb, hr, hts, hown, hlocks, hml, hK, hN, hE, hA⟩ := C
  unfold zX10_years_20 at h
  refine lv_aload_n hx hb dX10_years_20 rfl (lv_at hl 0 rfl) ?_
  refine lv_iconst (v := (-1)) hx hb dX10_years_21 (by decide) ?_
  obtain ⟨r1, q3, h2, h⟩ := dB_some h
  refine dw_ki (va_runV (As := [.int (-1)]) (rest := []) ⟨hx, hb, hml, hown, hts⟩ (qX10_refuses l D ty eo _ ad q (-1) r1 q3 h2) (cwV 1 hts gX10_years_X10_refuses rfl rfl rfl hd_X10_refuses_v ⟨Nat.le_of_ble_eq_true rfl, Nat.le_of_ble_eq_true rfl⟩) (pv10_10_0 hK hN hE hP hD hS hA) rfl rfl hl.1 rfl (lv_room (Nat.le_of_ble_eq_true rfl)) dX10_years_22 ⟨Nat.le_of_ble_eq_true rfl, Nat.le_of_ble_eq_true rfl⟩) hD hS hA (fun r9 u9 H locs hw hp hd hs => ?_)
  clear hP hD hS
  obtain ⟨rfl, rfl⟩ := hw
  have hP := hp; have hD := hd; have hS := hs; clear hp hd hs
  cases h
  exact kz_iret hx hb hr hlocks hP hK hD hS dX10_years_25 ⟨rfl, rfl⟩
set_option maxHeartbeats 4000000 in
set_option maxRecDepth 100000 in
theorem qX10_years (l : Launch) (D : va_G) (ty : Nat → ClassId) (eo : Nat → Nat) (sz : Nat) (ad : Nat → Nat) (q : dS) (p1 : Int32) (p2 : Int32) (o1 : Int32) (o2 : dS) (h : zX10_years q p1 p2 = some (o1, o2)) : Met l yX10_years wsX10_years ({ frames := 89, cells := 0, slots := 0, locals := 2266 } : Room) (va_Pc [.ref (ad 0), .int p1, .int p2] (kz_pre D ty eo (w10 ty ad q) sz)) (va_Qi (fun (r : Int32) (u : va_W) => o1 = r ∧ w10 ty ad o2 = u) (kz_B D ty (va_A (w10 ty ad q) sz)) (va_A (w10 ty ad q) sz)) 0 0 (va_A (w10 ty ad q) sz) := by
  refine Met.ofW (cc := cX10_years) (maxL := 7) (ret := (some .int)) (by decide) rfl ?_
  intro p e s m args below meth c s₁ B hml hv
  obtain ⟨rfl, hsz, hP, hK, hD0, hN, hE⟩ := hv
  have hx := B.exec
  have hb := B.bytes
  have hr := B.returns
  have hts := atoms_spec (ws := wsX10_years) B.pre
  have hown : s.vm.findClass RX10 = some m.cls := findClass_of_methodNamed B.named
  have hlocks := B.notSynchronized
  subst hsz
  have hD := hD0.self (sz := s.heap.size)
  generalize hAe : va_A (w10 ty ad q) s.heap.size = A at hD hE ⊢
  have hA : ∀ q : Nat, s.heap.size ≤ q → A q := fun q h => by rw [← hAe]; exact Or.inr h
  clear hAe
  have hS : va_S A s.heap s.heap [] := va_S.rf
  have hl := lv_entry ([.ref (ad 0), .int p1, .int p2]) (n := 7) (Nat.le_of_ble_eq_true rfl)
  rw [lg_entry_eq]
  generalize (lg_sl ([.ref (ad 0), .int p1, .int p2]) ++ List.replicate (7 - (lg_sl ([.ref (ad 0), .int p1, .int p2])).length) Slot.unset).toArray = ls at hl ⊢
  have hl : lv_has ls 7 [(0, .ref (ad 0)), (1, .int p1), (2, .int p2)] := hl
  have C : dc_C p s m _ meth c cX10_years (some .int) 7 RX10 wsX10_years D ty eo A := ⟨hx, hb, hr, hts, hown, hlocks, hml, hK, hN, hE, hA⟩
  unfold zX10_years at h
  refine lv_iload_n hx hb dX10_years_0 rfl (lv_at hl 1 rfl) ?_
  refine lv_iconst (v := 0) hx hb dX10_years_1 (by decide) ?_
  refine lv_ldc (v := 1000000) hx hb hown (hts (.constant RX10 188 1000000) f9_wsX10_years_308) dX10_years_2 ?_
  obtain ⟨r1, h2, h⟩ := dV_some h
  refine dw_ks (va_runS (As := [.int p1, .int 0, .int 1000000]) (rest := []) ⟨hx, hb, hml, hown, hts⟩ (qX10_lies l D ty eo _ p1 0 1000000 _ h2) (va_cwS 3 hts gX10_years_X10_lies rfl rfl rfl hd_X10_lies ⟨Nat.le_of_ble_eq_true rfl, Nat.le_of_ble_eq_true rfl⟩) (pvS_0 hK hN hE hP hD hS hA) rfl rfl hl.1 rfl (lv_room (Nat.le_of_ble_eq_true rfl)) dX10_years_4 ⟨Nat.le_of_ble_eq_true rfl, Nat.le_of_ble_eq_true rfl⟩) hP hD hS hA (fun _ _ h9 => h9.2.symm) (fun r9 u9 H locs hw hp hd hs => ?_)
  obtain ⟨rfl, -⟩ := hw
  clear hP hD hS
  have hP := hp; have hD := hd; have hS := hs; clear hp hd hs
  refine lv_if_eq (tgt := 20) hx hb dX10_years_7 (by decide) (fun c9 => ?_) (fun c9 => ?_)
  · rw [if_pos c9] at h
    exact WX10_years_20 C  _ _ _ _ h hP hD hS (lv_sub hl [0] rfl)
  · rw [if_neg c9] at h
    refine lv_iload_n hx hb dX10_years_10 rfl (lv_at hl 2 rfl) ?_
    refine lv_iconst (v := 1) hx hb dX10_years_11 (by decide) ?_
    refine lv_bipush (v := 60) hx hb dX10_years_12 (by decide) ?_
    obtain ⟨r3, h4, h⟩ := dV_some h
    refine dw_ks (va_runS (As := [.int p2, .int 1, .int 60]) (rest := []) ⟨hx, hb, hml, hown, hts⟩ (qX10_lies l D ty eo _ p2 1 60 _ h4) (va_cwS 3 hts gX10_years_X10_lies rfl rfl rfl hd_X10_lies ⟨Nat.le_of_ble_eq_true rfl, Nat.le_of_ble_eq_true rfl⟩) (pvS_0 hK hN hE hP hD hS hA) rfl rfl hl.1 rfl (lv_room (Nat.le_of_ble_eq_true rfl)) dX10_years_14 ⟨Nat.le_of_ble_eq_true rfl, Nat.le_of_ble_eq_true rfl⟩) hP hD hS hA (fun _ _ h9 => h9.2.symm) (fun r9 u9 H locs hw hp hd hs => ?_)
    obtain ⟨rfl, -⟩ := hw
    clear hP hD hS
    have hP := hp; have hD := hd; have hS := hs; clear hp hd hs
    refine lv_if_ne (tgt := 26) hx hb dX10_years_17 (by decide) (fun c9 => ?_) (fun c9 => ?_)
    · rw [if_neg c9] at h
      refine lv_aload_n hx hb dX10_years_26 rfl (lv_at hl 0 rfl) ?_
      obtain ⟨r5, q7, h6, h⟩ := dB_some h
      refine dw_ki (va_runV (As := []) (rest := []) ⟨hx, hb, hml, hown, hts⟩ (qX10_size l D ty eo _ ad q  r5 q7 h6) (cwV 0 hts gX10_years_X10_size rfl rfl rfl hd_X10_size_v ⟨Nat.le_of_ble_eq_true rfl, Nat.le_of_ble_eq_true rfl⟩) (pv10_10_0 hK hN hE hP hD hS hA) rfl rfl hl.1 rfl (lv_room (Nat.le_of_ble_eq_true rfl)) dX10_years_27 ⟨Nat.le_of_ble_eq_true rfl, Nat.le_of_ble_eq_true rfl⟩) hD hS hA (fun r9 u9 H locs hw hp hd hs => ?_)
      clear hP hD hS
      obtain ⟨rfl, rfl⟩ := hw
      have hP := hp; have hD := hd; have hS := hs; clear hp hd hs
      refine lv_if_ne (tgt := 40) hx hb dX10_years_30 (by decide) (fun c9 => ?_) (fun c9 => ?_)
      · rw [if_neg c9] at h
        refine lv_aload_n hx hb dX10_years_40 rfl (lv_at hl 0 rfl) ?_
        refine lv_iload_n hx hb dX10_years_41 rfl (lv_at hl 1 rfl) ?_
        refine va_put (D := D) (ci := 10) (v := .int p1) (ty := .int) (C := RX10) (T := TX10) (N := 56) hx hb hts u9_wsX10_years_X10 tyX10 tyX10_ok nmX10 hown hK hP hD hS 0 rfl rfl 55 (by decide) (hts (.fieldLink RX10 515 "TurnedFloorsModel" "latest" "I") f9_wsX10_years_309) (fun _ h9 => h9) rfl (by decide +kernel) rfl rfl (Nat.le_of_ble_eq_true rfl) dX10_years_42 (fun H locs hp hd hs => ?_)
        obtain ⟨q8, eq8, h⟩ := dL_some h
        refine kz_re (w2 := w10 ty ad q8) hp hd hs (by rw [← eq8]; exact w10_f55 ty ad q7 p1) ?_
        clear hp hd hs hP hD hS
        intro hP hD hS
        refine lv_aload_n hx hb dX10_years_45 rfl (lv_at hl 0 rfl) ?_
        refine lv_aload_n hx hb dX10_years_46 rfl (lv_at hl 0 rfl) ?_
        obtain ⟨r9, q11, h10, h⟩ := dB_some h
        refine dw_ki (va_runV (As := []) (rest := [.ref (ad 0)]) ⟨hx, hb, hml, hown, hts⟩ (qX10_size l D ty eo _ ad q8  r9 q11 h10) (cwV 0 hts gX10_years_X10_size rfl rfl rfl hd_X10_size_v ⟨Nat.le_of_ble_eq_true rfl, Nat.le_of_ble_eq_true rfl⟩) (pv10_10_0 hK hN hE hP hD hS hA) rfl rfl hl.1 rfl (lv_room (Nat.le_of_ble_eq_true rfl)) dX10_years_47 ⟨Nat.le_of_ble_eq_true rfl, Nat.le_of_ble_eq_true rfl⟩) hD hS hA (fun r9 u9 H locs hw hp hd hs => ?_)
        clear hP hD hS
        obtain ⟨rfl, rfl⟩ := hw
        have hP := hp; have hD := hd; have hS := hs; clear hp hd hs
        refine va_put (D := D) (ci := 10) (v := .int r9) (ty := .int) (C := RX10) (T := TX10) (N := 56) hx hb hts u9_wsX10_years_X10 tyX10 tyX10_ok nmX10 hown hK hP hD hS 0 rfl rfl 54 (by decide) (hts (.fieldLink RX10 116 "TurnedFloorsModel" "drawnMany" "I") f9_wsX10_years_310) (fun _ h9 => h9) rfl (by decide +kernel) rfl rfl (Nat.le_of_ble_eq_true rfl) dX10_years_50 (fun H locs hp hd hs => ?_)
        obtain ⟨q12, eq12, h⟩ := dL_some h
        refine kz_re (w2 := w10 ty ad q12) hp hd hs (by rw [← eq12]; exact w10_f54 ty ad q11 r9) ?_
        clear hp hd hs hP hD hS
        intro hP hD hS
        refine lv_aload_n hx hb dX10_years_53 rfl (lv_at hl 0 rfl) ?_
        refine lv_iconst (v := 0) hx hb dX10_years_54 (by decide) ?_
        obtain ⟨q15, h14, h⟩ := dV_some h
        refine dw_kv (va_runV (As := [.int 0]) (rest := []) ⟨hx, hb, hml, hown, hts⟩ (qX10_laysAside l D ty eo _ ad q12 0 q15 h14) (cwV 1 hts gX10_years_X10_laysAside rfl rfl rfl hd_X10_laysAside_v ⟨Nat.le_of_ble_eq_true rfl, Nat.le_of_ble_eq_true rfl⟩) (pv10_10_0 hK hN hE hP hD hS hA) rfl rfl hl.1 rfl (lv_room (Nat.le_of_ble_eq_true rfl)) dX10_years_55 ⟨Nat.le_of_ble_eq_true rfl, Nat.le_of_ble_eq_true rfl⟩) hD hS hA (fun u9 H locs hw hp hd hs => ?_)
        clear hP hD hS
        obtain rfl := hw
        have hP := hp; have hD := hd; have hS := hs; clear hp hd hs
        refine lv_aload_n hx hb dX10_years_58 rfl (lv_at hl 0 rfl) ?_
        refine va_get (D := D) (ci := 10) (v := .ref (ad 2)) (C := RX10) (T := TX10) (N := 56) hx hb hts u9_wsX10_years_X10 hown hK hP 0 rfl rfl 2 (by decide) (hts (.fieldLink RX10 28 "TurnedFloorsModel" "kept" "[I") f9_wsX10_years_307) (fun _ h9 => h9) rfl dX10_years_59 ?_
        refine lv_bipush (v := 12) hx hb dX10_years_62 (by decide) ?_
        refine va_iald hx hb hK hP 2 0 rfl rfl (by simp only [vp_in]; decide) dX10_years_64 ?_
        refine kz_topi (q15.1 2 12) (congrArg (q15.1 2) (by decide +kernel : Int32.toNatClampNeg 12 = 12)) ?_
        refine lv_istore_n (lv' := [(3, .int (q15.1 2 12)), (0, .ref (ad 0)), (1, .int p1), (2, .int p2)]) hx hb dX10_years_65 rfl hl (by decide) rfl (fun ls hl => ?_)
        refine lv_iconst (v := 0) hx hb dX10_years_66 (by decide) ?_
        refine lv_istore (lv' := [(4, .int 0), (3, .int (q15.1 2 12)), (0, .ref (ad 0)), (1, .int p1), (2, .int p2)]) hx hb dX10_years_67 hl (by decide) rfl (fun ls hl => ?_)
        exact WX10_years_69 C  _ _ _ _ _ _ _ _ h hP hD hS (lv_sub hl [2, 4, 1, 0] rfl)
      · rw [if_pos c9] at h
        refine lv_aload_n hx hb dX10_years_33 rfl (lv_at hl 0 rfl) ?_
        refine lv_bipush (v := (-3)) hx hb dX10_years_34 (by decide) ?_
        obtain ⟨r16, q18, h17, h⟩ := dB_some h
        refine dw_ki (va_runV (As := [.int (-3)]) (rest := []) ⟨hx, hb, hml, hown, hts⟩ (qX10_refuses l D ty eo _ ad q7 (-3) r16 q18 h17) (cwV 1 hts gX10_years_X10_refuses rfl rfl rfl hd_X10_refuses_v ⟨Nat.le_of_ble_eq_true rfl, Nat.le_of_ble_eq_true rfl⟩) (pv10_10_0 hK hN hE hP hD hS hA) rfl rfl hl.1 rfl (lv_room (Nat.le_of_ble_eq_true rfl)) dX10_years_36 ⟨Nat.le_of_ble_eq_true rfl, Nat.le_of_ble_eq_true rfl⟩) hD hS hA (fun r9 u9 H locs hw hp hd hs => ?_)
        clear hP hD hS
        obtain ⟨rfl, rfl⟩ := hw
        have hP := hp; have hD := hd; have hS := hs; clear hp hd hs
        cases h
        exact kz_iret hx hb hr hlocks hP hK hD hS dX10_years_39 ⟨rfl, rfl⟩
    · rw [if_pos c9] at h
      exact WX10_years_20 C  _ _ _ _ h hP hD hS (lv_sub hl [0] rfl)

set_option maxHeartbeats 4000000 in
set_option maxRecDepth 100000 in
theorem WX10_drawn_37 {p : Program} {l : Launch} {e : Env} {s : State} {m : MethodId} {args : Array Value} {below : List Frame} {meth : Method} {c : Code} {D : va_G} {ty : Nat → ClassId} {eo : Nat → Nat} {A : Nat → Prop} {ad : Nat → Nat} {o1 : Int32} {o2 : dS} (C : dc_C p s m args meth c cX10_drawn (some .int) 3 RX10 wsX10_drawn D ty eo A)   (q : dS) (x1 : Int32) (y0 : Int32) (H : Heap) (locs : List Loc) (ls : Array Slot) (h : zX10_drawn_37  q x1 y0 = some (o1, o2)) (hP : va_P D vwCl (w10 ty ad q) H) (hD : va_D A (w10 ty ad q)) (hS : va_S A s.heap H locs) (hl : lv_has ls 3 [(1, .int x1)]) : W p l e ({ frames := 2, cells := 0, slots := 0, locals := 42 } : Room) s m args below meth c H locs 0 0 (MQ below (va_Qi (fun (r : Int32) (u : va_W) => o1 = r ∧ w10 ty ad o2 = u) (kz_B D ty A) A) args s 0 0 A) (F0 m 37 ls [.int y0, .ref (ad 27)]) := by
  have C0 := C
  obtain ⟨hx, hb, hr, hts, hown, hlocks, hml, hK, hN, hE, hA⟩ := C
  unfold zX10_drawn_37 at h
  refine lv_iload_n hx hb dX10_drawn_37 rfl (lv_at hl 0 rfl) ?_
  refine lv_iadd hx hb dX10_drawn_38 ?_
  obtain ⟨g1, h⟩ := dG_some h
  refine va_iald hx hb hK hP 27 0 rfl rfl (dg_in g1) dX10_drawn_39 ?_
  obtain ⟨v2, ev2, h⟩ := dL_some h
  refine kz_topi v2 ev2 ?_
  cases h
  exact kz_iret hx hb hr hlocks hP hK hD hS dX10_drawn_40 ⟨rfl, rfl⟩
set_option maxHeartbeats 4000000 in
set_option maxRecDepth 100000 in
theorem WX10_drawn_21 {p : Program} {l : Launch} {e : Env} {s : State} {m : MethodId} {args : Array Value} {below : List Frame} {meth : Method} {c : Code} {D : va_G} {ty : Nat → ClassId} {eo : Nat → Nat} {A : Nat → Prop} {ad : Nat → Nat} {o1 : Int32} {o2 : dS} (C : dc_C p s m args meth c cX10_drawn (some .int) 3 RX10 wsX10_drawn D ty eo A)   (q : dS)  (H : Heap) (locs : List Loc) (ls : Array Slot) (h : zX10_drawn_21  q = some (o1, o2)) (hP : va_P D vwCl (w10 ty ad q) H) (hD : va_D A (w10 ty ad q)) (hS : va_S A s.heap H locs) (hl : lv_has ls 3 []) : W p l e ({ frames := 2, cells := 0, slots := 0, locals := 42 } : Room) s m args below meth c H locs 0 0 (MQ below (va_Qi (fun (r : Int32) (u : va_W) => o1 = r ∧ w10 ty ad o2 = u) (kz_B D ty A) A) args s 0 0 A) (F0 m 21 ls []) := by
  have C0 := C
  obtain ⟨hx, hb, hr, hts, hown, hlocks, hml, hK, hN, hE, hA⟩ := C
  unfold zX10_drawn_21 at h
  refine lv_iconst (v := (-1)) hx hb dX10_drawn_21 (by decide) ?_
  cases h
  exact kz_iret hx hb hr hlocks hP hK hD hS dX10_drawn_22 ⟨rfl, rfl⟩
set_option maxHeartbeats 4000000 in
set_option maxRecDepth 100000 in
theorem qX10_drawn (l : Launch) (D : va_G) (ty : Nat → ClassId) (eo : Nat → Nat) (sz : Nat) (ad : Nat → Nat) (q : dS) (p1 : Int32) (p2 : Int32) (o1 : Int32) (o2 : dS) (h : zX10_drawn q p1 p2 = some (o1, o2)) : Met l yX10_drawn wsX10_drawn ({ frames := 2, cells := 0, slots := 0, locals := 42 } : Room) (va_Pc [.ref (ad 0), .int p1, .int p2] (kz_pre D ty eo (w10 ty ad q) sz)) (va_Qi (fun (r : Int32) (u : va_W) => o1 = r ∧ w10 ty ad o2 = u) (kz_B D ty (va_A (w10 ty ad q) sz)) (va_A (w10 ty ad q) sz)) 0 0 (va_A (w10 ty ad q) sz) := by
  refine Met.ofW (cc := cX10_drawn) (maxL := 3) (ret := (some .int)) (by decide) rfl ?_
  intro p e s m args below meth c s₁ B hml hv
  obtain ⟨rfl, hsz, hP, hK, hD0, hN, hE⟩ := hv
  have hx := B.exec
  have hb := B.bytes
  have hr := B.returns
  have hts := atoms_spec (ws := wsX10_drawn) B.pre
  have hown : s.vm.findClass RX10 = some m.cls := findClass_of_methodNamed B.named
  have hlocks := B.notSynchronized
  subst hsz
  have hD := hD0.self (sz := s.heap.size)
  generalize hAe : va_A (w10 ty ad q) s.heap.size = A at hD hE ⊢
  have hA : ∀ q : Nat, s.heap.size ≤ q → A q := fun q h => by rw [← hAe]; exact Or.inr h
  clear hAe
  have hS : va_S A s.heap s.heap [] := va_S.rf
  have hl := lv_entry ([.ref (ad 0), .int p1, .int p2]) (n := 3) (Nat.le_of_ble_eq_true rfl)
  rw [lg_entry_eq]
  generalize (lg_sl ([.ref (ad 0), .int p1, .int p2]) ++ List.replicate (3 - (lg_sl ([.ref (ad 0), .int p1, .int p2])).length) Slot.unset).toArray = ls at hl ⊢
  have hl : lv_has ls 3 [(0, .ref (ad 0)), (1, .int p1), (2, .int p2)] := hl
  have C : dc_C p s m _ meth c cX10_drawn (some .int) 3 RX10 wsX10_drawn D ty eo A := ⟨hx, hb, hr, hts, hown, hlocks, hml, hK, hN, hE, hA⟩
  unfold zX10_drawn at h
  refine lv_iload_n hx hb dX10_drawn_0 rfl (lv_at hl 1 rfl) ?_
  refine lv_iconst (v := 0) hx hb dX10_drawn_1 (by decide) ?_
  refine lv_aload_n hx hb dX10_drawn_2 rfl (lv_at hl 0 rfl) ?_
  refine va_get (D := D) (ci := 10) (v := .int (q.1 0 54)) (C := RX10) (T := TX10) (N := 56) hx hb hts u9_wsX10_drawn_X10 hown hK hP 0 rfl rfl 54 (by decide) (hts (.fieldLink RX10 116 "TurnedFloorsModel" "drawnMany" "I") f9_wsX10_drawn_312) (fun _ h9 => h9) rfl dX10_drawn_3 ?_
  refine lv_iconst (v := 1) hx hb dX10_drawn_6 (by decide) ?_
  refine lv_isub hx hb dX10_drawn_7 ?_
  obtain ⟨r1, h2, h⟩ := dV_some h
  refine dw_ks (va_runS (As := [.int p1, .int 0, .int ((q.1 0 54) - 1 : Int32)]) (rest := []) ⟨hx, hb, hml, hown, hts⟩ (qX10_lies l D ty eo _ p1 0 ((q.1 0 54) - 1 : Int32) _ h2) (va_cwS 3 hts gX10_drawn_X10_lies rfl rfl rfl hd_X10_lies ⟨Nat.le_of_ble_eq_true rfl, Nat.le_of_ble_eq_true rfl⟩) (pvS_0 hK hN hE hP hD hS hA) rfl rfl hl.1 rfl (lv_room (Nat.le_of_ble_eq_true rfl)) dX10_drawn_8 ⟨Nat.le_of_ble_eq_true rfl, Nat.le_of_ble_eq_true rfl⟩) hP hD hS hA (fun _ _ h9 => h9.2.symm) (fun r9 u9 H locs hw hp hd hs => ?_)
  obtain ⟨rfl, -⟩ := hw
  clear hP hD hS
  have hP := hp; have hD := hd; have hS := hs; clear hp hd hs
  refine lv_if_eq (tgt := 21) hx hb dX10_drawn_11 (by decide) (fun c9 => ?_) (fun c9 => ?_)
  · rw [if_pos c9] at h
    exact WX10_drawn_21 C  _ _ _ _ h hP hD hS (lv_sub hl [] rfl)
  · rw [if_neg c9] at h
    refine lv_iload_n hx hb dX10_drawn_14 rfl (lv_at hl 2 rfl) ?_
    obtain ⟨r3, h4, h⟩ := dV_some h
    refine dw_ks (va_runS (As := [.int p2]) (rest := []) ⟨hx, hb, hml, hown, hts⟩ (qX10_isBit l D ty eo _ p2 _ h4) (va_cwS 1 hts gX10_drawn_X10_isBit rfl rfl rfl hd_X10_isBit ⟨Nat.le_of_ble_eq_true rfl, Nat.le_of_ble_eq_true rfl⟩) (pvS_0 hK hN hE hP hD hS hA) rfl rfl hl.1 rfl (lv_room (Nat.le_of_ble_eq_true rfl)) dX10_drawn_15 ⟨Nat.le_of_ble_eq_true rfl, Nat.le_of_ble_eq_true rfl⟩) hP hD hS hA (fun _ _ h9 => h9.2.symm) (fun r9 u9 H locs hw hp hd hs => ?_)
    obtain ⟨rfl, -⟩ := hw
    clear hP hD hS
    have hP := hp; have hD := hd; have hS := hs; clear hp hd hs
    refine lv_if_ne (tgt := 23) hx hb dX10_drawn_18 (by decide) (fun c9 => ?_) (fun c9 => ?_)
    · rw [if_neg c9] at h
      refine lv_aload_n hx hb dX10_drawn_23 rfl (lv_at hl 0 rfl) ?_
      refine va_get (D := D) (ci := 10) (v := .ref (ad 27)) (C := RX10) (T := TX10) (N := 56) hx hb hts u9_wsX10_drawn_X10 hown hK hP 0 rfl rfl 53 (by decide) (hts (.fieldLink RX10 113 "TurnedFloorsModel" "drawnMoved" "[I") f9_wsX10_drawn_313) (fun _ h9 => h9) rfl dX10_drawn_24 ?_
      refine lv_iload_n hx hb dX10_drawn_27 rfl (lv_at hl 2 rfl) ?_
      refine lv_if_ne (tgt := 35) hx hb dX10_drawn_28 (by decide) (fun c9 => ?_) (fun c9 => ?_)
      · rw [if_neg c9] at h
        refine lv_bipush (v := 6) hx hb dX10_drawn_35 (by decide) ?_
        exact WX10_drawn_37 C  _ _ _ _ _ _ h hP hD hS (lv_sub hl [1] rfl)
      · rw [if_pos c9] at h
        refine lv_iconst (v := 0) hx hb dX10_drawn_31 (by decide) ?_
        refine lv_goto (tgt := 37) hx hb dX10_drawn_32 (by decide) ?_
        exact WX10_drawn_37 C  _ _ _ _ _ _ h hP hD hS (lv_sub hl [1] rfl)
    · rw [if_pos c9] at h
      exact WX10_drawn_21 C  _ _ _ _ h hP hD hS (lv_sub hl [] rfl)

set_option maxHeartbeats 4000000 in
set_option maxRecDepth 100000 in
theorem WX10_onHeads_4b {p : Program} {l : Launch} {e : Env} {s : State} {m : MethodId} {args : Array Value} {below : List Frame} {meth : Method} {c : Code} {D : va_G} {ty : Nat → ClassId} {eo : Nat → Nat} {A : Nat → Prop} {ad : Nat → Nat} {o1 : Int32} {o2 : dS} (C : dc_C p s m args meth c cX10_onHeads (some .int) 3 RX10 wsX10_onHeads D ty eo A) {k4 : dS → Int32 → Int32 → Option (Int32 × dS)} (hk4 : ∀ (q : dS) (x1 : Int32) (x2 : Int32) (H : Heap) (locs : List Loc) (ls : Array Slot), k4 q x1 x2 = some (o1, o2) → va_P D vwCl (w10 ty ad q) H → va_D A (w10 ty ad q) → va_S A s.heap H locs → lv_has ls 3 [(0, .ref (ad 0)), (1, .int x1), (2, .int x2)] → W p l e ({ frames := 1, cells := 0, slots := 0, locals := 20 } : Room) s m args below meth c H locs 0 0 (MQ below (va_Qi (fun (r : Int32) (u : va_W) => o1 = r ∧ w10 ty ad o2 = u) (kz_B D ty A) A) args s 0 0 A) (F0 m 4 ls [])) (q : dS) (x1 : Int32) (x2 : Int32) (H : Heap) (locs : List Loc) (ls : Array Slot) (h : zX10_onHeads_4b k4 q x1 x2 = some (o1, o2)) (hP : va_P D vwCl (w10 ty ad q) H) (hD : va_D A (w10 ty ad q)) (hS : va_S A s.heap H locs) (hl : lv_has ls 3 [(0, .ref (ad 0)), (1, .int x1), (2, .int x2)]) : W p l e ({ frames := 1, cells := 0, slots := 0, locals := 20 } : Room) s m args below meth c H locs 0 0 (MQ below (va_Qi (fun (r : Int32) (u : va_W) => o1 = r ∧ w10 ty ad o2 = u) (kz_B D ty A) A) args s 0 0 A) (F0 m 4 ls []) := by
  have C0 := C
  obtain ⟨hx, hb, hr, hts, hown, hlocks, hml, hK, hN, hE, hA⟩ := C
  unfold zX10_onHeads_4b at h
  refine lv_iload_n hx hb dX10_onHeads_4 rfl (lv_at hl 2 rfl) ?_
  refine lv_aload_n hx hb dX10_onHeads_5 rfl (lv_at hl 0 rfl) ?_
  obtain ⟨r1, q3, h2, h⟩ := dB_some h
  refine dw_ki (va_runV (As := []) (rest := [.int x2]) ⟨hx, hb, hml, hown, hts⟩ (qX10_size l D ty eo _ ad q  r1 q3 h2) (cwV 0 hts gX10_onHeads_X10_size rfl rfl rfl hd_X10_size_v ⟨Nat.le_of_ble_eq_true rfl, Nat.le_of_ble_eq_true rfl⟩) (pv10_10_0 hK hN hE hP hD hS hA) rfl rfl hl.1 rfl (lv_room (Nat.le_of_ble_eq_true rfl)) dX10_onHeads_6 ⟨Nat.le_of_ble_eq_true rfl, Nat.le_of_ble_eq_true rfl⟩) hD hS hA (fun r9 u9 H locs hw hp hd hs => ?_)
  clear hP hD hS
  obtain ⟨rfl, rfl⟩ := hw
  have hP := hp; have hD := hd; have hS := hs; clear hp hd hs
  refine lv_icmp_ge (tgt := 30) hx hb dX10_onHeads_9 (by decide) (fun c9 => ?_) (fun c9 => ?_)
  · rw [if_pos c9] at h
    refine lv_iload_n hx hb dX10_onHeads_30 rfl (lv_at hl 1 rfl) ?_
    cases h
    exact kz_iret hx hb hr hlocks hP hK hD hS dX10_onHeads_31 ⟨rfl, rfl⟩
  · rw [if_neg c9] at h
    refine lv_iload_n hx hb dX10_onHeads_12 rfl (lv_at hl 1 rfl) ?_
    refine lv_aload_n hx hb dX10_onHeads_13 rfl (lv_at hl 0 rfl) ?_
    refine va_get (D := D) (ci := 10) (v := .ref (ad 2)) (C := RX10) (T := TX10) (N := 56) hx hb hts u9_wsX10_onHeads_X10 hown hK hP 0 rfl rfl 2 (by decide) (hts (.fieldLink RX10 28 "TurnedFloorsModel" "kept" "[I") f9_wsX10_onHeads_315) (fun _ h9 => h9) rfl dX10_onHeads_14 ?_
    refine lv_bipush (v := 6) hx hb dX10_onHeads_17 (by decide) ?_
    refine lv_iload_n hx hb dX10_onHeads_19 rfl (lv_at hl 2 rfl) ?_
    refine lv_iadd hx hb dX10_onHeads_20 ?_
    obtain ⟨g4, h⟩ := dG_some h
    refine va_iald hx hb hK hP 2 0 rfl rfl (dg_in g4) dX10_onHeads_21 ?_
    obtain ⟨v5, ev5, h⟩ := dL_some h
    refine kz_topi v5 ev5 ?_
    refine lv_iadd hx hb dX10_onHeads_22 ?_
    refine lv_istore_n (lv' := [(1, .int (x1 + v5)), (0, .ref (ad 0)), (2, .int x2)]) hx hb dX10_onHeads_23 rfl hl (by decide) rfl (fun ls hl => ?_)
    refine lv_iinc (v := x2 + 1) (lv' := [(2, .int (x2 + 1)), (1, .int (x1 + v5)), (0, .ref (ad 0))]) hx hb dX10_onHeads_24 hl (k := 2) rfl rfl (by decide) rfl (fun ls hl => ?_)
    refine lv_goto (tgt := 4) hx hb dX10_onHeads_27 (by decide) ?_
    exact hk4 _ _ _ _ _ _ h hP hD hS (lv_sub hl [2, 1, 0] rfl)
set_option maxHeartbeats 4000000 in
set_option maxRecDepth 100000 in
theorem WX10_onHeads_4 {p : Program} {l : Launch} {e : Env} {s : State} {m : MethodId} {args : Array Value} {below : List Frame} {meth : Method} {c : Code} {D : va_G} {ty : Nat → ClassId} {eo : Nat → Nat} {A : Nat → Prop} {ad : Nat → Nat} {o1 : Int32} {o2 : dS} (C : dc_C p s m args meth c cX10_onHeads (some .int) 3 RX10 wsX10_onHeads D ty eo A)   (n : Nat) (q : dS) (x1 : Int32) (x2 : Int32) (H : Heap) (locs : List Loc) (ls : Array Slot) (h : zX10_onHeads_4  n q x1 x2 = some (o1, o2)) (hP : va_P D vwCl (w10 ty ad q) H) (hD : va_D A (w10 ty ad q)) (hS : va_S A s.heap H locs) (hl : lv_has ls 3 [(0, .ref (ad 0)), (1, .int x1), (2, .int x2)]) : W p l e ({ frames := 1, cells := 0, slots := 0, locals := 20 } : Room) s m args below meth c H locs 0 0 (MQ below (va_Qi (fun (r : Int32) (u : va_W) => o1 = r ∧ w10 ty ad o2 = u) (kz_B D ty A) A) args s 0 0 A) (F0 m 4 ls []) := by
  exact dFix_W (F := fun k (a : dS × Int32 × Int32) => zX10_onHeads_4b  (fun q x1 x2 => k (q, x1, x2)) a.1 a.2.1 a.2.2) (o := (o1, o2)) (P := fun (a : dS × Int32 × Int32) H locs ls => va_P D vwCl (w10 ty ad a.1) H ∧ va_D A (w10 ty ad a.1) ∧ va_S A s.heap H locs ∧ lv_has ls 3 [(0, .ref (ad 0)), (1, .int a.2.1), (2, .int a.2.2)]) (G := fun H locs ls => W p l e ({ frames := 1, cells := 0, slots := 0, locals := 20 } : Room) s m args below meth c H locs 0 0 (MQ below (va_Qi (fun (r : Int32) (u : va_W) => o1 = r ∧ w10 ty ad o2 = u) (kz_B D ty A) A) args s 0 0 A) (F0 m 4 ls []))
    (fun k hk a H locs ls h hp => WX10_onHeads_4b C  (fun q x1 x2 H locs ls h h1 h2 h3 h4 => hk (q, x1, x2) H locs ls h ⟨h1, h2, h3, h4⟩) a.1 a.2.1 a.2.2 H locs ls h hp.1 hp.2.1 hp.2.2.1 hp.2.2.2) n (q, x1, x2) H locs ls h ⟨hP, hD, hS, hl⟩
set_option maxHeartbeats 4000000 in
set_option maxRecDepth 100000 in
theorem qX10_onHeads (l : Launch) (D : va_G) (ty : Nat → ClassId) (eo : Nat → Nat) (sz : Nat) (ad : Nat → Nat) (q : dS)  (o1 : Int32) (o2 : dS) (h : zX10_onHeads q = some (o1, o2)) : Met l yX10_onHeads wsX10_onHeads ({ frames := 1, cells := 0, slots := 0, locals := 20 } : Room) (va_Pc [.ref (ad 0)] (kz_pre D ty eo (w10 ty ad q) sz)) (va_Qi (fun (r : Int32) (u : va_W) => o1 = r ∧ w10 ty ad o2 = u) (kz_B D ty (va_A (w10 ty ad q) sz)) (va_A (w10 ty ad q) sz)) 0 0 (va_A (w10 ty ad q) sz) := by
  refine Met.ofW (cc := cX10_onHeads) (maxL := 3) (ret := (some .int)) (by decide) rfl ?_
  intro p e s m args below meth c s₁ B hml hv
  obtain ⟨rfl, hsz, hP, hK, hD0, hN, hE⟩ := hv
  have hx := B.exec
  have hb := B.bytes
  have hr := B.returns
  have hts := atoms_spec (ws := wsX10_onHeads) B.pre
  have hown : s.vm.findClass RX10 = some m.cls := findClass_of_methodNamed B.named
  have hlocks := B.notSynchronized
  subst hsz
  have hD := hD0.self (sz := s.heap.size)
  generalize hAe : va_A (w10 ty ad q) s.heap.size = A at hD hE ⊢
  have hA : ∀ q : Nat, s.heap.size ≤ q → A q := fun q h => by rw [← hAe]; exact Or.inr h
  clear hAe
  have hS : va_S A s.heap s.heap [] := va_S.rf
  have hl := lv_entry ([.ref (ad 0)]) (n := 3) (Nat.le_of_ble_eq_true rfl)
  rw [lg_entry_eq]
  generalize (lg_sl ([.ref (ad 0)]) ++ List.replicate (3 - (lg_sl ([.ref (ad 0)])).length) Slot.unset).toArray = ls at hl ⊢
  have hl : lv_has ls 3 [(0, .ref (ad 0))] := hl
  have C : dc_C p s m _ meth c cX10_onHeads (some .int) 3 RX10 wsX10_onHeads D ty eo A := ⟨hx, hb, hr, hts, hown, hlocks, hml, hK, hN, hE, hA⟩
  unfold zX10_onHeads at h
  refine lv_iconst (v := 0) hx hb dX10_onHeads_0 (by decide) ?_
  refine lv_istore_n (lv' := [(1, .int 0), (0, .ref (ad 0))]) hx hb dX10_onHeads_1 rfl hl (by decide) rfl (fun ls hl => ?_)
  refine lv_iconst (v := 0) hx hb dX10_onHeads_2 (by decide) ?_
  refine lv_istore_n (lv' := [(2, .int 0), (1, .int 0), (0, .ref (ad 0))]) hx hb dX10_onHeads_3 rfl hl (by decide) rfl (fun ls hl => ?_)
  exact WX10_onHeads_4 C  _ _ _ _ _ _ _ h hP hD hS (lv_sub hl [2, 1, 0] rfl)

set_option maxHeartbeats 4000000 in
set_option maxRecDepth 100000 in
theorem qX10_isOrderedNow (l : Launch) (D : va_G) (ty : Nat → ClassId) (eo : Nat → Nat) (sz : Nat) (ad : Nat → Nat) (q : dS)  (o1 : Int32) (o2 : dS) (h : zX10_isOrderedNow q = some (o1, o2)) : Met l yX10_isOrderedNow wsX10_isOrderedNow ({ frames := 2, cells := 0, slots := 0, locals := 45 } : Room) (va_Pc [.ref (ad 0)] (kz_pre D ty eo (w10 ty ad q) sz)) (va_Qi (fun (r : Int32) (u : va_W) => o1 = r ∧ w10 ty ad o2 = u) (kz_B D ty (va_A (w10 ty ad q) sz)) (va_A (w10 ty ad q) sz)) 0 0 (va_A (w10 ty ad q) sz) := by
  refine Met.ofW (cc := cX10_isOrderedNow) (maxL := 1) (ret := (some .boolean)) (by decide) rfl ?_
  intro p e s m args below meth c s₁ B hml hv
  obtain ⟨rfl, hsz, hP, hK, hD0, hN, hE⟩ := hv
  have hx := B.exec
  have hb := B.bytes
  have hr := B.returns
  have hts := atoms_spec (ws := wsX10_isOrderedNow) B.pre
  have hown : s.vm.findClass RX10 = some m.cls := findClass_of_methodNamed B.named
  have hlocks := B.notSynchronized
  subst hsz
  have hD := hD0.self (sz := s.heap.size)
  generalize hAe : va_A (w10 ty ad q) s.heap.size = A at hD hE ⊢
  have hA : ∀ q : Nat, s.heap.size ≤ q → A q := fun q h => by rw [← hAe]; exact Or.inr h
  clear hAe
  have hS : va_S A s.heap s.heap [] := va_S.rf
  have hl := lv_entry ([.ref (ad 0)]) (n := 1) (Nat.le_of_ble_eq_true rfl)
  rw [lg_entry_eq]
  generalize (lg_sl ([.ref (ad 0)]) ++ List.replicate (1 - (lg_sl ([.ref (ad 0)])).length) Slot.unset).toArray = ls at hl ⊢
  have hl : lv_has ls 1 [(0, .ref (ad 0))] := hl
  have C : dc_C p s m _ meth c cX10_isOrderedNow (some .boolean) 1 RX10 wsX10_isOrderedNow D ty eo A := ⟨hx, hb, hr, hts, hown, hlocks, hml, hK, hN, hE, hA⟩
  unfold zX10_isOrderedNow at h
  refine lv_aload_n hx hb dX10_isOrderedNow_0 rfl (lv_at hl 0 rfl) ?_
  refine lv_iconst (v := 1) hx hb dX10_isOrderedNow_1 (by decide) ?_
  refine lv_aload_n hx hb dX10_isOrderedNow_2 rfl (lv_at hl 0 rfl) ?_
  obtain ⟨r1, q3, h2, h⟩ := dB_some h
  refine dw_ki (va_runV (As := []) (rest := [.int 1, .ref (ad 0)]) ⟨hx, hb, hml, hown, hts⟩ (qX10_size l D ty eo _ ad q  r1 q3 h2) (cwV 0 hts gX10_isOrderedNow_X10_size rfl rfl rfl hd_X10_size_v ⟨Nat.le_of_ble_eq_true rfl, Nat.le_of_ble_eq_true rfl⟩) (pv10_10_0 hK hN hE hP hD hS hA) rfl rfl hl.1 rfl (lv_room (Nat.le_of_ble_eq_true rfl)) dX10_isOrderedNow_3 ⟨Nat.le_of_ble_eq_true rfl, Nat.le_of_ble_eq_true rfl⟩) hD hS hA (fun r9 u9 H locs hw hp hd hs => ?_)
  clear hP hD hS
  obtain ⟨rfl, rfl⟩ := hw
  have hP := hp; have hD := hd; have hS := hs; clear hp hd hs
  refine lv_ishl hx hb dX10_isOrderedNow_6 ?_
  refine lv_iconst (v := 1) hx hb dX10_isOrderedNow_7 (by decide) ?_
  refine lv_isub hx hb dX10_isOrderedNow_8 ?_
  obtain ⟨r4, q6, h5, h⟩ := dB_some h
  refine dw_ki (va_runV (As := [.int ((1 <<< ((r1 : Int32) &&& 31) : Int32) - 1 : Int32)]) (rest := []) ⟨hx, hb, hml, hown, hts⟩ (qX10_canStay l D ty eo _ ad q3 ((1 <<< ((r1 : Int32) &&& 31) : Int32) - 1 : Int32) r4 q6 h5) (cwV 1 hts gX10_isOrderedNow_X10_canStay rfl rfl rfl hd_X10_canStay_v ⟨Nat.le_of_ble_eq_true rfl, Nat.le_of_ble_eq_true rfl⟩) (pv10_10_0 hK hN hE hP hD hS hA) rfl rfl hl.1 rfl (lv_room (Nat.le_of_ble_eq_true rfl)) dX10_isOrderedNow_9 ⟨Nat.le_of_ble_eq_true rfl, Nat.le_of_ble_eq_true rfl⟩) hD hS hA (fun r9 u9 H locs hw hp hd hs => ?_)
  clear hP hD hS
  obtain ⟨rfl, rfl⟩ := hw
  have hP := hp; have hD := hd; have hS := hs; clear hp hd hs
  obtain ⟨g7, h⟩ := dG_some h
  cases h
  exact kz_zret hx hb hr hlocks (dbl_nar g7) hP hK hD hS dX10_isOrderedNow_12 ⟨rfl, rfl⟩

set_option maxHeartbeats 4000000 in
set_option maxRecDepth 100000 in
theorem WX10_count_190 {p : Program} {l : Launch} {e : Env} {s : State} {m : MethodId} {args : Array Value} {below : List Frame} {meth : Method} {c : Code} {D : va_G} {ty : Nat → ClassId} {eo : Nat → Nat} {A : Nat → Prop} {ad : Nat → Nat} {o1 : Int32} {o2 : dS} (C : dc_C p s m args meth c cX10_count (some .int) 2 RX10 wsX10_count D ty eo A)   (q : dS) (y0 : Int32) (H : Heap) (locs : List Loc) (ls : Array Slot) (h : zX10_count_190  q y0 = some (o1, o2)) (hP : va_P D vwCl (w10 ty ad q) H) (hD : va_D A (w10 ty ad q)) (hS : va_S A s.heap H locs) (hl : lv_has ls 2 []) : W p l e ({ frames := 3, cells := 0, slots := 0, locals := 65 } : Room) s m args below meth c H locs 0 0 (MQ below (va_Qi (fun (r : Int32) (u : va_W) => o1 = r ∧ w10 ty ad o2 = u) (kz_B D ty A) A) args s 0 0 A) (F0 m 190 ls [.int y0]) := by
  have C0 := C
  obtain ⟨hx, hb, hr, hts, hown, hlocks, hml, hK, hN, hE, hA⟩ := C
  unfold zX10_count_190 at h
  cases h
  exact kz_iret hx hb hr hlocks hP hK hD hS dX10_count_190 ⟨rfl, rfl⟩
set_option maxHeartbeats 4000000 in
set_option maxRecDepth 100000 in
theorem qX10_count (l : Launch) (D : va_G) (ty : Nat → ClassId) (eo : Nat → Nat) (sz : Nat) (ad : Nat → Nat) (q : dS) (p1 : Int32) (o1 : Int32) (o2 : dS) (h : zX10_count q p1 = some (o1, o2)) : Met l yX10_count wsX10_count ({ frames := 3, cells := 0, slots := 0, locals := 65 } : Room) (va_Pc [.ref (ad 0), .int p1] (kz_pre D ty eo (w10 ty ad q) sz)) (va_Qi (fun (r : Int32) (u : va_W) => o1 = r ∧ w10 ty ad o2 = u) (kz_B D ty (va_A (w10 ty ad q) sz)) (va_A (w10 ty ad q) sz)) 0 0 (va_A (w10 ty ad q) sz) := by
  refine Met.ofW (cc := cX10_count) (maxL := 2) (ret := (some .int)) (by decide) rfl ?_
  intro p e s m args below meth c s₁ B hml hv
  obtain ⟨rfl, hsz, hP, hK, hD0, hN, hE⟩ := hv
  have hx := B.exec
  have hb := B.bytes
  have hr := B.returns
  have hts := atoms_spec (ws := wsX10_count) B.pre
  have hown : s.vm.findClass RX10 = some m.cls := findClass_of_methodNamed B.named
  have hlocks := B.notSynchronized
  subst hsz
  have hD := hD0.self (sz := s.heap.size)
  generalize hAe : va_A (w10 ty ad q) s.heap.size = A at hD hE ⊢
  have hA : ∀ q : Nat, s.heap.size ≤ q → A q := fun q h => by rw [← hAe]; exact Or.inr h
  clear hAe
  have hS : va_S A s.heap s.heap [] := va_S.rf
  have hl := lv_entry ([.ref (ad 0), .int p1]) (n := 2) (Nat.le_of_ble_eq_true rfl)
  rw [lg_entry_eq]
  generalize (lg_sl ([.ref (ad 0), .int p1]) ++ List.replicate (2 - (lg_sl ([.ref (ad 0), .int p1])).length) Slot.unset).toArray = ls at hl ⊢
  have hl : lv_has ls 2 [(0, .ref (ad 0)), (1, .int p1)] := hl
  have C : dc_C p s m _ meth c cX10_count (some .int) 2 RX10 wsX10_count D ty eo A := ⟨hx, hb, hr, hts, hown, hlocks, hml, hK, hN, hE, hA⟩
  unfold zX10_count at h
  refine lv_iload_n hx hb dX10_count_0 rfl (lv_at hl 1 rfl) ?_
  by_cases c1 : p1 = 0
  · rw [if_pos c1] at h
    refine lv_tableIn (off := 87) (tgt := 88) hx hb dX10_count_1 (by rw [c1]; decide) (by rw [c1]; decide) (by rw [c1]; decide) (by decide) ?_
    refine lv_aload_n hx hb dX10_count_88 rfl (lv_at hl 0 rfl) ?_
    obtain ⟨r2, q4, h3, h⟩ := dB_some h
    refine dw_ki (va_runV (As := []) (rest := []) ⟨hx, hb, hml, hown, hts⟩ (qX10_size l D ty eo _ ad q  r2 q4 h3) (cwV 0 hts gX10_count_X10_size rfl rfl rfl hd_X10_size_v ⟨Nat.le_of_ble_eq_true rfl, Nat.le_of_ble_eq_true rfl⟩) (pv10_10_0 hK hN hE hP hD hS hA) rfl rfl hl.1 rfl (lv_room (Nat.le_of_ble_eq_true rfl)) dX10_count_89 ⟨Nat.le_of_ble_eq_true rfl, Nat.le_of_ble_eq_true rfl⟩) hD hS hA (fun r9 u9 H locs hw hp hd hs => ?_)
    clear hP hD hS
    obtain ⟨rfl, rfl⟩ := hw
    have hP := hp; have hD := hd; have hS := hs; clear hp hd hs
    cases h
    exact kz_iret hx hb hr hlocks hP hK hD hS dX10_count_92 ⟨rfl, rfl⟩
  rw [if_neg c1] at h
  by_cases c5 : p1 = 1
  · rw [if_pos c5] at h
    refine lv_tableIn (off := 92) (tgt := 93) hx hb dX10_count_1 (by rw [c5]; decide) (by rw [c5]; decide) (by rw [c5]; decide) (by decide) ?_
    refine lv_aload_n hx hb dX10_count_93 rfl (lv_at hl 0 rfl) ?_
    obtain ⟨r6, q8, h7, h⟩ := dB_some h
    refine dw_ki (va_runV (As := []) (rest := []) ⟨hx, hb, hml, hown, hts⟩ (qX10_onHeads l D ty eo _ ad q  r6 q8 h7) (cwV 0 hts gX10_count_X10_onHeads rfl rfl rfl hd_X10_onHeads_v ⟨Nat.le_of_ble_eq_true rfl, Nat.le_of_ble_eq_true rfl⟩) (pv10_10_0 hK hN hE hP hD hS hA) rfl rfl hl.1 rfl (lv_room (Nat.le_of_ble_eq_true rfl)) dX10_count_94 ⟨Nat.le_of_ble_eq_true rfl, Nat.le_of_ble_eq_true rfl⟩) hD hS hA (fun r9 u9 H locs hw hp hd hs => ?_)
    clear hP hD hS
    obtain ⟨rfl, rfl⟩ := hw
    have hP := hp; have hD := hd; have hS := hs; clear hp hd hs
    cases h
    exact kz_iret hx hb hr hlocks hP hK hD hS dX10_count_97 ⟨rfl, rfl⟩
  rw [if_neg c5] at h
  by_cases c9 : p1 = 2
  · rw [if_pos c9] at h
    refine lv_tableIn (off := 97) (tgt := 98) hx hb dX10_count_1 (by rw [c9]; decide) (by rw [c9]; decide) (by rw [c9]; decide) (by decide) ?_
    refine lv_aload_n hx hb dX10_count_98 rfl (lv_at hl 0 rfl) ?_
    refine va_get (D := D) (ci := 10) (v := .ref (ad 2)) (C := RX10) (T := TX10) (N := 56) hx hb hts u9_wsX10_count_X10 hown hK hP 0 rfl rfl 2 (by decide) (hts (.fieldLink RX10 28 "TurnedFloorsModel" "kept" "[I") f9_wsX10_count_317) (fun _ h9 => h9) rfl dX10_count_99 ?_
    refine lv_bipush (v := 12) hx hb dX10_count_102 (by decide) ?_
    refine va_iald hx hb hK hP 2 0 rfl rfl (by simp only [vp_in]; decide) dX10_count_104 ?_
    refine kz_topi (q.1 2 12) (congrArg (q.1 2) (by decide +kernel : Int32.toNatClampNeg 12 = 12)) ?_
    cases h
    exact kz_iret hx hb hr hlocks hP hK hD hS dX10_count_105 ⟨rfl, rfl⟩
  rw [if_neg c9] at h
  by_cases c10 : p1 = 3
  · rw [if_pos c10] at h
    refine lv_tableIn (off := 105) (tgt := 106) hx hb dX10_count_1 (by rw [c10]; decide) (by rw [c10]; decide) (by rw [c10]; decide) (by decide) ?_
    refine lv_aload_n hx hb dX10_count_106 rfl (lv_at hl 0 rfl) ?_
    refine va_get (D := D) (ci := 10) (v := .ref (ad 2)) (C := RX10) (T := TX10) (N := 56) hx hb hts u9_wsX10_count_X10 hown hK hP 0 rfl rfl 2 (by decide) (hts (.fieldLink RX10 28 "TurnedFloorsModel" "kept" "[I") f9_wsX10_count_317) (fun _ h9 => h9) rfl dX10_count_107 ?_
    refine lv_bipush (v := 30) hx hb dX10_count_110 (by decide) ?_
    refine va_iald hx hb hK hP 2 0 rfl rfl (by simp only [vp_in]; decide) dX10_count_112 ?_
    refine kz_topi (q.1 2 30) (congrArg (q.1 2) (by decide +kernel : Int32.toNatClampNeg 30 = 30)) ?_
    cases h
    exact kz_iret hx hb hr hlocks hP hK hD hS dX10_count_113 ⟨rfl, rfl⟩
  rw [if_neg c10] at h
  by_cases c11 : p1 = 4
  · rw [if_pos c11] at h
    refine lv_tableIn (off := 113) (tgt := 114) hx hb dX10_count_1 (by rw [c11]; decide) (by rw [c11]; decide) (by rw [c11]; decide) (by decide) ?_
    refine lv_aload_n hx hb dX10_count_114 rfl (lv_at hl 0 rfl) ?_
    refine va_get (D := D) (ci := 10) (v := .ref (ad 2)) (C := RX10) (T := TX10) (N := 56) hx hb hts u9_wsX10_count_X10 hown hK hP 0 rfl rfl 2 (by decide) (hts (.fieldLink RX10 28 "TurnedFloorsModel" "kept" "[I") f9_wsX10_count_317) (fun _ h9 => h9) rfl dX10_count_115 ?_
    refine lv_bipush (v := 31) hx hb dX10_count_118 (by decide) ?_
    refine va_iald hx hb hK hP 2 0 rfl rfl (by simp only [vp_in]; decide) dX10_count_120 ?_
    refine kz_topi (q.1 2 31) (congrArg (q.1 2) (by decide +kernel : Int32.toNatClampNeg 31 = 31)) ?_
    cases h
    exact kz_iret hx hb hr hlocks hP hK hD hS dX10_count_121 ⟨rfl, rfl⟩
  rw [if_neg c11] at h
  by_cases c12 : p1 = 5
  · rw [if_pos c12] at h
    refine lv_tableIn (off := 121) (tgt := 122) hx hb dX10_count_1 (by rw [c12]; decide) (by rw [c12]; decide) (by rw [c12]; decide) (by decide) ?_
    refine lv_aload_n hx hb dX10_count_122 rfl (lv_at hl 0 rfl) ?_
    refine va_get (D := D) (ci := 10) (v := .int (q.1 0 32)) (C := RX10) (T := TX10) (N := 56) hx hb hts u9_wsX10_count_X10 hown hK hP 0 rfl rfl 32 (by decide) (hts (.fieldLink RX10 11 "TurnedFloorsModel" "undoMany" "I") f9_wsX10_count_318) (fun _ h9 => h9) rfl dX10_count_123 ?_
    cases h
    exact kz_iret hx hb hr hlocks hP hK hD hS dX10_count_126 ⟨rfl, rfl⟩
  rw [if_neg c12] at h
  by_cases c13 : p1 = 6
  · rw [if_pos c13] at h
    refine lv_tableIn (off := 126) (tgt := 127) hx hb dX10_count_1 (by rw [c13]; decide) (by rw [c13]; decide) (by rw [c13]; decide) (by decide) ?_
    refine lv_aload_n hx hb dX10_count_127 rfl (lv_at hl 0 rfl) ?_
    refine va_get (D := D) (ci := 10) (v := .int (q.1 0 13)) (C := RX10) (T := TX10) (N := 56) hx hb hts u9_wsX10_count_X10 hown hK hP 0 rfl rfl 13 (by decide) (hts (.fieldLink RX10 169 "TurnedFloorsModel" "taped" "I") f9_wsX10_count_319) (fun _ h9 => h9) rfl dX10_count_128 ?_
    cases h
    exact kz_iret hx hb hr hlocks hP hK hD hS dX10_count_131 ⟨rfl, rfl⟩
  rw [if_neg c13] at h
  by_cases c14 : p1 = 7
  · rw [if_pos c14] at h
    refine lv_tableIn (off := 131) (tgt := 132) hx hb dX10_count_1 (by rw [c14]; decide) (by rw [c14]; decide) (by rw [c14]; decide) (by decide) ?_
    refine lv_aload_n hx hb dX10_count_132 rfl (lv_at hl 0 rfl) ?_
    refine va_get (D := D) (ci := 10) (v := .ref (ad 1)) (C := RX10) (T := TX10) (N := 56) hx hb hts u9_wsX10_count_X10 hown hK hP 0 rfl rfl 1 (by decide) (hts (.fieldLink RX10 7 "TurnedFloorsModel" "refused" "[I") f9_wsX10_count_320) (fun _ h9 => h9) rfl dX10_count_133 ?_
    refine lv_iload_n hx hb dX10_count_136 rfl (lv_at hl 1 rfl) ?_
    refine lv_bipush (v := 6) hx hb dX10_count_137 (by decide) ?_
    refine lv_isub hx hb dX10_count_139 ?_
    obtain ⟨g15, h⟩ := dG_some h
    refine va_iald hx hb hK hP 1 0 rfl rfl (dg_in g15) dX10_count_140 ?_
    obtain ⟨v16, ev16, h⟩ := dL_some h
    refine kz_topi v16 ev16 ?_
    cases h
    exact kz_iret hx hb hr hlocks hP hK hD hS dX10_count_141 ⟨rfl, rfl⟩
  rw [if_neg c14] at h
  by_cases c17 : p1 = 8
  · rw [if_pos c17] at h
    refine lv_tableIn (off := 131) (tgt := 132) hx hb dX10_count_1 (by rw [c17]; decide) (by rw [c17]; decide) (by rw [c17]; decide) (by decide) ?_
    refine lv_aload_n hx hb dX10_count_132 rfl (lv_at hl 0 rfl) ?_
    refine va_get (D := D) (ci := 10) (v := .ref (ad 1)) (C := RX10) (T := TX10) (N := 56) hx hb hts u9_wsX10_count_X10 hown hK hP 0 rfl rfl 1 (by decide) (hts (.fieldLink RX10 7 "TurnedFloorsModel" "refused" "[I") f9_wsX10_count_320) (fun _ h9 => h9) rfl dX10_count_133 ?_
    refine lv_iload_n hx hb dX10_count_136 rfl (lv_at hl 1 rfl) ?_
    refine lv_bipush (v := 6) hx hb dX10_count_137 (by decide) ?_
    refine lv_isub hx hb dX10_count_139 ?_
    obtain ⟨g18, h⟩ := dG_some h
    refine va_iald hx hb hK hP 1 0 rfl rfl (dg_in g18) dX10_count_140 ?_
    obtain ⟨v19, ev19, h⟩ := dL_some h
    refine kz_topi v19 ev19 ?_
    cases h
    exact kz_iret hx hb hr hlocks hP hK hD hS dX10_count_141 ⟨rfl, rfl⟩
  rw [if_neg c17] at h
  by_cases c20 : p1 = 9
  · rw [if_pos c20] at h
    refine lv_tableIn (off := 131) (tgt := 132) hx hb dX10_count_1 (by rw [c20]; decide) (by rw [c20]; decide) (by rw [c20]; decide) (by decide) ?_
    refine lv_aload_n hx hb dX10_count_132 rfl (lv_at hl 0 rfl) ?_
    refine va_get (D := D) (ci := 10) (v := .ref (ad 1)) (C := RX10) (T := TX10) (N := 56) hx hb hts u9_wsX10_count_X10 hown hK hP 0 rfl rfl 1 (by decide) (hts (.fieldLink RX10 7 "TurnedFloorsModel" "refused" "[I") f9_wsX10_count_320) (fun _ h9 => h9) rfl dX10_count_133 ?_
    refine lv_iload_n hx hb dX10_count_136 rfl (lv_at hl 1 rfl) ?_
    refine lv_bipush (v := 6) hx hb dX10_count_137 (by decide) ?_
    refine lv_isub hx hb dX10_count_139 ?_
    obtain ⟨g21, h⟩ := dG_some h
    refine va_iald hx hb hK hP 1 0 rfl rfl (dg_in g21) dX10_count_140 ?_
    obtain ⟨v22, ev22, h⟩ := dL_some h
    refine kz_topi v22 ev22 ?_
    cases h
    exact kz_iret hx hb hr hlocks hP hK hD hS dX10_count_141 ⟨rfl, rfl⟩
  rw [if_neg c20] at h
  by_cases c23 : p1 = 10
  · rw [if_pos c23] at h
    refine lv_tableIn (off := 141) (tgt := 142) hx hb dX10_count_1 (by rw [c23]; decide) (by rw [c23]; decide) (by rw [c23]; decide) (by decide) ?_
    refine lv_aload_n hx hb dX10_count_142 rfl (lv_at hl 0 rfl) ?_
    refine va_get (D := D) (ci := 10) (v := .ref (ad 1)) (C := RX10) (T := TX10) (N := 56) hx hb hts u9_wsX10_count_X10 hown hK hP 0 rfl rfl 1 (by decide) (hts (.fieldLink RX10 7 "TurnedFloorsModel" "refused" "[I") f9_wsX10_count_320) (fun _ h9 => h9) rfl dX10_count_143 ?_
    refine lv_iconst (v := 5) hx hb dX10_count_146 (by decide) ?_
    refine va_iald hx hb hK hP 1 0 rfl rfl (by simp only [vp_in]; decide) dX10_count_147 ?_
    refine kz_topi (q.1 1 5) (congrArg (q.1 1) (by decide +kernel : Int32.toNatClampNeg 5 = 5)) ?_
    cases h
    exact kz_iret hx hb hr hlocks hP hK hD hS dX10_count_148 ⟨rfl, rfl⟩
  rw [if_neg c23] at h
  by_cases c24 : p1 = 11
  · rw [if_pos c24] at h
    refine lv_tableIn (off := 148) (tgt := 149) hx hb dX10_count_1 (by rw [c24]; decide) (by rw [c24]; decide) (by rw [c24]; decide) (by decide) ?_
    refine lv_aload_n hx hb dX10_count_149 rfl (lv_at hl 0 rfl) ?_
    refine va_get (D := D) (ci := 10) (v := .ref (ad 1)) (C := RX10) (T := TX10) (N := 56) hx hb hts u9_wsX10_count_X10 hown hK hP 0 rfl rfl 1 (by decide) (hts (.fieldLink RX10 7 "TurnedFloorsModel" "refused" "[I") f9_wsX10_count_320) (fun _ h9 => h9) rfl dX10_count_150 ?_
    refine lv_bipush (v := 6) hx hb dX10_count_153 (by decide) ?_
    refine va_iald hx hb hK hP 1 0 rfl rfl (by simp only [vp_in]; decide) dX10_count_155 ?_
    refine kz_topi (q.1 1 6) (congrArg (q.1 1) (by decide +kernel : Int32.toNatClampNeg 6 = 6)) ?_
    cases h
    exact kz_iret hx hb hr hlocks hP hK hD hS dX10_count_156 ⟨rfl, rfl⟩
  rw [if_neg c24] at h
  by_cases c25 : p1 = 12
  · rw [if_pos c25] at h
    refine lv_tableIn (off := 156) (tgt := 157) hx hb dX10_count_1 (by rw [c25]; decide) (by rw [c25]; decide) (by rw [c25]; decide) (by decide) ?_
    refine lv_aload_n hx hb dX10_count_157 rfl (lv_at hl 0 rfl) ?_
    refine va_get (D := D) (ci := 10) (v := .ref (ad 2)) (C := RX10) (T := TX10) (N := 56) hx hb hts u9_wsX10_count_X10 hown hK hP 0 rfl rfl 2 (by decide) (hts (.fieldLink RX10 28 "TurnedFloorsModel" "kept" "[I") f9_wsX10_count_317) (fun _ h9 => h9) rfl dX10_count_158 ?_
    refine lv_bipush (v := 32) hx hb dX10_count_161 (by decide) ?_
    refine va_iald hx hb hK hP 2 0 rfl rfl (by simp only [vp_in]; decide) dX10_count_163 ?_
    refine kz_topi (q.1 2 32) (congrArg (q.1 2) (by decide +kernel : Int32.toNatClampNeg 32 = 32)) ?_
    cases h
    exact kz_iret hx hb hr hlocks hP hK hD hS dX10_count_164 ⟨rfl, rfl⟩
  rw [if_neg c25] at h
  by_cases c26 : p1 = 13
  · rw [if_pos c26] at h
    refine lv_tableIn (off := 164) (tgt := 165) hx hb dX10_count_1 (by rw [c26]; decide) (by rw [c26]; decide) (by rw [c26]; decide) (by decide) ?_
    refine lv_aload_n hx hb dX10_count_165 rfl (lv_at hl 0 rfl) ?_
    refine va_get (D := D) (ci := 10) (v := .ref (ad 2)) (C := RX10) (T := TX10) (N := 56) hx hb hts u9_wsX10_count_X10 hown hK hP 0 rfl rfl 2 (by decide) (hts (.fieldLink RX10 28 "TurnedFloorsModel" "kept" "[I") f9_wsX10_count_317) (fun _ h9 => h9) rfl dX10_count_166 ?_
    refine lv_iload_n hx hb dX10_count_169 rfl (lv_at hl 1 rfl) ?_
    refine lv_bipush (v := 13) hx hb dX10_count_170 (by decide) ?_
    refine lv_isub hx hb dX10_count_172 ?_
    obtain ⟨r27, h28, h⟩ := dV_some h
    refine dw_ks (va_runS (As := [.int (p1 - 13 : Int32)]) (rest := [.ref (ad 2)]) ⟨hx, hb, hml, hown, hts⟩ (qX10_termAt l D ty eo _ (p1 - 13 : Int32) _ h28) (va_cwS 1 hts gX10_count_X10_termAt rfl rfl rfl hd_X10_termAt ⟨Nat.le_of_ble_eq_true rfl, Nat.le_of_ble_eq_true rfl⟩) (pvS_0 hK hN hE hP hD hS hA) rfl rfl hl.1 rfl (lv_room (Nat.le_of_ble_eq_true rfl)) dX10_count_173 ⟨Nat.le_of_ble_eq_true rfl, Nat.le_of_ble_eq_true rfl⟩) hP hD hS hA (fun _ _ h9 => h9.2.symm) (fun r9 u9 H locs hw hp hd hs => ?_)
    obtain ⟨rfl, -⟩ := hw
    clear hP hD hS
    have hP := hp; have hD := hd; have hS := hs; clear hp hd hs
    obtain ⟨g29, h⟩ := dG_some h
    refine va_iald hx hb hK hP 2 0 rfl rfl (dg_in g29) dX10_count_176 ?_
    obtain ⟨v30, ev30, h⟩ := dL_some h
    refine kz_topi v30 ev30 ?_
    cases h
    exact kz_iret hx hb hr hlocks hP hK hD hS dX10_count_177 ⟨rfl, rfl⟩
  rw [if_neg c26] at h
  by_cases c31 : p1 = 14
  · rw [if_pos c31] at h
    refine lv_tableIn (off := 164) (tgt := 165) hx hb dX10_count_1 (by rw [c31]; decide) (by rw [c31]; decide) (by rw [c31]; decide) (by decide) ?_
    refine lv_aload_n hx hb dX10_count_165 rfl (lv_at hl 0 rfl) ?_
    refine va_get (D := D) (ci := 10) (v := .ref (ad 2)) (C := RX10) (T := TX10) (N := 56) hx hb hts u9_wsX10_count_X10 hown hK hP 0 rfl rfl 2 (by decide) (hts (.fieldLink RX10 28 "TurnedFloorsModel" "kept" "[I") f9_wsX10_count_317) (fun _ h9 => h9) rfl dX10_count_166 ?_
    refine lv_iload_n hx hb dX10_count_169 rfl (lv_at hl 1 rfl) ?_
    refine lv_bipush (v := 13) hx hb dX10_count_170 (by decide) ?_
    refine lv_isub hx hb dX10_count_172 ?_
    obtain ⟨r32, h33, h⟩ := dV_some h
    refine dw_ks (va_runS (As := [.int (p1 - 13 : Int32)]) (rest := [.ref (ad 2)]) ⟨hx, hb, hml, hown, hts⟩ (qX10_termAt l D ty eo _ (p1 - 13 : Int32) _ h33) (va_cwS 1 hts gX10_count_X10_termAt rfl rfl rfl hd_X10_termAt ⟨Nat.le_of_ble_eq_true rfl, Nat.le_of_ble_eq_true rfl⟩) (pvS_0 hK hN hE hP hD hS hA) rfl rfl hl.1 rfl (lv_room (Nat.le_of_ble_eq_true rfl)) dX10_count_173 ⟨Nat.le_of_ble_eq_true rfl, Nat.le_of_ble_eq_true rfl⟩) hP hD hS hA (fun _ _ h9 => h9.2.symm) (fun r9 u9 H locs hw hp hd hs => ?_)
    obtain ⟨rfl, -⟩ := hw
    clear hP hD hS
    have hP := hp; have hD := hd; have hS := hs; clear hp hd hs
    obtain ⟨g34, h⟩ := dG_some h
    refine va_iald hx hb hK hP 2 0 rfl rfl (dg_in g34) dX10_count_176 ?_
    obtain ⟨v35, ev35, h⟩ := dL_some h
    refine kz_topi v35 ev35 ?_
    cases h
    exact kz_iret hx hb hr hlocks hP hK hD hS dX10_count_177 ⟨rfl, rfl⟩
  rw [if_neg c31] at h
  by_cases c36 : p1 = 15
  · rw [if_pos c36] at h
    refine lv_tableIn (off := 164) (tgt := 165) hx hb dX10_count_1 (by rw [c36]; decide) (by rw [c36]; decide) (by rw [c36]; decide) (by decide) ?_
    refine lv_aload_n hx hb dX10_count_165 rfl (lv_at hl 0 rfl) ?_
    refine va_get (D := D) (ci := 10) (v := .ref (ad 2)) (C := RX10) (T := TX10) (N := 56) hx hb hts u9_wsX10_count_X10 hown hK hP 0 rfl rfl 2 (by decide) (hts (.fieldLink RX10 28 "TurnedFloorsModel" "kept" "[I") f9_wsX10_count_317) (fun _ h9 => h9) rfl dX10_count_166 ?_
    refine lv_iload_n hx hb dX10_count_169 rfl (lv_at hl 1 rfl) ?_
    refine lv_bipush (v := 13) hx hb dX10_count_170 (by decide) ?_
    refine lv_isub hx hb dX10_count_172 ?_
    obtain ⟨r37, h38, h⟩ := dV_some h
    refine dw_ks (va_runS (As := [.int (p1 - 13 : Int32)]) (rest := [.ref (ad 2)]) ⟨hx, hb, hml, hown, hts⟩ (qX10_termAt l D ty eo _ (p1 - 13 : Int32) _ h38) (va_cwS 1 hts gX10_count_X10_termAt rfl rfl rfl hd_X10_termAt ⟨Nat.le_of_ble_eq_true rfl, Nat.le_of_ble_eq_true rfl⟩) (pvS_0 hK hN hE hP hD hS hA) rfl rfl hl.1 rfl (lv_room (Nat.le_of_ble_eq_true rfl)) dX10_count_173 ⟨Nat.le_of_ble_eq_true rfl, Nat.le_of_ble_eq_true rfl⟩) hP hD hS hA (fun _ _ h9 => h9.2.symm) (fun r9 u9 H locs hw hp hd hs => ?_)
    obtain ⟨rfl, -⟩ := hw
    clear hP hD hS
    have hP := hp; have hD := hd; have hS := hs; clear hp hd hs
    obtain ⟨g39, h⟩ := dG_some h
    refine va_iald hx hb hK hP 2 0 rfl rfl (dg_in g39) dX10_count_176 ?_
    obtain ⟨v40, ev40, h⟩ := dL_some h
    refine kz_topi v40 ev40 ?_
    cases h
    exact kz_iret hx hb hr hlocks hP hK hD hS dX10_count_177 ⟨rfl, rfl⟩
  rw [if_neg c36] at h
  by_cases c41 : p1 = 16
  · rw [if_pos c41] at h
    refine lv_tableIn (off := 164) (tgt := 165) hx hb dX10_count_1 (by rw [c41]; decide) (by rw [c41]; decide) (by rw [c41]; decide) (by decide) ?_
    refine lv_aload_n hx hb dX10_count_165 rfl (lv_at hl 0 rfl) ?_
    refine va_get (D := D) (ci := 10) (v := .ref (ad 2)) (C := RX10) (T := TX10) (N := 56) hx hb hts u9_wsX10_count_X10 hown hK hP 0 rfl rfl 2 (by decide) (hts (.fieldLink RX10 28 "TurnedFloorsModel" "kept" "[I") f9_wsX10_count_317) (fun _ h9 => h9) rfl dX10_count_166 ?_
    refine lv_iload_n hx hb dX10_count_169 rfl (lv_at hl 1 rfl) ?_
    refine lv_bipush (v := 13) hx hb dX10_count_170 (by decide) ?_
    refine lv_isub hx hb dX10_count_172 ?_
    obtain ⟨r42, h43, h⟩ := dV_some h
    refine dw_ks (va_runS (As := [.int (p1 - 13 : Int32)]) (rest := [.ref (ad 2)]) ⟨hx, hb, hml, hown, hts⟩ (qX10_termAt l D ty eo _ (p1 - 13 : Int32) _ h43) (va_cwS 1 hts gX10_count_X10_termAt rfl rfl rfl hd_X10_termAt ⟨Nat.le_of_ble_eq_true rfl, Nat.le_of_ble_eq_true rfl⟩) (pvS_0 hK hN hE hP hD hS hA) rfl rfl hl.1 rfl (lv_room (Nat.le_of_ble_eq_true rfl)) dX10_count_173 ⟨Nat.le_of_ble_eq_true rfl, Nat.le_of_ble_eq_true rfl⟩) hP hD hS hA (fun _ _ h9 => h9.2.symm) (fun r9 u9 H locs hw hp hd hs => ?_)
    obtain ⟨rfl, -⟩ := hw
    clear hP hD hS
    have hP := hp; have hD := hd; have hS := hs; clear hp hd hs
    obtain ⟨g44, h⟩ := dG_some h
    refine va_iald hx hb hK hP 2 0 rfl rfl (dg_in g44) dX10_count_176 ?_
    obtain ⟨v45, ev45, h⟩ := dL_some h
    refine kz_topi v45 ev45 ?_
    cases h
    exact kz_iret hx hb hr hlocks hP hK hD hS dX10_count_177 ⟨rfl, rfl⟩
  rw [if_neg c41] at h
  by_cases c46 : p1 = 17
  · rw [if_pos c46] at h
    refine lv_tableIn (off := 177) (tgt := 178) hx hb dX10_count_1 (by rw [c46]; decide) (by rw [c46]; decide) (by rw [c46]; decide) (by decide) ?_
    refine lv_aload_n hx hb dX10_count_178 rfl (lv_at hl 0 rfl) ?_
    obtain ⟨r47, q49, h48, h⟩ := dB_some h
    refine dw_ki (va_runV (As := []) (rest := []) ⟨hx, hb, hml, hown, hts⟩ (qX10_isOrderedNow l D ty eo _ ad q  r47 q49 h48) (cwV 0 hts gX10_count_X10_isOrderedNow rfl rfl rfl hd_X10_isOrderedNow_v ⟨Nat.le_of_ble_eq_true rfl, Nat.le_of_ble_eq_true rfl⟩) (pv10_10_0 hK hN hE hP hD hS hA) rfl rfl hl.1 rfl (lv_room (Nat.le_of_ble_eq_true rfl)) dX10_count_179 ⟨Nat.le_of_ble_eq_true rfl, Nat.le_of_ble_eq_true rfl⟩) hD hS hA (fun r9 u9 H locs hw hp hd hs => ?_)
    clear hP hD hS
    obtain ⟨rfl, rfl⟩ := hw
    have hP := hp; have hD := hd; have hS := hs; clear hp hd hs
    refine lv_if_eq (tgt := 189) hx hb dX10_count_182 (by decide) (fun c9 => ?_) (fun c9 => ?_)
    · rw [if_pos c9] at h
      refine lv_iconst (v := 0) hx hb dX10_count_189 (by decide) ?_
      exact WX10_count_190 C  _ _ _ _ _ h hP hD hS (lv_sub hl [] rfl)
    · rw [if_neg c9] at h
      refine lv_iconst (v := 1) hx hb dX10_count_185 (by decide) ?_
      refine lv_goto (tgt := 190) hx hb dX10_count_186 (by decide) ?_
      exact WX10_count_190 C  _ _ _ _ _ h hP hD hS (lv_sub hl [] rfl)
  rw [if_neg c46] at h
  refine lv_tableOut (tgt := 191) hx hb dX10_count_1 (by simp only [← Int32.toInt_inj, Int32.reduceToInt] at c1 c5 c9 c10 c11 c12 c13 c14 c17 c20 c23 c24 c25 c26 c31 c36 c41 c46; omega) (by decide) ?_
  refine lv_iconst (v := (-1)) hx hb dX10_count_191 (by decide) ?_
  cases h
  exact kz_iret hx hb hr hlocks hP hK hD hS dX10_count_192 ⟨rfl, rfl⟩

set_option maxHeartbeats 4000000 in
set_option maxRecDepth 100000 in
theorem qX10_status (l : Launch) (D : va_G) (ty : Nat → ClassId) (eo : Nat → Nat) (sz : Nat) (ad : Nat → Nat) (q : dS)  (o1 : Int32) (o2 : dS) (h : zX10_status q = some (o1, o2)) : Met l yX10_status wsX10_status ({ frames := 0, cells := 0, slots := 0, locals := 0 } : Room) (va_Pc [.ref (ad 0)] (kz_pre D ty eo (w10 ty ad q) sz)) (va_Qi (fun (r : Int32) (u : va_W) => o1 = r ∧ w10 ty ad o2 = u) (kz_B D ty (va_A (w10 ty ad q) sz)) (va_A (w10 ty ad q) sz)) 0 0 (va_A (w10 ty ad q) sz) := by
  refine Met.ofW (cc := cX10_status) (maxL := 1) (ret := (some .int)) (by decide) rfl ?_
  intro p e s m args below meth c s₁ B hml hv
  obtain ⟨rfl, hsz, hP, hK, hD0, hN, hE⟩ := hv
  have hx := B.exec
  have hb := B.bytes
  have hr := B.returns
  have hts := atoms_spec (ws := wsX10_status) B.pre
  have hown : s.vm.findClass RX10 = some m.cls := findClass_of_methodNamed B.named
  have hlocks := B.notSynchronized
  subst hsz
  have hD := hD0.self (sz := s.heap.size)
  generalize hAe : va_A (w10 ty ad q) s.heap.size = A at hD hE ⊢
  have hA : ∀ q : Nat, s.heap.size ≤ q → A q := fun q h => by rw [← hAe]; exact Or.inr h
  clear hAe
  have hS : va_S A s.heap s.heap [] := va_S.rf
  have hl := lv_entry ([.ref (ad 0)]) (n := 1) (Nat.le_of_ble_eq_true rfl)
  rw [lg_entry_eq]
  generalize (lg_sl ([.ref (ad 0)]) ++ List.replicate (1 - (lg_sl ([.ref (ad 0)])).length) Slot.unset).toArray = ls at hl ⊢
  have hl : lv_has ls 1 [(0, .ref (ad 0))] := hl
  have C : dc_C p s m _ meth c cX10_status (some .int) 1 RX10 wsX10_status D ty eo A := ⟨hx, hb, hr, hts, hown, hlocks, hml, hK, hN, hE, hA⟩
  unfold zX10_status at h
  refine lv_aload_n hx hb dX10_status_0 rfl (lv_at hl 0 rfl) ?_
  refine va_get (D := D) (ci := 10) (v := .int (q.1 0 0)) (C := RX10) (T := TX10) (N := 56) hx hb hts u9_wsX10_status_X10 hown hK hP 0 rfl rfl 0 (by decide) (hts (.fieldLink RX10 3 "TurnedFloorsModel" "status" "I") f9_wsX10_status_322) (fun _ h9 => h9) rfl dX10_status_1 ?_
  cases h
  exact kz_iret hx hb hr hlocks hP hK hD hS dX10_status_4 ⟨rfl, rfl⟩
