theorem u9_wsX10_termOf_X10 : ∀ w ∈ u_ws RX10 TX10 56, w ∈ wsX10_termOf := by
  first | exact fun w h => List.mem_cons_of_mem _ (List.mem_append_right _ h) | decide +kernel
theorem f9_wsX10_termOf_57 : (Cond.fieldLink RX10 288 "TurnedFloorsModel" "broken" "Z") ∈ wsX10_termOf := by decide +kernel
theorem f9_wsX10_termOf_58 : (Cond.fieldLink RX10 278 "TurnedFloorsModel" "go" "I") ∈ wsX10_termOf := by decide +kernel
theorem u9_wsX10_sumOf_X10 : ∀ w ∈ u_ws RX10 TX10 56, w ∈ wsX10_sumOf := by
  first | exact fun w h => List.mem_cons_of_mem _ (List.mem_append_right _ h) | decide +kernel
theorem f9_wsX10_sumOf_60 : (Cond.fieldLink RX10 278 "TurnedFloorsModel" "go" "I") ∈ wsX10_sumOf := by decide +kernel
set_option maxHeartbeats 4000000 in
set_option maxRecDepth 100000 in
theorem WX10_termOf_160 {p : Program} {l : Launch} {e : Env} {s : State} {m : MethodId} {args : Array Value} {below : List Frame} {meth : Method} {c : Code} {D : va_G} {ty : Nat → ClassId} {eo : Nat → Nat} {A : Nat → Prop} {ad : Nat → Nat} {o1 : Int64} {o2 : dS} {kU : dS → Int32 → Option (Int64 × dS)} {nU : Nat} (hkU : ∀ (sz : Nat) (q : dS) (p1 : Int32) (o1 : Int64) (o2 : dS), kU q p1 = some (o1, o2) → Met l yX10_sumOf wsX10_sumOf ({ frames := 12 + 3 * nU, cells := 0, slots := 0, locals := 400 + 75 * nU } : Room) (va_Pc [.ref (ad 0), .int p1] (kz_pre D ty eo (w10 ty ad q) sz)) (va_Ql (fun (r : Int64) (u : va_W) => o1 = r ∧ w10 ty ad o2 = u) (kz_B D ty (va_A (w10 ty ad q) sz)) (va_A (w10 ty ad q) sz)) 0 0 (va_A (w10 ty ad q) sz)) (C : dc_C p s m args meth c cX10_termOf (some .long) 7 RX10 wsX10_termOf D ty eo A) {k6 : dS → Int32 → Int64 → Option (Int64 × dS)} (hk6 : ∀ (q : dS) (x1 : Int32) (x2 : Int64) (H : Heap) (locs : List Loc) (ls : Array Slot), k6 q x1 x2 = some (o1, o2) → va_P D vwCl (w10 ty ad q) H → va_D A (w10 ty ad q) → va_S A s.heap H locs → lv_has ls 7 [(0, .ref (ad 0)), (1, .int x1), (2, .long x2)] → W p l e ({ frames := 12 + 3 * nU + 2, cells := 0, slots := 0, locals := 400 + 75 * nU + 49 } : Room) s m args below meth c H locs 0 0 (MQ below (va_Ql (fun (r : Int64) (u : va_W) => o1 = r ∧ w10 ty ad o2 = u) (kz_B D ty A) A) args s 0 0 A) (F0 m 6 ls [])) (q : dS) (x1 : Int32) (y0 : Int64) (H : Heap) (locs : List Loc) (ls : Array Slot) (h : zX10_termOf_160 kU k6 q x1 y0 = some (o1, o2)) (hP : va_P D vwCl (w10 ty ad q) H) (hD : va_D A (w10 ty ad q)) (hS : va_S A s.heap H locs) (hl : lv_has ls 7 [(0, .ref (ad 0)), (1, .int x1)]) : W p l e ({ frames := 12 + 3 * nU + 2, cells := 0, slots := 0, locals := 400 + 75 * nU + 49 } : Room) s m args below meth c H locs 0 0 (MQ below (va_Ql (fun (r : Int64) (u : va_W) => o1 = r ∧ w10 ty ad o2 = u) (kz_B D ty A) A) args s 0 0 A) (F0 m 160 ls [.long y0, .ref (ad 0)]) := by
  have C0 := C
  obtain ⟨hx, hb, hr, hts, hown, hlocks, hml, hK, hN, hE, hA⟩ := C
  unfold zX10_termOf_160 at h
  refine lv_iload_n hx hb dX10_termOf_160 rfl (lv_at hl 1 rfl) ?_
  obtain ⟨r1, q3, h2, h⟩ := dB_some h
  refine dw_kl (va_runV (As := [.long y0, .int x1]) (rest := []) ⟨hx, hb, hml, hown, hts⟩ (qX10_bounded l D ty eo _ ad q y0 x1 r1 q3 h2) (cwV 2 hts gX10_termOf_X10_bounded rfl rfl rfl (by decide +kernel) ⟨by dsimp only [headSpec]; omega, by dsimp only [headSpec]; omega⟩) (dw_preV (ci := 10) (q0 := 0) hK hN hE hP hD hS hA rfl rfl) rfl rfl hl.1 rfl (lv_room (Nat.le_of_ble_eq_true rfl)) dX10_termOf_161 ⟨Nat.le_of_ble_eq_true rfl, Nat.le_of_ble_eq_true rfl⟩) hD hS hA (fun r9 u9 H locs hw hp hd hs => ?_)
  clear hP hD hS
  obtain ⟨rfl, rfl⟩ := hw
  have hP := hp; have hD := hd; have hS := hs; clear hp hd hs
  refine lv_lstore_n (lv' := [(2, .long r1), (0, .ref (ad 0)), (1, .int x1)]) hx hb dX10_termOf_164 rfl hl (by decide) rfl (fun ls hl => ?_)
  refine lv_goto (tgt := 6) hx hb dX10_termOf_165 (by decide) ?_
  exact hk6 _ _ _ _ _ _ h hP hD hS (lv_sub hl [1, 2, 0] rfl)
set_option maxHeartbeats 4000000 in
set_option maxRecDepth 100000 in
theorem WX10_termOf_121 {p : Program} {l : Launch} {e : Env} {s : State} {m : MethodId} {args : Array Value} {below : List Frame} {meth : Method} {c : Code} {D : va_G} {ty : Nat → ClassId} {eo : Nat → Nat} {A : Nat → Prop} {ad : Nat → Nat} {o1 : Int64} {o2 : dS} {kU : dS → Int32 → Option (Int64 × dS)} {nU : Nat} (hkU : ∀ (sz : Nat) (q : dS) (p1 : Int32) (o1 : Int64) (o2 : dS), kU q p1 = some (o1, o2) → Met l yX10_sumOf wsX10_sumOf ({ frames := 12 + 3 * nU, cells := 0, slots := 0, locals := 400 + 75 * nU } : Room) (va_Pc [.ref (ad 0), .int p1] (kz_pre D ty eo (w10 ty ad q) sz)) (va_Ql (fun (r : Int64) (u : va_W) => o1 = r ∧ w10 ty ad o2 = u) (kz_B D ty (va_A (w10 ty ad q) sz)) (va_A (w10 ty ad q) sz)) 0 0 (va_A (w10 ty ad q) sz)) (C : dc_C p s m args meth c cX10_termOf (some .long) 7 RX10 wsX10_termOf D ty eo A) {k6 : dS → Int32 → Int64 → Option (Int64 × dS)} (hk6 : ∀ (q : dS) (x1 : Int32) (x2 : Int64) (H : Heap) (locs : List Loc) (ls : Array Slot), k6 q x1 x2 = some (o1, o2) → va_P D vwCl (w10 ty ad q) H → va_D A (w10 ty ad q) → va_S A s.heap H locs → lv_has ls 7 [(0, .ref (ad 0)), (1, .int x1), (2, .long x2)] → W p l e ({ frames := 12 + 3 * nU + 2, cells := 0, slots := 0, locals := 400 + 75 * nU + 49 } : Room) s m args below meth c H locs 0 0 (MQ below (va_Ql (fun (r : Int64) (u : va_W) => o1 = r ∧ w10 ty ad o2 = u) (kz_B D ty A) A) args s 0 0 A) (F0 m 6 ls [])) (q : dS) (x1 : Int32) (x2 : Int64) (x4 : Int32) (x5 : Int64) (H : Heap) (locs : List Loc) (ls : Array Slot) (h : zX10_termOf_121 kU k6 q x1 x2 x4 x5 = some (o1, o2)) (hP : va_P D vwCl (w10 ty ad q) H) (hD : va_D A (w10 ty ad q)) (hS : va_S A s.heap H locs) (hl : lv_has ls 7 [(0, .ref (ad 0)), (1, .int x1), (2, .long x2), (4, .int x4), (5, .long x5)]) : W p l e ({ frames := 12 + 3 * nU + 2, cells := 0, slots := 0, locals := 400 + 75 * nU + 49 } : Room) s m args below meth c H locs 0 0 (MQ below (va_Ql (fun (r : Int64) (u : va_W) => o1 = r ∧ w10 ty ad o2 = u) (kz_B D ty A) A) args s 0 0 A) (F0 m 121 ls []) := by
  have C0 := C
  obtain ⟨hx, hb, hr, hts, hown, hlocks, hml, hK, hN, hE, hA⟩ := C
  unfold zX10_termOf_121 at h
  refine lv_aload_n hx hb dX10_termOf_121 rfl (lv_at hl 0 rfl) ?_
  refine lv_iload hx hb dX10_termOf_122 (lv_at hl 3 rfl) ?_
  refine lv_bipush (v := 42) hx hb dX10_termOf_124 (by decide) ?_
  obtain ⟨r1, h2, h⟩ := dV_some h
  refine dw_ks (va_runS (As := [.int 42]) (rest := [.int x4, .ref (ad 0)]) ⟨hx, hb, hml, hown, hts⟩ (qX10_sign l D ty eo _ 42 _ h2) (va_cwS 1 hts gX10_termOf_X10_sign rfl rfl rfl (by decide +kernel) ⟨by dsimp only [headSpec]; omega, by dsimp only [headSpec]; omega⟩) (kz_preS hK hN hE hP hD hS hA [] (by decide) rfl) rfl rfl hl.1 rfl (lv_room (Nat.le_of_ble_eq_true rfl)) dX10_termOf_126 ⟨Nat.le_of_ble_eq_true rfl, Nat.le_of_ble_eq_true rfl⟩) hP hD hS hA (fun _ _ h9 => h9.2.symm) (fun r9 u9 H locs hw hp hd hs => ?_)
  obtain ⟨rfl, -⟩ := hw
  clear hP hD hS
  have hP := hp; have hD := hd; have hS := hs; clear hp hd hs
  refine lv_icmp_ne (tgt := 139) hx hb dX10_termOf_129 (by decide) (fun c9 => ?_) (fun c9 => ?_)
  · rw [if_neg c9] at h
    refine lv_iload hx hb dX10_termOf_139 (lv_at hl 3 rfl) ?_
    refine lv_bipush (v := 47) hx hb dX10_termOf_141 (by decide) ?_
    obtain ⟨r3, h4, h⟩ := dV_some h
    refine dw_ks (va_runS (As := [.int 47]) (rest := [.int x4, .ref (ad 0)]) ⟨hx, hb, hml, hown, hts⟩ (qX10_sign l D ty eo _ 47 _ h4) (va_cwS 1 hts gX10_termOf_X10_sign rfl rfl rfl (by decide +kernel) ⟨by dsimp only [headSpec]; omega, by dsimp only [headSpec]; omega⟩) (kz_preS hK hN hE hP hD hS hA [] (by decide) rfl) rfl rfl hl.1 rfl (lv_room (Nat.le_of_ble_eq_true rfl)) dX10_termOf_143 ⟨Nat.le_of_ble_eq_true rfl, Nat.le_of_ble_eq_true rfl⟩) hP hD hS hA (fun _ _ h9 => h9.2.symm) (fun r9 u9 H locs hw hp hd hs => ?_)
    obtain ⟨rfl, -⟩ := hw
    clear hP hD hS
    have hP := hp; have hD := hd; have hS := hs; clear hp hd hs
    refine lv_icmp_ne (tgt := 156) hx hb dX10_termOf_146 (by decide) (fun c9 => ?_) (fun c9 => ?_)
    · rw [if_neg c9] at h
      refine lv_lload_n hx hb dX10_termOf_156 rfl (lv_at hl 2 rfl) ?_
      refine lv_lload hx hb dX10_termOf_157 (lv_at hl 4 rfl) ?_
      obtain ⟨g5, h⟩ := dG_some h
      refine lv_lrem hx hb dX10_termOf_159 (dnl_ne g5) ?_
      exact WX10_termOf_160 hkU C0 hk6 _ _ _ _ _ _ h hP hD hS (lv_sub hl [0, 1] rfl)
    · rw [if_pos c9] at h
      refine lv_lload_n hx hb dX10_termOf_149 rfl (lv_at hl 2 rfl) ?_
      refine lv_lload hx hb dX10_termOf_150 (lv_at hl 4 rfl) ?_
      obtain ⟨g6, h⟩ := dG_some h
      refine lv_ldiv hx hb dX10_termOf_152 (dnl_ne g6) ?_
      refine lv_goto (tgt := 160) hx hb dX10_termOf_153 (by decide) ?_
      exact WX10_termOf_160 hkU C0 hk6 _ _ _ _ _ _ h hP hD hS (lv_sub hl [0, 1] rfl)
  · rw [if_pos c9] at h
    refine lv_lload_n hx hb dX10_termOf_132 rfl (lv_at hl 2 rfl) ?_
    refine lv_lload hx hb dX10_termOf_133 (lv_at hl 4 rfl) ?_
    refine lv_lmul hx hb dX10_termOf_135 ?_
    refine lv_goto (tgt := 160) hx hb dX10_termOf_136 (by decide) ?_
    exact WX10_termOf_160 hkU C0 hk6 _ _ _ _ _ _ h hP hD hS (lv_sub hl [0, 1] rfl)
set_option maxHeartbeats 4000000 in
set_option maxRecDepth 100000 in
theorem WX10_termOf_115 {p : Program} {l : Launch} {e : Env} {s : State} {m : MethodId} {args : Array Value} {below : List Frame} {meth : Method} {c : Code} {D : va_G} {ty : Nat → ClassId} {eo : Nat → Nat} {A : Nat → Prop} {ad : Nat → Nat} {o1 : Int64} {o2 : dS} {kU : dS → Int32 → Option (Int64 × dS)} {nU : Nat} (hkU : ∀ (sz : Nat) (q : dS) (p1 : Int32) (o1 : Int64) (o2 : dS), kU q p1 = some (o1, o2) → Met l yX10_sumOf wsX10_sumOf ({ frames := 12 + 3 * nU, cells := 0, slots := 0, locals := 400 + 75 * nU } : Room) (va_Pc [.ref (ad 0), .int p1] (kz_pre D ty eo (w10 ty ad q) sz)) (va_Ql (fun (r : Int64) (u : va_W) => o1 = r ∧ w10 ty ad o2 = u) (kz_B D ty (va_A (w10 ty ad q) sz)) (va_A (w10 ty ad q) sz)) 0 0 (va_A (w10 ty ad q) sz)) (C : dc_C p s m args meth c cX10_termOf (some .long) 7 RX10 wsX10_termOf D ty eo A) {k6 : dS → Int32 → Int64 → Option (Int64 × dS)} (hk6 : ∀ (q : dS) (x1 : Int32) (x2 : Int64) (H : Heap) (locs : List Loc) (ls : Array Slot), k6 q x1 x2 = some (o1, o2) → va_P D vwCl (w10 ty ad q) H → va_D A (w10 ty ad q) → va_S A s.heap H locs → lv_has ls 7 [(0, .ref (ad 0)), (1, .int x1), (2, .long x2)] → W p l e ({ frames := 12 + 3 * nU + 2, cells := 0, slots := 0, locals := 400 + 75 * nU + 49 } : Room) s m args below meth c H locs 0 0 (MQ below (va_Ql (fun (r : Int64) (u : va_W) => o1 = r ∧ w10 ty ad o2 = u) (kz_B D ty A) A) args s 0 0 A) (F0 m 6 ls [])) (q : dS) (x1 : Int32) (x2 : Int64) (x4 : Int32) (y0 : Int32) (H : Heap) (locs : List Loc) (ls : Array Slot) (h : zX10_termOf_115 kU k6 q x1 x2 x4 y0 = some (o1, o2)) (hP : va_P D vwCl (w10 ty ad q) H) (hD : va_D A (w10 ty ad q)) (hS : va_S A s.heap H locs) (hl : lv_has ls 7 [(0, .ref (ad 0)), (1, .int x1), (2, .long x2), (4, .int x4)]) : W p l e ({ frames := 12 + 3 * nU + 2, cells := 0, slots := 0, locals := 400 + 75 * nU + 49 } : Room) s m args below meth c H locs 0 0 (MQ below (va_Ql (fun (r : Int64) (u : va_W) => o1 = r ∧ w10 ty ad o2 = u) (kz_B D ty A) A) args s 0 0 A) (F0 m 115 ls [.int y0, .ref (ad 0)]) := by
  have C0 := C
  obtain ⟨hx, hb, hr, hts, hown, hlocks, hml, hK, hN, hE, hA⟩ := C
  unfold zX10_termOf_115 at h
  obtain ⟨g1, h⟩ := dG_some h
  refine va_put (D := D) (ci := 10) (v := .int y0) (ty := .boolean) (C := RX10) (T := TX10) (N := 56) hx hb hts u9_wsX10_termOf_X10 tyX10 tyX10_ok nmX10 hown hK hP hD hS 0 rfl rfl 24 (by decide) (hts (.fieldLink RX10 288 "TurnedFloorsModel" "broken" "Z") f9_wsX10_termOf_57) (fun _ h9 => h9) rfl (by decide +kernel) (dbl_nar g1) (dbl_fit g1) (Nat.le_of_ble_eq_true rfl) dX10_termOf_115 (fun H locs hp hd hs => ?_)
  obtain ⟨q2, eq2, h⟩ := dL_some h
  refine kz_re (w2 := w10 ty ad q2) hp hd hs (by rw [← eq2]; exact w10_f24 ty ad q y0) ?_
  clear hp hd hs hP hD hS
  intro hP hD hS
  refine lv_lconst (v := 1) hx hb dX10_termOf_118 (by decide) ?_
  refine lv_lstore (lv' := [(5, .long 1), (0, .ref (ad 0)), (1, .int x1), (2, .long x2), (4, .int x4)]) hx hb dX10_termOf_119 hl (by decide) rfl (fun ls hl => ?_)
  exact WX10_termOf_121 hkU C0 hk6 _ _ _ _ _ _ _ _ h hP hD hS (lv_sub hl [1, 2, 3, 4, 0] rfl)
set_option maxHeartbeats 4000000 in
set_option maxRecDepth 100000 in
theorem WX10_termOf_110 {p : Program} {l : Launch} {e : Env} {s : State} {m : MethodId} {args : Array Value} {below : List Frame} {meth : Method} {c : Code} {D : va_G} {ty : Nat → ClassId} {eo : Nat → Nat} {A : Nat → Prop} {ad : Nat → Nat} {o1 : Int64} {o2 : dS} {kU : dS → Int32 → Option (Int64 × dS)} {nU : Nat} (hkU : ∀ (sz : Nat) (q : dS) (p1 : Int32) (o1 : Int64) (o2 : dS), kU q p1 = some (o1, o2) → Met l yX10_sumOf wsX10_sumOf ({ frames := 12 + 3 * nU, cells := 0, slots := 0, locals := 400 + 75 * nU } : Room) (va_Pc [.ref (ad 0), .int p1] (kz_pre D ty eo (w10 ty ad q) sz)) (va_Ql (fun (r : Int64) (u : va_W) => o1 = r ∧ w10 ty ad o2 = u) (kz_B D ty (va_A (w10 ty ad q) sz)) (va_A (w10 ty ad q) sz)) 0 0 (va_A (w10 ty ad q) sz)) (C : dc_C p s m args meth c cX10_termOf (some .long) 7 RX10 wsX10_termOf D ty eo A) {k6 : dS → Int32 → Int64 → Option (Int64 × dS)} (hk6 : ∀ (q : dS) (x1 : Int32) (x2 : Int64) (H : Heap) (locs : List Loc) (ls : Array Slot), k6 q x1 x2 = some (o1, o2) → va_P D vwCl (w10 ty ad q) H → va_D A (w10 ty ad q) → va_S A s.heap H locs → lv_has ls 7 [(0, .ref (ad 0)), (1, .int x1), (2, .long x2)] → W p l e ({ frames := 12 + 3 * nU + 2, cells := 0, slots := 0, locals := 400 + 75 * nU + 49 } : Room) s m args below meth c H locs 0 0 (MQ below (va_Ql (fun (r : Int64) (u : va_W) => o1 = r ∧ w10 ty ad o2 = u) (kz_B D ty A) A) args s 0 0 A) (F0 m 6 ls [])) (q : dS) (x1 : Int32) (x2 : Int64) (x4 : Int32) (H : Heap) (locs : List Loc) (ls : Array Slot) (h : zX10_termOf_110 kU k6 q x1 x2 x4 = some (o1, o2)) (hP : va_P D vwCl (w10 ty ad q) H) (hD : va_D A (w10 ty ad q)) (hS : va_S A s.heap H locs) (hl : lv_has ls 7 [(0, .ref (ad 0)), (1, .int x1), (2, .long x2), (4, .int x4)]) : W p l e ({ frames := 12 + 3 * nU + 2, cells := 0, slots := 0, locals := 400 + 75 * nU + 49 } : Room) s m args below meth c H locs 0 0 (MQ below (va_Ql (fun (r : Int64) (u : va_W) => o1 = r ∧ w10 ty ad o2 = u) (kz_B D ty A) A) args s 0 0 A) (F0 m 110 ls [.ref (ad 0)]) := by
  have C0 := C
  obtain ⟨hx, hb, hr, hts, hown, hlocks, hml, hK, hN, hE, hA⟩ := C
  unfold zX10_termOf_110 at h
  refine lv_iconst (v := 1) hx hb dX10_termOf_110 (by decide) ?_
  refine lv_goto (tgt := 115) hx hb dX10_termOf_111 (by decide) ?_
  exact WX10_termOf_115 hkU C0 hk6 _ _ _ _ _ _ _ _ h hP hD hS (lv_sub hl [0, 1, 2, 3] rfl)
set_option maxHeartbeats 4000000 in
set_option maxRecDepth 100000 in
theorem WX10_termOf_54 {p : Program} {l : Launch} {e : Env} {s : State} {m : MethodId} {args : Array Value} {below : List Frame} {meth : Method} {c : Code} {D : va_G} {ty : Nat → ClassId} {eo : Nat → Nat} {A : Nat → Prop} {ad : Nat → Nat} {o1 : Int64} {o2 : dS} {kU : dS → Int32 → Option (Int64 × dS)} {nU : Nat} (hkU : ∀ (sz : Nat) (q : dS) (p1 : Int32) (o1 : Int64) (o2 : dS), kU q p1 = some (o1, o2) → Met l yX10_sumOf wsX10_sumOf ({ frames := 12 + 3 * nU, cells := 0, slots := 0, locals := 400 + 75 * nU } : Room) (va_Pc [.ref (ad 0), .int p1] (kz_pre D ty eo (w10 ty ad q) sz)) (va_Ql (fun (r : Int64) (u : va_W) => o1 = r ∧ w10 ty ad o2 = u) (kz_B D ty (va_A (w10 ty ad q) sz)) (va_A (w10 ty ad q) sz)) 0 0 (va_A (w10 ty ad q) sz)) (C : dc_C p s m args meth c cX10_termOf (some .long) 7 RX10 wsX10_termOf D ty eo A) {k6 : dS → Int32 → Int64 → Option (Int64 × dS)} (hk6 : ∀ (q : dS) (x1 : Int32) (x2 : Int64) (H : Heap) (locs : List Loc) (ls : Array Slot), k6 q x1 x2 = some (o1, o2) → va_P D vwCl (w10 ty ad q) H → va_D A (w10 ty ad q) → va_S A s.heap H locs → lv_has ls 7 [(0, .ref (ad 0)), (1, .int x1), (2, .long x2)] → W p l e ({ frames := 12 + 3 * nU + 2, cells := 0, slots := 0, locals := 400 + 75 * nU + 49 } : Room) s m args below meth c H locs 0 0 (MQ below (va_Ql (fun (r : Int64) (u : va_W) => o1 = r ∧ w10 ty ad o2 = u) (kz_B D ty A) A) args s 0 0 A) (F0 m 6 ls [])) (q : dS) (x1 : Int32) (x2 : Int64) (H : Heap) (locs : List Loc) (ls : Array Slot) (h : zX10_termOf_54 kU k6 q x1 x2 = some (o1, o2)) (hP : va_P D vwCl (w10 ty ad q) H) (hD : va_D A (w10 ty ad q)) (hS : va_S A s.heap H locs) (hl : lv_has ls 7 [(0, .ref (ad 0)), (1, .int x1), (2, .long x2)]) : W p l e ({ frames := 12 + 3 * nU + 2, cells := 0, slots := 0, locals := 400 + 75 * nU + 49 } : Room) s m args below meth c H locs 0 0 (MQ below (va_Ql (fun (r : Int64) (u : va_W) => o1 = r ∧ w10 ty ad o2 = u) (kz_B D ty A) A) args s 0 0 A) (F0 m 54 ls []) := by
  have C0 := C
  obtain ⟨hx, hb, hr, hts, hown, hlocks, hml, hK, hN, hE, hA⟩ := C
  unfold zX10_termOf_54 at h
  refine lv_aload_n hx hb dX10_termOf_54 rfl (lv_at hl 0 rfl) ?_
  refine lv_aload_n hx hb dX10_termOf_55 rfl (lv_at hl 0 rfl) ?_
  refine va_get (D := D) (ci := 10) (v := .int (q.1 0 22)) (C := RX10) (T := TX10) (N := 56) hx hb hts u9_wsX10_termOf_X10 hown hK hP 0 rfl rfl 22 (by decide) (hts (.fieldLink RX10 278 "TurnedFloorsModel" "go" "I") f9_wsX10_termOf_58) (fun _ h9 => h9) rfl dX10_termOf_56 ?_
  obtain ⟨r1, q3, h2, h⟩ := dB_some h
  refine dw_ki (va_runV (As := [.int (q.1 0 22)]) (rest := []) ⟨hx, hb, hml, hown, hts⟩ (qX10_codeAt l D ty eo _ ad q (q.1 0 22) r1 q3 h2) (cwV 1 hts gX10_termOf_X10_codeAt rfl rfl rfl (by decide +kernel) ⟨by dsimp only [headSpec]; omega, by dsimp only [headSpec]; omega⟩) (dw_preV (ci := 10) (q0 := 0) hK hN hE hP hD hS hA rfl rfl) rfl rfl hl.1 rfl (lv_room (Nat.le_of_ble_eq_true rfl)) dX10_termOf_59 ⟨Nat.le_of_ble_eq_true rfl, Nat.le_of_ble_eq_true rfl⟩) hD hS hA (fun r9 u9 H locs hw hp hd hs => ?_)
  clear hP hD hS
  obtain ⟨rfl, rfl⟩ := hw
  have hP := hp; have hD := hd; have hS := hs; clear hp hd hs
  refine lv_istore (lv' := [(4, .int r1), (0, .ref (ad 0)), (1, .int x1), (2, .long x2)]) hx hb dX10_termOf_62 hl (by decide) rfl (fun ls hl => ?_)
  refine lv_aload_n hx hb dX10_termOf_64 rfl (lv_at hl 1 rfl) ?_
  refine lv_dup hx hb dX10_termOf_65 rfl ?_
  refine va_get (D := D) (ci := 10) (v := .int (q3.1 0 22)) (C := RX10) (T := TX10) (N := 56) hx hb hts u9_wsX10_termOf_X10 hown hK hP 0 rfl rfl 22 (by decide) (hts (.fieldLink RX10 278 "TurnedFloorsModel" "go" "I") f9_wsX10_termOf_58) (fun _ h9 => h9) rfl dX10_termOf_66 ?_
  refine lv_iconst (v := 1) hx hb dX10_termOf_69 (by decide) ?_
  refine lv_iadd hx hb dX10_termOf_70 ?_
  refine va_put (D := D) (ci := 10) (v := .int ((q3.1 0 22) + 1 : Int32)) (ty := .int) (C := RX10) (T := TX10) (N := 56) hx hb hts u9_wsX10_termOf_X10 tyX10 tyX10_ok nmX10 hown hK hP hD hS 0 rfl rfl 22 (by decide) (hts (.fieldLink RX10 278 "TurnedFloorsModel" "go" "I") f9_wsX10_termOf_58) (fun _ h9 => h9) rfl (by decide +kernel) rfl rfl (Nat.le_of_ble_eq_true rfl) dX10_termOf_71 (fun H locs hp hd hs => ?_)
  obtain ⟨q4, eq4, h⟩ := dL_some h
  refine kz_re (w2 := w10 ty ad q4) hp hd hs (by rw [← eq4]; exact w10_f22 ty ad q3 ((q3.1 0 22) + 1 : Int32)) ?_
  clear hp hd hs hP hD hS
  intro hP hD hS
  refine lv_aload_n hx hb dX10_termOf_74 rfl (lv_at hl 1 rfl) ?_
  refine lv_iload_n hx hb dX10_termOf_75 rfl (lv_at hl 2 rfl) ?_
  obtain ⟨r5, q7, h6, h⟩ := dB_some h
  refine dw_kl (va_runV (As := [.int x1]) (rest := []) ⟨hx, hb, hml, hown, hts⟩ (qX10_partOf l D ty eo _ ad kU nU hkU q4 x1 r5 q7 h6) (cwV 1 hts gX10_termOf_X10_partOf rfl rfl rfl (by decide +kernel) ⟨by dsimp only [headSpec]; omega, by dsimp only [headSpec]; omega⟩) (dw_preV (ci := 10) (q0 := 0) hK hN hE hP hD hS hA rfl rfl) rfl rfl hl.1 rfl (lv_room (Nat.le_of_ble_eq_true rfl)) dX10_termOf_76 ⟨Nat.le_of_ble_eq_true rfl, Nat.le_of_ble_eq_true rfl⟩) hD hS hA (fun r9 u9 H locs hw hp hd hs => ?_)
  clear hP hD hS
  obtain ⟨rfl, rfl⟩ := hw
  have hP := hp; have hD := hd; have hS := hs; clear hp hd hs
  refine lv_lstore (lv' := [(5, .long r5), (4, .int r1), (0, .ref (ad 0)), (1, .int x1), (2, .long x2)]) hx hb dX10_termOf_79 hl (by decide) rfl (fun ls hl => ?_)
  refine lv_iload hx hb dX10_termOf_81 (lv_at hl 1 rfl) ?_
  refine lv_bipush (v := 42) hx hb dX10_termOf_83 (by decide) ?_
  obtain ⟨r8, h9, h⟩ := dV_some h
  refine dw_ks (va_runS (As := [.int 42]) (rest := [.int r1]) ⟨hx, hb, hml, hown, hts⟩ (qX10_sign l D ty eo _ 42 _ h9) (va_cwS 1 hts gX10_termOf_X10_sign rfl rfl rfl (by decide +kernel) ⟨by dsimp only [headSpec]; omega, by dsimp only [headSpec]; omega⟩) (kz_preS hK hN hE hP hD hS hA [] (by decide) rfl) rfl rfl hl.1 rfl (lv_room (Nat.le_of_ble_eq_true rfl)) dX10_termOf_85 ⟨Nat.le_of_ble_eq_true rfl, Nat.le_of_ble_eq_true rfl⟩) hP hD hS hA (fun _ _ h9 => h9.2.symm) (fun r9 u9 H locs hw hp hd hs => ?_)
  obtain ⟨rfl, -⟩ := hw
  clear hP hD hS
  have hP := hp; have hD := hd; have hS := hs; clear hp hd hs
  refine lv_icmp_eq (tgt := 121) hx hb dX10_termOf_88 (by decide) (fun c9 => ?_) (fun c9 => ?_)
  · rw [if_pos c9] at h
    exact WX10_termOf_121 hkU C0 hk6 _ _ _ _ _ _ _ _ h hP hD hS (lv_sub hl [2, 3, 4, 1, 0] rfl)
  · rw [if_neg c9] at h
    refine lv_lload hx hb dX10_termOf_91 (lv_at hl 0 rfl) ?_
    refine lv_lconst (v := 0) hx hb dX10_termOf_93 (by decide) ?_
    refine W.lcmp hx hb dX10_termOf_94 ?_
    refine lv_if_ne (tgt := 121) hx hb dX10_termOf_95 (by decide) (fun c9 => ?_) (fun c9 => ?_)
    · rw [if_neg c9] at h
      exact WX10_termOf_121 hkU C0 hk6 _ _ _ _ _ _ _ _ h hP hD hS (lv_sub hl [2, 3, 4, 1, 0] rfl)
    · rw [if_pos c9] at h
      refine lv_aload_n hx hb dX10_termOf_98 rfl (lv_at hl 2 rfl) ?_
      refine lv_aload_n hx hb dX10_termOf_99 rfl (lv_at hl 2 rfl) ?_
      refine va_get (D := D) (ci := 10) (v := .int (q7.1 0 24)) (C := RX10) (T := TX10) (N := 56) hx hb hts u9_wsX10_termOf_X10 hown hK hP 0 rfl rfl 24 (by decide) (hts (.fieldLink RX10 288 "TurnedFloorsModel" "broken" "Z") f9_wsX10_termOf_57) (fun _ h9 => h9) rfl dX10_termOf_100 ?_
      refine lv_if_ne (tgt := 110) hx hb dX10_termOf_103 (by decide) (fun c9 => ?_) (fun c9 => ?_)
      · rw [if_neg c9] at h
        exact WX10_termOf_110 hkU C0 hk6 _ _ _ _ _ _ _ h hP hD hS (lv_sub hl [2, 3, 4, 1] rfl)
      · rw [if_pos c9] at h
        refine lv_iload_n hx hb dX10_termOf_106 rfl (lv_at hl 3 rfl) ?_
        refine lv_if_eq (tgt := 114) hx hb dX10_termOf_107 (by decide) (fun c9 => ?_) (fun c9 => ?_)
        · rw [if_pos c9] at h
          refine lv_iconst (v := 0) hx hb dX10_termOf_114 (by decide) ?_
          exact WX10_termOf_115 hkU C0 hk6 _ _ _ _ _ _ _ _ h hP hD hS (lv_sub hl [2, 3, 4, 1] rfl)
        · rw [if_neg c9] at h
          exact WX10_termOf_110 hkU C0 hk6 _ _ _ _ _ _ _ h hP hD hS (lv_sub hl [2, 3, 4, 1] rfl)
set_option maxHeartbeats 4000000 in
set_option maxRecDepth 100000 in
theorem WX10_termOf_6b {p : Program} {l : Launch} {e : Env} {s : State} {m : MethodId} {args : Array Value} {below : List Frame} {meth : Method} {c : Code} {D : va_G} {ty : Nat → ClassId} {eo : Nat → Nat} {A : Nat → Prop} {ad : Nat → Nat} {o1 : Int64} {o2 : dS} {kU : dS → Int32 → Option (Int64 × dS)} {nU : Nat} (hkU : ∀ (sz : Nat) (q : dS) (p1 : Int32) (o1 : Int64) (o2 : dS), kU q p1 = some (o1, o2) → Met l yX10_sumOf wsX10_sumOf ({ frames := 12 + 3 * nU, cells := 0, slots := 0, locals := 400 + 75 * nU } : Room) (va_Pc [.ref (ad 0), .int p1] (kz_pre D ty eo (w10 ty ad q) sz)) (va_Ql (fun (r : Int64) (u : va_W) => o1 = r ∧ w10 ty ad o2 = u) (kz_B D ty (va_A (w10 ty ad q) sz)) (va_A (w10 ty ad q) sz)) 0 0 (va_A (w10 ty ad q) sz)) (C : dc_C p s m args meth c cX10_termOf (some .long) 7 RX10 wsX10_termOf D ty eo A) {k6 : dS → Int32 → Int64 → Option (Int64 × dS)} (hk6 : ∀ (q : dS) (x1 : Int32) (x2 : Int64) (H : Heap) (locs : List Loc) (ls : Array Slot), k6 q x1 x2 = some (o1, o2) → va_P D vwCl (w10 ty ad q) H → va_D A (w10 ty ad q) → va_S A s.heap H locs → lv_has ls 7 [(0, .ref (ad 0)), (1, .int x1), (2, .long x2)] → W p l e ({ frames := 12 + 3 * nU + 2, cells := 0, slots := 0, locals := 400 + 75 * nU + 49 } : Room) s m args below meth c H locs 0 0 (MQ below (va_Ql (fun (r : Int64) (u : va_W) => o1 = r ∧ w10 ty ad o2 = u) (kz_B D ty A) A) args s 0 0 A) (F0 m 6 ls [])) (q : dS) (x1 : Int32) (x2 : Int64) (H : Heap) (locs : List Loc) (ls : Array Slot) (h : zX10_termOf_6b kU k6 q x1 x2 = some (o1, o2)) (hP : va_P D vwCl (w10 ty ad q) H) (hD : va_D A (w10 ty ad q)) (hS : va_S A s.heap H locs) (hl : lv_has ls 7 [(0, .ref (ad 0)), (1, .int x1), (2, .long x2)]) : W p l e ({ frames := 12 + 3 * nU + 2, cells := 0, slots := 0, locals := 400 + 75 * nU + 49 } : Room) s m args below meth c H locs 0 0 (MQ below (va_Ql (fun (r : Int64) (u : va_W) => o1 = r ∧ w10 ty ad o2 = u) (kz_B D ty A) A) args s 0 0 A) (F0 m 6 ls []) := by
  have C0 := C
  obtain ⟨hx, hb, hr, hts, hown, hlocks, hml, hK, hN, hE, hA⟩ := C
  unfold zX10_termOf_6b at h
  refine lv_aload_n hx hb dX10_termOf_6 rfl (lv_at hl 0 rfl) ?_
  refine lv_aload_n hx hb dX10_termOf_7 rfl (lv_at hl 0 rfl) ?_
  refine va_get (D := D) (ci := 10) (v := .int (q.1 0 22)) (C := RX10) (T := TX10) (N := 56) hx hb hts u9_wsX10_termOf_X10 hown hK hP 0 rfl rfl 22 (by decide) (hts (.fieldLink RX10 278 "TurnedFloorsModel" "go" "I") f9_wsX10_termOf_58) (fun _ h9 => h9) rfl dX10_termOf_8 ?_
  obtain ⟨r1, q3, h2, h⟩ := dB_some h
  refine dw_ki (va_runV (As := [.int (q.1 0 22)]) (rest := []) ⟨hx, hb, hml, hown, hts⟩ (qX10_codeAt l D ty eo _ ad q (q.1 0 22) r1 q3 h2) (cwV 1 hts gX10_termOf_X10_codeAt rfl rfl rfl (by decide +kernel) ⟨by dsimp only [headSpec]; omega, by dsimp only [headSpec]; omega⟩) (dw_preV (ci := 10) (q0 := 0) hK hN hE hP hD hS hA rfl rfl) rfl rfl hl.1 rfl (lv_room (Nat.le_of_ble_eq_true rfl)) dX10_termOf_11 ⟨Nat.le_of_ble_eq_true rfl, Nat.le_of_ble_eq_true rfl⟩) hD hS hA (fun r9 u9 H locs hw hp hd hs => ?_)
  clear hP hD hS
  obtain ⟨rfl, rfl⟩ := hw
  have hP := hp; have hD := hd; have hS := hs; clear hp hd hs
  refine lv_bipush (v := 42) hx hb dX10_termOf_14 (by decide) ?_
  obtain ⟨r4, h5, h⟩ := dV_some h
  refine dw_ks (va_runS (As := [.int 42]) (rest := [.int r1]) ⟨hx, hb, hml, hown, hts⟩ (qX10_sign l D ty eo _ 42 _ h5) (va_cwS 1 hts gX10_termOf_X10_sign rfl rfl rfl (by decide +kernel) ⟨by dsimp only [headSpec]; omega, by dsimp only [headSpec]; omega⟩) (kz_preS hK hN hE hP hD hS hA [] (by decide) rfl) rfl rfl hl.1 rfl (lv_room (Nat.le_of_ble_eq_true rfl)) dX10_termOf_16 ⟨Nat.le_of_ble_eq_true rfl, Nat.le_of_ble_eq_true rfl⟩) hP hD hS hA (fun _ _ h9 => h9.2.symm) (fun r9 u9 H locs hw hp hd hs => ?_)
  obtain ⟨rfl, -⟩ := hw
  clear hP hD hS
  have hP := hp; have hD := hd; have hS := hs; clear hp hd hs
  refine lv_icmp_eq (tgt := 54) hx hb dX10_termOf_19 (by decide) (fun c9 => ?_) (fun c9 => ?_)
  · rw [if_pos c9] at h
    exact WX10_termOf_54 hkU C0 hk6 _ _ _ _ _ _ h hP hD hS (lv_sub hl [0, 1, 2] rfl)
  · rw [if_neg c9] at h
    refine lv_aload_n hx hb dX10_termOf_22 rfl (lv_at hl 0 rfl) ?_
    refine lv_aload_n hx hb dX10_termOf_23 rfl (lv_at hl 0 rfl) ?_
    refine va_get (D := D) (ci := 10) (v := .int (q3.1 0 22)) (C := RX10) (T := TX10) (N := 56) hx hb hts u9_wsX10_termOf_X10 hown hK hP 0 rfl rfl 22 (by decide) (hts (.fieldLink RX10 278 "TurnedFloorsModel" "go" "I") f9_wsX10_termOf_58) (fun _ h9 => h9) rfl dX10_termOf_24 ?_
    obtain ⟨r6, q8, h7, h⟩ := dB_some h
    refine dw_ki (va_runV (As := [.int (q3.1 0 22)]) (rest := []) ⟨hx, hb, hml, hown, hts⟩ (qX10_codeAt l D ty eo _ ad q3 (q3.1 0 22) r6 q8 h7) (cwV 1 hts gX10_termOf_X10_codeAt rfl rfl rfl (by decide +kernel) ⟨by dsimp only [headSpec]; omega, by dsimp only [headSpec]; omega⟩) (dw_preV (ci := 10) (q0 := 0) hK hN hE hP hD hS hA rfl rfl) rfl rfl hl.1 rfl (lv_room (Nat.le_of_ble_eq_true rfl)) dX10_termOf_27 ⟨Nat.le_of_ble_eq_true rfl, Nat.le_of_ble_eq_true rfl⟩) hD hS hA (fun r9 u9 H locs hw hp hd hs => ?_)
    clear hP hD hS
    obtain ⟨rfl, rfl⟩ := hw
    have hP := hp; have hD := hd; have hS := hs; clear hp hd hs
    refine lv_bipush (v := 47) hx hb dX10_termOf_30 (by decide) ?_
    obtain ⟨r9, h10, h⟩ := dV_some h
    refine dw_ks (va_runS (As := [.int 47]) (rest := [.int r6]) ⟨hx, hb, hml, hown, hts⟩ (qX10_sign l D ty eo _ 47 _ h10) (va_cwS 1 hts gX10_termOf_X10_sign rfl rfl rfl (by decide +kernel) ⟨by dsimp only [headSpec]; omega, by dsimp only [headSpec]; omega⟩) (kz_preS hK hN hE hP hD hS hA [] (by decide) rfl) rfl rfl hl.1 rfl (lv_room (Nat.le_of_ble_eq_true rfl)) dX10_termOf_32 ⟨Nat.le_of_ble_eq_true rfl, Nat.le_of_ble_eq_true rfl⟩) hP hD hS hA (fun _ _ h9 => h9.2.symm) (fun r9 u9 H locs hw hp hd hs => ?_)
    obtain ⟨rfl, -⟩ := hw
    clear hP hD hS
    have hP := hp; have hD := hd; have hS := hs; clear hp hd hs
    refine lv_icmp_eq (tgt := 54) hx hb dX10_termOf_35 (by decide) (fun c9 => ?_) (fun c9 => ?_)
    · rw [if_pos c9] at h
      exact WX10_termOf_54 hkU C0 hk6 _ _ _ _ _ _ h hP hD hS (lv_sub hl [0, 1, 2] rfl)
    · rw [if_neg c9] at h
      refine lv_aload_n hx hb dX10_termOf_38 rfl (lv_at hl 0 rfl) ?_
      refine lv_aload_n hx hb dX10_termOf_39 rfl (lv_at hl 0 rfl) ?_
      refine va_get (D := D) (ci := 10) (v := .int (q8.1 0 22)) (C := RX10) (T := TX10) (N := 56) hx hb hts u9_wsX10_termOf_X10 hown hK hP 0 rfl rfl 22 (by decide) (hts (.fieldLink RX10 278 "TurnedFloorsModel" "go" "I") f9_wsX10_termOf_58) (fun _ h9 => h9) rfl dX10_termOf_40 ?_
      obtain ⟨r11, q13, h12, h⟩ := dB_some h
      refine dw_ki (va_runV (As := [.int (q8.1 0 22)]) (rest := []) ⟨hx, hb, hml, hown, hts⟩ (qX10_codeAt l D ty eo _ ad q8 (q8.1 0 22) r11 q13 h12) (cwV 1 hts gX10_termOf_X10_codeAt rfl rfl rfl (by decide +kernel) ⟨by dsimp only [headSpec]; omega, by dsimp only [headSpec]; omega⟩) (dw_preV (ci := 10) (q0 := 0) hK hN hE hP hD hS hA rfl rfl) rfl rfl hl.1 rfl (lv_room (Nat.le_of_ble_eq_true rfl)) dX10_termOf_43 ⟨Nat.le_of_ble_eq_true rfl, Nat.le_of_ble_eq_true rfl⟩) hD hS hA (fun r9 u9 H locs hw hp hd hs => ?_)
      clear hP hD hS
      obtain ⟨rfl, rfl⟩ := hw
      have hP := hp; have hD := hd; have hS := hs; clear hp hd hs
      refine lv_bipush (v := 37) hx hb dX10_termOf_46 (by decide) ?_
      obtain ⟨r14, h15, h⟩ := dV_some h
      refine dw_ks (va_runS (As := [.int 37]) (rest := [.int r11]) ⟨hx, hb, hml, hown, hts⟩ (qX10_sign l D ty eo _ 37 _ h15) (va_cwS 1 hts gX10_termOf_X10_sign rfl rfl rfl (by decide +kernel) ⟨by dsimp only [headSpec]; omega, by dsimp only [headSpec]; omega⟩) (kz_preS hK hN hE hP hD hS hA [] (by decide) rfl) rfl rfl hl.1 rfl (lv_room (Nat.le_of_ble_eq_true rfl)) dX10_termOf_48 ⟨Nat.le_of_ble_eq_true rfl, Nat.le_of_ble_eq_true rfl⟩) hP hD hS hA (fun _ _ h9 => h9.2.symm) (fun r9 u9 H locs hw hp hd hs => ?_)
      obtain ⟨rfl, -⟩ := hw
      clear hP hD hS
      have hP := hp; have hD := hd; have hS := hs; clear hp hd hs
      refine lv_icmp_ne (tgt := 168) hx hb dX10_termOf_51 (by decide) (fun c9 => ?_) (fun c9 => ?_)
      · rw [if_neg c9] at h
        refine lv_lload_n hx hb dX10_termOf_168 rfl (lv_at hl 2 rfl) ?_
        cases h
        exact kz_lret hx hb hr hlocks hP hK hD hS dX10_termOf_169 ⟨rfl, rfl⟩
      · rw [if_pos c9] at h
        exact WX10_termOf_54 hkU C0 hk6 _ _ _ _ _ _ h hP hD hS (lv_sub hl [0, 1, 2] rfl)
set_option maxHeartbeats 4000000 in
set_option maxRecDepth 100000 in
theorem WX10_termOf_6 {p : Program} {l : Launch} {e : Env} {s : State} {m : MethodId} {args : Array Value} {below : List Frame} {meth : Method} {c : Code} {D : va_G} {ty : Nat → ClassId} {eo : Nat → Nat} {A : Nat → Prop} {ad : Nat → Nat} {o1 : Int64} {o2 : dS} {kU : dS → Int32 → Option (Int64 × dS)} {nU : Nat} (hkU : ∀ (sz : Nat) (q : dS) (p1 : Int32) (o1 : Int64) (o2 : dS), kU q p1 = some (o1, o2) → Met l yX10_sumOf wsX10_sumOf ({ frames := 12 + 3 * nU, cells := 0, slots := 0, locals := 400 + 75 * nU } : Room) (va_Pc [.ref (ad 0), .int p1] (kz_pre D ty eo (w10 ty ad q) sz)) (va_Ql (fun (r : Int64) (u : va_W) => o1 = r ∧ w10 ty ad o2 = u) (kz_B D ty (va_A (w10 ty ad q) sz)) (va_A (w10 ty ad q) sz)) 0 0 (va_A (w10 ty ad q) sz)) (C : dc_C p s m args meth c cX10_termOf (some .long) 7 RX10 wsX10_termOf D ty eo A)   (n : Nat) (q : dS) (x1 : Int32) (x2 : Int64) (H : Heap) (locs : List Loc) (ls : Array Slot) (h : zX10_termOf_6 kU  n q x1 x2 = some (o1, o2)) (hP : va_P D vwCl (w10 ty ad q) H) (hD : va_D A (w10 ty ad q)) (hS : va_S A s.heap H locs) (hl : lv_has ls 7 [(0, .ref (ad 0)), (1, .int x1), (2, .long x2)]) : W p l e ({ frames := 12 + 3 * nU + 2, cells := 0, slots := 0, locals := 400 + 75 * nU + 49 } : Room) s m args below meth c H locs 0 0 (MQ below (va_Ql (fun (r : Int64) (u : va_W) => o1 = r ∧ w10 ty ad o2 = u) (kz_B D ty A) A) args s 0 0 A) (F0 m 6 ls []) := by
  exact dFix_W (F := fun k (a : dS × Int32 × Int64) => zX10_termOf_6b kU  (fun q x1 x2 => k (q, x1, x2)) a.1 a.2.1 a.2.2) (o := (o1, o2)) (P := fun (a : dS × Int32 × Int64) H locs ls => va_P D vwCl (w10 ty ad a.1) H ∧ va_D A (w10 ty ad a.1) ∧ va_S A s.heap H locs ∧ lv_has ls 7 [(0, .ref (ad 0)), (1, .int a.2.1), (2, .long a.2.2)]) (G := fun H locs ls => W p l e ({ frames := 12 + 3 * nU + 2, cells := 0, slots := 0, locals := 400 + 75 * nU + 49 } : Room) s m args below meth c H locs 0 0 (MQ below (va_Ql (fun (r : Int64) (u : va_W) => o1 = r ∧ w10 ty ad o2 = u) (kz_B D ty A) A) args s 0 0 A) (F0 m 6 ls []))
    (fun k hk a H locs ls h hp => WX10_termOf_6b hkU C  (fun q x1 x2 H locs ls h h1 h2 h3 h4 => hk (q, x1, x2) H locs ls h ⟨h1, h2, h3, h4⟩) a.1 a.2.1 a.2.2 H locs ls h hp.1 hp.2.1 hp.2.2.1 hp.2.2.2) n (q, x1, x2) H locs ls h ⟨hP, hD, hS, hl⟩
set_option maxHeartbeats 4000000 in
set_option maxRecDepth 100000 in
theorem qX10_termOf (l : Launch) (D : va_G) (ty : Nat → ClassId) (eo : Nat → Nat) (sz : Nat) (ad : Nat → Nat) (kU : dS → Int32 → Option (Int64 × dS)) (nU : Nat) (hkU : ∀ (sz : Nat) (q : dS) (p1 : Int32) (o1 : Int64) (o2 : dS), kU q p1 = some (o1, o2) → Met l yX10_sumOf wsX10_sumOf ({ frames := 12 + 3 * nU, cells := 0, slots := 0, locals := 400 + 75 * nU } : Room) (va_Pc [.ref (ad 0), .int p1] (kz_pre D ty eo (w10 ty ad q) sz)) (va_Ql (fun (r : Int64) (u : va_W) => o1 = r ∧ w10 ty ad o2 = u) (kz_B D ty (va_A (w10 ty ad q) sz)) (va_A (w10 ty ad q) sz)) 0 0 (va_A (w10 ty ad q) sz)) (q : dS) (p1 : Int32) (o1 : Int64) (o2 : dS) (h : zX10_termOf kU q p1 = some (o1, o2)) : Met l yX10_termOf wsX10_termOf ({ frames := 12 + 3 * nU + 2, cells := 0, slots := 0, locals := 400 + 75 * nU + 49 } : Room) (va_Pc [.ref (ad 0), .int p1] (kz_pre D ty eo (w10 ty ad q) sz)) (va_Ql (fun (r : Int64) (u : va_W) => o1 = r ∧ w10 ty ad o2 = u) (kz_B D ty (va_A (w10 ty ad q) sz)) (va_A (w10 ty ad q) sz)) 0 0 (va_A (w10 ty ad q) sz) := by
  refine Met.ofW (cc := cX10_termOf) (maxL := 7) (ret := (some .long)) (by decide) rfl ?_
  intro p e s m args below meth c s₁ B hml hv
  obtain ⟨rfl, hsz, hP, hK, hD0, hN, hE⟩ := hv
  have hx := B.exec
  have hb := B.bytes
  have hr := B.returns
  have hts := atoms_spec (ws := wsX10_termOf) B.pre
  have hown : s.vm.findClass RX10 = some m.cls := findClass_of_methodNamed B.named
  have hlocks := B.notSynchronized
  subst hsz
  have hD := hD0.self (sz := s.heap.size)
  generalize hAe : va_A (w10 ty ad q) s.heap.size = A at hD hE ⊢
  have hA : ∀ q : Nat, s.heap.size ≤ q → A q := fun q h => by rw [← hAe]; exact Or.inr h
  clear hAe
  have hS : va_S A s.heap s.heap [] := va_S.rf
  have hl := lv_entry ([.ref (ad 0), .int p1]) (n := 7) (Nat.le_of_ble_eq_true rfl)
  rw [lg_entry_eq]
  generalize (lg_sl ([.ref (ad 0), .int p1]) ++ List.replicate (7 - (lg_sl ([.ref (ad 0), .int p1])).length) Slot.unset).toArray = ls at hl ⊢
  have hl : lv_has ls 7 [(0, .ref (ad 0)), (1, .int p1)] := hl
  have C : dc_C p s m _ meth c cX10_termOf (some .long) 7 RX10 wsX10_termOf D ty eo A := ⟨hx, hb, hr, hts, hown, hlocks, hml, hK, hN, hE, hA⟩
  unfold zX10_termOf at h
  refine lv_aload_n hx hb dX10_termOf_0 rfl (lv_at hl 0 rfl) ?_
  refine lv_iload_n hx hb dX10_termOf_1 rfl (lv_at hl 1 rfl) ?_
  obtain ⟨r1, q3, h2, h⟩ := dB_some h
  refine dw_kl (va_runV (As := [.int p1]) (rest := []) ⟨hx, hb, hml, hown, hts⟩ (qX10_partOf l D ty eo _ ad kU nU hkU q p1 r1 q3 h2) (cwV 1 hts gX10_termOf_X10_partOf rfl rfl rfl (by decide +kernel) ⟨by dsimp only [headSpec]; omega, by dsimp only [headSpec]; omega⟩) (dw_preV (ci := 10) (q0 := 0) hK hN hE hP hD hS hA rfl rfl) rfl rfl hl.1 rfl (lv_room (Nat.le_of_ble_eq_true rfl)) dX10_termOf_2 ⟨Nat.le_of_ble_eq_true rfl, Nat.le_of_ble_eq_true rfl⟩) hD hS hA (fun r9 u9 H locs hw hp hd hs => ?_)
  clear hP hD hS
  obtain ⟨rfl, rfl⟩ := hw
  have hP := hp; have hD := hd; have hS := hs; clear hp hd hs
  refine lv_lstore_n (lv' := [(2, .long r1), (0, .ref (ad 0)), (1, .int p1)]) hx hb dX10_termOf_5 rfl hl (by decide) rfl (fun ls hl => ?_)
  exact WX10_termOf_6 hkU C  _ _ _ _ _ _ _ h hP hD hS (lv_sub hl [1, 2, 0] rfl)

set_option maxHeartbeats 4000000 in
set_option maxRecDepth 100000 in
theorem WX10_sumOf_95 {p : Program} {l : Launch} {e : Env} {s : State} {m : MethodId} {args : Array Value} {below : List Frame} {meth : Method} {c : Code} {D : va_G} {ty : Nat → ClassId} {eo : Nat → Nat} {A : Nat → Prop} {ad : Nat → Nat} {o1 : Int64} {o2 : dS} {kU : dS → Int32 → Option (Int64 × dS)} {nU : Nat} (hkU : ∀ (sz : Nat) (q : dS) (p1 : Int32) (o1 : Int64) (o2 : dS), kU q p1 = some (o1, o2) → Met l yX10_sumOf wsX10_sumOf ({ frames := 12 + 3 * nU, cells := 0, slots := 0, locals := 400 + 75 * nU } : Room) (va_Pc [.ref (ad 0), .int p1] (kz_pre D ty eo (w10 ty ad q) sz)) (va_Ql (fun (r : Int64) (u : va_W) => o1 = r ∧ w10 ty ad o2 = u) (kz_B D ty (va_A (w10 ty ad q) sz)) (va_A (w10 ty ad q) sz)) 0 0 (va_A (w10 ty ad q) sz)) (C : dc_C p s m args meth c cX10_sumOf (some .long) 7 RX10 wsX10_sumOf D ty eo A) {k6 : dS → Int32 → Int64 → Option (Int64 × dS)} (hk6 : ∀ (q : dS) (x1 : Int32) (x2 : Int64) (H : Heap) (locs : List Loc) (ls : Array Slot), k6 q x1 x2 = some (o1, o2) → va_P D vwCl (w10 ty ad q) H → va_D A (w10 ty ad q) → va_S A s.heap H locs → lv_has ls 7 [(0, .ref (ad 0)), (1, .int x1), (2, .long x2)] → W p l e ({ frames := 12 + 3 * nU + 3, cells := 0, slots := 0, locals := 400 + 75 * nU + 75 } : Room) s m args below meth c H locs 0 0 (MQ below (va_Ql (fun (r : Int64) (u : va_W) => o1 = r ∧ w10 ty ad o2 = u) (kz_B D ty A) A) args s 0 0 A) (F0 m 6 ls [])) (q : dS) (x1 : Int32) (y0 : Int64) (H : Heap) (locs : List Loc) (ls : Array Slot) (h : zX10_sumOf_95 kU k6 q x1 y0 = some (o1, o2)) (hP : va_P D vwCl (w10 ty ad q) H) (hD : va_D A (w10 ty ad q)) (hS : va_S A s.heap H locs) (hl : lv_has ls 7 [(0, .ref (ad 0)), (1, .int x1)]) : W p l e ({ frames := 12 + 3 * nU + 3, cells := 0, slots := 0, locals := 400 + 75 * nU + 75 } : Room) s m args below meth c H locs 0 0 (MQ below (va_Ql (fun (r : Int64) (u : va_W) => o1 = r ∧ w10 ty ad o2 = u) (kz_B D ty A) A) args s 0 0 A) (F0 m 95 ls [.long y0, .ref (ad 0)]) := by
  have C0 := C
  obtain ⟨hx, hb, hr, hts, hown, hlocks, hml, hK, hN, hE, hA⟩ := C
  unfold zX10_sumOf_95 at h
  refine lv_iload_n hx hb dX10_sumOf_95 rfl (lv_at hl 1 rfl) ?_
  obtain ⟨r1, q3, h2, h⟩ := dB_some h
  refine dw_kl (va_runV (As := [.long y0, .int x1]) (rest := []) ⟨hx, hb, hml, hown, hts⟩ (qX10_bounded l D ty eo _ ad q y0 x1 r1 q3 h2) (cwV 2 hts gX10_sumOf_X10_bounded rfl rfl rfl (by decide +kernel) ⟨by dsimp only [headSpec]; omega, by dsimp only [headSpec]; omega⟩) (dw_preV (ci := 10) (q0 := 0) hK hN hE hP hD hS hA rfl rfl) rfl rfl hl.1 rfl (lv_room (Nat.le_of_ble_eq_true rfl)) dX10_sumOf_96 ⟨Nat.le_of_ble_eq_true rfl, Nat.le_of_ble_eq_true rfl⟩) hD hS hA (fun r9 u9 H locs hw hp hd hs => ?_)
  clear hP hD hS
  obtain ⟨rfl, rfl⟩ := hw
  have hP := hp; have hD := hd; have hS := hs; clear hp hd hs
  refine lv_lstore_n (lv' := [(2, .long r1), (0, .ref (ad 0)), (1, .int x1)]) hx hb dX10_sumOf_99 rfl hl (by decide) rfl (fun ls hl => ?_)
  refine lv_goto (tgt := 6) hx hb dX10_sumOf_100 (by decide) ?_
  exact hk6 _ _ _ _ _ _ h hP hD hS (lv_sub hl [1, 2, 0] rfl)
set_option maxHeartbeats 4000000 in
set_option maxRecDepth 100000 in
theorem WX10_sumOf_59 {p : Program} {l : Launch} {e : Env} {s : State} {m : MethodId} {args : Array Value} {below : List Frame} {meth : Method} {c : Code} {D : va_G} {ty : Nat → ClassId} {eo : Nat → Nat} {A : Nat → Prop} {ad : Nat → Nat} {o1 : Int64} {o2 : dS} {kU : dS → Int32 → Option (Int64 × dS)} {nU : Nat} (hkU : ∀ (sz : Nat) (q : dS) (p1 : Int32) (o1 : Int64) (o2 : dS), kU q p1 = some (o1, o2) → Met l yX10_sumOf wsX10_sumOf ({ frames := 12 + 3 * nU, cells := 0, slots := 0, locals := 400 + 75 * nU } : Room) (va_Pc [.ref (ad 0), .int p1] (kz_pre D ty eo (w10 ty ad q) sz)) (va_Ql (fun (r : Int64) (u : va_W) => o1 = r ∧ w10 ty ad o2 = u) (kz_B D ty (va_A (w10 ty ad q) sz)) (va_A (w10 ty ad q) sz)) 0 0 (va_A (w10 ty ad q) sz)) (C : dc_C p s m args meth c cX10_sumOf (some .long) 7 RX10 wsX10_sumOf D ty eo A) {k6 : dS → Int32 → Int64 → Option (Int64 × dS)} (hk6 : ∀ (q : dS) (x1 : Int32) (x2 : Int64) (H : Heap) (locs : List Loc) (ls : Array Slot), k6 q x1 x2 = some (o1, o2) → va_P D vwCl (w10 ty ad q) H → va_D A (w10 ty ad q) → va_S A s.heap H locs → lv_has ls 7 [(0, .ref (ad 0)), (1, .int x1), (2, .long x2)] → W p l e ({ frames := 12 + 3 * nU + 3, cells := 0, slots := 0, locals := 400 + 75 * nU + 75 } : Room) s m args below meth c H locs 0 0 (MQ below (va_Ql (fun (r : Int64) (u : va_W) => o1 = r ∧ w10 ty ad o2 = u) (kz_B D ty A) A) args s 0 0 A) (F0 m 6 ls [])) (q : dS) (x1 : Int32) (x2 : Int64) (y0 : Int32) (H : Heap) (locs : List Loc) (ls : Array Slot) (h : zX10_sumOf_59 kU k6 q x1 x2 y0 = some (o1, o2)) (hP : va_P D vwCl (w10 ty ad q) H) (hD : va_D A (w10 ty ad q)) (hS : va_S A s.heap H locs) (hl : lv_has ls 7 [(0, .ref (ad 0)), (1, .int x1), (2, .long x2)]) : W p l e ({ frames := 12 + 3 * nU + 3, cells := 0, slots := 0, locals := 400 + 75 * nU + 75 } : Room) s m args below meth c H locs 0 0 (MQ below (va_Ql (fun (r : Int64) (u : va_W) => o1 = r ∧ w10 ty ad o2 = u) (kz_B D ty A) A) args s 0 0 A) (F0 m 59 ls [.int y0]) := by
  have C0 := C
  obtain ⟨hx, hb, hr, hts, hown, hlocks, hml, hK, hN, hE, hA⟩ := C
  unfold zX10_sumOf_59 at h
  refine lv_istore (lv' := [(4, .int y0), (0, .ref (ad 0)), (1, .int x1), (2, .long x2)]) hx hb dX10_sumOf_59 hl (by decide) rfl (fun ls hl => ?_)
  refine lv_aload_n hx hb dX10_sumOf_61 rfl (lv_at hl 1 rfl) ?_
  refine lv_dup hx hb dX10_sumOf_62 rfl ?_
  refine va_get (D := D) (ci := 10) (v := .int (q.1 0 22)) (C := RX10) (T := TX10) (N := 56) hx hb hts u9_wsX10_sumOf_X10 hown hK hP 0 rfl rfl 22 (by decide) (hts (.fieldLink RX10 278 "TurnedFloorsModel" "go" "I") f9_wsX10_sumOf_60) (fun _ h9 => h9) rfl dX10_sumOf_63 ?_
  refine lv_iconst (v := 1) hx hb dX10_sumOf_66 (by decide) ?_
  refine lv_iadd hx hb dX10_sumOf_67 ?_
  refine va_put (D := D) (ci := 10) (v := .int ((q.1 0 22) + 1 : Int32)) (ty := .int) (C := RX10) (T := TX10) (N := 56) hx hb hts u9_wsX10_sumOf_X10 tyX10 tyX10_ok nmX10 hown hK hP hD hS 0 rfl rfl 22 (by decide) (hts (.fieldLink RX10 278 "TurnedFloorsModel" "go" "I") f9_wsX10_sumOf_60) (fun _ h9 => h9) rfl (by decide +kernel) rfl rfl (Nat.le_of_ble_eq_true rfl) dX10_sumOf_68 (fun H locs hp hd hs => ?_)
  obtain ⟨q1, eq1, h⟩ := dL_some h
  refine kz_re (w2 := w10 ty ad q1) hp hd hs (by rw [← eq1]; exact w10_f22 ty ad q ((q.1 0 22) + 1 : Int32)) ?_
  clear hp hd hs hP hD hS
  intro hP hD hS
  refine lv_aload_n hx hb dX10_sumOf_71 rfl (lv_at hl 1 rfl) ?_
  refine lv_iload_n hx hb dX10_sumOf_72 rfl (lv_at hl 2 rfl) ?_
  obtain ⟨r2, q4, h3, h⟩ := dB_some h
  refine dw_kl (va_runV (As := [.int x1]) (rest := []) ⟨hx, hb, hml, hown, hts⟩ (qX10_termOf l D ty eo _ ad kU nU hkU q1 x1 r2 q4 h3) (cwV 1 hts gX10_sumOf_X10_termOf rfl rfl rfl (by decide +kernel) ⟨by dsimp only [headSpec]; omega, by dsimp only [headSpec]; omega⟩) (dw_preV (ci := 10) (q0 := 0) hK hN hE hP hD hS hA rfl rfl) rfl rfl hl.1 rfl (lv_room (Nat.le_of_ble_eq_true rfl)) dX10_sumOf_73 ⟨Nat.le_of_ble_eq_true rfl, Nat.le_of_ble_eq_true rfl⟩) hD hS hA (fun r9 u9 H locs hw hp hd hs => ?_)
  clear hP hD hS
  obtain ⟨rfl, rfl⟩ := hw
  have hP := hp; have hD := hd; have hS := hs; clear hp hd hs
  refine lv_lstore (lv' := [(5, .long r2), (4, .int y0), (0, .ref (ad 0)), (1, .int x1), (2, .long x2)]) hx hb dX10_sumOf_76 hl (by decide) rfl (fun ls hl => ?_)
  refine lv_aload_n hx hb dX10_sumOf_78 rfl (lv_at hl 2 rfl) ?_
  refine lv_iload hx hb dX10_sumOf_79 (lv_at hl 1 rfl) ?_
  refine lv_if_eq (tgt := 91) hx hb dX10_sumOf_81 (by decide) (fun c9 => ?_) (fun c9 => ?_)
  · rw [if_pos c9] at h
    refine lv_lload_n hx hb dX10_sumOf_91 rfl (lv_at hl 4 rfl) ?_
    refine lv_lload hx hb dX10_sumOf_92 (lv_at hl 0 rfl) ?_
    refine lv_lsub hx hb dX10_sumOf_94 ?_
    exact WX10_sumOf_95 hkU C0 hk6 _ _ _ _ _ _ h hP hD hS (lv_sub hl [2, 3] rfl)
  · rw [if_neg c9] at h
    refine lv_lload_n hx hb dX10_sumOf_84 rfl (lv_at hl 4 rfl) ?_
    refine lv_lload hx hb dX10_sumOf_85 (lv_at hl 0 rfl) ?_
    refine lv_ladd hx hb dX10_sumOf_87 ?_
    refine lv_goto (tgt := 95) hx hb dX10_sumOf_88 (by decide) ?_
    exact WX10_sumOf_95 hkU C0 hk6 _ _ _ _ _ _ h hP hD hS (lv_sub hl [2, 3] rfl)
set_option maxHeartbeats 4000000 in
set_option maxRecDepth 100000 in
theorem WX10_sumOf_38 {p : Program} {l : Launch} {e : Env} {s : State} {m : MethodId} {args : Array Value} {below : List Frame} {meth : Method} {c : Code} {D : va_G} {ty : Nat → ClassId} {eo : Nat → Nat} {A : Nat → Prop} {ad : Nat → Nat} {o1 : Int64} {o2 : dS} {kU : dS → Int32 → Option (Int64 × dS)} {nU : Nat} (hkU : ∀ (sz : Nat) (q : dS) (p1 : Int32) (o1 : Int64) (o2 : dS), kU q p1 = some (o1, o2) → Met l yX10_sumOf wsX10_sumOf ({ frames := 12 + 3 * nU, cells := 0, slots := 0, locals := 400 + 75 * nU } : Room) (va_Pc [.ref (ad 0), .int p1] (kz_pre D ty eo (w10 ty ad q) sz)) (va_Ql (fun (r : Int64) (u : va_W) => o1 = r ∧ w10 ty ad o2 = u) (kz_B D ty (va_A (w10 ty ad q) sz)) (va_A (w10 ty ad q) sz)) 0 0 (va_A (w10 ty ad q) sz)) (C : dc_C p s m args meth c cX10_sumOf (some .long) 7 RX10 wsX10_sumOf D ty eo A) {k6 : dS → Int32 → Int64 → Option (Int64 × dS)} (hk6 : ∀ (q : dS) (x1 : Int32) (x2 : Int64) (H : Heap) (locs : List Loc) (ls : Array Slot), k6 q x1 x2 = some (o1, o2) → va_P D vwCl (w10 ty ad q) H → va_D A (w10 ty ad q) → va_S A s.heap H locs → lv_has ls 7 [(0, .ref (ad 0)), (1, .int x1), (2, .long x2)] → W p l e ({ frames := 12 + 3 * nU + 3, cells := 0, slots := 0, locals := 400 + 75 * nU + 75 } : Room) s m args below meth c H locs 0 0 (MQ below (va_Ql (fun (r : Int64) (u : va_W) => o1 = r ∧ w10 ty ad o2 = u) (kz_B D ty A) A) args s 0 0 A) (F0 m 6 ls [])) (q : dS) (x1 : Int32) (x2 : Int64) (H : Heap) (locs : List Loc) (ls : Array Slot) (h : zX10_sumOf_38 kU k6 q x1 x2 = some (o1, o2)) (hP : va_P D vwCl (w10 ty ad q) H) (hD : va_D A (w10 ty ad q)) (hS : va_S A s.heap H locs) (hl : lv_has ls 7 [(0, .ref (ad 0)), (1, .int x1), (2, .long x2)]) : W p l e ({ frames := 12 + 3 * nU + 3, cells := 0, slots := 0, locals := 400 + 75 * nU + 75 } : Room) s m args below meth c H locs 0 0 (MQ below (va_Ql (fun (r : Int64) (u : va_W) => o1 = r ∧ w10 ty ad o2 = u) (kz_B D ty A) A) args s 0 0 A) (F0 m 38 ls []) := by
  have C0 := C
  obtain ⟨hx, hb, hr, hts, hown, hlocks, hml, hK, hN, hE, hA⟩ := C
  unfold zX10_sumOf_38 at h
  refine lv_aload_n hx hb dX10_sumOf_38 rfl (lv_at hl 0 rfl) ?_
  refine lv_aload_n hx hb dX10_sumOf_39 rfl (lv_at hl 0 rfl) ?_
  refine va_get (D := D) (ci := 10) (v := .int (q.1 0 22)) (C := RX10) (T := TX10) (N := 56) hx hb hts u9_wsX10_sumOf_X10 hown hK hP 0 rfl rfl 22 (by decide) (hts (.fieldLink RX10 278 "TurnedFloorsModel" "go" "I") f9_wsX10_sumOf_60) (fun _ h9 => h9) rfl dX10_sumOf_40 ?_
  obtain ⟨r1, q3, h2, h⟩ := dB_some h
  refine dw_ki (va_runV (As := [.int (q.1 0 22)]) (rest := []) ⟨hx, hb, hml, hown, hts⟩ (qX10_codeAt l D ty eo _ ad q (q.1 0 22) r1 q3 h2) (cwV 1 hts gX10_sumOf_X10_codeAt rfl rfl rfl (by decide +kernel) ⟨by dsimp only [headSpec]; omega, by dsimp only [headSpec]; omega⟩) (dw_preV (ci := 10) (q0 := 0) hK hN hE hP hD hS hA rfl rfl) rfl rfl hl.1 rfl (lv_room (Nat.le_of_ble_eq_true rfl)) dX10_sumOf_43 ⟨Nat.le_of_ble_eq_true rfl, Nat.le_of_ble_eq_true rfl⟩) hD hS hA (fun r9 u9 H locs hw hp hd hs => ?_)
  clear hP hD hS
  obtain ⟨rfl, rfl⟩ := hw
  have hP := hp; have hD := hd; have hS := hs; clear hp hd hs
  refine lv_bipush (v := 43) hx hb dX10_sumOf_46 (by decide) ?_
  obtain ⟨r4, h5, h⟩ := dV_some h
  refine dw_ks (va_runS (As := [.int 43]) (rest := [.int r1]) ⟨hx, hb, hml, hown, hts⟩ (qX10_sign l D ty eo _ 43 _ h5) (va_cwS 1 hts gX10_sumOf_X10_sign rfl rfl rfl (by decide +kernel) ⟨by dsimp only [headSpec]; omega, by dsimp only [headSpec]; omega⟩) (kz_preS hK hN hE hP hD hS hA [] (by decide) rfl) rfl rfl hl.1 rfl (lv_room (Nat.le_of_ble_eq_true rfl)) dX10_sumOf_48 ⟨Nat.le_of_ble_eq_true rfl, Nat.le_of_ble_eq_true rfl⟩) hP hD hS hA (fun _ _ h9 => h9.2.symm) (fun r9 u9 H locs hw hp hd hs => ?_)
  obtain ⟨rfl, -⟩ := hw
  clear hP hD hS
  have hP := hp; have hD := hd; have hS := hs; clear hp hd hs
  refine lv_icmp_ne (tgt := 58) hx hb dX10_sumOf_51 (by decide) (fun c9 => ?_) (fun c9 => ?_)
  · rw [if_neg c9] at h
    refine lv_iconst (v := 0) hx hb dX10_sumOf_58 (by decide) ?_
    exact WX10_sumOf_59 hkU C0 hk6 _ _ _ _ _ _ _ h hP hD hS (lv_sub hl [0, 1, 2] rfl)
  · rw [if_pos c9] at h
    refine lv_iconst (v := 1) hx hb dX10_sumOf_54 (by decide) ?_
    refine lv_goto (tgt := 59) hx hb dX10_sumOf_55 (by decide) ?_
    exact WX10_sumOf_59 hkU C0 hk6 _ _ _ _ _ _ _ h hP hD hS (lv_sub hl [0, 1, 2] rfl)
set_option maxHeartbeats 4000000 in
set_option maxRecDepth 100000 in
theorem WX10_sumOf_6b {p : Program} {l : Launch} {e : Env} {s : State} {m : MethodId} {args : Array Value} {below : List Frame} {meth : Method} {c : Code} {D : va_G} {ty : Nat → ClassId} {eo : Nat → Nat} {A : Nat → Prop} {ad : Nat → Nat} {o1 : Int64} {o2 : dS} {kU : dS → Int32 → Option (Int64 × dS)} {nU : Nat} (hkU : ∀ (sz : Nat) (q : dS) (p1 : Int32) (o1 : Int64) (o2 : dS), kU q p1 = some (o1, o2) → Met l yX10_sumOf wsX10_sumOf ({ frames := 12 + 3 * nU, cells := 0, slots := 0, locals := 400 + 75 * nU } : Room) (va_Pc [.ref (ad 0), .int p1] (kz_pre D ty eo (w10 ty ad q) sz)) (va_Ql (fun (r : Int64) (u : va_W) => o1 = r ∧ w10 ty ad o2 = u) (kz_B D ty (va_A (w10 ty ad q) sz)) (va_A (w10 ty ad q) sz)) 0 0 (va_A (w10 ty ad q) sz)) (C : dc_C p s m args meth c cX10_sumOf (some .long) 7 RX10 wsX10_sumOf D ty eo A) {k6 : dS → Int32 → Int64 → Option (Int64 × dS)} (hk6 : ∀ (q : dS) (x1 : Int32) (x2 : Int64) (H : Heap) (locs : List Loc) (ls : Array Slot), k6 q x1 x2 = some (o1, o2) → va_P D vwCl (w10 ty ad q) H → va_D A (w10 ty ad q) → va_S A s.heap H locs → lv_has ls 7 [(0, .ref (ad 0)), (1, .int x1), (2, .long x2)] → W p l e ({ frames := 12 + 3 * nU + 3, cells := 0, slots := 0, locals := 400 + 75 * nU + 75 } : Room) s m args below meth c H locs 0 0 (MQ below (va_Ql (fun (r : Int64) (u : va_W) => o1 = r ∧ w10 ty ad o2 = u) (kz_B D ty A) A) args s 0 0 A) (F0 m 6 ls [])) (q : dS) (x1 : Int32) (x2 : Int64) (H : Heap) (locs : List Loc) (ls : Array Slot) (h : zX10_sumOf_6b kU k6 q x1 x2 = some (o1, o2)) (hP : va_P D vwCl (w10 ty ad q) H) (hD : va_D A (w10 ty ad q)) (hS : va_S A s.heap H locs) (hl : lv_has ls 7 [(0, .ref (ad 0)), (1, .int x1), (2, .long x2)]) : W p l e ({ frames := 12 + 3 * nU + 3, cells := 0, slots := 0, locals := 400 + 75 * nU + 75 } : Room) s m args below meth c H locs 0 0 (MQ below (va_Ql (fun (r : Int64) (u : va_W) => o1 = r ∧ w10 ty ad o2 = u) (kz_B D ty A) A) args s 0 0 A) (F0 m 6 ls []) := by
  have C0 := C
  obtain ⟨hx, hb, hr, hts, hown, hlocks, hml, hK, hN, hE, hA⟩ := C
  unfold zX10_sumOf_6b at h
  refine lv_aload_n hx hb dX10_sumOf_6 rfl (lv_at hl 0 rfl) ?_
  refine lv_aload_n hx hb dX10_sumOf_7 rfl (lv_at hl 0 rfl) ?_
  refine va_get (D := D) (ci := 10) (v := .int (q.1 0 22)) (C := RX10) (T := TX10) (N := 56) hx hb hts u9_wsX10_sumOf_X10 hown hK hP 0 rfl rfl 22 (by decide) (hts (.fieldLink RX10 278 "TurnedFloorsModel" "go" "I") f9_wsX10_sumOf_60) (fun _ h9 => h9) rfl dX10_sumOf_8 ?_
  obtain ⟨r1, q3, h2, h⟩ := dB_some h
  refine dw_ki (va_runV (As := [.int (q.1 0 22)]) (rest := []) ⟨hx, hb, hml, hown, hts⟩ (qX10_codeAt l D ty eo _ ad q (q.1 0 22) r1 q3 h2) (cwV 1 hts gX10_sumOf_X10_codeAt rfl rfl rfl (by decide +kernel) ⟨by dsimp only [headSpec]; omega, by dsimp only [headSpec]; omega⟩) (dw_preV (ci := 10) (q0 := 0) hK hN hE hP hD hS hA rfl rfl) rfl rfl hl.1 rfl (lv_room (Nat.le_of_ble_eq_true rfl)) dX10_sumOf_11 ⟨Nat.le_of_ble_eq_true rfl, Nat.le_of_ble_eq_true rfl⟩) hD hS hA (fun r9 u9 H locs hw hp hd hs => ?_)
  clear hP hD hS
  obtain ⟨rfl, rfl⟩ := hw
  have hP := hp; have hD := hd; have hS := hs; clear hp hd hs
  refine lv_bipush (v := 43) hx hb dX10_sumOf_14 (by decide) ?_
  obtain ⟨r4, h5, h⟩ := dV_some h
  refine dw_ks (va_runS (As := [.int 43]) (rest := [.int r1]) ⟨hx, hb, hml, hown, hts⟩ (qX10_sign l D ty eo _ 43 _ h5) (va_cwS 1 hts gX10_sumOf_X10_sign rfl rfl rfl (by decide +kernel) ⟨by dsimp only [headSpec]; omega, by dsimp only [headSpec]; omega⟩) (kz_preS hK hN hE hP hD hS hA [] (by decide) rfl) rfl rfl hl.1 rfl (lv_room (Nat.le_of_ble_eq_true rfl)) dX10_sumOf_16 ⟨Nat.le_of_ble_eq_true rfl, Nat.le_of_ble_eq_true rfl⟩) hP hD hS hA (fun _ _ h9 => h9.2.symm) (fun r9 u9 H locs hw hp hd hs => ?_)
  obtain ⟨rfl, -⟩ := hw
  clear hP hD hS
  have hP := hp; have hD := hd; have hS := hs; clear hp hd hs
  refine lv_icmp_eq (tgt := 38) hx hb dX10_sumOf_19 (by decide) (fun c9 => ?_) (fun c9 => ?_)
  · rw [if_pos c9] at h
    exact WX10_sumOf_38 hkU C0 hk6 _ _ _ _ _ _ h hP hD hS (lv_sub hl [0, 1, 2] rfl)
  · rw [if_neg c9] at h
    refine lv_aload_n hx hb dX10_sumOf_22 rfl (lv_at hl 0 rfl) ?_
    refine lv_aload_n hx hb dX10_sumOf_23 rfl (lv_at hl 0 rfl) ?_
    refine va_get (D := D) (ci := 10) (v := .int (q3.1 0 22)) (C := RX10) (T := TX10) (N := 56) hx hb hts u9_wsX10_sumOf_X10 hown hK hP 0 rfl rfl 22 (by decide) (hts (.fieldLink RX10 278 "TurnedFloorsModel" "go" "I") f9_wsX10_sumOf_60) (fun _ h9 => h9) rfl dX10_sumOf_24 ?_
    obtain ⟨r6, q8, h7, h⟩ := dB_some h
    refine dw_ki (va_runV (As := [.int (q3.1 0 22)]) (rest := []) ⟨hx, hb, hml, hown, hts⟩ (qX10_codeAt l D ty eo _ ad q3 (q3.1 0 22) r6 q8 h7) (cwV 1 hts gX10_sumOf_X10_codeAt rfl rfl rfl (by decide +kernel) ⟨by dsimp only [headSpec]; omega, by dsimp only [headSpec]; omega⟩) (dw_preV (ci := 10) (q0 := 0) hK hN hE hP hD hS hA rfl rfl) rfl rfl hl.1 rfl (lv_room (Nat.le_of_ble_eq_true rfl)) dX10_sumOf_27 ⟨Nat.le_of_ble_eq_true rfl, Nat.le_of_ble_eq_true rfl⟩) hD hS hA (fun r9 u9 H locs hw hp hd hs => ?_)
    clear hP hD hS
    obtain ⟨rfl, rfl⟩ := hw
    have hP := hp; have hD := hd; have hS := hs; clear hp hd hs
    refine lv_bipush (v := 45) hx hb dX10_sumOf_30 (by decide) ?_
    obtain ⟨r9, h10, h⟩ := dV_some h
    refine dw_ks (va_runS (As := [.int 45]) (rest := [.int r6]) ⟨hx, hb, hml, hown, hts⟩ (qX10_sign l D ty eo _ 45 _ h10) (va_cwS 1 hts gX10_sumOf_X10_sign rfl rfl rfl (by decide +kernel) ⟨by dsimp only [headSpec]; omega, by dsimp only [headSpec]; omega⟩) (kz_preS hK hN hE hP hD hS hA [] (by decide) rfl) rfl rfl hl.1 rfl (lv_room (Nat.le_of_ble_eq_true rfl)) dX10_sumOf_32 ⟨Nat.le_of_ble_eq_true rfl, Nat.le_of_ble_eq_true rfl⟩) hP hD hS hA (fun _ _ h9 => h9.2.symm) (fun r9 u9 H locs hw hp hd hs => ?_)
    obtain ⟨rfl, -⟩ := hw
    clear hP hD hS
    have hP := hp; have hD := hd; have hS := hs; clear hp hd hs
    refine lv_icmp_ne (tgt := 103) hx hb dX10_sumOf_35 (by decide) (fun c9 => ?_) (fun c9 => ?_)
    · rw [if_neg c9] at h
      refine lv_lload_n hx hb dX10_sumOf_103 rfl (lv_at hl 2 rfl) ?_
      cases h
      exact kz_lret hx hb hr hlocks hP hK hD hS dX10_sumOf_104 ⟨rfl, rfl⟩
    · rw [if_pos c9] at h
      exact WX10_sumOf_38 hkU C0 hk6 _ _ _ _ _ _ h hP hD hS (lv_sub hl [0, 1, 2] rfl)
set_option maxHeartbeats 4000000 in
set_option maxRecDepth 100000 in
theorem WX10_sumOf_6 {p : Program} {l : Launch} {e : Env} {s : State} {m : MethodId} {args : Array Value} {below : List Frame} {meth : Method} {c : Code} {D : va_G} {ty : Nat → ClassId} {eo : Nat → Nat} {A : Nat → Prop} {ad : Nat → Nat} {o1 : Int64} {o2 : dS} {kU : dS → Int32 → Option (Int64 × dS)} {nU : Nat} (hkU : ∀ (sz : Nat) (q : dS) (p1 : Int32) (o1 : Int64) (o2 : dS), kU q p1 = some (o1, o2) → Met l yX10_sumOf wsX10_sumOf ({ frames := 12 + 3 * nU, cells := 0, slots := 0, locals := 400 + 75 * nU } : Room) (va_Pc [.ref (ad 0), .int p1] (kz_pre D ty eo (w10 ty ad q) sz)) (va_Ql (fun (r : Int64) (u : va_W) => o1 = r ∧ w10 ty ad o2 = u) (kz_B D ty (va_A (w10 ty ad q) sz)) (va_A (w10 ty ad q) sz)) 0 0 (va_A (w10 ty ad q) sz)) (C : dc_C p s m args meth c cX10_sumOf (some .long) 7 RX10 wsX10_sumOf D ty eo A)   (n : Nat) (q : dS) (x1 : Int32) (x2 : Int64) (H : Heap) (locs : List Loc) (ls : Array Slot) (h : zX10_sumOf_6 kU  n q x1 x2 = some (o1, o2)) (hP : va_P D vwCl (w10 ty ad q) H) (hD : va_D A (w10 ty ad q)) (hS : va_S A s.heap H locs) (hl : lv_has ls 7 [(0, .ref (ad 0)), (1, .int x1), (2, .long x2)]) : W p l e ({ frames := 12 + 3 * nU + 3, cells := 0, slots := 0, locals := 400 + 75 * nU + 75 } : Room) s m args below meth c H locs 0 0 (MQ below (va_Ql (fun (r : Int64) (u : va_W) => o1 = r ∧ w10 ty ad o2 = u) (kz_B D ty A) A) args s 0 0 A) (F0 m 6 ls []) := by
  exact dFix_W (F := fun k (a : dS × Int32 × Int64) => zX10_sumOf_6b kU  (fun q x1 x2 => k (q, x1, x2)) a.1 a.2.1 a.2.2) (o := (o1, o2)) (P := fun (a : dS × Int32 × Int64) H locs ls => va_P D vwCl (w10 ty ad a.1) H ∧ va_D A (w10 ty ad a.1) ∧ va_S A s.heap H locs ∧ lv_has ls 7 [(0, .ref (ad 0)), (1, .int a.2.1), (2, .long a.2.2)]) (G := fun H locs ls => W p l e ({ frames := 12 + 3 * nU + 3, cells := 0, slots := 0, locals := 400 + 75 * nU + 75 } : Room) s m args below meth c H locs 0 0 (MQ below (va_Ql (fun (r : Int64) (u : va_W) => o1 = r ∧ w10 ty ad o2 = u) (kz_B D ty A) A) args s 0 0 A) (F0 m 6 ls []))
    (fun k hk a H locs ls h hp => WX10_sumOf_6b hkU C  (fun q x1 x2 H locs ls h h1 h2 h3 h4 => hk (q, x1, x2) H locs ls h ⟨h1, h2, h3, h4⟩) a.1 a.2.1 a.2.2 H locs ls h hp.1 hp.2.1 hp.2.2.1 hp.2.2.2) n (q, x1, x2) H locs ls h ⟨hP, hD, hS, hl⟩
set_option maxHeartbeats 4000000 in
set_option maxRecDepth 100000 in
theorem qX10_sumOf_o (l : Launch) (D : va_G) (ty : Nat → ClassId) (eo : Nat → Nat) (sz : Nat) (ad : Nat → Nat) (kU : dS → Int32 → Option (Int64 × dS)) (nU : Nat) (hkU : ∀ (sz : Nat) (q : dS) (p1 : Int32) (o1 : Int64) (o2 : dS), kU q p1 = some (o1, o2) → Met l yX10_sumOf wsX10_sumOf ({ frames := 12 + 3 * nU, cells := 0, slots := 0, locals := 400 + 75 * nU } : Room) (va_Pc [.ref (ad 0), .int p1] (kz_pre D ty eo (w10 ty ad q) sz)) (va_Ql (fun (r : Int64) (u : va_W) => o1 = r ∧ w10 ty ad o2 = u) (kz_B D ty (va_A (w10 ty ad q) sz)) (va_A (w10 ty ad q) sz)) 0 0 (va_A (w10 ty ad q) sz)) (q : dS) (p1 : Int32) (o1 : Int64) (o2 : dS) (h : zX10_sumOf_o kU q p1 = some (o1, o2)) : Met l yX10_sumOf wsX10_sumOf ({ frames := 12 + 3 * nU + 3, cells := 0, slots := 0, locals := 400 + 75 * nU + 75 } : Room) (va_Pc [.ref (ad 0), .int p1] (kz_pre D ty eo (w10 ty ad q) sz)) (va_Ql (fun (r : Int64) (u : va_W) => o1 = r ∧ w10 ty ad o2 = u) (kz_B D ty (va_A (w10 ty ad q) sz)) (va_A (w10 ty ad q) sz)) 0 0 (va_A (w10 ty ad q) sz) := by
  refine Met.ofW (cc := cX10_sumOf) (maxL := 7) (ret := (some .long)) (by decide) rfl ?_
  intro p e s m args below meth c s₁ B hml hv
  obtain ⟨rfl, hsz, hP, hK, hD0, hN, hE⟩ := hv
  have hx := B.exec
  have hb := B.bytes
  have hr := B.returns
  have hts := atoms_spec (ws := wsX10_sumOf) B.pre
  have hown : s.vm.findClass RX10 = some m.cls := findClass_of_methodNamed B.named
  have hlocks := B.notSynchronized
  subst hsz
  have hD := hD0.self (sz := s.heap.size)
  generalize hAe : va_A (w10 ty ad q) s.heap.size = A at hD hE ⊢
  have hA : ∀ q : Nat, s.heap.size ≤ q → A q := fun q h => by rw [← hAe]; exact Or.inr h
  clear hAe
  have hS : va_S A s.heap s.heap [] := va_S.rf
  have hl := lv_entry ([.ref (ad 0), .int p1]) (n := 7) (Nat.le_of_ble_eq_true rfl)
  rw [lg_entry_eq]
  generalize (lg_sl ([.ref (ad 0), .int p1]) ++ List.replicate (7 - (lg_sl ([.ref (ad 0), .int p1])).length) Slot.unset).toArray = ls at hl ⊢
  have hl : lv_has ls 7 [(0, .ref (ad 0)), (1, .int p1)] := hl
  have C : dc_C p s m _ meth c cX10_sumOf (some .long) 7 RX10 wsX10_sumOf D ty eo A := ⟨hx, hb, hr, hts, hown, hlocks, hml, hK, hN, hE, hA⟩
  unfold zX10_sumOf_o at h
  refine lv_aload_n hx hb dX10_sumOf_0 rfl (lv_at hl 0 rfl) ?_
  refine lv_iload_n hx hb dX10_sumOf_1 rfl (lv_at hl 1 rfl) ?_
  obtain ⟨r1, q3, h2, h⟩ := dB_some h
  refine dw_kl (va_runV (As := [.int p1]) (rest := []) ⟨hx, hb, hml, hown, hts⟩ (qX10_termOf l D ty eo _ ad kU nU hkU q p1 r1 q3 h2) (cwV 1 hts gX10_sumOf_X10_termOf rfl rfl rfl (by decide +kernel) ⟨by dsimp only [headSpec]; omega, by dsimp only [headSpec]; omega⟩) (dw_preV (ci := 10) (q0 := 0) hK hN hE hP hD hS hA rfl rfl) rfl rfl hl.1 rfl (lv_room (Nat.le_of_ble_eq_true rfl)) dX10_sumOf_2 ⟨Nat.le_of_ble_eq_true rfl, Nat.le_of_ble_eq_true rfl⟩) hD hS hA (fun r9 u9 H locs hw hp hd hs => ?_)
  clear hP hD hS
  obtain ⟨rfl, rfl⟩ := hw
  have hP := hp; have hD := hd; have hS := hs; clear hp hd hs
  refine lv_lstore_n (lv' := [(2, .long r1), (0, .ref (ad 0)), (1, .int p1)]) hx hb dX10_sumOf_5 rfl hl (by decide) rfl (fun ls hl => ?_)
  exact WX10_sumOf_6 hkU C  _ _ _ _ _ _ _ h hP hD hS (lv_sub hl [1, 2, 0] rfl)
set_option maxHeartbeats 4000000 in
set_option maxRecDepth 100000 in
theorem qX10_sumOf (l : Launch) (D : va_G) (ty : Nat → ClassId) (eo : Nat → Nat) (sz : Nat) (ad : Nat → Nat) (n : Nat) : ∀ (q : dS) (p1 : Int32) (o1 : Int64) (o2 : dS), zX10_sumOf n q p1 = some (o1, o2) → Met l yX10_sumOf wsX10_sumOf ({ frames := 12 + 3 * n, cells := 0, slots := 0, locals := 400 + 75 * n } : Room) (va_Pc [.ref (ad 0), .int p1] (kz_pre D ty eo (w10 ty ad q) sz)) (va_Ql (fun (r : Int64) (u : va_W) => o1 = r ∧ w10 ty ad o2 = u) (kz_B D ty (va_A (w10 ty ad q) sz)) (va_A (w10 ty ad q) sz)) 0 0 (va_A (w10 ty ad q) sz) := by
  induction n generalizing sz with
  | zero => intro q p1 o1 o2 h; cases h
  | succ n ih =>
    intro q p1 o1 o2 h
    have h2 := qX10_sumOf_o l D ty eo sz ad (zX10_sumOf n) n (fun sz q p1 o1 o2 h => ih sz q p1 o1 o2 h) q p1 o1 o2 h
    have e : ({ frames := 12 + 3 * n + 3, cells := 0, slots := 0, locals := 400 + 75 * n + 75 } : Room) = ({ frames := 12 + 3 * (n + 1), cells := 0, slots := 0, locals := 400 + 75 * (n + 1) } : Room) := by congr 1 <;> omega
    rw [← e]
    exact h2

set_option maxHeartbeats 4000000 in
set_option maxRecDepth 100000 in
theorem WX10_positiveOf_126 {p : Program} {l : Launch} {e : Env} {s : State} {m : MethodId} {args : Array Value} {below : List Frame} {meth : Method} {c : Code} {D : va_G} {ty : Nat → ClassId} {eo : Nat → Nat} {A : Nat → Prop} {ad : Nat → Nat} {o1 : Int32} {o2 : dS} {kV : dS → Int32 → Option (Int32 × dS)} {nV : Nat} (hkV : ∀ (sz : Nat) (q : dS) (p1 : Int32) (o1 : Int32) (o2 : dS), kV q p1 = some (o1, o2) → Met l yX10_testOf wsX10_testOf ({ frames := 44 + 4 * nV, cells := 0, slots := 0, locals := 1210 + 94 * nV } : Room) (va_Pc [.ref (ad 0), .int p1] (kz_pre D ty eo (w10 ty ad q) sz)) (va_Qi (fun (r : Int32) (u : va_W) => o1 = r ∧ w10 ty ad o2 = u) (kz_B D ty (va_A (w10 ty ad q) sz)) (va_A (w10 ty ad q) sz)) 0 0 (va_A (w10 ty ad q) sz)) (C : dc_C p s m args meth c cX10_positiveOf (some .boolean) 7 RX10 wsX10_positiveOf D ty eo A)   (q : dS) (y0 : Int32) (H : Heap) (locs : List Loc) (ls : Array Slot) (h : zX10_positiveOf_126 kV  q y0 = some (o1, o2)) (hP : va_P D vwCl (w10 ty ad q) H) (hD : va_D A (w10 ty ad q)) (hS : va_S A s.heap H locs) (hl : lv_has ls 7 []) : W p l e ({ frames := 44 + 4 * nV + 1, cells := 0, slots := 0, locals := 1210 + 94 * nV + 23 } : Room) s m args below meth c H locs 0 0 (MQ below (va_Qi (fun (r : Int32) (u : va_W) => o1 = r ∧ w10 ty ad o2 = u) (kz_B D ty A) A) args s 0 0 A) (F0 m 126 ls [.int y0]) := by
  have C0 := C
  obtain ⟨hx, hb, hr, hts, hown, hlocks, hml, hK, hN, hE, hA⟩ := C
  unfold zX10_positiveOf_126 at h
  obtain ⟨g1, h⟩ := dG_some h
  cases h
  exact kz_zret hx hb hr hlocks (dbl_nar g1) hP hK hD hS dX10_positiveOf_126 ⟨rfl, rfl⟩
set_option maxHeartbeats 4000000 in
set_option maxRecDepth 100000 in
theorem WX10_positiveOf_125 {p : Program} {l : Launch} {e : Env} {s : State} {m : MethodId} {args : Array Value} {below : List Frame} {meth : Method} {c : Code} {D : va_G} {ty : Nat → ClassId} {eo : Nat → Nat} {A : Nat → Prop} {ad : Nat → Nat} {o1 : Int32} {o2 : dS} {kV : dS → Int32 → Option (Int32 × dS)} {nV : Nat} (hkV : ∀ (sz : Nat) (q : dS) (p1 : Int32) (o1 : Int32) (o2 : dS), kV q p1 = some (o1, o2) → Met l yX10_testOf wsX10_testOf ({ frames := 44 + 4 * nV, cells := 0, slots := 0, locals := 1210 + 94 * nV } : Room) (va_Pc [.ref (ad 0), .int p1] (kz_pre D ty eo (w10 ty ad q) sz)) (va_Qi (fun (r : Int32) (u : va_W) => o1 = r ∧ w10 ty ad o2 = u) (kz_B D ty (va_A (w10 ty ad q) sz)) (va_A (w10 ty ad q) sz)) 0 0 (va_A (w10 ty ad q) sz)) (C : dc_C p s m args meth c cX10_positiveOf (some .boolean) 7 RX10 wsX10_positiveOf D ty eo A)   (q : dS)  (H : Heap) (locs : List Loc) (ls : Array Slot) (h : zX10_positiveOf_125 kV  q = some (o1, o2)) (hP : va_P D vwCl (w10 ty ad q) H) (hD : va_D A (w10 ty ad q)) (hS : va_S A s.heap H locs) (hl : lv_has ls 7 []) : W p l e ({ frames := 44 + 4 * nV + 1, cells := 0, slots := 0, locals := 1210 + 94 * nV + 23 } : Room) s m args below meth c H locs 0 0 (MQ below (va_Qi (fun (r : Int32) (u : va_W) => o1 = r ∧ w10 ty ad o2 = u) (kz_B D ty A) A) args s 0 0 A) (F0 m 125 ls []) := by
  have C0 := C
  obtain ⟨hx, hb, hr, hts, hown, hlocks, hml, hK, hN, hE, hA⟩ := C
  unfold zX10_positiveOf_125 at h
  refine lv_iconst (v := 0) hx hb dX10_positiveOf_125 (by decide) ?_
  exact WX10_positiveOf_126 hkV C0  _ _ _ _ _ h hP hD hS (lv_sub hl [] rfl)
set_option maxHeartbeats 4000000 in
set_option maxRecDepth 100000 in
theorem WX10_positiveOf_121 {p : Program} {l : Launch} {e : Env} {s : State} {m : MethodId} {args : Array Value} {below : List Frame} {meth : Method} {c : Code} {D : va_G} {ty : Nat → ClassId} {eo : Nat → Nat} {A : Nat → Prop} {ad : Nat → Nat} {o1 : Int32} {o2 : dS} {kV : dS → Int32 → Option (Int32 × dS)} {nV : Nat} (hkV : ∀ (sz : Nat) (q : dS) (p1 : Int32) (o1 : Int32) (o2 : dS), kV q p1 = some (o1, o2) → Met l yX10_testOf wsX10_testOf ({ frames := 44 + 4 * nV, cells := 0, slots := 0, locals := 1210 + 94 * nV } : Room) (va_Pc [.ref (ad 0), .int p1] (kz_pre D ty eo (w10 ty ad q) sz)) (va_Qi (fun (r : Int32) (u : va_W) => o1 = r ∧ w10 ty ad o2 = u) (kz_B D ty (va_A (w10 ty ad q) sz)) (va_A (w10 ty ad q) sz)) 0 0 (va_A (w10 ty ad q) sz)) (C : dc_C p s m args meth c cX10_positiveOf (some .boolean) 7 RX10 wsX10_positiveOf D ty eo A)   (q : dS)  (H : Heap) (locs : List Loc) (ls : Array Slot) (h : zX10_positiveOf_121 kV  q = some (o1, o2)) (hP : va_P D vwCl (w10 ty ad q) H) (hD : va_D A (w10 ty ad q)) (hS : va_S A s.heap H locs) (hl : lv_has ls 7 []) : W p l e ({ frames := 44 + 4 * nV + 1, cells := 0, slots := 0, locals := 1210 + 94 * nV + 23 } : Room) s m args below meth c H locs 0 0 (MQ below (va_Qi (fun (r : Int32) (u : va_W) => o1 = r ∧ w10 ty ad o2 = u) (kz_B D ty A) A) args s 0 0 A) (F0 m 121 ls []) := by
  have C0 := C
  obtain ⟨hx, hb, hr, hts, hown, hlocks, hml, hK, hN, hE, hA⟩ := C
  unfold zX10_positiveOf_121 at h
  refine lv_iconst (v := 1) hx hb dX10_positiveOf_121 (by decide) ?_
  refine lv_goto (tgt := 126) hx hb dX10_positiveOf_122 (by decide) ?_
  exact WX10_positiveOf_126 hkV C0  _ _ _ _ _ h hP hD hS (lv_sub hl [] rfl)
set_option maxHeartbeats 4000000 in
set_option maxRecDepth 100000 in
theorem qX10_positiveOf (l : Launch) (D : va_G) (ty : Nat → ClassId) (eo : Nat → Nat) (sz : Nat) (ad : Nat → Nat) (kV : dS → Int32 → Option (Int32 × dS)) (nV : Nat) (hkV : ∀ (sz : Nat) (q : dS) (p1 : Int32) (o1 : Int32) (o2 : dS), kV q p1 = some (o1, o2) → Met l yX10_testOf wsX10_testOf ({ frames := 44 + 4 * nV, cells := 0, slots := 0, locals := 1210 + 94 * nV } : Room) (va_Pc [.ref (ad 0), .int p1] (kz_pre D ty eo (w10 ty ad q) sz)) (va_Qi (fun (r : Int32) (u : va_W) => o1 = r ∧ w10 ty ad o2 = u) (kz_B D ty (va_A (w10 ty ad q) sz)) (va_A (w10 ty ad q) sz)) 0 0 (va_A (w10 ty ad q) sz)) (q : dS) (p1 : Int32) (o1 : Int32) (o2 : dS) (h : zX10_positiveOf kV q p1 = some (o1, o2)) : Met l yX10_positiveOf wsX10_positiveOf ({ frames := 44 + 4 * nV + 1, cells := 0, slots := 0, locals := 1210 + 94 * nV + 23 } : Room) (va_Pc [.ref (ad 0), .int p1] (kz_pre D ty eo (w10 ty ad q) sz)) (va_Qi (fun (r : Int32) (u : va_W) => o1 = r ∧ w10 ty ad o2 = u) (kz_B D ty (va_A (w10 ty ad q) sz)) (va_A (w10 ty ad q) sz)) 0 0 (va_A (w10 ty ad q) sz) := by
  refine Met.ofW (cc := cX10_positiveOf) (maxL := 7) (ret := (some .boolean)) (by decide) rfl ?_
  intro p e s m args below meth c s₁ B hml hv
  obtain ⟨rfl, hsz, hP, hK, hD0, hN, hE⟩ := hv
  have hx := B.exec
  have hb := B.bytes
  have hr := B.returns
  have hts := atoms_spec (ws := wsX10_positiveOf) B.pre
  have hown : s.vm.findClass RX10 = some m.cls := findClass_of_methodNamed B.named
  have hlocks := B.notSynchronized
  subst hsz
  have hD := hD0.self (sz := s.heap.size)
  generalize hAe : va_A (w10 ty ad q) s.heap.size = A at hD hE ⊢
  have hA : ∀ q : Nat, s.heap.size ≤ q → A q := fun q h => by rw [← hAe]; exact Or.inr h
  clear hAe
  have hS : va_S A s.heap s.heap [] := va_S.rf
  have hl := lv_entry ([.ref (ad 0), .int p1]) (n := 7) (Nat.le_of_ble_eq_true rfl)
  rw [lg_entry_eq]
  generalize (lg_sl ([.ref (ad 0), .int p1]) ++ List.replicate (7 - (lg_sl ([.ref (ad 0), .int p1])).length) Slot.unset).toArray = ls at hl ⊢
  have hl : lv_has ls 7 [(0, .ref (ad 0)), (1, .int p1)] := hl
  have C : dc_C p s m _ meth c cX10_positiveOf (some .boolean) 7 RX10 wsX10_positiveOf D ty eo A := ⟨hx, hb, hr, hts, hown, hlocks, hml, hK, hN, hE, hA⟩
  unfold zX10_positiveOf at h
  refine lv_aload_n hx hb dX10_positiveOf_0 rfl (lv_at hl 0 rfl) ?_
  refine lv_bipush (v := 40) hx hb dX10_positiveOf_1 (by decide) ?_
  obtain ⟨r1, h2, h⟩ := dV_some h
  refine dw_ks (va_runS (As := [.int 40]) (rest := [.ref (ad 0)]) ⟨hx, hb, hml, hown, hts⟩ (qX10_sign l D ty eo _ 40 _ h2) (va_cwS 1 hts gX10_positiveOf_X10_sign rfl rfl rfl (by decide +kernel) ⟨by dsimp only [headSpec]; omega, by dsimp only [headSpec]; omega⟩) (kz_preS hK hN hE hP hD hS hA [] (by decide) rfl) rfl rfl hl.1 rfl (lv_room (Nat.le_of_ble_eq_true rfl)) dX10_positiveOf_3 ⟨Nat.le_of_ble_eq_true rfl, Nat.le_of_ble_eq_true rfl⟩) hP hD hS hA (fun _ _ h9 => h9.2.symm) (fun r9 u9 H locs hw hp hd hs => ?_)
  obtain ⟨rfl, -⟩ := hw
  clear hP hD hS
  have hP := hp; have hD := hd; have hS := hs; clear hp hd hs
  obtain ⟨r3, q5, h4, h⟩ := dB_some h
  refine dw_ki (va_runV (As := [.int r1]) (rest := []) ⟨hx, hb, hml, hown, hts⟩ (qX10_passes0 l D ty eo _ ad q r1 r3 q5 h4) (cwV 1 hts gX10_positiveOf_X10_passes0 rfl rfl rfl (by decide +kernel) ⟨by dsimp only [headSpec]; omega, by dsimp only [headSpec]; omega⟩) (dw_preV (ci := 10) (q0 := 0) hK hN hE hP hD hS hA rfl rfl) rfl rfl hl.1 rfl (lv_room (Nat.le_of_ble_eq_true rfl)) dX10_positiveOf_6 ⟨Nat.le_of_ble_eq_true rfl, Nat.le_of_ble_eq_true rfl⟩) hD hS hA (fun r9 u9 H locs hw hp hd hs => ?_)
  clear hP hD hS
  obtain ⟨rfl, rfl⟩ := hw
  have hP := hp; have hD := hd; have hS := hs; clear hp hd hs
  refine lv_if_eq (tgt := 30) hx hb dX10_positiveOf_9 (by decide) (fun c9 => ?_) (fun c9 => ?_)
  · rw [if_pos c9] at h
    refine lv_aload_n hx hb dX10_positiveOf_30 rfl (lv_at hl 0 rfl) ?_
    refine lv_iload_n hx hb dX10_positiveOf_31 rfl (lv_at hl 1 rfl) ?_
    obtain ⟨r6, q8, h7, h⟩ := dB_some h
    refine dw_kl (va_runV (As := [.int p1]) (rest := []) ⟨hx, hb, hml, hown, hts⟩ (qX10_sumOf l D ty eo _ ad 10 q5 p1 r6 q8 h7) (cwV 1 hts gX10_positiveOf_X10_sumOf rfl rfl rfl (by decide +kernel) ⟨by dsimp only [headSpec]; omega, by dsimp only [headSpec]; omega⟩) (dw_preV (ci := 10) (q0 := 0) hK hN hE hP hD hS hA rfl rfl) rfl rfl hl.1 rfl (lv_room (Nat.le_of_ble_eq_true rfl)) dX10_positiveOf_32 ⟨Nat.le_of_ble_eq_true rfl, Nat.le_of_ble_eq_true rfl⟩) hD hS hA (fun r9 u9 H locs hw hp hd hs => ?_)
    clear hP hD hS
    obtain ⟨rfl, rfl⟩ := hw
    have hP := hp; have hD := hd; have hS := hs; clear hp hd hs
    refine lv_lstore_n (lv' := [(2, .long r6), (0, .ref (ad 0)), (1, .int p1)]) hx hb dX10_positiveOf_35 rfl hl (by decide) rfl (fun ls hl => ?_)
    refine lv_aload_n hx hb dX10_positiveOf_36 rfl (lv_at hl 1 rfl) ?_
    refine lv_aload_n hx hb dX10_positiveOf_37 rfl (lv_at hl 1 rfl) ?_
    refine va_get (D := D) (ci := 10) (v := .int (q8.1 0 22)) (C := RX10) (T := TX10) (N := 56) hx hb hts (by decide +kernel) hown hK hP 0 rfl rfl 22 (by decide) (hts (.fieldLink RX10 278 "TurnedFloorsModel" "go" "I") (by decide +kernel)) (fun _ h9 => h9) rfl dX10_positiveOf_38 ?_
    obtain ⟨r9, q11, h10, h⟩ := dB_some h
    refine dw_ki (va_runV (As := [.int (q8.1 0 22)]) (rest := []) ⟨hx, hb, hml, hown, hts⟩ (qX10_codeAt l D ty eo _ ad q8 (q8.1 0 22) r9 q11 h10) (cwV 1 hts gX10_positiveOf_X10_codeAt rfl rfl rfl (by decide +kernel) ⟨by dsimp only [headSpec]; omega, by dsimp only [headSpec]; omega⟩) (dw_preV (ci := 10) (q0 := 0) hK hN hE hP hD hS hA rfl rfl) rfl rfl hl.1 rfl (lv_room (Nat.le_of_ble_eq_true rfl)) dX10_positiveOf_41 ⟨Nat.le_of_ble_eq_true rfl, Nat.le_of_ble_eq_true rfl⟩) hD hS hA (fun r9 u9 H locs hw hp hd hs => ?_)
    clear hP hD hS
    obtain ⟨rfl, rfl⟩ := hw
    have hP := hp; have hD := hd; have hS := hs; clear hp hd hs
    refine lv_istore (lv' := [(4, .int r9), (2, .long r6), (0, .ref (ad 0)), (1, .int p1)]) hx hb dX10_positiveOf_44 hl (by decide) rfl (fun ls hl => ?_)
    refine lv_aload_n hx hb dX10_positiveOf_46 rfl (lv_at hl 2 rfl) ?_
    refine lv_dup hx hb dX10_positiveOf_47 rfl ?_
    refine va_get (D := D) (ci := 10) (v := .int (q11.1 0 22)) (C := RX10) (T := TX10) (N := 56) hx hb hts (by decide +kernel) hown hK hP 0 rfl rfl 22 (by decide) (hts (.fieldLink RX10 278 "TurnedFloorsModel" "go" "I") (by decide +kernel)) (fun _ h9 => h9) rfl dX10_positiveOf_48 ?_
    refine lv_iconst (v := 1) hx hb dX10_positiveOf_51 (by decide) ?_
    refine lv_iadd hx hb dX10_positiveOf_52 ?_
    refine va_put (D := D) (ci := 10) (v := .int ((q11.1 0 22) + 1 : Int32)) (ty := .int) (C := RX10) (T := TX10) (N := 56) hx hb hts (by decide +kernel) tyX10 tyX10_ok nmX10 hown hK hP hD hS 0 rfl rfl 22 (by decide) (hts (.fieldLink RX10 278 "TurnedFloorsModel" "go" "I") (by decide +kernel)) (fun _ h9 => h9) rfl (by decide +kernel) rfl rfl (Nat.le_of_ble_eq_true rfl) dX10_positiveOf_53 (fun H locs hp hd hs => ?_)
    obtain ⟨q12, eq12, h⟩ := dL_some h
    refine kz_re (w2 := w10 ty ad q12) hp hd hs (by rw [← eq12]; exact w10_f22 ty ad q11 ((q11.1 0 22) + 1 : Int32)) ?_
    clear hp hd hs hP hD hS
    intro hP hD hS
    refine lv_aload_n hx hb dX10_positiveOf_56 rfl (lv_at hl 2 rfl) ?_
    refine lv_iload_n hx hb dX10_positiveOf_57 rfl (lv_at hl 3 rfl) ?_
    obtain ⟨r13, q15, h14, h⟩ := dB_some h
    refine dw_kl (va_runV (As := [.int p1]) (rest := []) ⟨hx, hb, hml, hown, hts⟩ (qX10_sumOf l D ty eo _ ad 10 q12 p1 r13 q15 h14) (cwV 1 hts gX10_positiveOf_X10_sumOf rfl rfl rfl (by decide +kernel) ⟨by dsimp only [headSpec]; omega, by dsimp only [headSpec]; omega⟩) (dw_preV (ci := 10) (q0 := 0) hK hN hE hP hD hS hA rfl rfl) rfl rfl hl.1 rfl (lv_room (Nat.le_of_ble_eq_true rfl)) dX10_positiveOf_58 ⟨Nat.le_of_ble_eq_true rfl, Nat.le_of_ble_eq_true rfl⟩) hD hS hA (fun r9 u9 H locs hw hp hd hs => ?_)
    clear hP hD hS
    obtain ⟨rfl, rfl⟩ := hw
    have hP := hp; have hD := hd; have hS := hs; clear hp hd hs
    refine lv_lstore (lv' := [(5, .long r13), (4, .int r9), (2, .long r6), (0, .ref (ad 0)), (1, .int p1)]) hx hb dX10_positiveOf_61 hl (by decide) rfl (fun ls hl => ?_)
    refine lv_iload_n hx hb dX10_positiveOf_63 rfl (lv_at hl 4 rfl) ?_
    refine lv_if_eq (tgt := 125) hx hb dX10_positiveOf_64 (by decide) (fun c9 => ?_) (fun c9 => ?_)
    · rw [if_pos c9] at h
      exact WX10_positiveOf_125 hkV C  _ _ _ _ h hP hD hS (lv_sub hl [] rfl)
    · rw [if_neg c9] at h
      refine lv_aload_n hx hb dX10_positiveOf_67 rfl (lv_at hl 3 rfl) ?_
      refine va_get (D := D) (ci := 10) (v := .int (q15.1 0 24)) (C := RX10) (T := TX10) (N := 56) hx hb hts (by decide +kernel) hown hK hP 0 rfl rfl 24 (by decide) (hts (.fieldLink RX10 288 "TurnedFloorsModel" "broken" "Z") (by decide +kernel)) (fun _ h9 => h9) rfl dX10_positiveOf_68 ?_
      refine lv_if_ne (tgt := 125) hx hb dX10_positiveOf_71 (by decide) (fun c9 => ?_) (fun c9 => ?_)
      · rw [if_neg c9] at h
        exact WX10_positiveOf_125 hkV C  _ _ _ _ h hP hD hS (lv_sub hl [] rfl)
      · rw [if_pos c9] at h
        refine lv_iload hx hb dX10_positiveOf_74 (lv_at hl 1 rfl) ?_
        refine lv_bipush (v := 60) hx hb dX10_positiveOf_76 (by decide) ?_
        obtain ⟨r16, h17, h⟩ := dV_some h
        refine dw_ks (va_runS (As := [.int 60]) (rest := [.int r9]) ⟨hx, hb, hml, hown, hts⟩ (qX10_sign l D ty eo _ 60 _ h17) (va_cwS 1 hts gX10_positiveOf_X10_sign rfl rfl rfl (by decide +kernel) ⟨by dsimp only [headSpec]; omega, by dsimp only [headSpec]; omega⟩) (kz_preS hK hN hE hP hD hS hA [] (by decide) rfl) rfl rfl hl.1 rfl (lv_room (Nat.le_of_ble_eq_true rfl)) dX10_positiveOf_78 ⟨Nat.le_of_ble_eq_true rfl, Nat.le_of_ble_eq_true rfl⟩) hP hD hS hA (fun _ _ h9 => h9.2.symm) (fun r9 u9 H locs hw hp hd hs => ?_)
        obtain ⟨rfl, -⟩ := hw
        clear hP hD hS
        have hP := hp; have hD := hd; have hS := hs; clear hp hd hs
        refine lv_icmp_ne (tgt := 94) hx hb dX10_positiveOf_81 (by decide) (fun c9 => ?_) (fun c9 => ?_)
        · rw [if_neg c9] at h
          refine lv_iload hx hb dX10_positiveOf_94 (lv_at hl 1 rfl) ?_
          refine lv_bipush (v := 62) hx hb dX10_positiveOf_96 (by decide) ?_
          obtain ⟨r18, h19, h⟩ := dV_some h
          refine dw_ks (va_runS (As := [.int 62]) (rest := [.int r9]) ⟨hx, hb, hml, hown, hts⟩ (qX10_sign l D ty eo _ 62 _ h19) (va_cwS 1 hts gX10_positiveOf_X10_sign rfl rfl rfl (by decide +kernel) ⟨by dsimp only [headSpec]; omega, by dsimp only [headSpec]; omega⟩) (kz_preS hK hN hE hP hD hS hA [] (by decide) rfl) rfl rfl hl.1 rfl (lv_room (Nat.le_of_ble_eq_true rfl)) dX10_positiveOf_98 ⟨Nat.le_of_ble_eq_true rfl, Nat.le_of_ble_eq_true rfl⟩) hP hD hS hA (fun _ _ h9 => h9.2.symm) (fun r9 u9 H locs hw hp hd hs => ?_)
          obtain ⟨rfl, -⟩ := hw
          clear hP hD hS
          have hP := hp; have hD := hd; have hS := hs; clear hp hd hs
          refine lv_icmp_ne (tgt := 114) hx hb dX10_positiveOf_101 (by decide) (fun c9 => ?_) (fun c9 => ?_)
          · rw [if_neg c9] at h
            refine lv_lload_n hx hb dX10_positiveOf_114 rfl (lv_at hl 2 rfl) ?_
            refine lv_lload hx hb dX10_positiveOf_115 (lv_at hl 0 rfl) ?_
            refine W.lcmp hx hb dX10_positiveOf_117 ?_
            refine lv_if_ne (tgt := 125) hx hb dX10_positiveOf_118 (by decide) (fun c9 => ?_) (fun c9 => ?_)
            · rw [if_neg c9] at h
              exact WX10_positiveOf_125 hkV C  _ _ _ _ h hP hD hS (lv_sub hl [] rfl)
            · rw [if_pos c9] at h
              exact WX10_positiveOf_121 hkV C  _ _ _ _ h hP hD hS (lv_sub hl [] rfl)
          · rw [if_pos c9] at h
            refine lv_lload_n hx hb dX10_positiveOf_104 rfl (lv_at hl 2 rfl) ?_
            refine lv_lload hx hb dX10_positiveOf_105 (lv_at hl 0 rfl) ?_
            refine W.lcmp hx hb dX10_positiveOf_107 ?_
            refine lv_if_le (tgt := 125) hx hb dX10_positiveOf_108 (by decide) (fun c9 => ?_) (fun c9 => ?_)
            · rw [if_pos c9] at h
              exact WX10_positiveOf_125 hkV C  _ _ _ _ h hP hD hS (lv_sub hl [] rfl)
            · rw [if_neg c9] at h
              refine lv_goto (tgt := 121) hx hb dX10_positiveOf_111 (by decide) ?_
              exact WX10_positiveOf_121 hkV C  _ _ _ _ h hP hD hS (lv_sub hl [] rfl)
        · rw [if_pos c9] at h
          refine lv_lload_n hx hb dX10_positiveOf_84 rfl (lv_at hl 2 rfl) ?_
          refine lv_lload hx hb dX10_positiveOf_85 (lv_at hl 0 rfl) ?_
          refine W.lcmp hx hb dX10_positiveOf_87 ?_
          refine lv_if_ge (tgt := 125) hx hb dX10_positiveOf_88 (by decide) (fun c9 => ?_) (fun c9 => ?_)
          · rw [if_pos c9] at h
            exact WX10_positiveOf_125 hkV C  _ _ _ _ h hP hD hS (lv_sub hl [] rfl)
          · rw [if_neg c9] at h
            refine lv_goto (tgt := 121) hx hb dX10_positiveOf_91 (by decide) ?_
            exact WX10_positiveOf_121 hkV C  _ _ _ _ h hP hD hS (lv_sub hl [] rfl)
  · rw [if_neg c9] at h
    refine lv_aload_n hx hb dX10_positiveOf_12 rfl (lv_at hl 0 rfl) ?_
    refine lv_iload_n hx hb dX10_positiveOf_13 rfl (lv_at hl 1 rfl) ?_
    obtain ⟨r20, q22, h21, h⟩ := dB_some h
    refine dw_ki (va_runV (As := [.int p1]) (rest := []) ⟨hx, hb, hml, hown, hts⟩ (hkV _ q5 p1 r20 q22 h21) (cwV 1 hts gX10_positiveOf_X10_testOf rfl rfl rfl (by decide +kernel) ⟨by dsimp only [headSpec]; omega, by dsimp only [headSpec]; omega⟩) (dw_preV (ci := 10) (q0 := 0) hK hN hE hP hD hS hA rfl rfl) rfl rfl hl.1 rfl (lv_room (Nat.le_of_ble_eq_true rfl)) dX10_positiveOf_14 ⟨Nat.le_of_ble_eq_true rfl, Nat.le_of_ble_eq_true rfl⟩) hD hS hA (fun r9 u9 H locs hw hp hd hs => ?_)
    clear hP hD hS
    obtain ⟨rfl, rfl⟩ := hw
    have hP := hp; have hD := hd; have hS := hs; clear hp hd hs
    refine lv_istore_n (lv' := [(2, .int r20), (0, .ref (ad 0)), (1, .int p1)]) hx hb dX10_positiveOf_17 rfl hl (by decide) rfl (fun ls hl => ?_)
    refine lv_aload_n hx hb dX10_positiveOf_18 rfl (lv_at hl 1 rfl) ?_
    refine lv_dup hx hb dX10_positiveOf_19 rfl ?_
    refine va_get (D := D) (ci := 10) (v := .int (q22.1 0 22)) (C := RX10) (T := TX10) (N := 56) hx hb hts (by decide +kernel) hown hK hP 0 rfl rfl 22 (by decide) (hts (.fieldLink RX10 278 "TurnedFloorsModel" "go" "I") (by decide +kernel)) (fun _ h9 => h9) rfl dX10_positiveOf_20 ?_
    refine lv_iconst (v := 1) hx hb dX10_positiveOf_23 (by decide) ?_
    refine lv_iadd hx hb dX10_positiveOf_24 ?_
    refine va_put (D := D) (ci := 10) (v := .int ((q22.1 0 22) + 1 : Int32)) (ty := .int) (C := RX10) (T := TX10) (N := 56) hx hb hts (by decide +kernel) tyX10 tyX10_ok nmX10 hown hK hP hD hS 0 rfl rfl 22 (by decide) (hts (.fieldLink RX10 278 "TurnedFloorsModel" "go" "I") (by decide +kernel)) (fun _ h9 => h9) rfl (by decide +kernel) rfl rfl (Nat.le_of_ble_eq_true rfl) dX10_positiveOf_25 (fun H locs hp hd hs => ?_)
    obtain ⟨q23, eq23, h⟩ := dL_some h
    refine kz_re (w2 := w10 ty ad q23) hp hd hs (by rw [← eq23]; exact w10_f22 ty ad q22 ((q22.1 0 22) + 1 : Int32)) ?_
    clear hp hd hs hP hD hS
    intro hP hD hS
    refine lv_iload_n hx hb dX10_positiveOf_28 rfl (lv_at hl 0 rfl) ?_
    obtain ⟨g24, h⟩ := dG_some h
    cases h
    exact kz_zret hx hb hr hlocks (dbl_nar g24) hP hK hD hS dX10_positiveOf_29 ⟨rfl, rfl⟩

set_option maxHeartbeats 4000000 in
set_option maxRecDepth 100000 in
theorem WX10_plainOf_38 {p : Program} {l : Launch} {e : Env} {s : State} {m : MethodId} {args : Array Value} {below : List Frame} {meth : Method} {c : Code} {D : va_G} {ty : Nat → ClassId} {eo : Nat → Nat} {A : Nat → Prop} {ad : Nat → Nat} {o1 : Int32} {o2 : dS} {kV : dS → Int32 → Option (Int32 × dS)} {nV : Nat} (hkV : ∀ (sz : Nat) (q : dS) (p1 : Int32) (o1 : Int32) (o2 : dS), kV q p1 = some (o1, o2) → Met l yX10_testOf wsX10_testOf ({ frames := 44 + 4 * nV, cells := 0, slots := 0, locals := 1210 + 94 * nV } : Room) (va_Pc [.ref (ad 0), .int p1] (kz_pre D ty eo (w10 ty ad q) sz)) (va_Qi (fun (r : Int32) (u : va_W) => o1 = r ∧ w10 ty ad o2 = u) (kz_B D ty (va_A (w10 ty ad q) sz)) (va_A (w10 ty ad q) sz)) 0 0 (va_A (w10 ty ad q) sz)) (C : dc_C p s m args meth c cX10_plainOf (some .boolean) 3 RX10 wsX10_plainOf D ty eo A)   (q : dS) (y0 : Int32) (H : Heap) (locs : List Loc) (ls : Array Slot) (h : zX10_plainOf_38 kV  q y0 = some (o1, o2)) (hP : va_P D vwCl (w10 ty ad q) H) (hD : va_D A (w10 ty ad q)) (hS : va_S A s.heap H locs) (hl : lv_has ls 3 []) : W p l e ({ frames := 44 + 4 * nV + 2, cells := 0, slots := 0, locals := 1210 + 94 * nV + 49 } : Room) s m args below meth c H locs 0 0 (MQ below (va_Qi (fun (r : Int32) (u : va_W) => o1 = r ∧ w10 ty ad o2 = u) (kz_B D ty A) A) args s 0 0 A) (F0 m 38 ls [.int y0]) := by
  have C0 := C
  obtain ⟨hx, hb, hr, hts, hown, hlocks, hml, hK, hN, hE, hA⟩ := C
  unfold zX10_plainOf_38 at h
  obtain ⟨g1, h⟩ := dG_some h
  cases h
  exact kz_zret hx hb hr hlocks (dbl_nar g1) hP hK hD hS dX10_plainOf_38 ⟨rfl, rfl⟩
set_option maxHeartbeats 4000000 in
set_option maxRecDepth 100000 in
theorem WX10_plainOf_20 {p : Program} {l : Launch} {e : Env} {s : State} {m : MethodId} {args : Array Value} {below : List Frame} {meth : Method} {c : Code} {D : va_G} {ty : Nat → ClassId} {eo : Nat → Nat} {A : Nat → Prop} {ad : Nat → Nat} {o1 : Int32} {o2 : dS} {kV : dS → Int32 → Option (Int32 × dS)} {nV : Nat} (hkV : ∀ (sz : Nat) (q : dS) (p1 : Int32) (o1 : Int32) (o2 : dS), kV q p1 = some (o1, o2) → Met l yX10_testOf wsX10_testOf ({ frames := 44 + 4 * nV, cells := 0, slots := 0, locals := 1210 + 94 * nV } : Room) (va_Pc [.ref (ad 0), .int p1] (kz_pre D ty eo (w10 ty ad q) sz)) (va_Qi (fun (r : Int32) (u : va_W) => o1 = r ∧ w10 ty ad o2 = u) (kz_B D ty (va_A (w10 ty ad q) sz)) (va_A (w10 ty ad q) sz)) 0 0 (va_A (w10 ty ad q) sz)) (C : dc_C p s m args meth c cX10_plainOf (some .boolean) 3 RX10 wsX10_plainOf D ty eo A) {k2 : dS → Int32 → Int32 → Option (Int32 × dS)} (hk2 : ∀ (q : dS) (x1 : Int32) (x2 : Int32) (H : Heap) (locs : List Loc) (ls : Array Slot), k2 q x1 x2 = some (o1, o2) → va_P D vwCl (w10 ty ad q) H → va_D A (w10 ty ad q) → va_S A s.heap H locs → lv_has ls 3 [(0, .ref (ad 0)), (1, .int x1), (2, .int x2)] → W p l e ({ frames := 44 + 4 * nV + 2, cells := 0, slots := 0, locals := 1210 + 94 * nV + 49 } : Room) s m args below meth c H locs 0 0 (MQ below (va_Qi (fun (r : Int32) (u : va_W) => o1 = r ∧ w10 ty ad o2 = u) (kz_B D ty A) A) args s 0 0 A) (F0 m 2 ls [])) (q : dS) (x1 : Int32) (y0 : Int32) (H : Heap) (locs : List Loc) (ls : Array Slot) (h : zX10_plainOf_20 kV k2 q x1 y0 = some (o1, o2)) (hP : va_P D vwCl (w10 ty ad q) H) (hD : va_D A (w10 ty ad q)) (hS : va_S A s.heap H locs) (hl : lv_has ls 3 [(0, .ref (ad 0)), (1, .int x1)]) : W p l e ({ frames := 44 + 4 * nV + 2, cells := 0, slots := 0, locals := 1210 + 94 * nV + 49 } : Room) s m args below meth c H locs 0 0 (MQ below (va_Qi (fun (r : Int32) (u : va_W) => o1 = r ∧ w10 ty ad o2 = u) (kz_B D ty A) A) args s 0 0 A) (F0 m 20 ls [.int y0]) := by
  have C0 := C
  obtain ⟨hx, hb, hr, hts, hown, hlocks, hml, hK, hN, hE, hA⟩ := C
  unfold zX10_plainOf_20 at h
  refine lv_istore_n (lv' := [(2, .int y0), (0, .ref (ad 0)), (1, .int x1)]) hx hb dX10_plainOf_20 rfl hl (by decide) rfl (fun ls hl => ?_)
  refine lv_goto (tgt := 2) hx hb dX10_plainOf_21 (by decide) ?_
  exact hk2 _ _ _ _ _ _ h hP hD hS (lv_sub hl [1, 2, 0] rfl)
set_option maxHeartbeats 4000000 in
set_option maxRecDepth 100000 in
theorem WX10_plainOf_2b {p : Program} {l : Launch} {e : Env} {s : State} {m : MethodId} {args : Array Value} {below : List Frame} {meth : Method} {c : Code} {D : va_G} {ty : Nat → ClassId} {eo : Nat → Nat} {A : Nat → Prop} {ad : Nat → Nat} {o1 : Int32} {o2 : dS} {kV : dS → Int32 → Option (Int32 × dS)} {nV : Nat} (hkV : ∀ (sz : Nat) (q : dS) (p1 : Int32) (o1 : Int32) (o2 : dS), kV q p1 = some (o1, o2) → Met l yX10_testOf wsX10_testOf ({ frames := 44 + 4 * nV, cells := 0, slots := 0, locals := 1210 + 94 * nV } : Room) (va_Pc [.ref (ad 0), .int p1] (kz_pre D ty eo (w10 ty ad q) sz)) (va_Qi (fun (r : Int32) (u : va_W) => o1 = r ∧ w10 ty ad o2 = u) (kz_B D ty (va_A (w10 ty ad q) sz)) (va_A (w10 ty ad q) sz)) 0 0 (va_A (w10 ty ad q) sz)) (C : dc_C p s m args meth c cX10_plainOf (some .boolean) 3 RX10 wsX10_plainOf D ty eo A) {k2 : dS → Int32 → Int32 → Option (Int32 × dS)} (hk2 : ∀ (q : dS) (x1 : Int32) (x2 : Int32) (H : Heap) (locs : List Loc) (ls : Array Slot), k2 q x1 x2 = some (o1, o2) → va_P D vwCl (w10 ty ad q) H → va_D A (w10 ty ad q) → va_S A s.heap H locs → lv_has ls 3 [(0, .ref (ad 0)), (1, .int x1), (2, .int x2)] → W p l e ({ frames := 44 + 4 * nV + 2, cells := 0, slots := 0, locals := 1210 + 94 * nV + 49 } : Room) s m args below meth c H locs 0 0 (MQ below (va_Qi (fun (r : Int32) (u : va_W) => o1 = r ∧ w10 ty ad o2 = u) (kz_B D ty A) A) args s 0 0 A) (F0 m 2 ls [])) (q : dS) (x1 : Int32) (x2 : Int32) (H : Heap) (locs : List Loc) (ls : Array Slot) (h : zX10_plainOf_2b kV k2 q x1 x2 = some (o1, o2)) (hP : va_P D vwCl (w10 ty ad q) H) (hD : va_D A (w10 ty ad q)) (hS : va_S A s.heap H locs) (hl : lv_has ls 3 [(0, .ref (ad 0)), (1, .int x1), (2, .int x2)]) : W p l e ({ frames := 44 + 4 * nV + 2, cells := 0, slots := 0, locals := 1210 + 94 * nV + 49 } : Room) s m args below meth c H locs 0 0 (MQ below (va_Qi (fun (r : Int32) (u : va_W) => o1 = r ∧ w10 ty ad o2 = u) (kz_B D ty A) A) args s 0 0 A) (F0 m 2 ls []) := by
  have C0 := C
  obtain ⟨hx, hb, hr, hts, hown, hlocks, hml, hK, hN, hE, hA⟩ := C
  unfold zX10_plainOf_2b at h
  refine lv_aload_n hx hb dX10_plainOf_2 rfl (lv_at hl 0 rfl) ?_
  refine lv_bipush (v := 7) hx hb dX10_plainOf_3 (by decide) ?_
  obtain ⟨r1, q3, h2, h⟩ := dB_some h
  refine dw_ki (va_runV (As := [.int 7]) (rest := []) ⟨hx, hb, hml, hown, hts⟩ (qX10_passes0 l D ty eo _ ad q 7 r1 q3 h2) (cwV 1 hts gX10_plainOf_X10_passes0 rfl rfl rfl (by decide +kernel) ⟨by dsimp only [headSpec]; omega, by dsimp only [headSpec]; omega⟩) (dw_preV (ci := 10) (q0 := 0) hK hN hE hP hD hS hA rfl rfl) rfl rfl hl.1 rfl (lv_room (Nat.le_of_ble_eq_true rfl)) dX10_plainOf_5 ⟨Nat.le_of_ble_eq_true rfl, Nat.le_of_ble_eq_true rfl⟩) hD hS hA (fun r9 u9 H locs hw hp hd hs => ?_)
  clear hP hD hS
  obtain ⟨rfl, rfl⟩ := hw
  have hP := hp; have hD := hd; have hS := hs; clear hp hd hs
  refine lv_if_eq (tgt := 24) hx hb dX10_plainOf_8 (by decide) (fun c9 => ?_) (fun c9 => ?_)
  · rw [if_pos c9] at h
    refine lv_aload_n hx hb dX10_plainOf_24 rfl (lv_at hl 0 rfl) ?_
    refine lv_iload_n hx hb dX10_plainOf_25 rfl (lv_at hl 1 rfl) ?_
    obtain ⟨r4, q6, h5, h⟩ := dB_some h
    refine dw_ki (va_runV (As := [.int x1]) (rest := []) ⟨hx, hb, hml, hown, hts⟩ (qX10_positiveOf l D ty eo _ ad kV nV hkV q3 x1 r4 q6 h5) (cwV 1 hts gX10_plainOf_X10_positiveOf rfl rfl rfl (by decide +kernel) ⟨by dsimp only [headSpec]; omega, by dsimp only [headSpec]; omega⟩) (dw_preV (ci := 10) (q0 := 0) hK hN hE hP hD hS hA rfl rfl) rfl rfl hl.1 rfl (lv_room (Nat.le_of_ble_eq_true rfl)) dX10_plainOf_26 ⟨Nat.le_of_ble_eq_true rfl, Nat.le_of_ble_eq_true rfl⟩) hD hS hA (fun r9 u9 H locs hw hp hd hs => ?_)
    clear hP hD hS
    obtain ⟨rfl, rfl⟩ := hw
    have hP := hp; have hD := hd; have hS := hs; clear hp hd hs
    refine lv_iload_n hx hb dX10_plainOf_29 rfl (lv_at hl 2 rfl) ?_
    refine lv_icmp_eq (tgt := 37) hx hb dX10_plainOf_30 (by decide) (fun c9 => ?_) (fun c9 => ?_)
    · rw [if_pos c9] at h
      refine lv_iconst (v := 0) hx hb dX10_plainOf_37 (by decide) ?_
      exact WX10_plainOf_38 hkV C0  _ _ _ _ _ h hP hD hS (lv_sub hl [] rfl)
    · rw [if_neg c9] at h
      refine lv_iconst (v := 1) hx hb dX10_plainOf_33 (by decide) ?_
      refine lv_goto (tgt := 38) hx hb dX10_plainOf_34 (by decide) ?_
      exact WX10_plainOf_38 hkV C0  _ _ _ _ _ h hP hD hS (lv_sub hl [] rfl)
  · rw [if_neg c9] at h
    refine lv_iload_n hx hb dX10_plainOf_11 rfl (lv_at hl 2 rfl) ?_
    refine lv_if_ne (tgt := 19) hx hb dX10_plainOf_12 (by decide) (fun c9 => ?_) (fun c9 => ?_)
    · rw [if_neg c9] at h
      refine lv_iconst (v := 0) hx hb dX10_plainOf_19 (by decide) ?_
      exact WX10_plainOf_20 hkV C0 hk2 _ _ _ _ _ _ h hP hD hS (lv_sub hl [0, 1] rfl)
    · rw [if_pos c9] at h
      refine lv_iconst (v := 1) hx hb dX10_plainOf_15 (by decide) ?_
      refine lv_goto (tgt := 20) hx hb dX10_plainOf_16 (by decide) ?_
      exact WX10_plainOf_20 hkV C0 hk2 _ _ _ _ _ _ h hP hD hS (lv_sub hl [0, 1] rfl)
set_option maxHeartbeats 4000000 in
set_option maxRecDepth 100000 in
theorem WX10_plainOf_2 {p : Program} {l : Launch} {e : Env} {s : State} {m : MethodId} {args : Array Value} {below : List Frame} {meth : Method} {c : Code} {D : va_G} {ty : Nat → ClassId} {eo : Nat → Nat} {A : Nat → Prop} {ad : Nat → Nat} {o1 : Int32} {o2 : dS} {kV : dS → Int32 → Option (Int32 × dS)} {nV : Nat} (hkV : ∀ (sz : Nat) (q : dS) (p1 : Int32) (o1 : Int32) (o2 : dS), kV q p1 = some (o1, o2) → Met l yX10_testOf wsX10_testOf ({ frames := 44 + 4 * nV, cells := 0, slots := 0, locals := 1210 + 94 * nV } : Room) (va_Pc [.ref (ad 0), .int p1] (kz_pre D ty eo (w10 ty ad q) sz)) (va_Qi (fun (r : Int32) (u : va_W) => o1 = r ∧ w10 ty ad o2 = u) (kz_B D ty (va_A (w10 ty ad q) sz)) (va_A (w10 ty ad q) sz)) 0 0 (va_A (w10 ty ad q) sz)) (C : dc_C p s m args meth c cX10_plainOf (some .boolean) 3 RX10 wsX10_plainOf D ty eo A)   (n : Nat) (q : dS) (x1 : Int32) (x2 : Int32) (H : Heap) (locs : List Loc) (ls : Array Slot) (h : zX10_plainOf_2 kV  n q x1 x2 = some (o1, o2)) (hP : va_P D vwCl (w10 ty ad q) H) (hD : va_D A (w10 ty ad q)) (hS : va_S A s.heap H locs) (hl : lv_has ls 3 [(0, .ref (ad 0)), (1, .int x1), (2, .int x2)]) : W p l e ({ frames := 44 + 4 * nV + 2, cells := 0, slots := 0, locals := 1210 + 94 * nV + 49 } : Room) s m args below meth c H locs 0 0 (MQ below (va_Qi (fun (r : Int32) (u : va_W) => o1 = r ∧ w10 ty ad o2 = u) (kz_B D ty A) A) args s 0 0 A) (F0 m 2 ls []) := by
  exact dFix_W (F := fun k (a : dS × Int32 × Int32) => zX10_plainOf_2b kV  (fun q x1 x2 => k (q, x1, x2)) a.1 a.2.1 a.2.2) (o := (o1, o2)) (P := fun (a : dS × Int32 × Int32) H locs ls => va_P D vwCl (w10 ty ad a.1) H ∧ va_D A (w10 ty ad a.1) ∧ va_S A s.heap H locs ∧ lv_has ls 3 [(0, .ref (ad 0)), (1, .int a.2.1), (2, .int a.2.2)]) (G := fun H locs ls => W p l e ({ frames := 44 + 4 * nV + 2, cells := 0, slots := 0, locals := 1210 + 94 * nV + 49 } : Room) s m args below meth c H locs 0 0 (MQ below (va_Qi (fun (r : Int32) (u : va_W) => o1 = r ∧ w10 ty ad o2 = u) (kz_B D ty A) A) args s 0 0 A) (F0 m 2 ls []))
    (fun k hk a H locs ls h hp => WX10_plainOf_2b hkV C  (fun q x1 x2 H locs ls h h1 h2 h3 h4 => hk (q, x1, x2) H locs ls h ⟨h1, h2, h3, h4⟩) a.1 a.2.1 a.2.2 H locs ls h hp.1 hp.2.1 hp.2.2.1 hp.2.2.2) n (q, x1, x2) H locs ls h ⟨hP, hD, hS, hl⟩
set_option maxHeartbeats 4000000 in
set_option maxRecDepth 100000 in
theorem qX10_plainOf (l : Launch) (D : va_G) (ty : Nat → ClassId) (eo : Nat → Nat) (sz : Nat) (ad : Nat → Nat) (kV : dS → Int32 → Option (Int32 × dS)) (nV : Nat) (hkV : ∀ (sz : Nat) (q : dS) (p1 : Int32) (o1 : Int32) (o2 : dS), kV q p1 = some (o1, o2) → Met l yX10_testOf wsX10_testOf ({ frames := 44 + 4 * nV, cells := 0, slots := 0, locals := 1210 + 94 * nV } : Room) (va_Pc [.ref (ad 0), .int p1] (kz_pre D ty eo (w10 ty ad q) sz)) (va_Qi (fun (r : Int32) (u : va_W) => o1 = r ∧ w10 ty ad o2 = u) (kz_B D ty (va_A (w10 ty ad q) sz)) (va_A (w10 ty ad q) sz)) 0 0 (va_A (w10 ty ad q) sz)) (q : dS) (p1 : Int32) (o1 : Int32) (o2 : dS) (h : zX10_plainOf kV q p1 = some (o1, o2)) : Met l yX10_plainOf wsX10_plainOf ({ frames := 44 + 4 * nV + 2, cells := 0, slots := 0, locals := 1210 + 94 * nV + 49 } : Room) (va_Pc [.ref (ad 0), .int p1] (kz_pre D ty eo (w10 ty ad q) sz)) (va_Qi (fun (r : Int32) (u : va_W) => o1 = r ∧ w10 ty ad o2 = u) (kz_B D ty (va_A (w10 ty ad q) sz)) (va_A (w10 ty ad q) sz)) 0 0 (va_A (w10 ty ad q) sz) := by
  refine Met.ofW (cc := cX10_plainOf) (maxL := 3) (ret := (some .boolean)) (by decide) rfl ?_
  intro p e s m args below meth c s₁ B hml hv
  obtain ⟨rfl, hsz, hP, hK, hD0, hN, hE⟩ := hv
  have hx := B.exec
  have hb := B.bytes
  have hr := B.returns
  have hts := atoms_spec (ws := wsX10_plainOf) B.pre
  have hown : s.vm.findClass RX10 = some m.cls := findClass_of_methodNamed B.named
  have hlocks := B.notSynchronized
  subst hsz
  have hD := hD0.self (sz := s.heap.size)
  generalize hAe : va_A (w10 ty ad q) s.heap.size = A at hD hE ⊢
  have hA : ∀ q : Nat, s.heap.size ≤ q → A q := fun q h => by rw [← hAe]; exact Or.inr h
  clear hAe
  have hS : va_S A s.heap s.heap [] := va_S.rf
  have hl := lv_entry ([.ref (ad 0), .int p1]) (n := 3) (Nat.le_of_ble_eq_true rfl)
  rw [lg_entry_eq]
  generalize (lg_sl ([.ref (ad 0), .int p1]) ++ List.replicate (3 - (lg_sl ([.ref (ad 0), .int p1])).length) Slot.unset).toArray = ls at hl ⊢
  have hl : lv_has ls 3 [(0, .ref (ad 0)), (1, .int p1)] := hl
  have C : dc_C p s m _ meth c cX10_plainOf (some .boolean) 3 RX10 wsX10_plainOf D ty eo A := ⟨hx, hb, hr, hts, hown, hlocks, hml, hK, hN, hE, hA⟩
  unfold zX10_plainOf at h
  refine lv_iconst (v := 0) hx hb dX10_plainOf_0 (by decide) ?_
  refine lv_istore_n (lv' := [(2, .int 0), (0, .ref (ad 0)), (1, .int p1)]) hx hb dX10_plainOf_1 rfl hl (by decide) rfl (fun ls hl => ?_)
  exact WX10_plainOf_2 hkV C  _ _ _ _ _ _ _ h hP hD hS (lv_sub hl [1, 2, 0] rfl)

set_option maxHeartbeats 4000000 in
set_option maxRecDepth 100000 in
theorem WX10_bothOf_46 {p : Program} {l : Launch} {e : Env} {s : State} {m : MethodId} {args : Array Value} {below : List Frame} {meth : Method} {c : Code} {D : va_G} {ty : Nat → ClassId} {eo : Nat → Nat} {A : Nat → Prop} {ad : Nat → Nat} {o1 : Int32} {o2 : dS} {kV : dS → Int32 → Option (Int32 × dS)} {nV : Nat} (hkV : ∀ (sz : Nat) (q : dS) (p1 : Int32) (o1 : Int32) (o2 : dS), kV q p1 = some (o1, o2) → Met l yX10_testOf wsX10_testOf ({ frames := 44 + 4 * nV, cells := 0, slots := 0, locals := 1210 + 94 * nV } : Room) (va_Pc [.ref (ad 0), .int p1] (kz_pre D ty eo (w10 ty ad q) sz)) (va_Qi (fun (r : Int32) (u : va_W) => o1 = r ∧ w10 ty ad o2 = u) (kz_B D ty (va_A (w10 ty ad q) sz)) (va_A (w10 ty ad q) sz)) 0 0 (va_A (w10 ty ad q) sz)) (C : dc_C p s m args meth c cX10_bothOf (some .boolean) 4 RX10 wsX10_bothOf D ty eo A) {k6 : dS → Int32 → Int32 → Option (Int32 × dS)} (hk6 : ∀ (q : dS) (x1 : Int32) (x2 : Int32) (H : Heap) (locs : List Loc) (ls : Array Slot), k6 q x1 x2 = some (o1, o2) → va_P D vwCl (w10 ty ad q) H → va_D A (w10 ty ad q) → va_S A s.heap H locs → lv_has ls 4 [(0, .ref (ad 0)), (1, .int x1), (2, .int x2)] → W p l e ({ frames := 44 + 4 * nV + 3, cells := 0, slots := 0, locals := 1210 + 94 * nV + 71 } : Room) s m args below meth c H locs 0 0 (MQ below (va_Qi (fun (r : Int32) (u : va_W) => o1 = r ∧ w10 ty ad o2 = u) (kz_B D ty A) A) args s 0 0 A) (F0 m 6 ls [])) (q : dS) (x1 : Int32) (y0 : Int32) (H : Heap) (locs : List Loc) (ls : Array Slot) (h : zX10_bothOf_46 kV k6 q x1 y0 = some (o1, o2)) (hP : va_P D vwCl (w10 ty ad q) H) (hD : va_D A (w10 ty ad q)) (hS : va_S A s.heap H locs) (hl : lv_has ls 4 [(0, .ref (ad 0)), (1, .int x1)]) : W p l e ({ frames := 44 + 4 * nV + 3, cells := 0, slots := 0, locals := 1210 + 94 * nV + 71 } : Room) s m args below meth c H locs 0 0 (MQ below (va_Qi (fun (r : Int32) (u : va_W) => o1 = r ∧ w10 ty ad o2 = u) (kz_B D ty A) A) args s 0 0 A) (F0 m 46 ls [.int y0]) := by
  have C0 := C
  obtain ⟨hx, hb, hr, hts, hown, hlocks, hml, hK, hN, hE, hA⟩ := C
  unfold zX10_bothOf_46 at h
  refine lv_istore_n (lv' := [(2, .int y0), (0, .ref (ad 0)), (1, .int x1)]) hx hb dX10_bothOf_46 rfl hl (by decide) rfl (fun ls hl => ?_)
  refine lv_goto (tgt := 6) hx hb dX10_bothOf_47 (by decide) ?_
  exact hk6 _ _ _ _ _ _ h hP hD hS (lv_sub hl [1, 2, 0] rfl)
set_option maxHeartbeats 4000000 in
set_option maxRecDepth 100000 in
theorem WX10_bothOf_45 {p : Program} {l : Launch} {e : Env} {s : State} {m : MethodId} {args : Array Value} {below : List Frame} {meth : Method} {c : Code} {D : va_G} {ty : Nat → ClassId} {eo : Nat → Nat} {A : Nat → Prop} {ad : Nat → Nat} {o1 : Int32} {o2 : dS} {kV : dS → Int32 → Option (Int32 × dS)} {nV : Nat} (hkV : ∀ (sz : Nat) (q : dS) (p1 : Int32) (o1 : Int32) (o2 : dS), kV q p1 = some (o1, o2) → Met l yX10_testOf wsX10_testOf ({ frames := 44 + 4 * nV, cells := 0, slots := 0, locals := 1210 + 94 * nV } : Room) (va_Pc [.ref (ad 0), .int p1] (kz_pre D ty eo (w10 ty ad q) sz)) (va_Qi (fun (r : Int32) (u : va_W) => o1 = r ∧ w10 ty ad o2 = u) (kz_B D ty (va_A (w10 ty ad q) sz)) (va_A (w10 ty ad q) sz)) 0 0 (va_A (w10 ty ad q) sz)) (C : dc_C p s m args meth c cX10_bothOf (some .boolean) 4 RX10 wsX10_bothOf D ty eo A) {k6 : dS → Int32 → Int32 → Option (Int32 × dS)} (hk6 : ∀ (q : dS) (x1 : Int32) (x2 : Int32) (H : Heap) (locs : List Loc) (ls : Array Slot), k6 q x1 x2 = some (o1, o2) → va_P D vwCl (w10 ty ad q) H → va_D A (w10 ty ad q) → va_S A s.heap H locs → lv_has ls 4 [(0, .ref (ad 0)), (1, .int x1), (2, .int x2)] → W p l e ({ frames := 44 + 4 * nV + 3, cells := 0, slots := 0, locals := 1210 + 94 * nV + 71 } : Room) s m args below meth c H locs 0 0 (MQ below (va_Qi (fun (r : Int32) (u : va_W) => o1 = r ∧ w10 ty ad o2 = u) (kz_B D ty A) A) args s 0 0 A) (F0 m 6 ls [])) (q : dS) (x1 : Int32) (H : Heap) (locs : List Loc) (ls : Array Slot) (h : zX10_bothOf_45 kV k6 q x1 = some (o1, o2)) (hP : va_P D vwCl (w10 ty ad q) H) (hD : va_D A (w10 ty ad q)) (hS : va_S A s.heap H locs) (hl : lv_has ls 4 [(0, .ref (ad 0)), (1, .int x1)]) : W p l e ({ frames := 44 + 4 * nV + 3, cells := 0, slots := 0, locals := 1210 + 94 * nV + 71 } : Room) s m args below meth c H locs 0 0 (MQ below (va_Qi (fun (r : Int32) (u : va_W) => o1 = r ∧ w10 ty ad o2 = u) (kz_B D ty A) A) args s 0 0 A) (F0 m 45 ls []) := by
  have C0 := C
  obtain ⟨hx, hb, hr, hts, hown, hlocks, hml, hK, hN, hE, hA⟩ := C
  unfold zX10_bothOf_45 at h
  refine lv_iconst (v := 0) hx hb dX10_bothOf_45 (by decide) ?_
  exact WX10_bothOf_46 hkV C0 hk6 _ _ _ _ _ _ h hP hD hS (lv_sub hl [0, 1] rfl)
set_option maxHeartbeats 4000000 in
set_option maxRecDepth 100000 in
theorem WX10_bothOf_29 {p : Program} {l : Launch} {e : Env} {s : State} {m : MethodId} {args : Array Value} {below : List Frame} {meth : Method} {c : Code} {D : va_G} {ty : Nat → ClassId} {eo : Nat → Nat} {A : Nat → Prop} {ad : Nat → Nat} {o1 : Int32} {o2 : dS} {kV : dS → Int32 → Option (Int32 × dS)} {nV : Nat} (hkV : ∀ (sz : Nat) (q : dS) (p1 : Int32) (o1 : Int32) (o2 : dS), kV q p1 = some (o1, o2) → Met l yX10_testOf wsX10_testOf ({ frames := 44 + 4 * nV, cells := 0, slots := 0, locals := 1210 + 94 * nV } : Room) (va_Pc [.ref (ad 0), .int p1] (kz_pre D ty eo (w10 ty ad q) sz)) (va_Qi (fun (r : Int32) (u : va_W) => o1 = r ∧ w10 ty ad o2 = u) (kz_B D ty (va_A (w10 ty ad q) sz)) (va_A (w10 ty ad q) sz)) 0 0 (va_A (w10 ty ad q) sz)) (C : dc_C p s m args meth c cX10_bothOf (some .boolean) 4 RX10 wsX10_bothOf D ty eo A) {k6 : dS → Int32 → Int32 → Option (Int32 × dS)} (hk6 : ∀ (q : dS) (x1 : Int32) (x2 : Int32) (H : Heap) (locs : List Loc) (ls : Array Slot), k6 q x1 x2 = some (o1, o2) → va_P D vwCl (w10 ty ad q) H → va_D A (w10 ty ad q) → va_S A s.heap H locs → lv_has ls 4 [(0, .ref (ad 0)), (1, .int x1), (2, .int x2)] → W p l e ({ frames := 44 + 4 * nV + 3, cells := 0, slots := 0, locals := 1210 + 94 * nV + 71 } : Room) s m args below meth c H locs 0 0 (MQ below (va_Qi (fun (r : Int32) (u : va_W) => o1 = r ∧ w10 ty ad o2 = u) (kz_B D ty A) A) args s 0 0 A) (F0 m 6 ls [])) (q : dS) (x1 : Int32) (x2 : Int32) (y0 : Int32) (H : Heap) (locs : List Loc) (ls : Array Slot) (h : zX10_bothOf_29 kV k6 q x1 x2 y0 = some (o1, o2)) (hP : va_P D vwCl (w10 ty ad q) H) (hD : va_D A (w10 ty ad q)) (hS : va_S A s.heap H locs) (hl : lv_has ls 4 [(0, .ref (ad 0)), (1, .int x1), (2, .int x2)]) : W p l e ({ frames := 44 + 4 * nV + 3, cells := 0, slots := 0, locals := 1210 + 94 * nV + 71 } : Room) s m args below meth c H locs 0 0 (MQ below (va_Qi (fun (r : Int32) (u : va_W) => o1 = r ∧ w10 ty ad o2 = u) (kz_B D ty A) A) args s 0 0 A) (F0 m 29 ls [.int y0, .ref (ad 0)]) := by
  have C0 := C
  obtain ⟨hx, hb, hr, hts, hown, hlocks, hml, hK, hN, hE, hA⟩ := C
  unfold zX10_bothOf_29 at h
  obtain ⟨r1, q3, h2, h⟩ := dB_some h
  refine dw_ki (va_runV (As := [.int y0]) (rest := []) ⟨hx, hb, hml, hown, hts⟩ (qX10_plainOf l D ty eo _ ad kV nV hkV q y0 r1 q3 h2) (cwV 1 hts gX10_bothOf_X10_plainOf rfl rfl rfl (by decide +kernel) ⟨by dsimp only [headSpec]; omega, by dsimp only [headSpec]; omega⟩) (dw_preV (ci := 10) (q0 := 0) hK hN hE hP hD hS hA rfl rfl) rfl rfl hl.1 rfl (lv_room (Nat.le_of_ble_eq_true rfl)) dX10_bothOf_29 ⟨Nat.le_of_ble_eq_true rfl, Nat.le_of_ble_eq_true rfl⟩) hD hS hA (fun r9 u9 H locs hw hp hd hs => ?_)
  clear hP hD hS
  obtain ⟨rfl, rfl⟩ := hw
  have hP := hp; have hD := hd; have hS := hs; clear hp hd hs
  refine lv_istore_n (lv' := [(3, .int r1), (0, .ref (ad 0)), (1, .int x1), (2, .int x2)]) hx hb dX10_bothOf_32 rfl hl (by decide) rfl (fun ls hl => ?_)
  refine lv_iload_n hx hb dX10_bothOf_33 rfl (lv_at hl 3 rfl) ?_
  refine lv_if_eq (tgt := 45) hx hb dX10_bothOf_34 (by decide) (fun c9 => ?_) (fun c9 => ?_)
  · rw [if_pos c9] at h
    exact WX10_bothOf_45 hkV C0 hk6 _ _ _ _ _ h hP hD hS (lv_sub hl [1, 2] rfl)
  · rw [if_neg c9] at h
    refine lv_iload_n hx hb dX10_bothOf_37 rfl (lv_at hl 0 rfl) ?_
    refine lv_if_eq (tgt := 45) hx hb dX10_bothOf_38 (by decide) (fun c9 => ?_) (fun c9 => ?_)
    · rw [if_pos c9] at h
      exact WX10_bothOf_45 hkV C0 hk6 _ _ _ _ _ h hP hD hS (lv_sub hl [1, 2] rfl)
    · rw [if_neg c9] at h
      refine lv_iconst (v := 1) hx hb dX10_bothOf_41 (by decide) ?_
      refine lv_goto (tgt := 46) hx hb dX10_bothOf_42 (by decide) ?_
      exact WX10_bothOf_46 hkV C0 hk6 _ _ _ _ _ _ h hP hD hS (lv_sub hl [1, 2] rfl)
set_option maxHeartbeats 4000000 in
set_option maxRecDepth 100000 in
theorem WX10_bothOf_28 {p : Program} {l : Launch} {e : Env} {s : State} {m : MethodId} {args : Array Value} {below : List Frame} {meth : Method} {c : Code} {D : va_G} {ty : Nat → ClassId} {eo : Nat → Nat} {A : Nat → Prop} {ad : Nat → Nat} {o1 : Int32} {o2 : dS} {kV : dS → Int32 → Option (Int32 × dS)} {nV : Nat} (hkV : ∀ (sz : Nat) (q : dS) (p1 : Int32) (o1 : Int32) (o2 : dS), kV q p1 = some (o1, o2) → Met l yX10_testOf wsX10_testOf ({ frames := 44 + 4 * nV, cells := 0, slots := 0, locals := 1210 + 94 * nV } : Room) (va_Pc [.ref (ad 0), .int p1] (kz_pre D ty eo (w10 ty ad q) sz)) (va_Qi (fun (r : Int32) (u : va_W) => o1 = r ∧ w10 ty ad o2 = u) (kz_B D ty (va_A (w10 ty ad q) sz)) (va_A (w10 ty ad q) sz)) 0 0 (va_A (w10 ty ad q) sz)) (C : dc_C p s m args meth c cX10_bothOf (some .boolean) 4 RX10 wsX10_bothOf D ty eo A) {k6 : dS → Int32 → Int32 → Option (Int32 × dS)} (hk6 : ∀ (q : dS) (x1 : Int32) (x2 : Int32) (H : Heap) (locs : List Loc) (ls : Array Slot), k6 q x1 x2 = some (o1, o2) → va_P D vwCl (w10 ty ad q) H → va_D A (w10 ty ad q) → va_S A s.heap H locs → lv_has ls 4 [(0, .ref (ad 0)), (1, .int x1), (2, .int x2)] → W p l e ({ frames := 44 + 4 * nV + 3, cells := 0, slots := 0, locals := 1210 + 94 * nV + 71 } : Room) s m args below meth c H locs 0 0 (MQ below (va_Qi (fun (r : Int32) (u : va_W) => o1 = r ∧ w10 ty ad o2 = u) (kz_B D ty A) A) args s 0 0 A) (F0 m 6 ls [])) (q : dS) (x1 : Int32) (x2 : Int32) (H : Heap) (locs : List Loc) (ls : Array Slot) (h : zX10_bothOf_28 kV k6 q x1 x2 = some (o1, o2)) (hP : va_P D vwCl (w10 ty ad q) H) (hD : va_D A (w10 ty ad q)) (hS : va_S A s.heap H locs) (hl : lv_has ls 4 [(0, .ref (ad 0)), (1, .int x1), (2, .int x2)]) : W p l e ({ frames := 44 + 4 * nV + 3, cells := 0, slots := 0, locals := 1210 + 94 * nV + 71 } : Room) s m args below meth c H locs 0 0 (MQ below (va_Qi (fun (r : Int32) (u : va_W) => o1 = r ∧ w10 ty ad o2 = u) (kz_B D ty A) A) args s 0 0 A) (F0 m 28 ls [.ref (ad 0)]) := by
  have C0 := C
  obtain ⟨hx, hb, hr, hts, hown, hlocks, hml, hK, hN, hE, hA⟩ := C
  unfold zX10_bothOf_28 at h
  refine lv_iconst (v := 0) hx hb dX10_bothOf_28 (by decide) ?_
  exact WX10_bothOf_29 hkV C0 hk6 _ _ _ _ _ _ _ h hP hD hS (lv_sub hl [0, 1, 2] rfl)
set_option maxHeartbeats 4000000 in
set_option maxRecDepth 100000 in
theorem WX10_bothOf_6b {p : Program} {l : Launch} {e : Env} {s : State} {m : MethodId} {args : Array Value} {below : List Frame} {meth : Method} {c : Code} {D : va_G} {ty : Nat → ClassId} {eo : Nat → Nat} {A : Nat → Prop} {ad : Nat → Nat} {o1 : Int32} {o2 : dS} {kV : dS → Int32 → Option (Int32 × dS)} {nV : Nat} (hkV : ∀ (sz : Nat) (q : dS) (p1 : Int32) (o1 : Int32) (o2 : dS), kV q p1 = some (o1, o2) → Met l yX10_testOf wsX10_testOf ({ frames := 44 + 4 * nV, cells := 0, slots := 0, locals := 1210 + 94 * nV } : Room) (va_Pc [.ref (ad 0), .int p1] (kz_pre D ty eo (w10 ty ad q) sz)) (va_Qi (fun (r : Int32) (u : va_W) => o1 = r ∧ w10 ty ad o2 = u) (kz_B D ty (va_A (w10 ty ad q) sz)) (va_A (w10 ty ad q) sz)) 0 0 (va_A (w10 ty ad q) sz)) (C : dc_C p s m args meth c cX10_bothOf (some .boolean) 4 RX10 wsX10_bothOf D ty eo A) {k6 : dS → Int32 → Int32 → Option (Int32 × dS)} (hk6 : ∀ (q : dS) (x1 : Int32) (x2 : Int32) (H : Heap) (locs : List Loc) (ls : Array Slot), k6 q x1 x2 = some (o1, o2) → va_P D vwCl (w10 ty ad q) H → va_D A (w10 ty ad q) → va_S A s.heap H locs → lv_has ls 4 [(0, .ref (ad 0)), (1, .int x1), (2, .int x2)] → W p l e ({ frames := 44 + 4 * nV + 3, cells := 0, slots := 0, locals := 1210 + 94 * nV + 71 } : Room) s m args below meth c H locs 0 0 (MQ below (va_Qi (fun (r : Int32) (u : va_W) => o1 = r ∧ w10 ty ad o2 = u) (kz_B D ty A) A) args s 0 0 A) (F0 m 6 ls [])) (q : dS) (x1 : Int32) (x2 : Int32) (H : Heap) (locs : List Loc) (ls : Array Slot) (h : zX10_bothOf_6b kV k6 q x1 x2 = some (o1, o2)) (hP : va_P D vwCl (w10 ty ad q) H) (hD : va_D A (w10 ty ad q)) (hS : va_S A s.heap H locs) (hl : lv_has ls 4 [(0, .ref (ad 0)), (1, .int x1), (2, .int x2)]) : W p l e ({ frames := 44 + 4 * nV + 3, cells := 0, slots := 0, locals := 1210 + 94 * nV + 71 } : Room) s m args below meth c H locs 0 0 (MQ below (va_Qi (fun (r : Int32) (u : va_W) => o1 = r ∧ w10 ty ad o2 = u) (kz_B D ty A) A) args s 0 0 A) (F0 m 6 ls []) := by
  have C0 := C
  obtain ⟨hx, hb, hr, hts, hown, hlocks, hml, hK, hN, hE, hA⟩ := C
  unfold zX10_bothOf_6b at h
  refine lv_aload_n hx hb dX10_bothOf_6 rfl (lv_at hl 0 rfl) ?_
  refine lv_bipush (v := 6) hx hb dX10_bothOf_7 (by decide) ?_
  obtain ⟨r1, q3, h2, h⟩ := dB_some h
  refine dw_ki (va_runV (As := [.int 6]) (rest := []) ⟨hx, hb, hml, hown, hts⟩ (qX10_passes0 l D ty eo _ ad q 6 r1 q3 h2) (cwV 1 hts gX10_bothOf_X10_passes0 rfl rfl rfl (by decide +kernel) ⟨by dsimp only [headSpec]; omega, by dsimp only [headSpec]; omega⟩) (dw_preV (ci := 10) (q0 := 0) hK hN hE hP hD hS hA rfl rfl) rfl rfl hl.1 rfl (lv_room (Nat.le_of_ble_eq_true rfl)) dX10_bothOf_9 ⟨Nat.le_of_ble_eq_true rfl, Nat.le_of_ble_eq_true rfl⟩) hD hS hA (fun r9 u9 H locs hw hp hd hs => ?_)
  clear hP hD hS
  obtain ⟨rfl, rfl⟩ := hw
  have hP := hp; have hD := hd; have hS := hs; clear hp hd hs
  refine lv_if_eq (tgt := 50) hx hb dX10_bothOf_12 (by decide) (fun c9 => ?_) (fun c9 => ?_)
  · rw [if_pos c9] at h
    refine lv_iload_n hx hb dX10_bothOf_50 rfl (lv_at hl 2 rfl) ?_
    obtain ⟨g4, h⟩ := dG_some h
    cases h
    exact kz_zret hx hb hr hlocks (dbl_nar g4) hP hK hD hS dX10_bothOf_51 ⟨rfl, rfl⟩
  · rw [if_neg c9] at h
    refine lv_aload_n hx hb dX10_bothOf_15 rfl (lv_at hl 0 rfl) ?_
    refine lv_iload_n hx hb dX10_bothOf_16 rfl (lv_at hl 1 rfl) ?_
    refine lv_if_eq (tgt := 28) hx hb dX10_bothOf_17 (by decide) (fun c9 => ?_) (fun c9 => ?_)
    · rw [if_pos c9] at h
      exact WX10_bothOf_28 hkV C0 hk6 _ _ _ _ _ _ h hP hD hS (lv_sub hl [0, 1, 2] rfl)
    · rw [if_neg c9] at h
      refine lv_iload_n hx hb dX10_bothOf_20 rfl (lv_at hl 2 rfl) ?_
      refine lv_if_eq (tgt := 28) hx hb dX10_bothOf_21 (by decide) (fun c9 => ?_) (fun c9 => ?_)
      · rw [if_pos c9] at h
        exact WX10_bothOf_28 hkV C0 hk6 _ _ _ _ _ _ h hP hD hS (lv_sub hl [0, 1, 2] rfl)
      · rw [if_neg c9] at h
        refine lv_iconst (v := 1) hx hb dX10_bothOf_24 (by decide) ?_
        refine lv_goto (tgt := 29) hx hb dX10_bothOf_25 (by decide) ?_
        exact WX10_bothOf_29 hkV C0 hk6 _ _ _ _ _ _ _ h hP hD hS (lv_sub hl [0, 1, 2] rfl)
set_option maxHeartbeats 4000000 in
set_option maxRecDepth 100000 in
theorem WX10_bothOf_6 {p : Program} {l : Launch} {e : Env} {s : State} {m : MethodId} {args : Array Value} {below : List Frame} {meth : Method} {c : Code} {D : va_G} {ty : Nat → ClassId} {eo : Nat → Nat} {A : Nat → Prop} {ad : Nat → Nat} {o1 : Int32} {o2 : dS} {kV : dS → Int32 → Option (Int32 × dS)} {nV : Nat} (hkV : ∀ (sz : Nat) (q : dS) (p1 : Int32) (o1 : Int32) (o2 : dS), kV q p1 = some (o1, o2) → Met l yX10_testOf wsX10_testOf ({ frames := 44 + 4 * nV, cells := 0, slots := 0, locals := 1210 + 94 * nV } : Room) (va_Pc [.ref (ad 0), .int p1] (kz_pre D ty eo (w10 ty ad q) sz)) (va_Qi (fun (r : Int32) (u : va_W) => o1 = r ∧ w10 ty ad o2 = u) (kz_B D ty (va_A (w10 ty ad q) sz)) (va_A (w10 ty ad q) sz)) 0 0 (va_A (w10 ty ad q) sz)) (C : dc_C p s m args meth c cX10_bothOf (some .boolean) 4 RX10 wsX10_bothOf D ty eo A)   (n : Nat) (q : dS) (x1 : Int32) (x2 : Int32) (H : Heap) (locs : List Loc) (ls : Array Slot) (h : zX10_bothOf_6 kV  n q x1 x2 = some (o1, o2)) (hP : va_P D vwCl (w10 ty ad q) H) (hD : va_D A (w10 ty ad q)) (hS : va_S A s.heap H locs) (hl : lv_has ls 4 [(0, .ref (ad 0)), (1, .int x1), (2, .int x2)]) : W p l e ({ frames := 44 + 4 * nV + 3, cells := 0, slots := 0, locals := 1210 + 94 * nV + 71 } : Room) s m args below meth c H locs 0 0 (MQ below (va_Qi (fun (r : Int32) (u : va_W) => o1 = r ∧ w10 ty ad o2 = u) (kz_B D ty A) A) args s 0 0 A) (F0 m 6 ls []) := by
  exact dFix_W (F := fun k (a : dS × Int32 × Int32) => zX10_bothOf_6b kV  (fun q x1 x2 => k (q, x1, x2)) a.1 a.2.1 a.2.2) (o := (o1, o2)) (P := fun (a : dS × Int32 × Int32) H locs ls => va_P D vwCl (w10 ty ad a.1) H ∧ va_D A (w10 ty ad a.1) ∧ va_S A s.heap H locs ∧ lv_has ls 4 [(0, .ref (ad 0)), (1, .int a.2.1), (2, .int a.2.2)]) (G := fun H locs ls => W p l e ({ frames := 44 + 4 * nV + 3, cells := 0, slots := 0, locals := 1210 + 94 * nV + 71 } : Room) s m args below meth c H locs 0 0 (MQ below (va_Qi (fun (r : Int32) (u : va_W) => o1 = r ∧ w10 ty ad o2 = u) (kz_B D ty A) A) args s 0 0 A) (F0 m 6 ls []))
    (fun k hk a H locs ls h hp => WX10_bothOf_6b hkV C  (fun q x1 x2 H locs ls h h1 h2 h3 h4 => hk (q, x1, x2) H locs ls h ⟨h1, h2, h3, h4⟩) a.1 a.2.1 a.2.2 H locs ls h hp.1 hp.2.1 hp.2.2.1 hp.2.2.2) n (q, x1, x2) H locs ls h ⟨hP, hD, hS, hl⟩
set_option maxHeartbeats 4000000 in
set_option maxRecDepth 100000 in
theorem qX10_bothOf (l : Launch) (D : va_G) (ty : Nat → ClassId) (eo : Nat → Nat) (sz : Nat) (ad : Nat → Nat) (kV : dS → Int32 → Option (Int32 × dS)) (nV : Nat) (hkV : ∀ (sz : Nat) (q : dS) (p1 : Int32) (o1 : Int32) (o2 : dS), kV q p1 = some (o1, o2) → Met l yX10_testOf wsX10_testOf ({ frames := 44 + 4 * nV, cells := 0, slots := 0, locals := 1210 + 94 * nV } : Room) (va_Pc [.ref (ad 0), .int p1] (kz_pre D ty eo (w10 ty ad q) sz)) (va_Qi (fun (r : Int32) (u : va_W) => o1 = r ∧ w10 ty ad o2 = u) (kz_B D ty (va_A (w10 ty ad q) sz)) (va_A (w10 ty ad q) sz)) 0 0 (va_A (w10 ty ad q) sz)) (q : dS) (p1 : Int32) (o1 : Int32) (o2 : dS) (h : zX10_bothOf kV q p1 = some (o1, o2)) : Met l yX10_bothOf wsX10_bothOf ({ frames := 44 + 4 * nV + 3, cells := 0, slots := 0, locals := 1210 + 94 * nV + 71 } : Room) (va_Pc [.ref (ad 0), .int p1] (kz_pre D ty eo (w10 ty ad q) sz)) (va_Qi (fun (r : Int32) (u : va_W) => o1 = r ∧ w10 ty ad o2 = u) (kz_B D ty (va_A (w10 ty ad q) sz)) (va_A (w10 ty ad q) sz)) 0 0 (va_A (w10 ty ad q) sz) := by
  refine Met.ofW (cc := cX10_bothOf) (maxL := 4) (ret := (some .boolean)) (by decide) rfl ?_
  intro p e s m args below meth c s₁ B hml hv
  obtain ⟨rfl, hsz, hP, hK, hD0, hN, hE⟩ := hv
  have hx := B.exec
  have hb := B.bytes
  have hr := B.returns
  have hts := atoms_spec (ws := wsX10_bothOf) B.pre
  have hown : s.vm.findClass RX10 = some m.cls := findClass_of_methodNamed B.named
  have hlocks := B.notSynchronized
  subst hsz
  have hD := hD0.self (sz := s.heap.size)
  generalize hAe : va_A (w10 ty ad q) s.heap.size = A at hD hE ⊢
  have hA : ∀ q : Nat, s.heap.size ≤ q → A q := fun q h => by rw [← hAe]; exact Or.inr h
  clear hAe
  have hS : va_S A s.heap s.heap [] := va_S.rf
  have hl := lv_entry ([.ref (ad 0), .int p1]) (n := 4) (Nat.le_of_ble_eq_true rfl)
  rw [lg_entry_eq]
  generalize (lg_sl ([.ref (ad 0), .int p1]) ++ List.replicate (4 - (lg_sl ([.ref (ad 0), .int p1])).length) Slot.unset).toArray = ls at hl ⊢
  have hl : lv_has ls 4 [(0, .ref (ad 0)), (1, .int p1)] := hl
  have C : dc_C p s m _ meth c cX10_bothOf (some .boolean) 4 RX10 wsX10_bothOf D ty eo A := ⟨hx, hb, hr, hts, hown, hlocks, hml, hK, hN, hE, hA⟩
  unfold zX10_bothOf at h
  refine lv_aload_n hx hb dX10_bothOf_0 rfl (lv_at hl 0 rfl) ?_
  refine lv_iload_n hx hb dX10_bothOf_1 rfl (lv_at hl 1 rfl) ?_
  obtain ⟨r1, q3, h2, h⟩ := dB_some h
  refine dw_ki (va_runV (As := [.int p1]) (rest := []) ⟨hx, hb, hml, hown, hts⟩ (qX10_plainOf l D ty eo _ ad kV nV hkV q p1 r1 q3 h2) (cwV 1 hts gX10_bothOf_X10_plainOf rfl rfl rfl (by decide +kernel) ⟨by dsimp only [headSpec]; omega, by dsimp only [headSpec]; omega⟩) (dw_preV (ci := 10) (q0 := 0) hK hN hE hP hD hS hA rfl rfl) rfl rfl hl.1 rfl (lv_room (Nat.le_of_ble_eq_true rfl)) dX10_bothOf_2 ⟨Nat.le_of_ble_eq_true rfl, Nat.le_of_ble_eq_true rfl⟩) hD hS hA (fun r9 u9 H locs hw hp hd hs => ?_)
  clear hP hD hS
  obtain ⟨rfl, rfl⟩ := hw
  have hP := hp; have hD := hd; have hS := hs; clear hp hd hs
  refine lv_istore_n (lv' := [(2, .int r1), (0, .ref (ad 0)), (1, .int p1)]) hx hb dX10_bothOf_5 rfl hl (by decide) rfl (fun ls hl => ?_)
  exact WX10_bothOf_6 hkV C  _ _ _ _ _ _ _ h hP hD hS (lv_sub hl [1, 2, 0] rfl)
