noncomputable def zX10_goesAlong_174  (q : dS) (y0 : Int32) : Option (dS) := dG (dbl y0) (dL (dui q 0 51 y0) (fun q2 => dL (dui q2 0 22 ((q2.1 0 22) + 1 : Int32)) (fun q3 => some q3)))
set_option maxHeartbeats 4000000 in
set_option maxRecDepth 100000 in
theorem WX10_goesAlong_174 {p : Program} {l : Launch} {e : Env} {s : State} {m : MethodId} {args : Array Value} {below : List Frame} {meth : Method} {c : Code} {D : va_G} {ty : Nat → ClassId} {eo : Nat → Nat} {A : Nat → Prop} {ad : Nat → Nat} {o2 : dS} (C : dc_C p s m args meth c cX10_goesAlong none 3 RX10 wsX10_goesAlong D ty eo A)   (q : dS) (y0 : Int32) (H : Heap) (locs : List Loc) (ls : Array Slot) (h : zX10_goesAlong_174  q y0 = some o2) (hP : va_P D vwCl (w10 ty ad q) H) (hD : va_D A (w10 ty ad q)) (hS : va_S A s.heap H locs) (hl : lv_has ls 3 [(0, .ref (ad 0))]) : W p l e ({ frames := 85, cells := 0, slots := 0, locals := 2173 } : Room) s m args below meth c H locs 0 0 (MQ below (va_Qv (fun (u : va_W) => w10 ty ad o2 = u) (kz_B D ty A) A) args s 0 0 A) (F0 m 174 ls [.int y0, .ref (ad 0)]) := by
  have C0 := C
  obtain ⟨hx, hb, hr, hts, hown, hlocks, hml, hK, hN, hE, hA⟩ := C
  unfold zX10_goesAlong_174 at h
  obtain ⟨g1, h⟩ := dG_some h
  refine va_put (D := D) (ci := 10) (v := .int y0) (ty := .boolean) (C := RX10) (T := TX10) (N := 56) hx hb hts (by decide +kernel) tyX10 tyX10_ok nmX10 hown hK hP hD hS 0 rfl rfl 51 (by decide) (hts (.fieldLink RX10 497 "TurnedFloorsModel" "testIs" "Z") (by decide +kernel)) (fun _ h9 => h9) rfl (by decide +kernel) (dbl_nar g1) rfl (Nat.le_of_ble_eq_true rfl) dX10_goesAlong_174 (fun H locs hp hd hs => ?_)
  obtain ⟨q2, eq2, h⟩ := dL_some h
  refine kz_re (w2 := w10 ty ad q2) hp hd hs (by rw [← eq2]; exact w10_f51 ty ad q y0) ?_
  clear hp hd hs hP hD hS
  intro hP hD hS
  refine lv_aload_n hx hb dX10_goesAlong_177 rfl (lv_at hl 0 rfl) ?_
  refine lv_dup hx hb dX10_goesAlong_178 rfl ?_
  refine va_get (D := D) (ci := 10) (v := .int (q2.1 0 22)) (C := RX10) (T := TX10) (N := 56) hx hb hts (by decide +kernel) hown hK hP 0 rfl rfl 22 (by decide) (hts (.fieldLink RX10 278 "TurnedFloorsModel" "go" "I") (by decide +kernel)) (fun _ h9 => h9) rfl dX10_goesAlong_179 ?_
  refine lv_iconst (v := 1) hx hb dX10_goesAlong_182 (by decide) ?_
  refine lv_iadd hx hb dX10_goesAlong_183 ?_
  refine va_put (D := D) (ci := 10) (v := .int ((q2.1 0 22) + 1 : Int32)) (ty := .int) (C := RX10) (T := TX10) (N := 56) hx hb hts (by decide +kernel) tyX10 tyX10_ok nmX10 hown hK hP hD hS 0 rfl rfl 22 (by decide) (hts (.fieldLink RX10 278 "TurnedFloorsModel" "go" "I") (by decide +kernel)) (fun _ h9 => h9) rfl (by decide +kernel) rfl rfl (Nat.le_of_ble_eq_true rfl) dX10_goesAlong_184 (fun H locs hp hd hs => ?_)
  obtain ⟨q3, eq3, h⟩ := dL_some h
  refine kz_re (w2 := w10 ty ad q3) hp hd hs (by rw [← eq3]; exact w10_f22 ty ad q2 ((q2.1 0 22) + 1 : Int32)) ?_
  clear hp hd hs hP hD hS
  intro hP hD hS
  cases h
  exact kz_vret hx hb hr hlocks hP hK hD hS dX10_goesAlong_187 rfl
noncomputable def zX10_goesAlong_173  (q : dS)  : Option (dS) := zX10_goesAlong_174  q 0
set_option maxHeartbeats 4000000 in
set_option maxRecDepth 100000 in
theorem WX10_goesAlong_173 {p : Program} {l : Launch} {e : Env} {s : State} {m : MethodId} {args : Array Value} {below : List Frame} {meth : Method} {c : Code} {D : va_G} {ty : Nat → ClassId} {eo : Nat → Nat} {A : Nat → Prop} {ad : Nat → Nat} {o2 : dS} (C : dc_C p s m args meth c cX10_goesAlong none 3 RX10 wsX10_goesAlong D ty eo A)   (q : dS)  (H : Heap) (locs : List Loc) (ls : Array Slot) (h : zX10_goesAlong_173  q = some o2) (hP : va_P D vwCl (w10 ty ad q) H) (hD : va_D A (w10 ty ad q)) (hS : va_S A s.heap H locs) (hl : lv_has ls 3 [(0, .ref (ad 0))]) : W p l e ({ frames := 85, cells := 0, slots := 0, locals := 2173 } : Room) s m args below meth c H locs 0 0 (MQ below (va_Qv (fun (u : va_W) => w10 ty ad o2 = u) (kz_B D ty A) A) args s 0 0 A) (F0 m 173 ls [.ref (ad 0)]) := by
  have C0 := C
  obtain ⟨hx, hb, hr, hts, hown, hlocks, hml, hK, hN, hE, hA⟩ := C
  unfold zX10_goesAlong_173 at h
  refine lv_iconst (v := 0) hx hb dX10_goesAlong_173 (by decide) ?_
  exact WX10_goesAlong_174 C0  _ _ _ _ _ h hP hD hS (lv_sub hl [0] rfl)
noncomputable def zX10_goesAlong_151  (q : dS) (y0 : Int32) : Option (dS) := dG (dbl y0) (dL (dui q 0 51 y0) (fun q2 => if (q2.1 0 51) = 0 then zX10_goesAlong_173  q2 else if (q2.1 0 24) = 0 then zX10_goesAlong_174  q2 1 else zX10_goesAlong_173  q2))
set_option maxHeartbeats 4000000 in
set_option maxRecDepth 100000 in
theorem WX10_goesAlong_151 {p : Program} {l : Launch} {e : Env} {s : State} {m : MethodId} {args : Array Value} {below : List Frame} {meth : Method} {c : Code} {D : va_G} {ty : Nat → ClassId} {eo : Nat → Nat} {A : Nat → Prop} {ad : Nat → Nat} {o2 : dS} (C : dc_C p s m args meth c cX10_goesAlong none 3 RX10 wsX10_goesAlong D ty eo A)   (q : dS) (y0 : Int32) (H : Heap) (locs : List Loc) (ls : Array Slot) (h : zX10_goesAlong_151  q y0 = some o2) (hP : va_P D vwCl (w10 ty ad q) H) (hD : va_D A (w10 ty ad q)) (hS : va_S A s.heap H locs) (hl : lv_has ls 3 [(0, .ref (ad 0))]) : W p l e ({ frames := 85, cells := 0, slots := 0, locals := 2173 } : Room) s m args below meth c H locs 0 0 (MQ below (va_Qv (fun (u : va_W) => w10 ty ad o2 = u) (kz_B D ty A) A) args s 0 0 A) (F0 m 151 ls [.int y0, .ref (ad 0)]) := by
  have C0 := C
  obtain ⟨hx, hb, hr, hts, hown, hlocks, hml, hK, hN, hE, hA⟩ := C
  unfold zX10_goesAlong_151 at h
  obtain ⟨g1, h⟩ := dG_some h
  refine va_put (D := D) (ci := 10) (v := .int y0) (ty := .boolean) (C := RX10) (T := TX10) (N := 56) hx hb hts (by decide +kernel) tyX10 tyX10_ok nmX10 hown hK hP hD hS 0 rfl rfl 51 (by decide) (hts (.fieldLink RX10 497 "TurnedFloorsModel" "testIs" "Z") (by decide +kernel)) (fun _ h9 => h9) rfl (by decide +kernel) (dbl_nar g1) rfl (Nat.le_of_ble_eq_true rfl) dX10_goesAlong_151 (fun H locs hp hd hs => ?_)
  obtain ⟨q2, eq2, h⟩ := dL_some h
  refine kz_re (w2 := w10 ty ad q2) hp hd hs (by rw [← eq2]; exact w10_f51 ty ad q y0) ?_
  clear hp hd hs hP hD hS
  intro hP hD hS
  refine lv_aload_n hx hb dX10_goesAlong_154 rfl (lv_at hl 0 rfl) ?_
  refine lv_aload_n hx hb dX10_goesAlong_155 rfl (lv_at hl 0 rfl) ?_
  refine va_get (D := D) (ci := 10) (v := .int (q2.1 0 51)) (C := RX10) (T := TX10) (N := 56) hx hb hts (by decide +kernel) hown hK hP 0 rfl rfl 51 (by decide) (hts (.fieldLink RX10 497 "TurnedFloorsModel" "testIs" "Z") (by decide +kernel)) (fun _ h9 => h9) rfl dX10_goesAlong_156 ?_
  refine lv_if_eq (tgt := 173) hx hb dX10_goesAlong_159 (by decide) (fun c9 => ?_) (fun c9 => ?_)
  · rw [if_pos c9] at h
    exact WX10_goesAlong_173 C0  _ _ _ _ h hP hD hS (lv_sub hl [0] rfl)
  · rw [if_neg c9] at h
    refine lv_aload_n hx hb dX10_goesAlong_162 rfl (lv_at hl 0 rfl) ?_
    refine va_get (D := D) (ci := 10) (v := .int (q2.1 0 24)) (C := RX10) (T := TX10) (N := 56) hx hb hts (by decide +kernel) hown hK hP 0 rfl rfl 24 (by decide) (hts (.fieldLink RX10 288 "TurnedFloorsModel" "broken" "Z") (by decide +kernel)) (fun _ h9 => h9) rfl dX10_goesAlong_163 ?_
    refine lv_if_ne (tgt := 173) hx hb dX10_goesAlong_166 (by decide) (fun c9 => ?_) (fun c9 => ?_)
    · rw [if_neg c9] at h
      exact WX10_goesAlong_173 C0  _ _ _ _ h hP hD hS (lv_sub hl [0] rfl)
    · rw [if_pos c9] at h
      refine lv_iconst (v := 1) hx hb dX10_goesAlong_169 (by decide) ?_
      refine lv_goto (tgt := 174) hx hb dX10_goesAlong_170 (by decide) ?_
      exact WX10_goesAlong_174 C0  _ _ _ _ _ h hP hD hS (lv_sub hl [0] rfl)
noncomputable def zX10_goesAlong_146  (q : dS)  : Option (dS) := zX10_goesAlong_151  q 1
set_option maxHeartbeats 4000000 in
set_option maxRecDepth 100000 in
theorem WX10_goesAlong_146 {p : Program} {l : Launch} {e : Env} {s : State} {m : MethodId} {args : Array Value} {below : List Frame} {meth : Method} {c : Code} {D : va_G} {ty : Nat → ClassId} {eo : Nat → Nat} {A : Nat → Prop} {ad : Nat → Nat} {o2 : dS} (C : dc_C p s m args meth c cX10_goesAlong none 3 RX10 wsX10_goesAlong D ty eo A)   (q : dS)  (H : Heap) (locs : List Loc) (ls : Array Slot) (h : zX10_goesAlong_146  q = some o2) (hP : va_P D vwCl (w10 ty ad q) H) (hD : va_D A (w10 ty ad q)) (hS : va_S A s.heap H locs) (hl : lv_has ls 3 [(0, .ref (ad 0))]) : W p l e ({ frames := 85, cells := 0, slots := 0, locals := 2173 } : Room) s m args below meth c H locs 0 0 (MQ below (va_Qv (fun (u : va_W) => w10 ty ad o2 = u) (kz_B D ty A) A) args s 0 0 A) (F0 m 146 ls [.ref (ad 0)]) := by
  have C0 := C
  obtain ⟨hx, hb, hr, hts, hown, hlocks, hml, hK, hN, hE, hA⟩ := C
  unfold zX10_goesAlong_146 at h
  refine lv_iconst (v := 1) hx hb dX10_goesAlong_146 (by decide) ?_
  refine lv_goto (tgt := 151) hx hb dX10_goesAlong_147 (by decide) ?_
  exact WX10_goesAlong_151 C0  _ _ _ _ _ h hP hD hS (lv_sub hl [0] rfl)
noncomputable def zX10_goesAlong_124  (q : dS) (x2 : Int32) : Option (dS) := dL (dui q 0 24 0) (fun q1 => dB (zX10_passes0 q1 4) (fun r2 q4 => if r2 = 0 then zX10_goesAlong_146  q4 else dB (zX10_testOf 10 q4 x2) (fun r5 q7 => if r5 = 0 then zX10_goesAlong_151  q7 0 else zX10_goesAlong_146  q7)))
set_option maxHeartbeats 4000000 in
set_option maxRecDepth 100000 in
theorem WX10_goesAlong_124 {p : Program} {l : Launch} {e : Env} {s : State} {m : MethodId} {args : Array Value} {below : List Frame} {meth : Method} {c : Code} {D : va_G} {ty : Nat → ClassId} {eo : Nat → Nat} {A : Nat → Prop} {ad : Nat → Nat} {o2 : dS} (C : dc_C p s m args meth c cX10_goesAlong none 3 RX10 wsX10_goesAlong D ty eo A)   (q : dS) (x2 : Int32) (H : Heap) (locs : List Loc) (ls : Array Slot) (h : zX10_goesAlong_124  q x2 = some o2) (hP : va_P D vwCl (w10 ty ad q) H) (hD : va_D A (w10 ty ad q)) (hS : va_S A s.heap H locs) (hl : lv_has ls 3 [(0, .ref (ad 0)), (2, .int x2)]) : W p l e ({ frames := 85, cells := 0, slots := 0, locals := 2173 } : Room) s m args below meth c H locs 0 0 (MQ below (va_Qv (fun (u : va_W) => w10 ty ad o2 = u) (kz_B D ty A) A) args s 0 0 A) (F0 m 124 ls []) := by
  have C0 := C
  obtain ⟨hx, hb, hr, hts, hown, hlocks, hml, hK, hN, hE, hA⟩ := C
  unfold zX10_goesAlong_124 at h
  refine lv_aload_n hx hb dX10_goesAlong_124 rfl (lv_at hl 0 rfl) ?_
  refine lv_iconst (v := 0) hx hb dX10_goesAlong_125 (by decide) ?_
  refine va_put (D := D) (ci := 10) (v := .int 0) (ty := .boolean) (C := RX10) (T := TX10) (N := 56) hx hb hts (by decide +kernel) tyX10 tyX10_ok nmX10 hown hK hP hD hS 0 rfl rfl 24 (by decide) (hts (.fieldLink RX10 288 "TurnedFloorsModel" "broken" "Z") (by decide +kernel)) (fun _ h9 => h9) rfl (by decide +kernel) rfl rfl (Nat.le_of_ble_eq_true rfl) dX10_goesAlong_126 (fun H locs hp hd hs => ?_)
  obtain ⟨q1, eq1, h⟩ := dL_some h
  refine kz_re (w2 := w10 ty ad q1) hp hd hs (by rw [← eq1]; exact w10_f24 ty ad q 0) ?_
  clear hp hd hs hP hD hS
  intro hP hD hS
  refine lv_aload_n hx hb dX10_goesAlong_129 rfl (lv_at hl 0 rfl) ?_
  refine lv_aload_n hx hb dX10_goesAlong_130 rfl (lv_at hl 0 rfl) ?_
  refine lv_iconst (v := 4) hx hb dX10_goesAlong_131 (by decide) ?_
  obtain ⟨r2, q4, h3, h⟩ := dB_some h
  refine dw_ki (va_runV (As := [.int 4]) (rest := [.ref (ad 0)]) ⟨hx, hb, hml, hown, hts⟩ (qX10_passes0 l D ty eo _ ad q1 4 r2 q4 h3) (cwV 1 hts gX10_goesAlong_X10_passes0 rfl rfl rfl (by decide +kernel) ⟨Nat.le_of_ble_eq_true rfl, Nat.le_of_ble_eq_true rfl⟩) (dw_preV (ci := 10) (q0 := 0) hK hN hE hP hD hS hA rfl rfl) rfl rfl hl.1 rfl (lv_room (Nat.le_of_ble_eq_true rfl)) dX10_goesAlong_132 ⟨Nat.le_of_ble_eq_true rfl, Nat.le_of_ble_eq_true rfl⟩) hD hS hA (fun r9 u9 H locs hw hp hd hs => ?_)
  clear hP hD hS
  obtain ⟨rfl, rfl⟩ := hw
  have hP := hp; have hD := hd; have hS := hs; clear hp hd hs
  refine lv_if_eq (tgt := 146) hx hb dX10_goesAlong_135 (by decide) (fun c9 => ?_) (fun c9 => ?_)
  · rw [if_pos c9] at h
    exact WX10_goesAlong_146 C0  _ _ _ _ h hP hD hS (lv_sub hl [0] rfl)
  · rw [if_neg c9] at h
    refine lv_aload_n hx hb dX10_goesAlong_138 rfl (lv_at hl 0 rfl) ?_
    refine lv_iload_n hx hb dX10_goesAlong_139 rfl (lv_at hl 1 rfl) ?_
    obtain ⟨r5, q7, h6, h⟩ := dB_some h
    refine dw_ki (va_runV (As := [.int x2]) (rest := [.ref (ad 0)]) ⟨hx, hb, hml, hown, hts⟩ (qX10_testOf l D ty eo _ ad 10 q4 x2 r5 q7 h6) (cwV 1 hts gX10_goesAlong_X10_testOf rfl rfl rfl (by decide +kernel) ⟨Nat.le_of_ble_eq_true rfl, Nat.le_of_ble_eq_true rfl⟩) (dw_preV (ci := 10) (q0 := 0) hK hN hE hP hD hS hA rfl rfl) rfl rfl hl.1 rfl (lv_room (Nat.le_of_ble_eq_true rfl)) dX10_goesAlong_140 ⟨Nat.le_of_ble_eq_true rfl, Nat.le_of_ble_eq_true rfl⟩) hD hS hA (fun r9 u9 H locs hw hp hd hs => ?_)
    clear hP hD hS
    obtain ⟨rfl, rfl⟩ := hw
    have hP := hp; have hD := hd; have hS := hs; clear hp hd hs
    refine lv_if_eq (tgt := 150) hx hb dX10_goesAlong_143 (by decide) (fun c9 => ?_) (fun c9 => ?_)
    · rw [if_pos c9] at h
      refine lv_iconst (v := 0) hx hb dX10_goesAlong_150 (by decide) ?_
      exact WX10_goesAlong_151 C0  _ _ _ _ _ h hP hD hS (lv_sub hl [0] rfl)
    · rw [if_neg c9] at h
      exact WX10_goesAlong_146 C0  _ _ _ _ h hP hD hS (lv_sub hl [0] rfl)
noncomputable def zX10_goesAlong_80  (q : dS) (x2 : Int32) (y0 : Int32) : Option (dS) := dG (dbl y0) (dL (dui q 0 50 y0) (fun q2 => dL (dui q2 0 48 1) (fun q3 => dB (zX10_passes0 q3 26) (fun r4 q6 => if r4 = 0 then zX10_goesAlong_124  q6 x2 else dG (dg (2840 + (q6.1 0 22) : Int32) 5640) (dL (q6.1 2 (Int32.toNatClampNeg (2840 + (q6.1 0 22) : Int32))) (fun v8 => dL (dui q6 0 48 v8) (fun q9 => dL (dui q9 0 22 ((q9.1 0 22) + 1 : Int32)) (fun q10 => zX10_goesAlong_124  q10 x2))))))))
set_option maxHeartbeats 4000000 in
set_option maxRecDepth 100000 in
theorem WX10_goesAlong_80 {p : Program} {l : Launch} {e : Env} {s : State} {m : MethodId} {args : Array Value} {below : List Frame} {meth : Method} {c : Code} {D : va_G} {ty : Nat → ClassId} {eo : Nat → Nat} {A : Nat → Prop} {ad : Nat → Nat} {o2 : dS} (C : dc_C p s m args meth c cX10_goesAlong none 3 RX10 wsX10_goesAlong D ty eo A)   (q : dS) (x2 : Int32) (y0 : Int32) (H : Heap) (locs : List Loc) (ls : Array Slot) (h : zX10_goesAlong_80  q x2 y0 = some o2) (hP : va_P D vwCl (w10 ty ad q) H) (hD : va_D A (w10 ty ad q)) (hS : va_S A s.heap H locs) (hl : lv_has ls 3 [(0, .ref (ad 0)), (2, .int x2)]) : W p l e ({ frames := 85, cells := 0, slots := 0, locals := 2173 } : Room) s m args below meth c H locs 0 0 (MQ below (va_Qv (fun (u : va_W) => w10 ty ad o2 = u) (kz_B D ty A) A) args s 0 0 A) (F0 m 80 ls [.int y0, .ref (ad 0)]) := by
  have C0 := C
  obtain ⟨hx, hb, hr, hts, hown, hlocks, hml, hK, hN, hE, hA⟩ := C
  unfold zX10_goesAlong_80 at h
  obtain ⟨g1, h⟩ := dG_some h
  refine va_put (D := D) (ci := 10) (v := .int y0) (ty := .boolean) (C := RX10) (T := TX10) (N := 56) hx hb hts (by decide +kernel) tyX10 tyX10_ok nmX10 hown hK hP hD hS 0 rfl rfl 50 (by decide) (hts (.fieldLink RX10 491 "TurnedFloorsModel" "sumsAre" "Z") (by decide +kernel)) (fun _ h9 => h9) rfl (by decide +kernel) (dbl_nar g1) rfl (Nat.le_of_ble_eq_true rfl) dX10_goesAlong_80 (fun H locs hp hd hs => ?_)
  obtain ⟨q2, eq2, h⟩ := dL_some h
  refine kz_re (w2 := w10 ty ad q2) hp hd hs (by rw [← eq2]; exact w10_f50 ty ad q y0) ?_
  clear hp hd hs hP hD hS
  intro hP hD hS
  refine lv_aload_n hx hb dX10_goesAlong_83 rfl (lv_at hl 0 rfl) ?_
  refine lv_iconst (v := 1) hx hb dX10_goesAlong_84 (by decide) ?_
  refine va_put (D := D) (ci := 10) (v := .int 1) (ty := .int) (C := RX10) (T := TX10) (N := 56) hx hb hts (by decide +kernel) tyX10 tyX10_ok nmX10 hown hK hP hD hS 0 rfl rfl 48 (by decide) (hts (.fieldLink RX10 494 "TurnedFloorsModel" "howOften" "I") (by decide +kernel)) (fun _ h9 => h9) rfl (by decide +kernel) rfl rfl (Nat.le_of_ble_eq_true rfl) dX10_goesAlong_85 (fun H locs hp hd hs => ?_)
  obtain ⟨q3, eq3, h⟩ := dL_some h
  refine kz_re (w2 := w10 ty ad q3) hp hd hs (by rw [← eq3]; exact w10_f48 ty ad q2 1) ?_
  clear hp hd hs hP hD hS
  intro hP hD hS
  refine lv_aload_n hx hb dX10_goesAlong_88 rfl (lv_at hl 0 rfl) ?_
  refine lv_bipush (v := 26) hx hb dX10_goesAlong_89 (by decide) ?_
  obtain ⟨r4, q6, h5, h⟩ := dB_some h
  refine dw_ki (va_runV (As := [.int 26]) (rest := []) ⟨hx, hb, hml, hown, hts⟩ (qX10_passes0 l D ty eo _ ad q3 26 r4 q6 h5) (cwV 1 hts gX10_goesAlong_X10_passes0 rfl rfl rfl (by decide +kernel) ⟨Nat.le_of_ble_eq_true rfl, Nat.le_of_ble_eq_true rfl⟩) (dw_preV (ci := 10) (q0 := 0) hK hN hE hP hD hS hA rfl rfl) rfl rfl hl.1 rfl (lv_room (Nat.le_of_ble_eq_true rfl)) dX10_goesAlong_91 ⟨Nat.le_of_ble_eq_true rfl, Nat.le_of_ble_eq_true rfl⟩) hD hS hA (fun r9 u9 H locs hw hp hd hs => ?_)
  clear hP hD hS
  obtain ⟨rfl, rfl⟩ := hw
  have hP := hp; have hD := hd; have hS := hs; clear hp hd hs
  refine lv_if_eq (tgt := 124) hx hb dX10_goesAlong_94 (by decide) (fun c9 => ?_) (fun c9 => ?_)
  · rw [if_pos c9] at h
    exact WX10_goesAlong_124 C0  _ _ _ _ _ h hP hD hS (lv_sub hl [0, 1] rfl)
  · rw [if_neg c9] at h
    refine lv_aload_n hx hb dX10_goesAlong_97 rfl (lv_at hl 0 rfl) ?_
    refine lv_aload_n hx hb dX10_goesAlong_98 rfl (lv_at hl 0 rfl) ?_
    refine va_get (D := D) (ci := 10) (v := .ref (ad 2)) (C := RX10) (T := TX10) (N := 56) hx hb hts (by decide +kernel) hown hK hP 0 rfl rfl 2 (by decide) (hts (.fieldLink RX10 28 "TurnedFloorsModel" "kept" "[I") (by decide +kernel)) (fun _ h9 => h9) rfl dX10_goesAlong_99 ?_
    refine lv_sipush (v := 2840) hx hb dX10_goesAlong_102 (by decide) ?_
    refine lv_aload_n hx hb dX10_goesAlong_105 rfl (lv_at hl 0 rfl) ?_
    refine va_get (D := D) (ci := 10) (v := .int (q6.1 0 22)) (C := RX10) (T := TX10) (N := 56) hx hb hts (by decide +kernel) hown hK hP 0 rfl rfl 22 (by decide) (hts (.fieldLink RX10 278 "TurnedFloorsModel" "go" "I") (by decide +kernel)) (fun _ h9 => h9) rfl dX10_goesAlong_106 ?_
    refine lv_iadd hx hb dX10_goesAlong_109 ?_
    obtain ⟨g7, h⟩ := dG_some h
    refine va_iald hx hb hK hP 2 0 rfl rfl (dg_in g7) dX10_goesAlong_110 ?_
    obtain ⟨v8, ev8, h⟩ := dL_some h
    refine kz_topi v8 ev8 ?_
    refine va_put (D := D) (ci := 10) (v := .int v8) (ty := .int) (C := RX10) (T := TX10) (N := 56) hx hb hts (by decide +kernel) tyX10 tyX10_ok nmX10 hown hK hP hD hS 0 rfl rfl 48 (by decide) (hts (.fieldLink RX10 494 "TurnedFloorsModel" "howOften" "I") (by decide +kernel)) (fun _ h9 => h9) rfl (by decide +kernel) rfl rfl (Nat.le_of_ble_eq_true rfl) dX10_goesAlong_111 (fun H locs hp hd hs => ?_)
    obtain ⟨q9, eq9, h⟩ := dL_some h
    refine kz_re (w2 := w10 ty ad q9) hp hd hs (by rw [← eq9]; exact w10_f48 ty ad q6 v8) ?_
    clear hp hd hs hP hD hS
    intro hP hD hS
    refine lv_aload_n hx hb dX10_goesAlong_114 rfl (lv_at hl 0 rfl) ?_
    refine lv_dup hx hb dX10_goesAlong_115 rfl ?_
    refine va_get (D := D) (ci := 10) (v := .int (q9.1 0 22)) (C := RX10) (T := TX10) (N := 56) hx hb hts (by decide +kernel) hown hK hP 0 rfl rfl 22 (by decide) (hts (.fieldLink RX10 278 "TurnedFloorsModel" "go" "I") (by decide +kernel)) (fun _ h9 => h9) rfl dX10_goesAlong_116 ?_
    refine lv_iconst (v := 1) hx hb dX10_goesAlong_119 (by decide) ?_
    refine lv_iadd hx hb dX10_goesAlong_120 ?_
    refine va_put (D := D) (ci := 10) (v := .int ((q9.1 0 22) + 1 : Int32)) (ty := .int) (C := RX10) (T := TX10) (N := 56) hx hb hts (by decide +kernel) tyX10 tyX10_ok nmX10 hown hK hP hD hS 0 rfl rfl 22 (by decide) (hts (.fieldLink RX10 278 "TurnedFloorsModel" "go" "I") (by decide +kernel)) (fun _ h9 => h9) rfl (by decide +kernel) rfl rfl (Nat.le_of_ble_eq_true rfl) dX10_goesAlong_121 (fun H locs hp hd hs => ?_)
    obtain ⟨q10, eq10, h⟩ := dL_some h
    refine kz_re (w2 := w10 ty ad q10) hp hd hs (by rw [← eq10]; exact w10_f22 ty ad q9 ((q9.1 0 22) + 1 : Int32)) ?_
    clear hp hd hs hP hD hS
    intro hP hD hS
    exact WX10_goesAlong_124 C0  _ _ _ _ _ h hP hD hS (lv_sub hl [0, 1] rfl)
noncomputable def zX10_goesAlong_64  (q : dS) (x2 : Int32) (y0 : Int64) : Option (dS) := dL (dul q 0 52 y0) (fun q1 => if (q1.1 0 24) = 0 then zX10_goesAlong_80  q1 x2 1 else zX10_goesAlong_80  q1 x2 0)
set_option maxHeartbeats 4000000 in
set_option maxRecDepth 100000 in
theorem WX10_goesAlong_64 {p : Program} {l : Launch} {e : Env} {s : State} {m : MethodId} {args : Array Value} {below : List Frame} {meth : Method} {c : Code} {D : va_G} {ty : Nat → ClassId} {eo : Nat → Nat} {A : Nat → Prop} {ad : Nat → Nat} {o2 : dS} (C : dc_C p s m args meth c cX10_goesAlong none 3 RX10 wsX10_goesAlong D ty eo A)   (q : dS) (x2 : Int32) (y0 : Int64) (H : Heap) (locs : List Loc) (ls : Array Slot) (h : zX10_goesAlong_64  q x2 y0 = some o2) (hP : va_P D vwCl (w10 ty ad q) H) (hD : va_D A (w10 ty ad q)) (hS : va_S A s.heap H locs) (hl : lv_has ls 3 [(0, .ref (ad 0)), (2, .int x2)]) : W p l e ({ frames := 85, cells := 0, slots := 0, locals := 2173 } : Room) s m args below meth c H locs 0 0 (MQ below (va_Qv (fun (u : va_W) => w10 ty ad o2 = u) (kz_B D ty A) A) args s 0 0 A) (F0 m 64 ls [.long y0, .ref (ad 0)]) := by
  have C0 := C
  obtain ⟨hx, hb, hr, hts, hown, hlocks, hml, hK, hN, hE, hA⟩ := C
  unfold zX10_goesAlong_64 at h
  refine va_put (D := D) (ci := 10) (v := .long y0) (ty := .long) (C := RX10) (T := TX10) (N := 56) hx hb hts (by decide +kernel) tyX10 tyX10_ok nmX10 hown hK hP hD hS 0 rfl rfl 52 (by decide) (hts (.fieldLink RX10 487 "TurnedFloorsModel" "sumNow" "J") (by decide +kernel)) (fun _ h9 => h9) rfl (by decide +kernel) rfl rfl (Nat.le_of_ble_eq_true rfl) dX10_goesAlong_64 (fun H locs hp hd hs => ?_)
  obtain ⟨q1, eq1, h⟩ := dL_some h
  refine kz_re (w2 := w10 ty ad q1) hp hd hs (by rw [← eq1]; exact w10_f52 ty ad q y0) ?_
  clear hp hd hs hP hD hS
  intro hP hD hS
  refine lv_aload_n hx hb dX10_goesAlong_67 rfl (lv_at hl 0 rfl) ?_
  refine lv_aload_n hx hb dX10_goesAlong_68 rfl (lv_at hl 0 rfl) ?_
  refine va_get (D := D) (ci := 10) (v := .int (q1.1 0 24)) (C := RX10) (T := TX10) (N := 56) hx hb hts (by decide +kernel) hown hK hP 0 rfl rfl 24 (by decide) (hts (.fieldLink RX10 288 "TurnedFloorsModel" "broken" "Z") (by decide +kernel)) (fun _ h9 => h9) rfl dX10_goesAlong_69 ?_
  refine lv_if_ne (tgt := 79) hx hb dX10_goesAlong_72 (by decide) (fun c9 => ?_) (fun c9 => ?_)
  · rw [if_neg c9] at h
    refine lv_iconst (v := 0) hx hb dX10_goesAlong_79 (by decide) ?_
    exact WX10_goesAlong_80 C0  _ _ _ _ _ _ h hP hD hS (lv_sub hl [0, 1] rfl)
  · rw [if_pos c9] at h
    refine lv_iconst (v := 1) hx hb dX10_goesAlong_75 (by decide) ?_
    refine lv_goto (tgt := 80) hx hb dX10_goesAlong_76 (by decide) ?_
    exact WX10_goesAlong_80 C0  _ _ _ _ _ _ h hP hD hS (lv_sub hl [0, 1] rfl)
noncomputable def zX10_goesAlong (q : dS) (p1 : Int32) (p2 : Int32) : Option (dS) := dL (dui q 0 25 1) (fun q1 => dL (dui q1 0 23 p1) (fun q2 => dL (dui q2 0 22 (q2.1 0 47)) (fun q3 => dB (zX10_codeAt q3 (q3.1 0 22)) (fun r4 q6 => dL (dui q6 0 49 r4) (fun q7 => dL (dui q7 0 22 ((q7.1 0 22) + 1 : Int32)) (fun q8 => dL (dui q8 0 24 0) (fun q9 => if (q9.1 0 49) = 25 then zX10_goesAlong_64  q9 p2 0 else dB (zX10_sumOf 10 q9 p2) (fun r10 q12 => zX10_goesAlong_64  q12 p2 r10))))))))
set_option maxHeartbeats 4000000 in
set_option maxRecDepth 100000 in
theorem qX10_goesAlong (l : Launch) (D : va_G) (ty : Nat → ClassId) (eo : Nat → Nat) (sz : Nat) (ad : Nat → Nat) (q : dS) (p1 : Int32) (p2 : Int32) (o2 : dS) (h : zX10_goesAlong q p1 p2 = some o2) : Met l yX10_goesAlong wsX10_goesAlong ({ frames := 85, cells := 0, slots := 0, locals := 2173 } : Room) (va_Pc [.ref (ad 0), .int p1, .int p2] (kz_pre D ty eo (w10 ty ad q) sz)) (va_Qv (fun (u : va_W) => w10 ty ad o2 = u) (kz_B D ty (va_A (w10 ty ad q) sz)) (va_A (w10 ty ad q) sz)) 0 0 (va_A (w10 ty ad q) sz) := by
  refine Met.ofW (cc := cX10_goesAlong) (maxL := 3) (ret := none) (by decide) rfl ?_
  intro p e s m args below meth c s₁ B hml hv
  obtain ⟨rfl, hsz, hP, hK, hD0, hN, hE⟩ := hv
  have hx := B.exec
  have hb := B.bytes
  have hr := B.returns
  have hts := atoms_spec (ws := wsX10_goesAlong) B.pre
  have hown : s.vm.findClass RX10 = some m.cls := findClass_of_methodNamed B.named
  have hlocks := B.notSynchronized
  subst hsz
  have hD := hD0.self (sz := s.heap.size)
  generalize hAe : va_A (w10 ty ad q) s.heap.size = A at hD hE ⊢
  have hA : ∀ q : Nat, s.heap.size ≤ q → A q := fun q h => by rw [← hAe]; exact Or.inr h
  clear hAe
  have hS : va_S A s.heap s.heap [] := va_S.rf
  have hl := lv_entry ([.ref (ad 0), .int p1, .int p2]) (n := 3) (Nat.le_of_ble_eq_true rfl)
  rw [lg_entry_eq]
  generalize (lg_sl ([.ref (ad 0), .int p1, .int p2]) ++ List.replicate (3 - (lg_sl ([.ref (ad 0), .int p1, .int p2])).length) Slot.unset).toArray = ls at hl ⊢
  have hl : lv_has ls 3 [(0, .ref (ad 0)), (1, .int p1), (2, .int p2)] := hl
  have C : dc_C p s m _ meth c cX10_goesAlong none 3 RX10 wsX10_goesAlong D ty eo A := ⟨hx, hb, hr, hts, hown, hlocks, hml, hK, hN, hE, hA⟩
  unfold zX10_goesAlong at h
  refine lv_aload_n hx hb dX10_goesAlong_0 rfl (lv_at hl 0 rfl) ?_
  refine lv_iconst (v := 1) hx hb dX10_goesAlong_1 (by decide) ?_
  refine va_put (D := D) (ci := 10) (v := .int 1) (ty := .boolean) (C := RX10) (T := TX10) (N := 56) hx hb hts (by decide +kernel) tyX10 tyX10_ok nmX10 hown hK hP hD hS 0 rfl rfl 25 (by decide) (hts (.fieldLink RX10 308 "TurnedFloorsModel" "inOrders" "Z") (by decide +kernel)) (fun _ h9 => h9) rfl (by decide +kernel) rfl rfl (Nat.le_of_ble_eq_true rfl) dX10_goesAlong_2 (fun H locs hp hd hs => ?_)
  obtain ⟨q1, eq1, h⟩ := dL_some h
  refine kz_re (w2 := w10 ty ad q1) hp hd hs (by rw [← eq1]; exact w10_f25 ty ad q 1) ?_
  clear hp hd hs hP hD hS
  intro hP hD hS
  refine lv_aload_n hx hb dX10_goesAlong_5 rfl (lv_at hl 0 rfl) ?_
  refine lv_iload_n hx hb dX10_goesAlong_6 rfl (lv_at hl 1 rfl) ?_
  refine va_put (D := D) (ci := 10) (v := .int p1) (ty := .int) (C := RX10) (T := TX10) (N := 56) hx hb hts (by decide +kernel) tyX10 tyX10_ok nmX10 hown hK hP hD hS 0 rfl rfl 23 (by decide) (hts (.fieldLink RX10 275 "TurnedFloorsModel" "goEnd" "I") (by decide +kernel)) (fun _ h9 => h9) rfl (by decide +kernel) rfl rfl (Nat.le_of_ble_eq_true rfl) dX10_goesAlong_7 (fun H locs hp hd hs => ?_)
  obtain ⟨q2, eq2, h⟩ := dL_some h
  refine kz_re (w2 := w10 ty ad q2) hp hd hs (by rw [← eq2]; exact w10_f23 ty ad q1 p1) ?_
  clear hp hd hs hP hD hS
  intro hP hD hS
  refine lv_aload_n hx hb dX10_goesAlong_10 rfl (lv_at hl 0 rfl) ?_
  refine lv_aload_n hx hb dX10_goesAlong_11 rfl (lv_at hl 0 rfl) ?_
  refine va_get (D := D) (ci := 10) (v := .int (q2.1 0 47)) (C := RX10) (T := TX10) (N := 56) hx hb hts (by decide +kernel) hown hK hP 0 rfl rfl 47 (by decide) (hts (.fieldLink RX10 475 "TurnedFloorsModel" "orderAt" "I") (by decide +kernel)) (fun _ h9 => h9) rfl dX10_goesAlong_12 ?_
  refine va_put (D := D) (ci := 10) (v := .int (q2.1 0 47)) (ty := .int) (C := RX10) (T := TX10) (N := 56) hx hb hts (by decide +kernel) tyX10 tyX10_ok nmX10 hown hK hP hD hS 0 rfl rfl 22 (by decide) (hts (.fieldLink RX10 278 "TurnedFloorsModel" "go" "I") (by decide +kernel)) (fun _ h9 => h9) rfl (by decide +kernel) rfl rfl (Nat.le_of_ble_eq_true rfl) dX10_goesAlong_15 (fun H locs hp hd hs => ?_)
  obtain ⟨q3, eq3, h⟩ := dL_some h
  refine kz_re (w2 := w10 ty ad q3) hp hd hs (by rw [← eq3]; exact w10_f22 ty ad q2 (q2.1 0 47)) ?_
  clear hp hd hs hP hD hS
  intro hP hD hS
  refine lv_aload_n hx hb dX10_goesAlong_18 rfl (lv_at hl 0 rfl) ?_
  refine lv_aload_n hx hb dX10_goesAlong_19 rfl (lv_at hl 0 rfl) ?_
  refine lv_aload_n hx hb dX10_goesAlong_20 rfl (lv_at hl 0 rfl) ?_
  refine va_get (D := D) (ci := 10) (v := .int (q3.1 0 22)) (C := RX10) (T := TX10) (N := 56) hx hb hts (by decide +kernel) hown hK hP 0 rfl rfl 22 (by decide) (hts (.fieldLink RX10 278 "TurnedFloorsModel" "go" "I") (by decide +kernel)) (fun _ h9 => h9) rfl dX10_goesAlong_21 ?_
  obtain ⟨r4, q6, h5, h⟩ := dB_some h
  refine dw_ki (va_runV (As := [.int (q3.1 0 22)]) (rest := [.ref (ad 0)]) ⟨hx, hb, hml, hown, hts⟩ (qX10_codeAt l D ty eo _ ad q3 (q3.1 0 22) r4 q6 h5) (cwV 1 hts gX10_goesAlong_X10_codeAt rfl rfl rfl (by decide +kernel) ⟨Nat.le_of_ble_eq_true rfl, Nat.le_of_ble_eq_true rfl⟩) (dw_preV (ci := 10) (q0 := 0) hK hN hE hP hD hS hA rfl rfl) rfl rfl hl.1 rfl (lv_room (Nat.le_of_ble_eq_true rfl)) dX10_goesAlong_24 ⟨Nat.le_of_ble_eq_true rfl, Nat.le_of_ble_eq_true rfl⟩) hD hS hA (fun r9 u9 H locs hw hp hd hs => ?_)
  clear hP hD hS
  obtain ⟨rfl, rfl⟩ := hw
  have hP := hp; have hD := hd; have hS := hs; clear hp hd hs
  refine va_put (D := D) (ci := 10) (v := .int r4) (ty := .int) (C := RX10) (T := TX10) (N := 56) hx hb hts (by decide +kernel) tyX10 tyX10_ok nmX10 hown hK hP hD hS 0 rfl rfl 49 (by decide) (hts (.fieldLink RX10 484 "TurnedFloorsModel" "head" "I") (by decide +kernel)) (fun _ h9 => h9) rfl (by decide +kernel) rfl rfl (Nat.le_of_ble_eq_true rfl) dX10_goesAlong_27 (fun H locs hp hd hs => ?_)
  obtain ⟨q7, eq7, h⟩ := dL_some h
  refine kz_re (w2 := w10 ty ad q7) hp hd hs (by rw [← eq7]; exact w10_f49 ty ad q6 r4) ?_
  clear hp hd hs hP hD hS
  intro hP hD hS
  refine lv_aload_n hx hb dX10_goesAlong_30 rfl (lv_at hl 0 rfl) ?_
  refine lv_dup hx hb dX10_goesAlong_31 rfl ?_
  refine va_get (D := D) (ci := 10) (v := .int (q7.1 0 22)) (C := RX10) (T := TX10) (N := 56) hx hb hts (by decide +kernel) hown hK hP 0 rfl rfl 22 (by decide) (hts (.fieldLink RX10 278 "TurnedFloorsModel" "go" "I") (by decide +kernel)) (fun _ h9 => h9) rfl dX10_goesAlong_32 ?_
  refine lv_iconst (v := 1) hx hb dX10_goesAlong_35 (by decide) ?_
  refine lv_iadd hx hb dX10_goesAlong_36 ?_
  refine va_put (D := D) (ci := 10) (v := .int ((q7.1 0 22) + 1 : Int32)) (ty := .int) (C := RX10) (T := TX10) (N := 56) hx hb hts (by decide +kernel) tyX10 tyX10_ok nmX10 hown hK hP hD hS 0 rfl rfl 22 (by decide) (hts (.fieldLink RX10 278 "TurnedFloorsModel" "go" "I") (by decide +kernel)) (fun _ h9 => h9) rfl (by decide +kernel) rfl rfl (Nat.le_of_ble_eq_true rfl) dX10_goesAlong_37 (fun H locs hp hd hs => ?_)
  obtain ⟨q8, eq8, h⟩ := dL_some h
  refine kz_re (w2 := w10 ty ad q8) hp hd hs (by rw [← eq8]; exact w10_f22 ty ad q7 ((q7.1 0 22) + 1 : Int32)) ?_
  clear hp hd hs hP hD hS
  intro hP hD hS
  refine lv_aload_n hx hb dX10_goesAlong_40 rfl (lv_at hl 0 rfl) ?_
  refine lv_iconst (v := 0) hx hb dX10_goesAlong_41 (by decide) ?_
  refine va_put (D := D) (ci := 10) (v := .int 0) (ty := .boolean) (C := RX10) (T := TX10) (N := 56) hx hb hts (by decide +kernel) tyX10 tyX10_ok nmX10 hown hK hP hD hS 0 rfl rfl 24 (by decide) (hts (.fieldLink RX10 288 "TurnedFloorsModel" "broken" "Z") (by decide +kernel)) (fun _ h9 => h9) rfl (by decide +kernel) rfl rfl (Nat.le_of_ble_eq_true rfl) dX10_goesAlong_42 (fun H locs hp hd hs => ?_)
  obtain ⟨q9, eq9, h⟩ := dL_some h
  refine kz_re (w2 := w10 ty ad q9) hp hd hs (by rw [← eq9]; exact w10_f24 ty ad q8 0) ?_
  clear hp hd hs hP hD hS
  intro hP hD hS
  refine lv_aload_n hx hb dX10_goesAlong_45 rfl (lv_at hl 0 rfl) ?_
  refine lv_aload_n hx hb dX10_goesAlong_46 rfl (lv_at hl 0 rfl) ?_
  refine va_get (D := D) (ci := 10) (v := .int (q9.1 0 49)) (C := RX10) (T := TX10) (N := 56) hx hb hts (by decide +kernel) hown hK hP 0 rfl rfl 49 (by decide) (hts (.fieldLink RX10 484 "TurnedFloorsModel" "head" "I") (by decide +kernel)) (fun _ h9 => h9) rfl dX10_goesAlong_47 ?_
  refine lv_bipush (v := 25) hx hb dX10_goesAlong_50 (by decide) ?_
  refine lv_icmp_ne (tgt := 59) hx hb dX10_goesAlong_52 (by decide) (fun c9 => ?_) (fun c9 => ?_)
  · rw [if_neg c9] at h
    refine lv_aload_n hx hb dX10_goesAlong_59 rfl (lv_at hl 0 rfl) ?_
    refine lv_iload_n hx hb dX10_goesAlong_60 rfl (lv_at hl 2 rfl) ?_
    obtain ⟨r10, q12, h11, h⟩ := dB_some h
    refine dw_kl (va_runV (As := [.int p2]) (rest := [.ref (ad 0)]) ⟨hx, hb, hml, hown, hts⟩ (qX10_sumOf l D ty eo _ ad 10 q9 p2 r10 q12 h11) (cwV 1 hts gX10_goesAlong_X10_sumOf rfl rfl rfl (by decide +kernel) ⟨Nat.le_of_ble_eq_true rfl, Nat.le_of_ble_eq_true rfl⟩) (dw_preV (ci := 10) (q0 := 0) hK hN hE hP hD hS hA rfl rfl) rfl rfl hl.1 rfl (lv_room (Nat.le_of_ble_eq_true rfl)) dX10_goesAlong_61 ⟨Nat.le_of_ble_eq_true rfl, Nat.le_of_ble_eq_true rfl⟩) hD hS hA (fun r9 u9 H locs hw hp hd hs => ?_)
    clear hP hD hS
    obtain ⟨rfl, rfl⟩ := hw
    have hP := hp; have hD := hd; have hS := hs; clear hp hd hs
    exact WX10_goesAlong_64 C  _ _ _ _ _ _ h hP hD hS (lv_sub hl [0, 2] rfl)
  · rw [if_pos c9] at h
    refine lv_lconst (v := 0) hx hb dX10_goesAlong_55 (by decide) ?_
    refine lv_goto (tgt := 64) hx hb dX10_goesAlong_56 (by decide) ?_
    exact WX10_goesAlong_64 C  _ _ _ _ _ _ h hP hD hS (lv_sub hl [0, 2] rfl)

noncomputable def zX10_small_20  (y0 : Int32) : Option (Int32) := some y0
set_option maxHeartbeats 4000000 in
set_option maxRecDepth 100000 in
theorem WX10_small_20 {p : Program} {l : Launch} {e : Env} {s : State} {m : MethodId} {args : Array Value} {below : List Frame} {meth : Method} {c : Code} {D : va_G} {ty : Nat → ClassId} {eo : Nat → Nat} {A : Nat → Prop} {o1 : Int32} (C : dc_C p s m args meth c cX10_small (some .int) 2 RX10 wsX10_small D ty eo A)   (y0 : Int32) (H : Heap) (locs : List Loc) (ls : Array Slot) (h : zX10_small_20  y0 = some o1) (hP : va_P D vwCl (([] : va_W)) H) (hD : va_D A (([] : va_W))) (hS : va_S A s.heap H locs) (hl : lv_has ls 2 []) : W p l e ({ frames := 0, cells := 0, slots := 0, locals := 0 } : Room) s m args below meth c H locs 0 0 (MQ below (va_Qi (fun (r : Int32) (u : va_W) => o1 = r ∧ ([] : va_W) = u) (kz_B D ty A) A) args s 0 0 A) (F0 m 20 ls [.int y0]) := by
  have C0 := C
  obtain ⟨hx, hb, hr, hts, hown, hlocks, hml, hK, hN, hE, hA⟩ := C
  unfold zX10_small_20 at h
  cases h
  exact kz_iret hx hb hr hlocks hP hK hD hS dX10_small_20 ⟨rfl, rfl⟩
noncomputable def zX10_small_14   : Option (Int32) := zX10_small_20  (-1)
set_option maxHeartbeats 4000000 in
set_option maxRecDepth 100000 in
theorem WX10_small_14 {p : Program} {l : Launch} {e : Env} {s : State} {m : MethodId} {args : Array Value} {below : List Frame} {meth : Method} {c : Code} {D : va_G} {ty : Nat → ClassId} {eo : Nat → Nat} {A : Nat → Prop} {o1 : Int32} (C : dc_C p s m args meth c cX10_small (some .int) 2 RX10 wsX10_small D ty eo A)    (H : Heap) (locs : List Loc) (ls : Array Slot) (h : zX10_small_14   = some o1) (hP : va_P D vwCl (([] : va_W)) H) (hD : va_D A (([] : va_W))) (hS : va_S A s.heap H locs) (hl : lv_has ls 2 []) : W p l e ({ frames := 0, cells := 0, slots := 0, locals := 0 } : Room) s m args below meth c H locs 0 0 (MQ below (va_Qi (fun (r : Int32) (u : va_W) => o1 = r ∧ ([] : va_W) = u) (kz_B D ty A) A) args s 0 0 A) (F0 m 14 ls []) := by
  have C0 := C
  obtain ⟨hx, hb, hr, hts, hown, hlocks, hml, hK, hN, hE, hA⟩ := C
  unfold zX10_small_14 at h
  refine lv_iconst (v := (-1)) hx hb dX10_small_14 (by decide) ?_
  refine lv_goto (tgt := 20) hx hb dX10_small_15 (by decide) ?_
  exact WX10_small_20 C0  _ _ _ _ h hP hD hS (lv_sub hl [] rfl)
noncomputable def zX10_small (p1 : Int64) : Option (Int32) := if (lg_cmp p1 0) < 0 then zX10_small_14   else if (lg_cmp p1 1000000) ≤ 0 then zX10_small_20  (Int64.toInt32 p1) else zX10_small_14  
set_option maxHeartbeats 4000000 in
set_option maxRecDepth 100000 in
theorem qX10_small (l : Launch) (D : va_G) (ty : Nat → ClassId) (eo : Nat → Nat) (sz : Nat) (p1 : Int64) (o1 : Int32) (h : zX10_small p1 = some o1) : Met l yX10_small wsX10_small ({ frames := 0, cells := 0, slots := 0, locals := 0 } : Room) (va_Pc [.long p1] (kz_pre D ty eo (([] : va_W)) sz)) (va_Qi (fun (r : Int32) (u : va_W) => o1 = r ∧ ([] : va_W) = u) (kz_B D ty (va_A (([] : va_W)) sz)) (va_A (([] : va_W)) sz)) 0 0 (va_A (([] : va_W)) sz) := by
  refine Met.ofW (cc := cX10_small) (maxL := 2) (ret := (some .int)) (by decide) rfl ?_
  intro p e s m args below meth c s₁ B hml hv
  obtain ⟨rfl, hsz, hP, hK, hD0, hN, hE⟩ := hv
  have hx := B.exec
  have hb := B.bytes
  have hr := B.returns
  have hts := atoms_spec (ws := wsX10_small) B.pre
  have hown : s.vm.findClass RX10 = some m.cls := findClass_of_methodNamed B.named
  have hlocks := B.notSynchronized
  subst hsz
  have hD := hD0.self (sz := s.heap.size)
  generalize hAe : va_A (([] : va_W)) s.heap.size = A at hD hE ⊢
  have hA : ∀ q : Nat, s.heap.size ≤ q → A q := fun q h => by rw [← hAe]; exact Or.inr h
  clear hAe
  have hS : va_S A s.heap s.heap [] := va_S.rf
  have hl := lv_entry ([.long p1]) (n := 2) (Nat.le_of_ble_eq_true rfl)
  rw [lg_entry_eq]
  generalize (lg_sl ([.long p1]) ++ List.replicate (2 - (lg_sl ([.long p1])).length) Slot.unset).toArray = ls at hl ⊢
  have hl : lv_has ls 2 [(0, .long p1)] := hl
  have C : dc_C p s m _ meth c cX10_small (some .int) 2 RX10 wsX10_small D ty eo A := ⟨hx, hb, hr, hts, hown, hlocks, hml, hK, hN, hE, hA⟩
  unfold zX10_small at h
  refine lv_lload_n hx hb dX10_small_0 rfl (lv_at hl 0 rfl) ?_
  refine lv_lconst (v := 0) hx hb dX10_small_1 (by decide) ?_
  refine W.lcmp hx hb dX10_small_2 ?_
  refine lv_if_lt (tgt := 14) hx hb dX10_small_3 (by decide) (fun c9 => ?_) (fun c9 => ?_)
  · rw [if_pos c9] at h
    exact WX10_small_14 C  _ _ _ h hP hD hS (lv_sub hl [] rfl)
  · rw [if_neg c9] at h
    refine lv_lload_n hx hb dX10_small_6 rfl (lv_at hl 0 rfl) ?_
    refine lv_ldc2 (v := 1000000) hx hb hown (hts (.constantLong RX10 500 1000000) (by decide +kernel)) dX10_small_7 ?_
    refine W.lcmp hx hb dX10_small_10 ?_
    refine lv_if_le (tgt := 18) hx hb dX10_small_11 (by decide) (fun c9 => ?_) (fun c9 => ?_)
    · rw [if_pos c9] at h
      refine lv_lload_n hx hb dX10_small_18 rfl (lv_at hl 0 rfl) ?_
      refine lv_l2i (v := Int64.toInt32 p1) hx hb dX10_small_19 rfl ?_
      exact WX10_small_20 C  _ _ _ _ h hP hD hS (lv_sub hl [] rfl)
    · rw [if_neg c9] at h
      exact WX10_small_14 C  _ _ _ h hP hD hS (lv_sub hl [] rfl)

noncomputable def zX10_obeys_86  (q : dS) (x1 : Int32) (y0 : Int32) : Option (Int32 × dS) := dL (dui q 0 28 y0) (fun q1 => some (x1, q1))
set_option maxHeartbeats 4000000 in
set_option maxRecDepth 100000 in
theorem WX10_obeys_86 {p : Program} {l : Launch} {e : Env} {s : State} {m : MethodId} {args : Array Value} {below : List Frame} {meth : Method} {c : Code} {D : va_G} {ty : Nat → ClassId} {eo : Nat → Nat} {A : Nat → Prop} {ad : Nat → Nat} {o1 : Int32} {o2 : dS} (C : dc_C p s m args meth c cX10_obeys (some .int) 2 RX10 wsX10_obeys D ty eo A)   (q : dS) (x1 : Int32) (y0 : Int32) (H : Heap) (locs : List Loc) (ls : Array Slot) (h : zX10_obeys_86  q x1 y0 = some (o1, o2)) (hP : va_P D vwCl (w10 ty ad q) H) (hD : va_D A (w10 ty ad q)) (hS : va_S A s.heap H locs) (hl : lv_has ls 2 [(1, .int x1)]) : W p l e ({ frames := 90, cells := 0, slots := 0, locals := 2286 } : Room) s m args below meth c H locs 0 0 (MQ below (va_Qi (fun (r : Int32) (u : va_W) => o1 = r ∧ w10 ty ad o2 = u) (kz_B D ty A) A) args s 0 0 A) (F0 m 86 ls [.int y0, .ref (ad 0)]) := by
  have C0 := C
  obtain ⟨hx, hb, hr, hts, hown, hlocks, hml, hK, hN, hE, hA⟩ := C
  unfold zX10_obeys_86 at h
  refine va_put (D := D) (ci := 10) (v := .int y0) (ty := .int) (C := RX10) (T := TX10) (N := 56) hx hb hts (by decide +kernel) tyX10 tyX10_ok nmX10 hown hK hP hD hS 0 rfl rfl 28 (by decide) (hts (.fieldLink RX10 317 "TurnedFloorsModel" "orderLatest" "I") (by decide +kernel)) (fun _ h9 => h9) rfl (by decide +kernel) rfl rfl (Nat.le_of_ble_eq_true rfl) dX10_obeys_86 (fun H locs hp hd hs => ?_)
  obtain ⟨q1, eq1, h⟩ := dL_some h
  refine kz_re (w2 := w10 ty ad q1) hp hd hs (by rw [← eq1]; exact w10_f28 ty ad q y0) ?_
  clear hp hd hs hP hD hS
  intro hP hD hS
  refine lv_iload_n hx hb dX10_obeys_89 rfl (lv_at hl 0 rfl) ?_
  cases h
  exact kz_iret hx hb hr hlocks hP hK hD hS dX10_obeys_90 ⟨rfl, rfl⟩
noncomputable def zX10_obeys (q : dS)  : Option (Int32 × dS) := if (q.1 0 49) = 23 then dV (zX10_small (q.2 0 52)) (fun r2 => dB (zX10_rightsKept q r2) (fun r4 q6 => some (r4, q6))) else if (q.1 0 49) = 24 then dV (zX10_small (q.2 0 52)) (fun r8 => dB (zX10_swapsKept q r8) (fun r10 q12 => some (r10, q12))) else if (q.1 0 49) = 25 then dB (zX10_passesKept q ) (fun r14 q16 => some (r14, q16)) else dV (zX10_small (q.2 0 52)) (fun r17 => dB (zX10_turnsKept q r17) (fun r19 q21 => if 0 ≤ r19 then zX10_obeys_86  q21 r19 r19 else zX10_obeys_86  q21 r19 (q21.1 0 28)))
set_option maxHeartbeats 4000000 in
set_option maxRecDepth 100000 in
theorem qX10_obeys (l : Launch) (D : va_G) (ty : Nat → ClassId) (eo : Nat → Nat) (sz : Nat) (ad : Nat → Nat) (q : dS)  (o1 : Int32) (o2 : dS) (h : zX10_obeys q = some (o1, o2)) : Met l yX10_obeys wsX10_obeys ({ frames := 90, cells := 0, slots := 0, locals := 2286 } : Room) (va_Pc [.ref (ad 0)] (kz_pre D ty eo (w10 ty ad q) sz)) (va_Qi (fun (r : Int32) (u : va_W) => o1 = r ∧ w10 ty ad o2 = u) (kz_B D ty (va_A (w10 ty ad q) sz)) (va_A (w10 ty ad q) sz)) 0 0 (va_A (w10 ty ad q) sz) := by
  refine Met.ofW (cc := cX10_obeys) (maxL := 2) (ret := (some .int)) (by decide) rfl ?_
  intro p e s m args below meth c s₁ B hml hv
  obtain ⟨rfl, hsz, hP, hK, hD0, hN, hE⟩ := hv
  have hx := B.exec
  have hb := B.bytes
  have hr := B.returns
  have hts := atoms_spec (ws := wsX10_obeys) B.pre
  have hown : s.vm.findClass RX10 = some m.cls := findClass_of_methodNamed B.named
  have hlocks := B.notSynchronized
  subst hsz
  have hD := hD0.self (sz := s.heap.size)
  generalize hAe : va_A (w10 ty ad q) s.heap.size = A at hD hE ⊢
  have hA : ∀ q : Nat, s.heap.size ≤ q → A q := fun q h => by rw [← hAe]; exact Or.inr h
  clear hAe
  have hS : va_S A s.heap s.heap [] := va_S.rf
  have hl := lv_entry ([.ref (ad 0)]) (n := 2) (Nat.le_of_ble_eq_true rfl)
  rw [lg_entry_eq]
  generalize (lg_sl ([.ref (ad 0)]) ++ List.replicate (2 - (lg_sl ([.ref (ad 0)])).length) Slot.unset).toArray = ls at hl ⊢
  have hl : lv_has ls 2 [(0, .ref (ad 0))] := hl
  have C : dc_C p s m _ meth c cX10_obeys (some .int) 2 RX10 wsX10_obeys D ty eo A := ⟨hx, hb, hr, hts, hown, hlocks, hml, hK, hN, hE, hA⟩
  unfold zX10_obeys at h
  refine lv_aload_n hx hb dX10_obeys_0 rfl (lv_at hl 0 rfl) ?_
  refine va_get (D := D) (ci := 10) (v := .int (q.1 0 49)) (C := RX10) (T := TX10) (N := 56) hx hb hts (by decide +kernel) hown hK hP 0 rfl rfl 49 (by decide) (hts (.fieldLink RX10 484 "TurnedFloorsModel" "head" "I") (by decide +kernel)) (fun _ h9 => h9) rfl dX10_obeys_1 ?_
  by_cases c1 : (q.1 0 49) = 23
  · rw [if_pos c1] at h
    refine lv_tableIn (off := 28) (tgt := 32) hx hb dX10_obeys_4 (by rw [c1]; decide) (by rw [c1]; decide) (by rw [c1]; decide) (by decide) ?_
    refine lv_aload_n hx hb dX10_obeys_32 rfl (lv_at hl 0 rfl) ?_
    refine lv_aload_n hx hb dX10_obeys_33 rfl (lv_at hl 0 rfl) ?_
    refine va_get (D := D) (ci := 10) (v := .long (q.2 0 52)) (C := RX10) (T := TX10) (N := 56) hx hb hts (by decide +kernel) hown hK hP 0 rfl rfl 52 (by decide) (hts (.fieldLink RX10 487 "TurnedFloorsModel" "sumNow" "J") (by decide +kernel)) (fun _ h9 => h9) rfl dX10_obeys_34 ?_
    obtain ⟨r2, h3, h⟩ := dV_some h
    refine dw_ks (va_runS (As := [.long (q.2 0 52)]) (rest := [.ref (ad 0)]) ⟨hx, hb, hml, hown, hts⟩ (qX10_small l D ty eo _ (q.2 0 52) _ h3) (va_cwS 1 hts gX10_obeys_X10_small rfl rfl rfl (by decide +kernel) ⟨Nat.le_of_ble_eq_true rfl, Nat.le_of_ble_eq_true rfl⟩) (kz_preS hK hN hE hP hD hS hA [] (by decide) rfl) rfl rfl hl.1 rfl (lv_room (Nat.le_of_ble_eq_true rfl)) dX10_obeys_37 ⟨Nat.le_of_ble_eq_true rfl, Nat.le_of_ble_eq_true rfl⟩) hP hD hS hA (fun _ _ h9 => h9.2.symm) (fun r9 u9 H locs hw hp hd hs => ?_)
    obtain ⟨rfl, -⟩ := hw
    clear hP hD hS
    have hP := hp; have hD := hd; have hS := hs; clear hp hd hs
    obtain ⟨r4, q6, h5, h⟩ := dB_some h
    refine dw_ki (va_runV (As := [.int r2]) (rest := []) ⟨hx, hb, hml, hown, hts⟩ (qX10_rightsKept l D ty eo _ ad q r2 r4 q6 h5) (cwV 1 hts gX10_obeys_X10_rightsKept rfl rfl rfl (by decide +kernel) ⟨Nat.le_of_ble_eq_true rfl, Nat.le_of_ble_eq_true rfl⟩) (dw_preV (ci := 10) (q0 := 0) hK hN hE hP hD hS hA rfl rfl) rfl rfl hl.1 rfl (lv_room (Nat.le_of_ble_eq_true rfl)) dX10_obeys_40 ⟨Nat.le_of_ble_eq_true rfl, Nat.le_of_ble_eq_true rfl⟩) hD hS hA (fun r9 u9 H locs hw hp hd hs => ?_)
    clear hP hD hS
    obtain ⟨rfl, rfl⟩ := hw
    have hP := hp; have hD := hd; have hS := hs; clear hp hd hs
    cases h
    exact kz_iret hx hb hr hlocks hP hK hD hS dX10_obeys_43 ⟨rfl, rfl⟩
  rw [if_neg c1] at h
  by_cases c7 : (q.1 0 49) = 24
  · rw [if_pos c7] at h
    refine lv_tableIn (off := 40) (tgt := 44) hx hb dX10_obeys_4 (by rw [c7]; decide) (by rw [c7]; decide) (by rw [c7]; decide) (by decide) ?_
    refine lv_aload_n hx hb dX10_obeys_44 rfl (lv_at hl 0 rfl) ?_
    refine lv_aload_n hx hb dX10_obeys_45 rfl (lv_at hl 0 rfl) ?_
    refine va_get (D := D) (ci := 10) (v := .long (q.2 0 52)) (C := RX10) (T := TX10) (N := 56) hx hb hts (by decide +kernel) hown hK hP 0 rfl rfl 52 (by decide) (hts (.fieldLink RX10 487 "TurnedFloorsModel" "sumNow" "J") (by decide +kernel)) (fun _ h9 => h9) rfl dX10_obeys_46 ?_
    obtain ⟨r8, h9, h⟩ := dV_some h
    refine dw_ks (va_runS (As := [.long (q.2 0 52)]) (rest := [.ref (ad 0)]) ⟨hx, hb, hml, hown, hts⟩ (qX10_small l D ty eo _ (q.2 0 52) _ h9) (va_cwS 1 hts gX10_obeys_X10_small rfl rfl rfl (by decide +kernel) ⟨Nat.le_of_ble_eq_true rfl, Nat.le_of_ble_eq_true rfl⟩) (kz_preS hK hN hE hP hD hS hA [] (by decide) rfl) rfl rfl hl.1 rfl (lv_room (Nat.le_of_ble_eq_true rfl)) dX10_obeys_49 ⟨Nat.le_of_ble_eq_true rfl, Nat.le_of_ble_eq_true rfl⟩) hP hD hS hA (fun _ _ h9 => h9.2.symm) (fun r9 u9 H locs hw hp hd hs => ?_)
    obtain ⟨rfl, -⟩ := hw
    clear hP hD hS
    have hP := hp; have hD := hd; have hS := hs; clear hp hd hs
    obtain ⟨r10, q12, h11, h⟩ := dB_some h
    refine dw_ki (va_runV (As := [.int r8]) (rest := []) ⟨hx, hb, hml, hown, hts⟩ (qX10_swapsKept l D ty eo _ ad q r8 r10 q12 h11) (cwV 1 hts gX10_obeys_X10_swapsKept rfl rfl rfl (by decide +kernel) ⟨Nat.le_of_ble_eq_true rfl, Nat.le_of_ble_eq_true rfl⟩) (dw_preV (ci := 10) (q0 := 0) hK hN hE hP hD hS hA rfl rfl) rfl rfl hl.1 rfl (lv_room (Nat.le_of_ble_eq_true rfl)) dX10_obeys_52 ⟨Nat.le_of_ble_eq_true rfl, Nat.le_of_ble_eq_true rfl⟩) hD hS hA (fun r9 u9 H locs hw hp hd hs => ?_)
    clear hP hD hS
    obtain ⟨rfl, rfl⟩ := hw
    have hP := hp; have hD := hd; have hS := hs; clear hp hd hs
    cases h
    exact kz_iret hx hb hr hlocks hP hK hD hS dX10_obeys_55 ⟨rfl, rfl⟩
  rw [if_neg c7] at h
  by_cases c13 : (q.1 0 49) = 25
  · rw [if_pos c13] at h
    refine lv_tableIn (off := 52) (tgt := 56) hx hb dX10_obeys_4 (by rw [c13]; decide) (by rw [c13]; decide) (by rw [c13]; decide) (by decide) ?_
    refine lv_aload_n hx hb dX10_obeys_56 rfl (lv_at hl 0 rfl) ?_
    obtain ⟨r14, q16, h15, h⟩ := dB_some h
    refine dw_ki (va_runV (As := []) (rest := []) ⟨hx, hb, hml, hown, hts⟩ (qX10_passesKept l D ty eo _ ad q  r14 q16 h15) (cwV 0 hts gX10_obeys_X10_passesKept rfl rfl rfl (by decide +kernel) ⟨Nat.le_of_ble_eq_true rfl, Nat.le_of_ble_eq_true rfl⟩) (dw_preV (ci := 10) (q0 := 0) hK hN hE hP hD hS hA rfl rfl) rfl rfl hl.1 rfl (lv_room (Nat.le_of_ble_eq_true rfl)) dX10_obeys_57 ⟨Nat.le_of_ble_eq_true rfl, Nat.le_of_ble_eq_true rfl⟩) hD hS hA (fun r9 u9 H locs hw hp hd hs => ?_)
    clear hP hD hS
    obtain ⟨rfl, rfl⟩ := hw
    have hP := hp; have hD := hd; have hS := hs; clear hp hd hs
    cases h
    exact kz_iret hx hb hr hlocks hP hK hD hS dX10_obeys_60 ⟨rfl, rfl⟩
  rw [if_neg c13] at h
  refine lv_tableOut (tgt := 61) hx hb dX10_obeys_4 (by simp only [← Int32.toInt_inj, Int32.reduceToInt] at c1 c7 c13; omega) (by decide) ?_
  refine lv_aload_n hx hb dX10_obeys_61 rfl (lv_at hl 0 rfl) ?_
  refine lv_aload_n hx hb dX10_obeys_62 rfl (lv_at hl 0 rfl) ?_
  refine va_get (D := D) (ci := 10) (v := .long (q.2 0 52)) (C := RX10) (T := TX10) (N := 56) hx hb hts (by decide +kernel) hown hK hP 0 rfl rfl 52 (by decide) (hts (.fieldLink RX10 487 "TurnedFloorsModel" "sumNow" "J") (by decide +kernel)) (fun _ h9 => h9) rfl dX10_obeys_63 ?_
  obtain ⟨r17, h18, h⟩ := dV_some h
  refine dw_ks (va_runS (As := [.long (q.2 0 52)]) (rest := [.ref (ad 0)]) ⟨hx, hb, hml, hown, hts⟩ (qX10_small l D ty eo _ (q.2 0 52) _ h18) (va_cwS 1 hts gX10_obeys_X10_small rfl rfl rfl (by decide +kernel) ⟨Nat.le_of_ble_eq_true rfl, Nat.le_of_ble_eq_true rfl⟩) (kz_preS hK hN hE hP hD hS hA [] (by decide) rfl) rfl rfl hl.1 rfl (lv_room (Nat.le_of_ble_eq_true rfl)) dX10_obeys_66 ⟨Nat.le_of_ble_eq_true rfl, Nat.le_of_ble_eq_true rfl⟩) hP hD hS hA (fun _ _ h9 => h9.2.symm) (fun r9 u9 H locs hw hp hd hs => ?_)
  obtain ⟨rfl, -⟩ := hw
  clear hP hD hS
  have hP := hp; have hD := hd; have hS := hs; clear hp hd hs
  obtain ⟨r19, q21, h20, h⟩ := dB_some h
  refine dw_ki (va_runV (As := [.int r17]) (rest := []) ⟨hx, hb, hml, hown, hts⟩ (qX10_turnsKept l D ty eo _ ad q r17 r19 q21 h20) (cwV 1 hts gX10_obeys_X10_turnsKept rfl rfl rfl (by decide +kernel) ⟨Nat.le_of_ble_eq_true rfl, Nat.le_of_ble_eq_true rfl⟩) (dw_preV (ci := 10) (q0 := 0) hK hN hE hP hD hS hA rfl rfl) rfl rfl hl.1 rfl (lv_room (Nat.le_of_ble_eq_true rfl)) dX10_obeys_69 ⟨Nat.le_of_ble_eq_true rfl, Nat.le_of_ble_eq_true rfl⟩) hD hS hA (fun r9 u9 H locs hw hp hd hs => ?_)
  clear hP hD hS
  obtain ⟨rfl, rfl⟩ := hw
  have hP := hp; have hD := hd; have hS := hs; clear hp hd hs
  refine lv_istore_n (lv' := [(1, .int r19), (0, .ref (ad 0))]) hx hb dX10_obeys_72 rfl hl (by decide) rfl (fun ls hl => ?_)
  refine lv_aload_n hx hb dX10_obeys_73 rfl (lv_at hl 1 rfl) ?_
  refine lv_iload_n hx hb dX10_obeys_74 rfl (lv_at hl 0 rfl) ?_
  refine lv_if_ge (tgt := 85) hx hb dX10_obeys_75 (by decide) (fun c9 => ?_) (fun c9 => ?_)
  · rw [if_pos c9] at h
    refine lv_iload_n hx hb dX10_obeys_85 rfl (lv_at hl 0 rfl) ?_
    exact WX10_obeys_86 C  _ _ _ _ _ _ h hP hD hS (lv_sub hl [0] rfl)
  · rw [if_neg c9] at h
    refine lv_aload_n hx hb dX10_obeys_78 rfl (lv_at hl 1 rfl) ?_
    refine va_get (D := D) (ci := 10) (v := .int (q21.1 0 28)) (C := RX10) (T := TX10) (N := 56) hx hb hts (by decide +kernel) hown hK hP 0 rfl rfl 28 (by decide) (hts (.fieldLink RX10 317 "TurnedFloorsModel" "orderLatest" "I") (by decide +kernel)) (fun _ h9 => h9) rfl dX10_obeys_79 ?_
    refine lv_goto (tgt := 86) hx hb dX10_obeys_82 (by decide) ?_
    exact WX10_obeys_86 C  _ _ _ _ _ _ h hP hD hS (lv_sub hl [0] rfl)

noncomputable def zX10_runs_67 (k19 : dS → Int32 → Int32 → Int32 → Int32 → Option (Int32 × dS)) (q : dS) (x1 : Int32) (x2 : Int32) (x3 : Int32) (x4 : Int32) : Option (Int32 × dS) := k19 q x1 x2 x3 (x4 + 1)
set_option maxHeartbeats 4000000 in
set_option maxRecDepth 100000 in
theorem WX10_runs_67 {p : Program} {l : Launch} {e : Env} {s : State} {m : MethodId} {args : Array Value} {below : List Frame} {meth : Method} {c : Code} {D : va_G} {ty : Nat → ClassId} {eo : Nat → Nat} {A : Nat → Prop} {ad : Nat → Nat} {o1 : Int32} {o2 : dS} (C : dc_C p s m args meth c cX10_runs (some .boolean) 5 RX10 wsX10_runs D ty eo A) {k19 : dS → Int32 → Int32 → Int32 → Int32 → Option (Int32 × dS)} (hk19 : ∀ (q : dS) (x1 : Int32) (x2 : Int32) (x3 : Int32) (x4 : Int32) (H : Heap) (locs : List Loc) (ls : Array Slot), k19 q x1 x2 x3 x4 = some (o1, o2) → va_P D vwCl (w10 ty ad q) H → va_D A (w10 ty ad q) → va_S A s.heap H locs → lv_has ls 5 [(0, .ref (ad 0)), (1, .int x1), (2, .int x2), (3, .int x3), (4, .int x4)] → W p l e ({ frames := 91, cells := 0, slots := 0, locals := 2307 } : Room) s m args below meth c H locs 0 0 (MQ below (va_Qi (fun (r : Int32) (u : va_W) => o1 = r ∧ w10 ty ad o2 = u) (kz_B D ty A) A) args s 0 0 A) (F0 m 19 ls [])) (q : dS) (x1 : Int32) (x2 : Int32) (x3 : Int32) (x4 : Int32) (H : Heap) (locs : List Loc) (ls : Array Slot) (h : zX10_runs_67 k19 q x1 x2 x3 x4 = some (o1, o2)) (hP : va_P D vwCl (w10 ty ad q) H) (hD : va_D A (w10 ty ad q)) (hS : va_S A s.heap H locs) (hl : lv_has ls 5 [(0, .ref (ad 0)), (1, .int x1), (2, .int x2), (3, .int x3), (4, .int x4)]) : W p l e ({ frames := 91, cells := 0, slots := 0, locals := 2307 } : Room) s m args below meth c H locs 0 0 (MQ below (va_Qi (fun (r : Int32) (u : va_W) => o1 = r ∧ w10 ty ad o2 = u) (kz_B D ty A) A) args s 0 0 A) (F0 m 67 ls []) := by
  have C0 := C
  obtain ⟨hx, hb, hr, hts, hown, hlocks, hml, hK, hN, hE, hA⟩ := C
  unfold zX10_runs_67 at h
  refine lv_iinc (v := x4 + 1) (lv' := [(4, .int (x4 + 1)), (0, .ref (ad 0)), (1, .int x1), (2, .int x2), (3, .int x3)]) hx hb dX10_runs_67 hl (k := 4) rfl rfl (by decide) rfl (fun ls hl => ?_)
  refine lv_goto (tgt := 19) hx hb dX10_runs_70 (by decide) ?_
  exact hk19 _ _ _ _ _ _ _ _ h hP hD hS (lv_sub hl [1, 2, 3, 4, 0] rfl)
noncomputable def zX10_runs_55  (q : dS)  : Option (Int32 × dS) := some (0, q)
set_option maxHeartbeats 4000000 in
set_option maxRecDepth 100000 in
theorem WX10_runs_55 {p : Program} {l : Launch} {e : Env} {s : State} {m : MethodId} {args : Array Value} {below : List Frame} {meth : Method} {c : Code} {D : va_G} {ty : Nat → ClassId} {eo : Nat → Nat} {A : Nat → Prop} {ad : Nat → Nat} {o1 : Int32} {o2 : dS} (C : dc_C p s m args meth c cX10_runs (some .boolean) 5 RX10 wsX10_runs D ty eo A)   (q : dS)  (H : Heap) (locs : List Loc) (ls : Array Slot) (h : zX10_runs_55  q = some (o1, o2)) (hP : va_P D vwCl (w10 ty ad q) H) (hD : va_D A (w10 ty ad q)) (hS : va_S A s.heap H locs) (hl : lv_has ls 5 []) : W p l e ({ frames := 91, cells := 0, slots := 0, locals := 2307 } : Room) s m args below meth c H locs 0 0 (MQ below (va_Qi (fun (r : Int32) (u : va_W) => o1 = r ∧ w10 ty ad o2 = u) (kz_B D ty A) A) args s 0 0 A) (F0 m 55 ls []) := by
  have C0 := C
  obtain ⟨hx, hb, hr, hts, hown, hlocks, hml, hK, hN, hE, hA⟩ := C
  unfold zX10_runs_55 at h
  refine lv_iconst (v := 0) hx hb dX10_runs_55 (by decide) ?_
  cases h
  exact kz_zret hx hb hr hlocks rfl hP hK hD hS dX10_runs_56 ⟨rfl, rfl⟩
noncomputable def zX10_runs_19b (k19 : dS → Int32 → Int32 → Int32 → Int32 → Option (Int32 × dS)) (q : dS) (x1 : Int32) (x2 : Int32) (x3 : Int32) (x4 : Int32) : Option (Int32 × dS) := if x2 ≤ x4 then dL (dui q 0 47 x3) (fun q1 => some (1, q1)) else dV (zX10_goesAlong q x1 1) (fun q4 => if (q4.1 0 51) = 0 then zX10_runs_67 k19 q4 x1 x2 x3 x4 else if (q4.1 0 50) = 0 then zX10_runs_55  q4 else dB (zX10_obeys q4 ) (fun r5 q7 => if 0 ≤ r5 then dL (dui q7 0 27 ((q7.1 0 27) + 1 : Int32)) (fun q8 => zX10_runs_67 k19 q8 x1 x2 x3 x4) else zX10_runs_55  q7))
set_option maxHeartbeats 4000000 in
set_option maxRecDepth 100000 in
theorem WX10_runs_19b {p : Program} {l : Launch} {e : Env} {s : State} {m : MethodId} {args : Array Value} {below : List Frame} {meth : Method} {c : Code} {D : va_G} {ty : Nat → ClassId} {eo : Nat → Nat} {A : Nat → Prop} {ad : Nat → Nat} {o1 : Int32} {o2 : dS} (C : dc_C p s m args meth c cX10_runs (some .boolean) 5 RX10 wsX10_runs D ty eo A) {k19 : dS → Int32 → Int32 → Int32 → Int32 → Option (Int32 × dS)} (hk19 : ∀ (q : dS) (x1 : Int32) (x2 : Int32) (x3 : Int32) (x4 : Int32) (H : Heap) (locs : List Loc) (ls : Array Slot), k19 q x1 x2 x3 x4 = some (o1, o2) → va_P D vwCl (w10 ty ad q) H → va_D A (w10 ty ad q) → va_S A s.heap H locs → lv_has ls 5 [(0, .ref (ad 0)), (1, .int x1), (2, .int x2), (3, .int x3), (4, .int x4)] → W p l e ({ frames := 91, cells := 0, slots := 0, locals := 2307 } : Room) s m args below meth c H locs 0 0 (MQ below (va_Qi (fun (r : Int32) (u : va_W) => o1 = r ∧ w10 ty ad o2 = u) (kz_B D ty A) A) args s 0 0 A) (F0 m 19 ls [])) (q : dS) (x1 : Int32) (x2 : Int32) (x3 : Int32) (x4 : Int32) (H : Heap) (locs : List Loc) (ls : Array Slot) (h : zX10_runs_19b k19 q x1 x2 x3 x4 = some (o1, o2)) (hP : va_P D vwCl (w10 ty ad q) H) (hD : va_D A (w10 ty ad q)) (hS : va_S A s.heap H locs) (hl : lv_has ls 5 [(0, .ref (ad 0)), (1, .int x1), (2, .int x2), (3, .int x3), (4, .int x4)]) : W p l e ({ frames := 91, cells := 0, slots := 0, locals := 2307 } : Room) s m args below meth c H locs 0 0 (MQ below (va_Qi (fun (r : Int32) (u : va_W) => o1 = r ∧ w10 ty ad o2 = u) (kz_B D ty A) A) args s 0 0 A) (F0 m 19 ls []) := by
  have C0 := C
  obtain ⟨hx, hb, hr, hts, hown, hlocks, hml, hK, hN, hE, hA⟩ := C
  unfold zX10_runs_19b at h
  refine lv_iload hx hb dX10_runs_19 (lv_at hl 4 rfl) ?_
  refine lv_iload_n hx hb dX10_runs_21 rfl (lv_at hl 2 rfl) ?_
  refine lv_icmp_ge (tgt := 73) hx hb dX10_runs_22 (by decide) (fun c9 => ?_) (fun c9 => ?_)
  · rw [if_pos c9] at h
    refine lv_aload_n hx hb dX10_runs_73 rfl (lv_at hl 0 rfl) ?_
    refine lv_iload_n hx hb dX10_runs_74 rfl (lv_at hl 3 rfl) ?_
    refine va_put (D := D) (ci := 10) (v := .int x3) (ty := .int) (C := RX10) (T := TX10) (N := 56) hx hb hts (by decide +kernel) tyX10 tyX10_ok nmX10 hown hK hP hD hS 0 rfl rfl 47 (by decide) (hts (.fieldLink RX10 475 "TurnedFloorsModel" "orderAt" "I") (by decide +kernel)) (fun _ h9 => h9) rfl (by decide +kernel) rfl rfl (Nat.le_of_ble_eq_true rfl) dX10_runs_75 (fun H locs hp hd hs => ?_)
    obtain ⟨q1, eq1, h⟩ := dL_some h
    refine kz_re (w2 := w10 ty ad q1) hp hd hs (by rw [← eq1]; exact w10_f47 ty ad q x3) ?_
    clear hp hd hs hP hD hS
    intro hP hD hS
    refine lv_iconst (v := 1) hx hb dX10_runs_78 (by decide) ?_
    cases h
    exact kz_zret hx hb hr hlocks rfl hP hK hD hS dX10_runs_79 ⟨rfl, rfl⟩
  · rw [if_neg c9] at h
    refine lv_aload_n hx hb dX10_runs_25 rfl (lv_at hl 0 rfl) ?_
    refine lv_iload_n hx hb dX10_runs_26 rfl (lv_at hl 1 rfl) ?_
    refine lv_iconst (v := 1) hx hb dX10_runs_27 (by decide) ?_
    obtain ⟨q4, h3, h⟩ := dV_some h
    refine dw_kv (va_runV (As := [.int x1, .int 1]) (rest := []) ⟨hx, hb, hml, hown, hts⟩ (qX10_goesAlong l D ty eo _ ad q x1 1 q4 h3) (cwV 2 hts gX10_runs_X10_goesAlong rfl rfl rfl (by decide +kernel) ⟨Nat.le_of_ble_eq_true rfl, Nat.le_of_ble_eq_true rfl⟩) (dw_preV (ci := 10) (q0 := 0) hK hN hE hP hD hS hA rfl rfl) rfl rfl hl.1 rfl (lv_room (Nat.le_of_ble_eq_true rfl)) dX10_runs_28 ⟨Nat.le_of_ble_eq_true rfl, Nat.le_of_ble_eq_true rfl⟩) hD hS hA (fun u9 H locs hw hp hd hs => ?_)
    clear hP hD hS
    obtain rfl := hw
    have hP := hp; have hD := hd; have hS := hs; clear hp hd hs
    refine lv_aload_n hx hb dX10_runs_31 rfl (lv_at hl 0 rfl) ?_
    refine va_get (D := D) (ci := 10) (v := .int (q4.1 0 51)) (C := RX10) (T := TX10) (N := 56) hx hb hts (by decide +kernel) hown hK hP 0 rfl rfl 51 (by decide) (hts (.fieldLink RX10 497 "TurnedFloorsModel" "testIs" "Z") (by decide +kernel)) (fun _ h9 => h9) rfl dX10_runs_32 ?_
    refine lv_if_ne (tgt := 41) hx hb dX10_runs_35 (by decide) (fun c9 => ?_) (fun c9 => ?_)
    · rw [if_neg c9] at h
      refine lv_aload_n hx hb dX10_runs_41 rfl (lv_at hl 0 rfl) ?_
      refine va_get (D := D) (ci := 10) (v := .int (q4.1 0 50)) (C := RX10) (T := TX10) (N := 56) hx hb hts (by decide +kernel) hown hK hP 0 rfl rfl 50 (by decide) (hts (.fieldLink RX10 491 "TurnedFloorsModel" "sumsAre" "Z") (by decide +kernel)) (fun _ h9 => h9) rfl dX10_runs_42 ?_
      refine lv_if_eq (tgt := 55) hx hb dX10_runs_45 (by decide) (fun c9 => ?_) (fun c9 => ?_)
      · rw [if_pos c9] at h
        exact WX10_runs_55 C0  _ _ _ _ h hP hD hS (lv_sub hl [] rfl)
      · rw [if_neg c9] at h
        refine lv_aload_n hx hb dX10_runs_48 rfl (lv_at hl 0 rfl) ?_
        obtain ⟨r5, q7, h6, h⟩ := dB_some h
        refine dw_ki (va_runV (As := []) (rest := []) ⟨hx, hb, hml, hown, hts⟩ (qX10_obeys l D ty eo _ ad q4  r5 q7 h6) (cwV 0 hts gX10_runs_X10_obeys rfl rfl rfl (by decide +kernel) ⟨Nat.le_of_ble_eq_true rfl, Nat.le_of_ble_eq_true rfl⟩) (dw_preV (ci := 10) (q0 := 0) hK hN hE hP hD hS hA rfl rfl) rfl rfl hl.1 rfl (lv_room (Nat.le_of_ble_eq_true rfl)) dX10_runs_49 ⟨Nat.le_of_ble_eq_true rfl, Nat.le_of_ble_eq_true rfl⟩) hD hS hA (fun r9 u9 H locs hw hp hd hs => ?_)
        clear hP hD hS
        obtain ⟨rfl, rfl⟩ := hw
        have hP := hp; have hD := hd; have hS := hs; clear hp hd hs
        refine lv_if_ge (tgt := 57) hx hb dX10_runs_52 (by decide) (fun c9 => ?_) (fun c9 => ?_)
        · rw [if_pos c9] at h
          refine lv_aload_n hx hb dX10_runs_57 rfl (lv_at hl 0 rfl) ?_
          refine lv_dup hx hb dX10_runs_58 rfl ?_
          refine va_get (D := D) (ci := 10) (v := .int (q7.1 0 27)) (C := RX10) (T := TX10) (N := 56) hx hb hts (by decide +kernel) hown hK hP 0 rfl rfl 27 (by decide) (hts (.fieldLink RX10 314 "TurnedFloorsModel" "orderDone" "I") (by decide +kernel)) (fun _ h9 => h9) rfl dX10_runs_59 ?_
          refine lv_iconst (v := 1) hx hb dX10_runs_62 (by decide) ?_
          refine lv_iadd hx hb dX10_runs_63 ?_
          refine va_put (D := D) (ci := 10) (v := .int ((q7.1 0 27) + 1 : Int32)) (ty := .int) (C := RX10) (T := TX10) (N := 56) hx hb hts (by decide +kernel) tyX10 tyX10_ok nmX10 hown hK hP hD hS 0 rfl rfl 27 (by decide) (hts (.fieldLink RX10 314 "TurnedFloorsModel" "orderDone" "I") (by decide +kernel)) (fun _ h9 => h9) rfl (by decide +kernel) rfl rfl (Nat.le_of_ble_eq_true rfl) dX10_runs_64 (fun H locs hp hd hs => ?_)
          obtain ⟨q8, eq8, h⟩ := dL_some h
          refine kz_re (w2 := w10 ty ad q8) hp hd hs (by rw [← eq8]; exact w10_f27 ty ad q7 ((q7.1 0 27) + 1 : Int32)) ?_
          clear hp hd hs hP hD hS
          intro hP hD hS
          exact WX10_runs_67 C0 hk19 _ _ _ _ _ _ _ _ h hP hD hS (lv_sub hl [0, 1, 2, 3, 4] rfl)
        · rw [if_neg c9] at h
          exact WX10_runs_55 C0  _ _ _ _ h hP hD hS (lv_sub hl [] rfl)
    · rw [if_pos c9] at h
      refine lv_goto (tgt := 67) hx hb dX10_runs_38 (by decide) ?_
      exact WX10_runs_67 C0 hk19 _ _ _ _ _ _ _ _ h hP hD hS (lv_sub hl [0, 1, 2, 3, 4] rfl)
noncomputable def zX10_runs_19  (n : Nat) (q : dS) (x1 : Int32) (x2 : Int32) (x3 : Int32) (x4 : Int32) : Option (Int32 × dS) := dFix (α := dS × Int32 × Int32 × Int32 × Int32) (fun k a => zX10_runs_19b  (fun q x1 x2 x3 x4 => k (q, x1, x2, x3, x4)) a.1 a.2.1 a.2.2.1 a.2.2.2.1 a.2.2.2.2) n (q, x1, x2, x3, x4)
set_option maxHeartbeats 4000000 in
set_option maxRecDepth 100000 in
theorem WX10_runs_19 {p : Program} {l : Launch} {e : Env} {s : State} {m : MethodId} {args : Array Value} {below : List Frame} {meth : Method} {c : Code} {D : va_G} {ty : Nat → ClassId} {eo : Nat → Nat} {A : Nat → Prop} {ad : Nat → Nat} {o1 : Int32} {o2 : dS} (C : dc_C p s m args meth c cX10_runs (some .boolean) 5 RX10 wsX10_runs D ty eo A)   (n : Nat) (q : dS) (x1 : Int32) (x2 : Int32) (x3 : Int32) (x4 : Int32) (H : Heap) (locs : List Loc) (ls : Array Slot) (h : zX10_runs_19  n q x1 x2 x3 x4 = some (o1, o2)) (hP : va_P D vwCl (w10 ty ad q) H) (hD : va_D A (w10 ty ad q)) (hS : va_S A s.heap H locs) (hl : lv_has ls 5 [(0, .ref (ad 0)), (1, .int x1), (2, .int x2), (3, .int x3), (4, .int x4)]) : W p l e ({ frames := 91, cells := 0, slots := 0, locals := 2307 } : Room) s m args below meth c H locs 0 0 (MQ below (va_Qi (fun (r : Int32) (u : va_W) => o1 = r ∧ w10 ty ad o2 = u) (kz_B D ty A) A) args s 0 0 A) (F0 m 19 ls []) := by
  exact dFix_W (F := fun k (a : dS × Int32 × Int32 × Int32 × Int32) => zX10_runs_19b  (fun q x1 x2 x3 x4 => k (q, x1, x2, x3, x4)) a.1 a.2.1 a.2.2.1 a.2.2.2.1 a.2.2.2.2) (o := (o1, o2)) (P := fun (a : dS × Int32 × Int32 × Int32 × Int32) H locs ls => va_P D vwCl (w10 ty ad a.1) H ∧ va_D A (w10 ty ad a.1) ∧ va_S A s.heap H locs ∧ lv_has ls 5 [(0, .ref (ad 0)), (1, .int a.2.1), (2, .int a.2.2.1), (3, .int a.2.2.2.1), (4, .int a.2.2.2.2)]) (G := fun H locs ls => W p l e ({ frames := 91, cells := 0, slots := 0, locals := 2307 } : Room) s m args below meth c H locs 0 0 (MQ below (va_Qi (fun (r : Int32) (u : va_W) => o1 = r ∧ w10 ty ad o2 = u) (kz_B D ty A) A) args s 0 0 A) (F0 m 19 ls []))
    (fun k hk a H locs ls h hp => WX10_runs_19b C  (fun q x1 x2 x3 x4 H locs ls h h1 h2 h3 h4 => hk (q, x1, x2, x3, x4) H locs ls h ⟨h1, h2, h3, h4⟩) a.1 a.2.1 a.2.2.1 a.2.2.2.1 a.2.2.2.2 H locs ls h hp.1 hp.2.1 hp.2.2.1 hp.2.2.2) n (q, x1, x2, x3, x4) H locs ls h ⟨hP, hD, hS, hl⟩
noncomputable def zX10_runs (q : dS) (p1 : Int32) : Option (Int32 × dS) := dV (zX10_goesAlong q p1 0) (fun q3 => zX10_runs_19  dF q3 p1 (q3.1 0 48) (q3.1 0 22) 0)
set_option maxHeartbeats 4000000 in
set_option maxRecDepth 100000 in
theorem qX10_runs (l : Launch) (D : va_G) (ty : Nat → ClassId) (eo : Nat → Nat) (sz : Nat) (ad : Nat → Nat) (q : dS) (p1 : Int32) (o1 : Int32) (o2 : dS) (h : zX10_runs q p1 = some (o1, o2)) : Met l yX10_runs wsX10_runs ({ frames := 91, cells := 0, slots := 0, locals := 2307 } : Room) (va_Pc [.ref (ad 0), .int p1] (kz_pre D ty eo (w10 ty ad q) sz)) (va_Qi (fun (r : Int32) (u : va_W) => o1 = r ∧ w10 ty ad o2 = u) (kz_B D ty (va_A (w10 ty ad q) sz)) (va_A (w10 ty ad q) sz)) 0 0 (va_A (w10 ty ad q) sz) := by
  refine Met.ofW (cc := cX10_runs) (maxL := 5) (ret := (some .boolean)) (by decide) rfl ?_
  intro p e s m args below meth c s₁ B hml hv
  obtain ⟨rfl, hsz, hP, hK, hD0, hN, hE⟩ := hv
  have hx := B.exec
  have hb := B.bytes
  have hr := B.returns
  have hts := atoms_spec (ws := wsX10_runs) B.pre
  have hown : s.vm.findClass RX10 = some m.cls := findClass_of_methodNamed B.named
  have hlocks := B.notSynchronized
  subst hsz
  have hD := hD0.self (sz := s.heap.size)
  generalize hAe : va_A (w10 ty ad q) s.heap.size = A at hD hE ⊢
  have hA : ∀ q : Nat, s.heap.size ≤ q → A q := fun q h => by rw [← hAe]; exact Or.inr h
  clear hAe
  have hS : va_S A s.heap s.heap [] := va_S.rf
  have hl := lv_entry ([.ref (ad 0), .int p1]) (n := 5) (Nat.le_of_ble_eq_true rfl)
  rw [lg_entry_eq]
  generalize (lg_sl ([.ref (ad 0), .int p1]) ++ List.replicate (5 - (lg_sl ([.ref (ad 0), .int p1])).length) Slot.unset).toArray = ls at hl ⊢
  have hl : lv_has ls 5 [(0, .ref (ad 0)), (1, .int p1)] := hl
  have C : dc_C p s m _ meth c cX10_runs (some .boolean) 5 RX10 wsX10_runs D ty eo A := ⟨hx, hb, hr, hts, hown, hlocks, hml, hK, hN, hE, hA⟩
  unfold zX10_runs at h
  refine lv_aload_n hx hb dX10_runs_0 rfl (lv_at hl 0 rfl) ?_
  refine lv_iload_n hx hb dX10_runs_1 rfl (lv_at hl 1 rfl) ?_
  refine lv_iconst (v := 0) hx hb dX10_runs_2 (by decide) ?_
  obtain ⟨q3, h2, h⟩ := dV_some h
  refine dw_kv (va_runV (As := [.int p1, .int 0]) (rest := []) ⟨hx, hb, hml, hown, hts⟩ (qX10_goesAlong l D ty eo _ ad q p1 0 q3 h2) (cwV 2 hts gX10_runs_X10_goesAlong rfl rfl rfl (by decide +kernel) ⟨Nat.le_of_ble_eq_true rfl, Nat.le_of_ble_eq_true rfl⟩) (dw_preV (ci := 10) (q0 := 0) hK hN hE hP hD hS hA rfl rfl) rfl rfl hl.1 rfl (lv_room (Nat.le_of_ble_eq_true rfl)) dX10_runs_3 ⟨Nat.le_of_ble_eq_true rfl, Nat.le_of_ble_eq_true rfl⟩) hD hS hA (fun u9 H locs hw hp hd hs => ?_)
  clear hP hD hS
  obtain rfl := hw
  have hP := hp; have hD := hd; have hS := hs; clear hp hd hs
  refine lv_aload_n hx hb dX10_runs_6 rfl (lv_at hl 0 rfl) ?_
  refine va_get (D := D) (ci := 10) (v := .int (q3.1 0 48)) (C := RX10) (T := TX10) (N := 56) hx hb hts (by decide +kernel) hown hK hP 0 rfl rfl 48 (by decide) (hts (.fieldLink RX10 494 "TurnedFloorsModel" "howOften" "I") (by decide +kernel)) (fun _ h9 => h9) rfl dX10_runs_7 ?_
  refine lv_istore_n (lv' := [(2, .int (q3.1 0 48)), (0, .ref (ad 0)), (1, .int p1)]) hx hb dX10_runs_10 rfl hl (by decide) rfl (fun ls hl => ?_)
  refine lv_aload_n hx hb dX10_runs_11 rfl (lv_at hl 1 rfl) ?_
  refine va_get (D := D) (ci := 10) (v := .int (q3.1 0 22)) (C := RX10) (T := TX10) (N := 56) hx hb hts (by decide +kernel) hown hK hP 0 rfl rfl 22 (by decide) (hts (.fieldLink RX10 278 "TurnedFloorsModel" "go" "I") (by decide +kernel)) (fun _ h9 => h9) rfl dX10_runs_12 ?_
  refine lv_istore_n (lv' := [(3, .int (q3.1 0 22)), (2, .int (q3.1 0 48)), (0, .ref (ad 0)), (1, .int p1)]) hx hb dX10_runs_15 rfl hl (by decide) rfl (fun ls hl => ?_)
  refine lv_iconst (v := 0) hx hb dX10_runs_16 (by decide) ?_
  refine lv_istore (lv' := [(4, .int 0), (3, .int (q3.1 0 22)), (2, .int (q3.1 0 48)), (0, .ref (ad 0)), (1, .int p1)]) hx hb dX10_runs_17 hl (by decide) rfl (fun ls hl => ?_)
  exact WX10_runs_19 C  _ _ _ _ _ _ _ _ _ h hP hD hS (lv_sub hl [3, 4, 2, 1, 0] rfl)

noncomputable def zX10_orders_122b (k122 : dS → Int32 → Int32 → Int32 → Option (Int32 × dS)) (q : dS) (x1 : Int32) (x3 : Int32) (x4 : Int32) : Option (Int32 × dS) := if 240 ≤ x4 then dL (dui q 0 32 x1) (fun q1 => dL (dui q1 0 46 x3) (fun q2 => dB (zX10_refuses q2 (-3)) (fun r3 q5 => some (r3, q5)))) else dG (dg x4 240) (dL (q.1 15 (Int32.toNatClampNeg x4)) (fun v7 => dG (dg x4 240) (dL (dui q 14 (Int32.toNatClampNeg x4) v7) (fun q9 => k122 q9 x1 x3 (x4 + 1)))))
set_option maxHeartbeats 4000000 in
set_option maxRecDepth 100000 in
theorem WX10_orders_122b {p : Program} {l : Launch} {e : Env} {s : State} {m : MethodId} {args : Array Value} {below : List Frame} {meth : Method} {c : Code} {D : va_G} {ty : Nat → ClassId} {eo : Nat → Nat} {A : Nat → Prop} {ad : Nat → Nat} {o1 : Int32} {o2 : dS} (C : dc_C p s m args meth c cX10_orders (some .int) 5 RX10 wsX10_orders D ty eo A) {k122 : dS → Int32 → Int32 → Int32 → Option (Int32 × dS)} (hk122 : ∀ (q : dS) (x1 : Int32) (x3 : Int32) (x4 : Int32) (H : Heap) (locs : List Loc) (ls : Array Slot), k122 q x1 x3 x4 = some (o1, o2) → va_P D vwCl (w10 ty ad q) H → va_D A (w10 ty ad q) → va_S A s.heap H locs → lv_has ls 5 [(0, .ref (ad 0)), (1, .int x1), (3, .int x3), (4, .int x4)] → W p l e ({ frames := 92, cells := 0, slots := 0, locals := 2331 } : Room) s m args below meth c H locs 0 0 (MQ below (va_Qi (fun (r : Int32) (u : va_W) => o1 = r ∧ w10 ty ad o2 = u) (kz_B D ty A) A) args s 0 0 A) (F0 m 122 ls [])) (q : dS) (x1 : Int32) (x3 : Int32) (x4 : Int32) (H : Heap) (locs : List Loc) (ls : Array Slot) (h : zX10_orders_122b k122 q x1 x3 x4 = some (o1, o2)) (hP : va_P D vwCl (w10 ty ad q) H) (hD : va_D A (w10 ty ad q)) (hS : va_S A s.heap H locs) (hl : lv_has ls 5 [(0, .ref (ad 0)), (1, .int x1), (3, .int x3), (4, .int x4)]) : W p l e ({ frames := 92, cells := 0, slots := 0, locals := 2331 } : Room) s m args below meth c H locs 0 0 (MQ below (va_Qi (fun (r : Int32) (u : va_W) => o1 = r ∧ w10 ty ad o2 = u) (kz_B D ty A) A) args s 0 0 A) (F0 m 122 ls []) := by
  have C0 := C
  obtain ⟨hx, hb, hr, hts, hown, hlocks, hml, hK, hN, hE, hA⟩ := C
  unfold zX10_orders_122b at h
  refine lv_iload hx hb dX10_orders_122 (lv_at hl 3 rfl) ?_
  refine lv_sipush (v := 240) hx hb dX10_orders_124 (by decide) ?_
  refine lv_icmp_ge (tgt := 150) hx hb dX10_orders_127 (by decide) (fun c9 => ?_) (fun c9 => ?_)
  · rw [if_pos c9] at h
    refine lv_aload_n hx hb dX10_orders_150 rfl (lv_at hl 0 rfl) ?_
    refine lv_iload_n hx hb dX10_orders_151 rfl (lv_at hl 1 rfl) ?_
    refine va_put (D := D) (ci := 10) (v := .int x1) (ty := .int) (C := RX10) (T := TX10) (N := 56) hx hb hts (by decide +kernel) tyX10 tyX10_ok nmX10 hown hK hP hD hS 0 rfl rfl 32 (by decide) (hts (.fieldLink RX10 11 "TurnedFloorsModel" "undoMany" "I") (by decide +kernel)) (fun _ h9 => h9) rfl (by decide +kernel) rfl rfl (Nat.le_of_ble_eq_true rfl) dX10_orders_152 (fun H locs hp hd hs => ?_)
    obtain ⟨q1, eq1, h⟩ := dL_some h
    refine kz_re (w2 := w10 ty ad q1) hp hd hs (by rw [← eq1]; exact w10_f32 ty ad q x1) ?_
    clear hp hd hs hP hD hS
    intro hP hD hS
    refine lv_aload_n hx hb dX10_orders_155 rfl (lv_at hl 0 rfl) ?_
    refine lv_iload_n hx hb dX10_orders_156 rfl (lv_at hl 2 rfl) ?_
    refine va_put (D := D) (ci := 10) (v := .int x3) (ty := .int) (C := RX10) (T := TX10) (N := 56) hx hb hts (by decide +kernel) tyX10 tyX10_ok nmX10 hown hK hP hD hS 0 rfl rfl 46 (by decide) (hts (.fieldLink RX10 110 "TurnedFloorsModel" "stopped0" "I") (by decide +kernel)) (fun _ h9 => h9) rfl (by decide +kernel) rfl rfl (Nat.le_of_ble_eq_true rfl) dX10_orders_157 (fun H locs hp hd hs => ?_)
    obtain ⟨q2, eq2, h⟩ := dL_some h
    refine kz_re (w2 := w10 ty ad q2) hp hd hs (by rw [← eq2]; exact w10_f46 ty ad q1 x3) ?_
    clear hp hd hs hP hD hS
    intro hP hD hS
    refine lv_aload_n hx hb dX10_orders_160 rfl (lv_at hl 0 rfl) ?_
    refine lv_bipush (v := (-3)) hx hb dX10_orders_161 (by decide) ?_
    obtain ⟨r3, q5, h4, h⟩ := dB_some h
    refine dw_ki (va_runV (As := [.int (-3)]) (rest := []) ⟨hx, hb, hml, hown, hts⟩ (qX10_refuses l D ty eo _ ad q2 (-3) r3 q5 h4) (cwV 1 hts gX10_orders_X10_refuses rfl rfl rfl (by decide +kernel) ⟨Nat.le_of_ble_eq_true rfl, Nat.le_of_ble_eq_true rfl⟩) (dw_preV (ci := 10) (q0 := 0) hK hN hE hP hD hS hA rfl rfl) rfl rfl hl.1 rfl (lv_room (Nat.le_of_ble_eq_true rfl)) dX10_orders_163 ⟨Nat.le_of_ble_eq_true rfl, Nat.le_of_ble_eq_true rfl⟩) hD hS hA (fun r9 u9 H locs hw hp hd hs => ?_)
    clear hP hD hS
    obtain ⟨rfl, rfl⟩ := hw
    have hP := hp; have hD := hd; have hS := hs; clear hp hd hs
    cases h
    exact kz_iret hx hb hr hlocks hP hK hD hS dX10_orders_166 ⟨rfl, rfl⟩
  · rw [if_neg c9] at h
    refine lv_aload_n hx hb dX10_orders_130 rfl (lv_at hl 0 rfl) ?_
    refine va_get (D := D) (ci := 10) (v := .ref (ad 14)) (C := RX10) (T := TX10) (N := 56) hx hb hts (by decide +kernel) hown hK hP 0 rfl rfl 30 (by decide) (hts (.fieldLink RX10 69 "TurnedFloorsModel" "left0" "[I") (by decide +kernel)) (fun _ h9 => h9) rfl dX10_orders_131 ?_
    refine lv_iload hx hb dX10_orders_134 (lv_at hl 3 rfl) ?_
    refine lv_aload_n hx hb dX10_orders_136 rfl (lv_at hl 0 rfl) ?_
    refine va_get (D := D) (ci := 10) (v := .ref (ad 15)) (C := RX10) (T := TX10) (N := 56) hx hb hts (by decide +kernel) hown hK hP 0 rfl rfl 31 (by decide) (hts (.fieldLink RX10 72 "TurnedFloorsModel" "leftAhead" "[I") (by decide +kernel)) (fun _ h9 => h9) rfl dX10_orders_137 ?_
    refine lv_iload hx hb dX10_orders_140 (lv_at hl 3 rfl) ?_
    obtain ⟨g6, h⟩ := dG_some h
    refine va_iald hx hb hK hP 15 0 rfl rfl (dg_in g6) dX10_orders_142 ?_
    obtain ⟨v7, ev7, h⟩ := dL_some h
    refine kz_topi v7 ev7 ?_
    obtain ⟨g8, h⟩ := dG_some h
    refine va_iast hx hb hK hP hD hS 14 0 rfl rfl (dg_in g8) dX10_orders_143 (fun H locs hp hd hs => ?_)
    obtain ⟨q9, eq9, h⟩ := dL_some h
    refine kz_re (w2 := w10 ty ad q9) hp hd hs (by rw [← eq9]; exact w10_a14 ty ad q (Int32.toNatClampNeg x4) v7) ?_
    clear hp hd hs hP hD hS
    intro hP hD hS
    refine lv_iinc (v := x4 + 1) (lv' := [(4, .int (x4 + 1)), (0, .ref (ad 0)), (1, .int x1), (3, .int x3)]) hx hb dX10_orders_144 hl (k := 3) rfl rfl (by decide) rfl (fun ls hl => ?_)
    refine lv_goto (tgt := 122) hx hb dX10_orders_147 (by decide) ?_
    exact hk122 _ _ _ _ _ _ _ h hP hD hS (lv_sub hl [1, 2, 3, 0] rfl)
noncomputable def zX10_orders_122  (n : Nat) (q : dS) (x1 : Int32) (x3 : Int32) (x4 : Int32) : Option (Int32 × dS) := dFix (α := dS × Int32 × Int32 × Int32) (fun k a => zX10_orders_122b  (fun q x1 x3 x4 => k (q, x1, x3, x4)) a.1 a.2.1 a.2.2.1 a.2.2.2) n (q, x1, x3, x4)
set_option maxHeartbeats 4000000 in
set_option maxRecDepth 100000 in
theorem WX10_orders_122 {p : Program} {l : Launch} {e : Env} {s : State} {m : MethodId} {args : Array Value} {below : List Frame} {meth : Method} {c : Code} {D : va_G} {ty : Nat → ClassId} {eo : Nat → Nat} {A : Nat → Prop} {ad : Nat → Nat} {o1 : Int32} {o2 : dS} (C : dc_C p s m args meth c cX10_orders (some .int) 5 RX10 wsX10_orders D ty eo A)   (n : Nat) (q : dS) (x1 : Int32) (x3 : Int32) (x4 : Int32) (H : Heap) (locs : List Loc) (ls : Array Slot) (h : zX10_orders_122  n q x1 x3 x4 = some (o1, o2)) (hP : va_P D vwCl (w10 ty ad q) H) (hD : va_D A (w10 ty ad q)) (hS : va_S A s.heap H locs) (hl : lv_has ls 5 [(0, .ref (ad 0)), (1, .int x1), (3, .int x3), (4, .int x4)]) : W p l e ({ frames := 92, cells := 0, slots := 0, locals := 2331 } : Room) s m args below meth c H locs 0 0 (MQ below (va_Qi (fun (r : Int32) (u : va_W) => o1 = r ∧ w10 ty ad o2 = u) (kz_B D ty A) A) args s 0 0 A) (F0 m 122 ls []) := by
  exact dFix_W (F := fun k (a : dS × Int32 × Int32 × Int32) => zX10_orders_122b  (fun q x1 x3 x4 => k (q, x1, x3, x4)) a.1 a.2.1 a.2.2.1 a.2.2.2) (o := (o1, o2)) (P := fun (a : dS × Int32 × Int32 × Int32) H locs ls => va_P D vwCl (w10 ty ad a.1) H ∧ va_D A (w10 ty ad a.1) ∧ va_S A s.heap H locs ∧ lv_has ls 5 [(0, .ref (ad 0)), (1, .int a.2.1), (3, .int a.2.2.1), (4, .int a.2.2.2)]) (G := fun H locs ls => W p l e ({ frames := 92, cells := 0, slots := 0, locals := 2331 } : Room) s m args below meth c H locs 0 0 (MQ below (va_Qi (fun (r : Int32) (u : va_W) => o1 = r ∧ w10 ty ad o2 = u) (kz_B D ty A) A) args s 0 0 A) (F0 m 122 ls []))
    (fun k hk a H locs ls h hp => WX10_orders_122b C  (fun q x1 x3 x4 H locs ls h h1 h2 h3 h4 => hk (q, x1, x3, x4) H locs ls h ⟨h1, h2, h3, h4⟩) a.1 a.2.1 a.2.2.1 a.2.2.2 H locs ls h hp.1 hp.2.1 hp.2.2.1 hp.2.2.2) n (q, x1, x3, x4) H locs ls h ⟨hP, hD, hS, hl⟩
noncomputable def zX10_orders_95b (k95 : dS → Int32 → Int32 → Int32 → Option (Int32 × dS)) (q : dS) (x1 : Int32) (x2 : Int32) (x3 : Int32) : Option (Int32 × dS) := if x2 ≤ (q.1 0 47) then dB (zX10_good q (q.1 0 27)) (fun r1 q3 => some (r1, q3)) else dB (zX10_runs q x2) (fun r4 q6 => if r4 = 0 then dV (zX10_takesBack q6 1) (fun q9 => zX10_orders_122  dF q9 x1 x3 0) else k95 q6 x1 x2 (x3 + 1))
set_option maxHeartbeats 4000000 in
set_option maxRecDepth 100000 in
theorem WX10_orders_95b {p : Program} {l : Launch} {e : Env} {s : State} {m : MethodId} {args : Array Value} {below : List Frame} {meth : Method} {c : Code} {D : va_G} {ty : Nat → ClassId} {eo : Nat → Nat} {A : Nat → Prop} {ad : Nat → Nat} {o1 : Int32} {o2 : dS} (C : dc_C p s m args meth c cX10_orders (some .int) 5 RX10 wsX10_orders D ty eo A) {k95 : dS → Int32 → Int32 → Int32 → Option (Int32 × dS)} (hk95 : ∀ (q : dS) (x1 : Int32) (x2 : Int32) (x3 : Int32) (H : Heap) (locs : List Loc) (ls : Array Slot), k95 q x1 x2 x3 = some (o1, o2) → va_P D vwCl (w10 ty ad q) H → va_D A (w10 ty ad q) → va_S A s.heap H locs → lv_has ls 5 [(0, .ref (ad 0)), (1, .int x1), (2, .int x2), (3, .int x3)] → W p l e ({ frames := 92, cells := 0, slots := 0, locals := 2331 } : Room) s m args below meth c H locs 0 0 (MQ below (va_Qi (fun (r : Int32) (u : va_W) => o1 = r ∧ w10 ty ad o2 = u) (kz_B D ty A) A) args s 0 0 A) (F0 m 95 ls [])) (q : dS) (x1 : Int32) (x2 : Int32) (x3 : Int32) (H : Heap) (locs : List Loc) (ls : Array Slot) (h : zX10_orders_95b k95 q x1 x2 x3 = some (o1, o2)) (hP : va_P D vwCl (w10 ty ad q) H) (hD : va_D A (w10 ty ad q)) (hS : va_S A s.heap H locs) (hl : lv_has ls 5 [(0, .ref (ad 0)), (1, .int x1), (2, .int x2), (3, .int x3)]) : W p l e ({ frames := 92, cells := 0, slots := 0, locals := 2331 } : Room) s m args below meth c H locs 0 0 (MQ below (va_Qi (fun (r : Int32) (u : va_W) => o1 = r ∧ w10 ty ad o2 = u) (kz_B D ty A) A) args s 0 0 A) (F0 m 95 ls []) := by
  have C0 := C
  obtain ⟨hx, hb, hr, hts, hown, hlocks, hml, hK, hN, hE, hA⟩ := C
  unfold zX10_orders_95b at h
  refine lv_aload_n hx hb dX10_orders_95 rfl (lv_at hl 0 rfl) ?_
  refine va_get (D := D) (ci := 10) (v := .int (q.1 0 47)) (C := RX10) (T := TX10) (N := 56) hx hb hts (by decide +kernel) hown hK hP 0 rfl rfl 47 (by decide) (hts (.fieldLink RX10 475 "TurnedFloorsModel" "orderAt" "I") (by decide +kernel)) (fun _ h9 => h9) rfl dX10_orders_96 ?_
  refine lv_iload_n hx hb dX10_orders_99 rfl (lv_at hl 2 rfl) ?_
  refine lv_icmp_ge (tgt := 173) hx hb dX10_orders_100 (by decide) (fun c9 => ?_) (fun c9 => ?_)
  · rw [if_pos c9] at h
    refine lv_aload_n hx hb dX10_orders_173 rfl (lv_at hl 0 rfl) ?_
    refine lv_aload_n hx hb dX10_orders_174 rfl (lv_at hl 0 rfl) ?_
    refine va_get (D := D) (ci := 10) (v := .int (q.1 0 27)) (C := RX10) (T := TX10) (N := 56) hx hb hts (by decide +kernel) hown hK hP 0 rfl rfl 27 (by decide) (hts (.fieldLink RX10 314 "TurnedFloorsModel" "orderDone" "I") (by decide +kernel)) (fun _ h9 => h9) rfl dX10_orders_175 ?_
    obtain ⟨r1, q3, h2, h⟩ := dB_some h
    refine dw_ki (va_runV (As := [.int (q.1 0 27)]) (rest := []) ⟨hx, hb, hml, hown, hts⟩ (qX10_good l D ty eo _ ad q (q.1 0 27) r1 q3 h2) (cwV 1 hts gX10_orders_X10_good rfl rfl rfl (by decide +kernel) ⟨Nat.le_of_ble_eq_true rfl, Nat.le_of_ble_eq_true rfl⟩) (dw_preV (ci := 10) (q0 := 0) hK hN hE hP hD hS hA rfl rfl) rfl rfl hl.1 rfl (lv_room (Nat.le_of_ble_eq_true rfl)) dX10_orders_178 ⟨Nat.le_of_ble_eq_true rfl, Nat.le_of_ble_eq_true rfl⟩) hD hS hA (fun r9 u9 H locs hw hp hd hs => ?_)
    clear hP hD hS
    obtain ⟨rfl, rfl⟩ := hw
    have hP := hp; have hD := hd; have hS := hs; clear hp hd hs
    cases h
    exact kz_iret hx hb hr hlocks hP hK hD hS dX10_orders_181 ⟨rfl, rfl⟩
  · rw [if_neg c9] at h
    refine lv_aload_n hx hb dX10_orders_103 rfl (lv_at hl 0 rfl) ?_
    refine lv_iload_n hx hb dX10_orders_104 rfl (lv_at hl 2 rfl) ?_
    obtain ⟨r4, q6, h5, h⟩ := dB_some h
    refine dw_ki (va_runV (As := [.int x2]) (rest := []) ⟨hx, hb, hml, hown, hts⟩ (qX10_runs l D ty eo _ ad q x2 r4 q6 h5) (cwV 1 hts gX10_orders_X10_runs rfl rfl rfl (by decide +kernel) ⟨Nat.le_of_ble_eq_true rfl, Nat.le_of_ble_eq_true rfl⟩) (dw_preV (ci := 10) (q0 := 0) hK hN hE hP hD hS hA rfl rfl) rfl rfl hl.1 rfl (lv_room (Nat.le_of_ble_eq_true rfl)) dX10_orders_105 ⟨Nat.le_of_ble_eq_true rfl, Nat.le_of_ble_eq_true rfl⟩) hD hS hA (fun r9 u9 H locs hw hp hd hs => ?_)
    clear hP hD hS
    obtain ⟨rfl, rfl⟩ := hw
    have hP := hp; have hD := hd; have hS := hs; clear hp hd hs
    refine lv_if_eq (tgt := 114) hx hb dX10_orders_108 (by decide) (fun c9 => ?_) (fun c9 => ?_)
    · rw [if_pos c9] at h
      refine lv_aload_n hx hb dX10_orders_114 rfl (lv_at hl 0 rfl) ?_
      refine lv_iconst (v := 1) hx hb dX10_orders_115 (by decide) ?_
      obtain ⟨q9, h8, h⟩ := dV_some h
      refine dw_kv (va_runV (As := [.int 1]) (rest := []) ⟨hx, hb, hml, hown, hts⟩ (qX10_takesBack l D ty eo _ ad q6 1 q9 h8) (cwV 1 hts gX10_orders_X10_takesBack rfl rfl rfl (by decide +kernel) ⟨Nat.le_of_ble_eq_true rfl, Nat.le_of_ble_eq_true rfl⟩) (dw_preV (ci := 10) (q0 := 0) hK hN hE hP hD hS hA rfl rfl) rfl rfl hl.1 rfl (lv_room (Nat.le_of_ble_eq_true rfl)) dX10_orders_116 ⟨Nat.le_of_ble_eq_true rfl, Nat.le_of_ble_eq_true rfl⟩) hD hS hA (fun u9 H locs hw hp hd hs => ?_)
      clear hP hD hS
      obtain rfl := hw
      have hP := hp; have hD := hd; have hS := hs; clear hp hd hs
      refine lv_iconst (v := 0) hx hb dX10_orders_119 (by decide) ?_
      refine lv_istore (lv' := [(4, .int 0), (0, .ref (ad 0)), (1, .int x1), (2, .int x2), (3, .int x3)]) hx hb dX10_orders_120 hl (by decide) rfl (fun ls hl => ?_)
      exact WX10_orders_122 C0  _ _ _ _ _ _ _ _ h hP hD hS (lv_sub hl [1, 2, 4, 0] rfl)
    · rw [if_neg c9] at h
      refine lv_goto (tgt := 167) hx hb dX10_orders_111 (by decide) ?_
      refine lv_iinc (v := x3 + 1) (lv' := [(3, .int (x3 + 1)), (0, .ref (ad 0)), (1, .int x1), (2, .int x2)]) hx hb dX10_orders_167 hl (k := 3) rfl rfl (by decide) rfl (fun ls hl => ?_)
      refine lv_goto (tgt := 95) hx hb dX10_orders_170 (by decide) ?_
      exact hk95 _ _ _ _ _ _ _ h hP hD hS (lv_sub hl [1, 2, 3, 0] rfl)
noncomputable def zX10_orders_95  (n : Nat) (q : dS) (x1 : Int32) (x2 : Int32) (x3 : Int32) : Option (Int32 × dS) := dFix (α := dS × Int32 × Int32 × Int32) (fun k a => zX10_orders_95b  (fun q x1 x2 x3 => k (q, x1, x2, x3)) a.1 a.2.1 a.2.2.1 a.2.2.2) n (q, x1, x2, x3)
set_option maxHeartbeats 4000000 in
set_option maxRecDepth 100000 in
theorem WX10_orders_95 {p : Program} {l : Launch} {e : Env} {s : State} {m : MethodId} {args : Array Value} {below : List Frame} {meth : Method} {c : Code} {D : va_G} {ty : Nat → ClassId} {eo : Nat → Nat} {A : Nat → Prop} {ad : Nat → Nat} {o1 : Int32} {o2 : dS} (C : dc_C p s m args meth c cX10_orders (some .int) 5 RX10 wsX10_orders D ty eo A)   (n : Nat) (q : dS) (x1 : Int32) (x2 : Int32) (x3 : Int32) (H : Heap) (locs : List Loc) (ls : Array Slot) (h : zX10_orders_95  n q x1 x2 x3 = some (o1, o2)) (hP : va_P D vwCl (w10 ty ad q) H) (hD : va_D A (w10 ty ad q)) (hS : va_S A s.heap H locs) (hl : lv_has ls 5 [(0, .ref (ad 0)), (1, .int x1), (2, .int x2), (3, .int x3)]) : W p l e ({ frames := 92, cells := 0, slots := 0, locals := 2331 } : Room) s m args below meth c H locs 0 0 (MQ below (va_Qi (fun (r : Int32) (u : va_W) => o1 = r ∧ w10 ty ad o2 = u) (kz_B D ty A) A) args s 0 0 A) (F0 m 95 ls []) := by
  exact dFix_W (F := fun k (a : dS × Int32 × Int32 × Int32) => zX10_orders_95b  (fun q x1 x2 x3 => k (q, x1, x2, x3)) a.1 a.2.1 a.2.2.1 a.2.2.2) (o := (o1, o2)) (P := fun (a : dS × Int32 × Int32 × Int32) H locs ls => va_P D vwCl (w10 ty ad a.1) H ∧ va_D A (w10 ty ad a.1) ∧ va_S A s.heap H locs ∧ lv_has ls 5 [(0, .ref (ad 0)), (1, .int a.2.1), (2, .int a.2.2.1), (3, .int a.2.2.2)]) (G := fun H locs ls => W p l e ({ frames := 92, cells := 0, slots := 0, locals := 2331 } : Room) s m args below meth c H locs 0 0 (MQ below (va_Qi (fun (r : Int32) (u : va_W) => o1 = r ∧ w10 ty ad o2 = u) (kz_B D ty A) A) args s 0 0 A) (F0 m 95 ls []))
    (fun k hk a H locs ls h hp => WX10_orders_95b C  (fun q x1 x2 x3 H locs ls h h1 h2 h3 h4 => hk (q, x1, x2, x3) H locs ls h ⟨h1, h2, h3, h4⟩) a.1 a.2.1 a.2.2.1 a.2.2.2 H locs ls h hp.1 hp.2.1 hp.2.2.1 hp.2.2.2) n (q, x1, x2, x3) H locs ls h ⟨hP, hD, hS, hl⟩
noncomputable def zX10_orders_27b (k27 : dS → Int32 → Option (Int32 × dS)) (q : dS) (x1 : Int32) : Option (Int32 × dS) := if 240 ≤ x1 then dV (zX10_lays q 6) (fun q3 => dL (dui q3 0 27 0) (fun q4 => dL (dui q4 0 28 (-1)) (fun q5 => dL (dui q5 0 47 2400) (fun q6 => zX10_orders_95  dF q6 (q.1 0 32) ((q6.1 0 47) + (q6.1 2 39)) 0)))) else dG (dg x1 240) (dL (q.1 14 (Int32.toNatClampNeg x1)) (fun v8 => dG (dg x1 240) (dL (dui q 15 (Int32.toNatClampNeg x1) v8) (fun q10 => k27 q10 (x1 + 1)))))
set_option maxHeartbeats 4000000 in
set_option maxRecDepth 100000 in
theorem WX10_orders_27b {p : Program} {l : Launch} {e : Env} {s : State} {m : MethodId} {args : Array Value} {below : List Frame} {meth : Method} {c : Code} {D : va_G} {ty : Nat → ClassId} {eo : Nat → Nat} {A : Nat → Prop} {ad : Nat → Nat} {o1 : Int32} {o2 : dS} (C : dc_C p s m args meth c cX10_orders (some .int) 5 RX10 wsX10_orders D ty eo A) {k27 : dS → Int32 → Option (Int32 × dS)} (hk27 : ∀ (q : dS) (x1 : Int32) (H : Heap) (locs : List Loc) (ls : Array Slot), k27 q x1 = some (o1, o2) → va_P D vwCl (w10 ty ad q) H → va_D A (w10 ty ad q) → va_S A s.heap H locs → lv_has ls 5 [(0, .ref (ad 0)), (1, .int x1)] → W p l e ({ frames := 92, cells := 0, slots := 0, locals := 2331 } : Room) s m args below meth c H locs 0 0 (MQ below (va_Qi (fun (r : Int32) (u : va_W) => o1 = r ∧ w10 ty ad o2 = u) (kz_B D ty A) A) args s 0 0 A) (F0 m 27 ls [])) (q : dS) (x1 : Int32) (H : Heap) (locs : List Loc) (ls : Array Slot) (h : zX10_orders_27b k27 q x1 = some (o1, o2)) (hP : va_P D vwCl (w10 ty ad q) H) (hD : va_D A (w10 ty ad q)) (hS : va_S A s.heap H locs) (hl : lv_has ls 5 [(0, .ref (ad 0)), (1, .int x1)]) : W p l e ({ frames := 92, cells := 0, slots := 0, locals := 2331 } : Room) s m args below meth c H locs 0 0 (MQ below (va_Qi (fun (r : Int32) (u : va_W) => o1 = r ∧ w10 ty ad o2 = u) (kz_B D ty A) A) args s 0 0 A) (F0 m 27 ls []) := by
  have C0 := C
  obtain ⟨hx, hb, hr, hts, hown, hlocks, hml, hK, hN, hE, hA⟩ := C
  unfold zX10_orders_27b at h
  refine lv_iload_n hx hb dX10_orders_27 rfl (lv_at hl 1 rfl) ?_
  refine lv_sipush (v := 240) hx hb dX10_orders_28 (by decide) ?_
  refine lv_icmp_ge (tgt := 52) hx hb dX10_orders_31 (by decide) (fun c9 => ?_) (fun c9 => ?_)
  · rw [if_pos c9] at h
    refine lv_aload_n hx hb dX10_orders_52 rfl (lv_at hl 0 rfl) ?_
    refine va_get (D := D) (ci := 10) (v := .int (q.1 0 32)) (C := RX10) (T := TX10) (N := 56) hx hb hts (by decide +kernel) hown hK hP 0 rfl rfl 32 (by decide) (hts (.fieldLink RX10 11 "TurnedFloorsModel" "undoMany" "I") (by decide +kernel)) (fun _ h9 => h9) rfl dX10_orders_53 ?_
    refine lv_istore_n (lv' := [(1, .int (q.1 0 32)), (0, .ref (ad 0))]) hx hb dX10_orders_56 rfl hl (by decide) rfl (fun ls hl => ?_)
    refine lv_aload_n hx hb dX10_orders_57 rfl (lv_at hl 1 rfl) ?_
    refine lv_bipush (v := 6) hx hb dX10_orders_58 (by decide) ?_
    obtain ⟨q3, h2, h⟩ := dV_some h
    refine dw_kv (va_runV (As := [.int 6]) (rest := []) ⟨hx, hb, hml, hown, hts⟩ (qX10_lays l D ty eo _ ad q 6 q3 h2) (cwV 1 hts gX10_orders_X10_lays rfl rfl rfl (by decide +kernel) ⟨Nat.le_of_ble_eq_true rfl, Nat.le_of_ble_eq_true rfl⟩) (dw_preV (ci := 10) (q0 := 0) hK hN hE hP hD hS hA rfl rfl) rfl rfl hl.1 rfl (lv_room (Nat.le_of_ble_eq_true rfl)) dX10_orders_60 ⟨Nat.le_of_ble_eq_true rfl, Nat.le_of_ble_eq_true rfl⟩) hD hS hA (fun u9 H locs hw hp hd hs => ?_)
    clear hP hD hS
    obtain rfl := hw
    have hP := hp; have hD := hd; have hS := hs; clear hp hd hs
    refine lv_aload_n hx hb dX10_orders_63 rfl (lv_at hl 1 rfl) ?_
    refine lv_iconst (v := 0) hx hb dX10_orders_64 (by decide) ?_
    refine va_put (D := D) (ci := 10) (v := .int 0) (ty := .int) (C := RX10) (T := TX10) (N := 56) hx hb hts (by decide +kernel) tyX10 tyX10_ok nmX10 hown hK hP hD hS 0 rfl rfl 27 (by decide) (hts (.fieldLink RX10 314 "TurnedFloorsModel" "orderDone" "I") (by decide +kernel)) (fun _ h9 => h9) rfl (by decide +kernel) rfl rfl (Nat.le_of_ble_eq_true rfl) dX10_orders_65 (fun H locs hp hd hs => ?_)
    obtain ⟨q4, eq4, h⟩ := dL_some h
    refine kz_re (w2 := w10 ty ad q4) hp hd hs (by rw [← eq4]; exact w10_f27 ty ad q3 0) ?_
    clear hp hd hs hP hD hS
    intro hP hD hS
    refine lv_aload_n hx hb dX10_orders_68 rfl (lv_at hl 1 rfl) ?_
    refine lv_iconst (v := (-1)) hx hb dX10_orders_69 (by decide) ?_
    refine va_put (D := D) (ci := 10) (v := .int (-1)) (ty := .int) (C := RX10) (T := TX10) (N := 56) hx hb hts (by decide +kernel) tyX10 tyX10_ok nmX10 hown hK hP hD hS 0 rfl rfl 28 (by decide) (hts (.fieldLink RX10 317 "TurnedFloorsModel" "orderLatest" "I") (by decide +kernel)) (fun _ h9 => h9) rfl (by decide +kernel) rfl rfl (Nat.le_of_ble_eq_true rfl) dX10_orders_70 (fun H locs hp hd hs => ?_)
    obtain ⟨q5, eq5, h⟩ := dL_some h
    refine kz_re (w2 := w10 ty ad q5) hp hd hs (by rw [← eq5]; exact w10_f28 ty ad q4 (-1)) ?_
    clear hp hd hs hP hD hS
    intro hP hD hS
    refine lv_aload_n hx hb dX10_orders_73 rfl (lv_at hl 1 rfl) ?_
    refine lv_sipush (v := 2400) hx hb dX10_orders_74 (by decide) ?_
    refine va_put (D := D) (ci := 10) (v := .int 2400) (ty := .int) (C := RX10) (T := TX10) (N := 56) hx hb hts (by decide +kernel) tyX10 tyX10_ok nmX10 hown hK hP hD hS 0 rfl rfl 47 (by decide) (hts (.fieldLink RX10 475 "TurnedFloorsModel" "orderAt" "I") (by decide +kernel)) (fun _ h9 => h9) rfl (by decide +kernel) rfl rfl (Nat.le_of_ble_eq_true rfl) dX10_orders_77 (fun H locs hp hd hs => ?_)
    obtain ⟨q6, eq6, h⟩ := dL_some h
    refine kz_re (w2 := w10 ty ad q6) hp hd hs (by rw [← eq6]; exact w10_f47 ty ad q5 2400) ?_
    clear hp hd hs hP hD hS
    intro hP hD hS
    refine lv_aload_n hx hb dX10_orders_80 rfl (lv_at hl 1 rfl) ?_
    refine va_get (D := D) (ci := 10) (v := .int (q6.1 0 47)) (C := RX10) (T := TX10) (N := 56) hx hb hts (by decide +kernel) hown hK hP 0 rfl rfl 47 (by decide) (hts (.fieldLink RX10 475 "TurnedFloorsModel" "orderAt" "I") (by decide +kernel)) (fun _ h9 => h9) rfl dX10_orders_81 ?_
    refine lv_aload_n hx hb dX10_orders_84 rfl (lv_at hl 1 rfl) ?_
    refine va_get (D := D) (ci := 10) (v := .ref (ad 2)) (C := RX10) (T := TX10) (N := 56) hx hb hts (by decide +kernel) hown hK hP 0 rfl rfl 2 (by decide) (hts (.fieldLink RX10 28 "TurnedFloorsModel" "kept" "[I") (by decide +kernel)) (fun _ h9 => h9) rfl dX10_orders_85 ?_
    refine lv_bipush (v := 39) hx hb dX10_orders_88 (by decide) ?_
    refine va_iald hx hb hK hP 2 0 rfl rfl (by simp only [vp_in]; decide) dX10_orders_90 ?_
    refine kz_topi (q6.1 2 39) (congrArg (q6.1 2) (by decide +kernel : Int32.toNatClampNeg 39 = 39)) ?_
    refine lv_iadd hx hb dX10_orders_91 ?_
    refine lv_istore_n (lv' := [(2, .int ((q6.1 0 47) + (q6.1 2 39))), (1, .int (q.1 0 32)), (0, .ref (ad 0))]) hx hb dX10_orders_92 rfl hl (by decide) rfl (fun ls hl => ?_)
    refine lv_iconst (v := 0) hx hb dX10_orders_93 (by decide) ?_
    refine lv_istore_n (lv' := [(3, .int 0), (2, .int ((q6.1 0 47) + (q6.1 2 39))), (1, .int (q.1 0 32)), (0, .ref (ad 0))]) hx hb dX10_orders_94 rfl hl (by decide) rfl (fun ls hl => ?_)
    exact WX10_orders_95 C0  _ _ _ _ _ _ _ _ h hP hD hS (lv_sub hl [3, 2, 1, 0] rfl)
  · rw [if_neg c9] at h
    refine lv_aload_n hx hb dX10_orders_34 rfl (lv_at hl 0 rfl) ?_
    refine va_get (D := D) (ci := 10) (v := .ref (ad 15)) (C := RX10) (T := TX10) (N := 56) hx hb hts (by decide +kernel) hown hK hP 0 rfl rfl 31 (by decide) (hts (.fieldLink RX10 72 "TurnedFloorsModel" "leftAhead" "[I") (by decide +kernel)) (fun _ h9 => h9) rfl dX10_orders_35 ?_
    refine lv_iload_n hx hb dX10_orders_38 rfl (lv_at hl 1 rfl) ?_
    refine lv_aload_n hx hb dX10_orders_39 rfl (lv_at hl 0 rfl) ?_
    refine va_get (D := D) (ci := 10) (v := .ref (ad 14)) (C := RX10) (T := TX10) (N := 56) hx hb hts (by decide +kernel) hown hK hP 0 rfl rfl 30 (by decide) (hts (.fieldLink RX10 69 "TurnedFloorsModel" "left0" "[I") (by decide +kernel)) (fun _ h9 => h9) rfl dX10_orders_40 ?_
    refine lv_iload_n hx hb dX10_orders_43 rfl (lv_at hl 1 rfl) ?_
    obtain ⟨g7, h⟩ := dG_some h
    refine va_iald hx hb hK hP 14 0 rfl rfl (dg_in g7) dX10_orders_44 ?_
    obtain ⟨v8, ev8, h⟩ := dL_some h
    refine kz_topi v8 ev8 ?_
    obtain ⟨g9, h⟩ := dG_some h
    refine va_iast hx hb hK hP hD hS 15 0 rfl rfl (dg_in g9) dX10_orders_45 (fun H locs hp hd hs => ?_)
    obtain ⟨q10, eq10, h⟩ := dL_some h
    refine kz_re (w2 := w10 ty ad q10) hp hd hs (by rw [← eq10]; exact w10_a15 ty ad q (Int32.toNatClampNeg x1) v8) ?_
    clear hp hd hs hP hD hS
    intro hP hD hS
    refine lv_iinc (v := x1 + 1) (lv' := [(1, .int (x1 + 1)), (0, .ref (ad 0))]) hx hb dX10_orders_46 hl (k := 1) rfl rfl (by decide) rfl (fun ls hl => ?_)
    refine lv_goto (tgt := 27) hx hb dX10_orders_49 (by decide) ?_
    exact hk27 _ _ _ _ _ h hP hD hS (lv_sub hl [1, 0] rfl)
noncomputable def zX10_orders_27  (n : Nat) (q : dS) (x1 : Int32) : Option (Int32 × dS) := dFix (α := dS × Int32) (fun k a => zX10_orders_27b  (fun q x1 => k (q, x1)) a.1 a.2) n (q, x1)
set_option maxHeartbeats 4000000 in
set_option maxRecDepth 100000 in
theorem WX10_orders_27 {p : Program} {l : Launch} {e : Env} {s : State} {m : MethodId} {args : Array Value} {below : List Frame} {meth : Method} {c : Code} {D : va_G} {ty : Nat → ClassId} {eo : Nat → Nat} {A : Nat → Prop} {ad : Nat → Nat} {o1 : Int32} {o2 : dS} (C : dc_C p s m args meth c cX10_orders (some .int) 5 RX10 wsX10_orders D ty eo A)   (n : Nat) (q : dS) (x1 : Int32) (H : Heap) (locs : List Loc) (ls : Array Slot) (h : zX10_orders_27  n q x1 = some (o1, o2)) (hP : va_P D vwCl (w10 ty ad q) H) (hD : va_D A (w10 ty ad q)) (hS : va_S A s.heap H locs) (hl : lv_has ls 5 [(0, .ref (ad 0)), (1, .int x1)]) : W p l e ({ frames := 92, cells := 0, slots := 0, locals := 2331 } : Room) s m args below meth c H locs 0 0 (MQ below (va_Qi (fun (r : Int32) (u : va_W) => o1 = r ∧ w10 ty ad o2 = u) (kz_B D ty A) A) args s 0 0 A) (F0 m 27 ls []) := by
  exact dFix_W (F := fun k (a : dS × Int32) => zX10_orders_27b  (fun q x1 => k (q, x1)) a.1 a.2) (o := (o1, o2)) (P := fun (a : dS × Int32) H locs ls => va_P D vwCl (w10 ty ad a.1) H ∧ va_D A (w10 ty ad a.1) ∧ va_S A s.heap H locs ∧ lv_has ls 5 [(0, .ref (ad 0)), (1, .int a.2)]) (G := fun H locs ls => W p l e ({ frames := 92, cells := 0, slots := 0, locals := 2331 } : Room) s m args below meth c H locs 0 0 (MQ below (va_Qi (fun (r : Int32) (u : va_W) => o1 = r ∧ w10 ty ad o2 = u) (kz_B D ty A) A) args s 0 0 A) (F0 m 27 ls []))
    (fun k hk a H locs ls h hp => WX10_orders_27b C  (fun q x1 H locs ls h h1 h2 h3 h4 => hk (q, x1) H locs ls h ⟨h1, h2, h3, h4⟩) a.1 a.2 H locs ls h hp.1 hp.2.1 hp.2.2.1 hp.2.2.2) n (q, x1) H locs ls h ⟨hP, hD, hS, hl⟩
noncomputable def zX10_orders (q : dS)  : Option (Int32 × dS) := dL (dui q 0 46 (-1)) (fun q1 => dB (zX10_readsAs q1 1) (fun r2 q4 => if r2 = 0 then dB (zX10_refuses q4 (-6)) (fun r8 q10 => some (r8, q10)) else dV (zX10_laysAside q4 1) (fun q7 => zX10_orders_27  dF q7 0)))
set_option maxHeartbeats 4000000 in
set_option maxRecDepth 100000 in
theorem qX10_orders (l : Launch) (D : va_G) (ty : Nat → ClassId) (eo : Nat → Nat) (sz : Nat) (ad : Nat → Nat) (q : dS)  (o1 : Int32) (o2 : dS) (h : zX10_orders q = some (o1, o2)) : Met l yX10_orders wsX10_orders ({ frames := 92, cells := 0, slots := 0, locals := 2331 } : Room) (va_Pc [.ref (ad 0)] (kz_pre D ty eo (w10 ty ad q) sz)) (va_Qi (fun (r : Int32) (u : va_W) => o1 = r ∧ w10 ty ad o2 = u) (kz_B D ty (va_A (w10 ty ad q) sz)) (va_A (w10 ty ad q) sz)) 0 0 (va_A (w10 ty ad q) sz) := by
  refine Met.ofW (cc := cX10_orders) (maxL := 5) (ret := (some .int)) (by decide) rfl ?_
  intro p e s m args below meth c s₁ B hml hv
  obtain ⟨rfl, hsz, hP, hK, hD0, hN, hE⟩ := hv
  have hx := B.exec
  have hb := B.bytes
  have hr := B.returns
  have hts := atoms_spec (ws := wsX10_orders) B.pre
  have hown : s.vm.findClass RX10 = some m.cls := findClass_of_methodNamed B.named
  have hlocks := B.notSynchronized
  subst hsz
  have hD := hD0.self (sz := s.heap.size)
  generalize hAe : va_A (w10 ty ad q) s.heap.size = A at hD hE ⊢
  have hA : ∀ q : Nat, s.heap.size ≤ q → A q := fun q h => by rw [← hAe]; exact Or.inr h
  clear hAe
  have hS : va_S A s.heap s.heap [] := va_S.rf
  have hl := lv_entry ([.ref (ad 0)]) (n := 5) (Nat.le_of_ble_eq_true rfl)
  rw [lg_entry_eq]
  generalize (lg_sl ([.ref (ad 0)]) ++ List.replicate (5 - (lg_sl ([.ref (ad 0)])).length) Slot.unset).toArray = ls at hl ⊢
  have hl : lv_has ls 5 [(0, .ref (ad 0))] := hl
  have C : dc_C p s m _ meth c cX10_orders (some .int) 5 RX10 wsX10_orders D ty eo A := ⟨hx, hb, hr, hts, hown, hlocks, hml, hK, hN, hE, hA⟩
  unfold zX10_orders at h
  refine lv_aload_n hx hb dX10_orders_0 rfl (lv_at hl 0 rfl) ?_
  refine lv_iconst (v := (-1)) hx hb dX10_orders_1 (by decide) ?_
  refine va_put (D := D) (ci := 10) (v := .int (-1)) (ty := .int) (C := RX10) (T := TX10) (N := 56) hx hb hts (by decide +kernel) tyX10 tyX10_ok nmX10 hown hK hP hD hS 0 rfl rfl 46 (by decide) (hts (.fieldLink RX10 110 "TurnedFloorsModel" "stopped0" "I") (by decide +kernel)) (fun _ h9 => h9) rfl (by decide +kernel) rfl rfl (Nat.le_of_ble_eq_true rfl) dX10_orders_2 (fun H locs hp hd hs => ?_)
  obtain ⟨q1, eq1, h⟩ := dL_some h
  refine kz_re (w2 := w10 ty ad q1) hp hd hs (by rw [← eq1]; exact w10_f46 ty ad q (-1)) ?_
  clear hp hd hs hP hD hS
  intro hP hD hS
  refine lv_aload_n hx hb dX10_orders_5 rfl (lv_at hl 0 rfl) ?_
  refine lv_iconst (v := 1) hx hb dX10_orders_6 (by decide) ?_
  obtain ⟨r2, q4, h3, h⟩ := dB_some h
  refine dw_ki (va_runV (As := [.int 1]) (rest := []) ⟨hx, hb, hml, hown, hts⟩ (qX10_readsAs l D ty eo _ ad q1 1 r2 q4 h3) (cwV 1 hts gX10_orders_X10_readsAs rfl rfl rfl (by decide +kernel) ⟨Nat.le_of_ble_eq_true rfl, Nat.le_of_ble_eq_true rfl⟩) (dw_preV (ci := 10) (q0 := 0) hK hN hE hP hD hS hA rfl rfl) rfl rfl hl.1 rfl (lv_room (Nat.le_of_ble_eq_true rfl)) dX10_orders_7 ⟨Nat.le_of_ble_eq_true rfl, Nat.le_of_ble_eq_true rfl⟩) hD hS hA (fun r9 u9 H locs hw hp hd hs => ?_)
  clear hP hD hS
  obtain ⟨rfl, rfl⟩ := hw
  have hP := hp; have hD := hd; have hS := hs; clear hp hd hs
  refine lv_if_ne (tgt := 20) hx hb dX10_orders_10 (by decide) (fun c9 => ?_) (fun c9 => ?_)
  · rw [if_neg c9] at h
    refine lv_aload_n hx hb dX10_orders_20 rfl (lv_at hl 0 rfl) ?_
    refine lv_iconst (v := 1) hx hb dX10_orders_21 (by decide) ?_
    obtain ⟨q7, h6, h⟩ := dV_some h
    refine dw_kv (va_runV (As := [.int 1]) (rest := []) ⟨hx, hb, hml, hown, hts⟩ (qX10_laysAside l D ty eo _ ad q4 1 q7 h6) (cwV 1 hts gX10_orders_X10_laysAside rfl rfl rfl (by decide +kernel) ⟨Nat.le_of_ble_eq_true rfl, Nat.le_of_ble_eq_true rfl⟩) (dw_preV (ci := 10) (q0 := 0) hK hN hE hP hD hS hA rfl rfl) rfl rfl hl.1 rfl (lv_room (Nat.le_of_ble_eq_true rfl)) dX10_orders_22 ⟨Nat.le_of_ble_eq_true rfl, Nat.le_of_ble_eq_true rfl⟩) hD hS hA (fun u9 H locs hw hp hd hs => ?_)
    clear hP hD hS
    obtain rfl := hw
    have hP := hp; have hD := hd; have hS := hs; clear hp hd hs
    refine lv_iconst (v := 0) hx hb dX10_orders_25 (by decide) ?_
    refine lv_istore_n (lv' := [(1, .int 0), (0, .ref (ad 0))]) hx hb dX10_orders_26 rfl hl (by decide) rfl (fun ls hl => ?_)
    exact WX10_orders_27 C  _ _ _ _ _ _ h hP hD hS (lv_sub hl [1, 0] rfl)
  · rw [if_pos c9] at h
    refine lv_aload_n hx hb dX10_orders_13 rfl (lv_at hl 0 rfl) ?_
    refine lv_bipush (v := (-6)) hx hb dX10_orders_14 (by decide) ?_
    obtain ⟨r8, q10, h9, h⟩ := dB_some h
    refine dw_ki (va_runV (As := [.int (-6)]) (rest := []) ⟨hx, hb, hml, hown, hts⟩ (qX10_refuses l D ty eo _ ad q4 (-6) r8 q10 h9) (cwV 1 hts gX10_orders_X10_refuses rfl rfl rfl (by decide +kernel) ⟨Nat.le_of_ble_eq_true rfl, Nat.le_of_ble_eq_true rfl⟩) (dw_preV (ci := 10) (q0 := 0) hK hN hE hP hD hS hA rfl rfl) rfl rfl hl.1 rfl (lv_room (Nat.le_of_ble_eq_true rfl)) dX10_orders_16 ⟨Nat.le_of_ble_eq_true rfl, Nat.le_of_ble_eq_true rfl⟩) hD hS hA (fun r9 u9 H locs hw hp hd hs => ?_)
    clear hP hD hS
    obtain ⟨rfl, rfl⟩ := hw
    have hP := hp; have hD := hd; have hS := hs; clear hp hd hs
    cases h
    exact kz_iret hx hb hr hlocks hP hK hD hS dX10_orders_19 ⟨rfl, rfl⟩

noncomputable def zX10_draws (q : dS) (p1 : Int32) : Option (Int32 × dS) := dL ((1103 * (Int32.toInt64 (q.1 0 55)) : Int64) + 12345 : Int64) (fun v1 => dL (dui q 0 55 (Int64.toInt32 (v1 - v1 / 1000003 * 1000003 : Int64))) (fun q2 => dG (dnz p1) (some ((q2.1 0 55) - (q2.1 0 55) / p1 * p1, q2))))
set_option maxHeartbeats 4000000 in
set_option maxRecDepth 100000 in
theorem qX10_draws (l : Launch) (D : va_G) (ty : Nat → ClassId) (eo : Nat → Nat) (sz : Nat) (ad : Nat → Nat) (q : dS) (p1 : Int32) (o1 : Int32) (o2 : dS) (h : zX10_draws q p1 = some (o1, o2)) : Met l yX10_draws wsX10_draws ({ frames := 0, cells := 0, slots := 0, locals := 0 } : Room) (va_Pc [.ref (ad 0), .int p1] (kz_pre D ty eo (w10 ty ad q) sz)) (va_Qi (fun (r : Int32) (u : va_W) => o1 = r ∧ w10 ty ad o2 = u) (kz_B D ty (va_A (w10 ty ad q) sz)) (va_A (w10 ty ad q) sz)) 0 0 (va_A (w10 ty ad q) sz) := by
  refine Met.ofW (cc := cX10_draws) (maxL := 2) (ret := (some .int)) (by decide) rfl ?_
  intro p e s m args below meth c s₁ B hml hv
  obtain ⟨rfl, hsz, hP, hK, hD0, hN, hE⟩ := hv
  have hx := B.exec
  have hb := B.bytes
  have hr := B.returns
  have hts := atoms_spec (ws := wsX10_draws) B.pre
  have hown : s.vm.findClass RX10 = some m.cls := findClass_of_methodNamed B.named
  have hlocks := B.notSynchronized
  subst hsz
  have hD := hD0.self (sz := s.heap.size)
  generalize hAe : va_A (w10 ty ad q) s.heap.size = A at hD hE ⊢
  have hA : ∀ q : Nat, s.heap.size ≤ q → A q := fun q h => by rw [← hAe]; exact Or.inr h
  clear hAe
  have hS : va_S A s.heap s.heap [] := va_S.rf
  have hl := lv_entry ([.ref (ad 0), .int p1]) (n := 2) (Nat.le_of_ble_eq_true rfl)
  rw [lg_entry_eq]
  generalize (lg_sl ([.ref (ad 0), .int p1]) ++ List.replicate (2 - (lg_sl ([.ref (ad 0), .int p1])).length) Slot.unset).toArray = ls at hl ⊢
  have hl : lv_has ls 2 [(0, .ref (ad 0)), (1, .int p1)] := hl
  have C : dc_C p s m _ meth c cX10_draws (some .int) 2 RX10 wsX10_draws D ty eo A := ⟨hx, hb, hr, hts, hown, hlocks, hml, hK, hN, hE, hA⟩
  unfold zX10_draws at h
  refine lv_aload_n hx hb dX10_draws_0 rfl (lv_at hl 0 rfl) ?_
  refine lv_ldc2 (v := 1103) hx hb hown (hts (.constantLong RX10 513 1103) (by decide +kernel)) dX10_draws_1 ?_
  refine lv_aload_n hx hb dX10_draws_4 rfl (lv_at hl 0 rfl) ?_
  refine va_get (D := D) (ci := 10) (v := .int (q.1 0 55)) (C := RX10) (T := TX10) (N := 56) hx hb hts (by decide +kernel) hown hK hP 0 rfl rfl 55 (by decide) (hts (.fieldLink RX10 515 "TurnedFloorsModel" "latest" "I") (by decide +kernel)) (fun _ h9 => h9) rfl dX10_draws_5 ?_
  refine lv_i2l (v := Int32.toInt64 (q.1 0 55)) hx hb dX10_draws_8 rfl ?_
  refine lv_lmul hx hb dX10_draws_9 ?_
  refine lv_ldc2 (v := 12345) hx hb hown (hts (.constantLong RX10 518 12345) (by decide +kernel)) dX10_draws_10 ?_
  refine lv_ladd hx hb dX10_draws_13 ?_
  obtain ⟨v1, ev1, h⟩ := dL_some h
  refine kz_topl v1 ev1 ?_
  refine lv_ldc2 (v := 1000003) hx hb hown (hts (.constantLong RX10 520 1000003) (by decide +kernel)) dX10_draws_14 ?_
  refine lv_lrem hx hb dX10_draws_17 (by decide) ?_
  refine lv_l2i (v := Int64.toInt32 (v1 - v1 / 1000003 * 1000003 : Int64)) hx hb dX10_draws_18 rfl ?_
  refine va_put (D := D) (ci := 10) (v := .int (Int64.toInt32 (v1 - v1 / 1000003 * 1000003 : Int64))) (ty := .int) (C := RX10) (T := TX10) (N := 56) hx hb hts (by decide +kernel) tyX10 tyX10_ok nmX10 hown hK hP hD hS 0 rfl rfl 55 (by decide) (hts (.fieldLink RX10 515 "TurnedFloorsModel" "latest" "I") (by decide +kernel)) (fun _ h9 => h9) rfl (by decide +kernel) rfl rfl (Nat.le_of_ble_eq_true rfl) dX10_draws_19 (fun H locs hp hd hs => ?_)
  obtain ⟨q2, eq2, h⟩ := dL_some h
  refine kz_re (w2 := w10 ty ad q2) hp hd hs (by rw [← eq2]; exact w10_f55 ty ad q (Int64.toInt32 (v1 - v1 / 1000003 * 1000003 : Int64))) ?_
  clear hp hd hs hP hD hS
  intro hP hD hS
  refine lv_aload_n hx hb dX10_draws_22 rfl (lv_at hl 0 rfl) ?_
  refine va_get (D := D) (ci := 10) (v := .int (q2.1 0 55)) (C := RX10) (T := TX10) (N := 56) hx hb hts (by decide +kernel) hown hK hP 0 rfl rfl 55 (by decide) (hts (.fieldLink RX10 515 "TurnedFloorsModel" "latest" "I") (by decide +kernel)) (fun _ h9 => h9) rfl dX10_draws_23 ?_
  refine lv_iload_n hx hb dX10_draws_26 rfl (lv_at hl 1 rfl) ?_
  obtain ⟨g3, h⟩ := dG_some h
  refine lv_irem hx hb dX10_draws_27 (dnz_ne g3) ?_
  cases h
  exact kz_iret hx hb hr hlocks hP hK hD hS dX10_draws_28 ⟨rfl, rfl⟩
