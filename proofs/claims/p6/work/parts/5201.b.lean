theorem u9_wsX2_join_X2 : ∀ w ∈ u_ws RX2 TX2 2, w ∈ wsX2_join := by
  first | exact fun w h => List.mem_cons_of_mem _ (List.mem_append_right _ h) | decide +kernel
theorem f9_wsX2_join_382 : (Cond.fieldLink RX2 13 "TurnedFloors$Machine" "broken" "Z") ∈ wsX2_join := by decide +kernel
theorem f9_wsX2_join_383 : (Cond.constantLong RX2 32 1000000000) ∈ wsX2_join := by decide +kernel
theorem f9_wsX2_join_384 : (Cond.constantLong RX2 34 (-1000000000)) ∈ wsX2_join := by decide +kernel
theorem u9_wsX2_valueOf_X2 : ∀ w ∈ u_ws RX2 TX2 2, w ∈ wsX2_valueOf := by
  first | exact fun w h => List.mem_cons_of_mem _ (List.mem_append_right _ h) | decide +kernel
theorem f9_wsX2_valueOf_386 : (Cond.fieldLink RX2 13 "TurnedFloors$Machine" "broken" "Z") ∈ wsX2_valueOf := by decide +kernel
theorem f9_wsX2_valueOf_387 : (Cond.fieldLink RX2 9 "TurnedFloors$Machine" "stack" "[I") ∈ wsX2_valueOf := by decide +kernel
theorem u9_wsX2_valueOf_X7 : ∀ w ∈ u_ws RX7 TX7 8, w ∈ wsX2_valueOf := by
  first | exact fun w h => List.mem_cons_of_mem _ (List.mem_append_right _ h) | decide +kernel
theorem f9_wsX2_valueOf_389 : (Cond.methodLink RX2 22 Lib.Math.min.name) ∈ wsX2_valueOf := by decide +kernel
theorem f9_wsX2_valueOf_390 : (Cond.static Lib.Math.min.name) ∈ wsX2_valueOf := by decide +kernel
theorem f9_wsX2_valueOf_391 : (Cond.initialized "java/lang/Math") ∈ wsX2_valueOf := by decide +kernel
theorem f9_wsX2_valueOf_392 : (Cond.code Lib.Math.min.name Lib.Math.min.code 2 (some .int)) ∈ wsX2_valueOf := by decide +kernel
set_option maxHeartbeats 4000000 in
set_option maxRecDepth 100000 in
theorem WX2_join_s18_181 {p : Program} {l : Launch} {e : Env} {s : State} {m : MethodId} {args : Array Value} {below : List Frame} {meth : Method} {c : Code} {D : va_G} {ty : Nat → ClassId} {eo : Nat → Nat} {A : Nat → Prop} {ad : Nat → Nat} {o1 : Int32} {o2 : dK} (C : dc_C p s m args meth c cX2_join (some .int) 8 RX2 wsX2_join D ty eo A)   (q : dK)  (H : Heap) (locs : List Loc) (ls : Array Slot) (h : zX2_join_s18_181  q = some (o1, o2)) (hP : va_P D vwCl (wF ty ad q) H) (hD : va_D A (wF ty ad q)) (hS : va_S A s.heap H locs) (hl : lv_has ls 8 [(0, .ref (ad 18))]) : W p l e ({ frames := 0, cells := 0, slots := 0, locals := 0 } : Room) s m args below meth c H locs 0 0 (MQ below (va_Qi (fun (r : Int32) (u : va_W) => o1 = r ∧ wF ty ad o2 = u) (kz_B D ty A) A) args s 0 0 A) (F0 m 181 ls []) := by
  have C0 := C
  obtain ⟨hx, hb, hr, hts, hown, hlocks, hml, hK, hN, hE, hA⟩ := C
  unfold zX2_join_s18_181 at h
  refine lv_aload_n hx hb dX2_join_181 rfl (lv_at hl 0 rfl) ?_
  refine lv_iconst (v := 1) hx hb dX2_join_182 (by decide) ?_
  refine va_put (D := D) (ci := 2) (v := .int 1) (ty := .boolean) (C := RX2) (T := TX2) (N := 2) hx hb hts u9_wsX2_join_X2 tyX2 tyX2_ok nmX2 hown hK hP hD hS 18 rfl rfl 1 (by decide) (hts (.fieldLink RX2 13 "TurnedFloors$Machine" "broken" "Z") f9_wsX2_join_382) (fun _ h9 => h9) rfl (by decide +kernel) rfl rfl (Nat.le_of_ble_eq_true rfl) dX2_join_183 (fun H locs hp hd hs => ?_)
  obtain ⟨q1, eq1, h⟩ := dL_some h
  refine kz_re (w2 := wF ty ad q1) hp hd hs (by rw [← eq1]; exact wF_f18_1 ty ad q 1) ?_
  clear hp hd hs hP hD hS
  intro hP hD hS
  refine lv_iconst (v := 0) hx hb dX2_join_186 (by decide) ?_
  cases h
  exact kz_iret hx hb hr hlocks hP hK hD hS dX2_join_187 ⟨rfl, rfl⟩
set_option maxHeartbeats 4000000 in
set_option maxRecDepth 100000 in
theorem WX2_join_s18_163 {p : Program} {l : Launch} {e : Env} {s : State} {m : MethodId} {args : Array Value} {below : List Frame} {meth : Method} {c : Code} {D : va_G} {ty : Nat → ClassId} {eo : Nat → Nat} {A : Nat → Prop} {ad : Nat → Nat} {o1 : Int32} {o2 : dK} (C : dc_C p s m args meth c cX2_join (some .int) 8 RX2 wsX2_join D ty eo A)   (q : dK) (x6 : Int64) (H : Heap) (locs : List Loc) (ls : Array Slot) (h : zX2_join_s18_163  q x6 = some (o1, o2)) (hP : va_P D vwCl (wF ty ad q) H) (hD : va_D A (wF ty ad q)) (hS : va_S A s.heap H locs) (hl : lv_has ls 8 [(0, .ref (ad 18)), (6, .long x6)]) : W p l e ({ frames := 0, cells := 0, slots := 0, locals := 0 } : Room) s m args below meth c H locs 0 0 (MQ below (va_Qi (fun (r : Int32) (u : va_W) => o1 = r ∧ wF ty ad o2 = u) (kz_B D ty A) A) args s 0 0 A) (F0 m 163 ls []) := by
  have C0 := C
  obtain ⟨hx, hb, hr, hts, hown, hlocks, hml, hK, hN, hE, hA⟩ := C
  unfold zX2_join_s18_163 at h
  refine lv_lload hx hb dX2_join_163 (lv_at hl 1 rfl) ?_
  refine lv_ldc2 (v := 1000000000) hx hb hown (hts (.constantLong RX2 32 1000000000) f9_wsX2_join_383) dX2_join_165 ?_
  refine W.lcmp hx hb dX2_join_168 ?_
  refine lv_if_gt (tgt := 181) hx hb dX2_join_169 (by decide) (fun c9 => ?_) (fun c9 => ?_)
  · rw [if_pos c9] at h
    exact WX2_join_s18_181 C0  _ _ _ _ h hP hD hS (lv_sub hl [0] rfl)
  · rw [if_neg c9] at h
    refine lv_lload hx hb dX2_join_172 (lv_at hl 1 rfl) ?_
    refine lv_ldc2 (v := (-1000000000)) hx hb hown (hts (.constantLong RX2 34 (-1000000000)) f9_wsX2_join_384) dX2_join_174 ?_
    refine W.lcmp hx hb dX2_join_177 ?_
    refine lv_if_ge (tgt := 188) hx hb dX2_join_178 (by decide) (fun c9 => ?_) (fun c9 => ?_)
    · rw [if_pos c9] at h
      refine lv_lload hx hb dX2_join_188 (lv_at hl 1 rfl) ?_
      refine lv_l2i (v := Int64.toInt32 x6) hx hb dX2_join_190 rfl ?_
      cases h
      exact kz_iret hx hb hr hlocks hP hK hD hS dX2_join_191 ⟨rfl, rfl⟩
    · rw [if_neg c9] at h
      exact WX2_join_s18_181 C0  _ _ _ _ h hP hD hS (lv_sub hl [0] rfl)
set_option maxHeartbeats 4000000 in
set_option maxRecDepth 100000 in
theorem WX2_join_s18_161 {p : Program} {l : Launch} {e : Env} {s : State} {m : MethodId} {args : Array Value} {below : List Frame} {meth : Method} {c : Code} {D : va_G} {ty : Nat → ClassId} {eo : Nat → Nat} {A : Nat → Prop} {ad : Nat → Nat} {o1 : Int32} {o2 : dK} (C : dc_C p s m args meth c cX2_join (some .int) 8 RX2 wsX2_join D ty eo A)   (q : dK) (y0 : Int64) (H : Heap) (locs : List Loc) (ls : Array Slot) (h : zX2_join_s18_161  q y0 = some (o1, o2)) (hP : va_P D vwCl (wF ty ad q) H) (hD : va_D A (wF ty ad q)) (hS : va_S A s.heap H locs) (hl : lv_has ls 8 [(0, .ref (ad 18))]) : W p l e ({ frames := 0, cells := 0, slots := 0, locals := 0 } : Room) s m args below meth c H locs 0 0 (MQ below (va_Qi (fun (r : Int32) (u : va_W) => o1 = r ∧ wF ty ad o2 = u) (kz_B D ty A) A) args s 0 0 A) (F0 m 161 ls [.long y0]) := by
  have C0 := C
  obtain ⟨hx, hb, hr, hts, hown, hlocks, hml, hK, hN, hE, hA⟩ := C
  unfold zX2_join_s18_161 at h
  refine lv_lstore (lv' := [(6, .long y0), (0, .ref (ad 18))]) hx hb dX2_join_161 hl (by decide) rfl (fun ls hl => ?_)
  exact WX2_join_s18_163 C0  _ _ _ _ _ h hP hD hS (lv_sub hl [1, 0] rfl)
set_option maxHeartbeats 4000000 in
set_option maxRecDepth 100000 in
theorem WX2_join_s18_125 {p : Program} {l : Launch} {e : Env} {s : State} {m : MethodId} {args : Array Value} {below : List Frame} {meth : Method} {c : Code} {D : va_G} {ty : Nat → ClassId} {eo : Nat → Nat} {A : Nat → Prop} {ad : Nat → Nat} {o1 : Int32} {o2 : dK} (C : dc_C p s m args meth c cX2_join (some .int) 8 RX2 wsX2_join D ty eo A)   (q : dK) (y0 : Int64) (H : Heap) (locs : List Loc) (ls : Array Slot) (h : zX2_join_s18_125  q y0 = some (o1, o2)) (hP : va_P D vwCl (wF ty ad q) H) (hD : va_D A (wF ty ad q)) (hS : va_S A s.heap H locs) (hl : lv_has ls 8 [(0, .ref (ad 18))]) : W p l e ({ frames := 0, cells := 0, slots := 0, locals := 0 } : Room) s m args below meth c H locs 0 0 (MQ below (va_Qi (fun (r : Int32) (u : va_W) => o1 = r ∧ wF ty ad o2 = u) (kz_B D ty A) A) args s 0 0 A) (F0 m 125 ls [.long y0]) := by
  have C0 := C
  obtain ⟨hx, hb, hr, hts, hown, hlocks, hml, hK, hN, hE, hA⟩ := C
  unfold zX2_join_s18_125 at h
  refine lv_lstore (lv' := [(6, .long y0), (0, .ref (ad 18))]) hx hb dX2_join_125 hl (by decide) rfl (fun ls hl => ?_)
  refine lv_goto (tgt := 163) hx hb dX2_join_127 (by decide) ?_
  exact WX2_join_s18_163 C0  _ _ _ _ _ h hP hD hS (lv_sub hl [1, 0] rfl)
set_option maxHeartbeats 4000000 in
set_option maxRecDepth 100000 in
theorem WX2_join_s18_108 {p : Program} {l : Launch} {e : Env} {s : State} {m : MethodId} {args : Array Value} {below : List Frame} {meth : Method} {c : Code} {D : va_G} {ty : Nat → ClassId} {eo : Nat → Nat} {A : Nat → Prop} {ad : Nat → Nat} {o1 : Int32} {o2 : dK} (C : dc_C p s m args meth c cX2_join (some .int) 8 RX2 wsX2_join D ty eo A)   (q : dK) (y0 : Int64) (H : Heap) (locs : List Loc) (ls : Array Slot) (h : zX2_join_s18_108  q y0 = some (o1, o2)) (hP : va_P D vwCl (wF ty ad q) H) (hD : va_D A (wF ty ad q)) (hS : va_S A s.heap H locs) (hl : lv_has ls 8 [(0, .ref (ad 18))]) : W p l e ({ frames := 0, cells := 0, slots := 0, locals := 0 } : Room) s m args below meth c H locs 0 0 (MQ below (va_Qi (fun (r : Int32) (u : va_W) => o1 = r ∧ wF ty ad o2 = u) (kz_B D ty A) A) args s 0 0 A) (F0 m 108 ls [.long y0]) := by
  have C0 := C
  obtain ⟨hx, hb, hr, hts, hown, hlocks, hml, hK, hN, hE, hA⟩ := C
  unfold zX2_join_s18_108 at h
  refine lv_lstore (lv' := [(6, .long y0), (0, .ref (ad 18))]) hx hb dX2_join_108 hl (by decide) rfl (fun ls hl => ?_)
  refine lv_goto (tgt := 163) hx hb dX2_join_110 (by decide) ?_
  exact WX2_join_s18_163 C0  _ _ _ _ _ h hP hD hS (lv_sub hl [1, 0] rfl)
set_option maxHeartbeats 4000000 in
set_option maxRecDepth 100000 in
theorem WX2_join_s18_91 {p : Program} {l : Launch} {e : Env} {s : State} {m : MethodId} {args : Array Value} {below : List Frame} {meth : Method} {c : Code} {D : va_G} {ty : Nat → ClassId} {eo : Nat → Nat} {A : Nat → Prop} {ad : Nat → Nat} {o1 : Int32} {o2 : dK} (C : dc_C p s m args meth c cX2_join (some .int) 8 RX2 wsX2_join D ty eo A)   (q : dK) (y0 : Int64) (H : Heap) (locs : List Loc) (ls : Array Slot) (h : zX2_join_s18_91  q y0 = some (o1, o2)) (hP : va_P D vwCl (wF ty ad q) H) (hD : va_D A (wF ty ad q)) (hS : va_S A s.heap H locs) (hl : lv_has ls 8 [(0, .ref (ad 18))]) : W p l e ({ frames := 0, cells := 0, slots := 0, locals := 0 } : Room) s m args below meth c H locs 0 0 (MQ below (va_Qi (fun (r : Int32) (u : va_W) => o1 = r ∧ wF ty ad o2 = u) (kz_B D ty A) A) args s 0 0 A) (F0 m 91 ls [.long y0]) := by
  have C0 := C
  obtain ⟨hx, hb, hr, hts, hown, hlocks, hml, hK, hN, hE, hA⟩ := C
  unfold zX2_join_s18_91 at h
  refine lv_lstore (lv' := [(6, .long y0), (0, .ref (ad 18))]) hx hb dX2_join_91 hl (by decide) rfl (fun ls hl => ?_)
  refine lv_goto (tgt := 163) hx hb dX2_join_93 (by decide) ?_
  exact WX2_join_s18_163 C0  _ _ _ _ _ h hP hD hS (lv_sub hl [1, 0] rfl)
set_option maxHeartbeats 4000000 in
set_option maxRecDepth 100000 in
theorem qX2_join_s18 (l : Launch) (D : va_G) (ty : Nat → ClassId) (eo : Nat → Nat) (sz : Nat) (ad : Nat → Nat) (q : dK) (p1 : Int32) (p2 : Int64) (p3 : Int64) (o1 : Int32) (o2 : dK) (h : zX2_join_s18 q p1 p2 p3 = some (o1, o2)) : Met l yX2_join wsX2_join ({ frames := 0, cells := 0, slots := 0, locals := 0 } : Room) (va_Pc [.ref (ad 18), .int p1, .long p2, .long p3] (kz_pre D ty eo (wF ty ad q) sz)) (va_Qi (fun (r : Int32) (u : va_W) => o1 = r ∧ wF ty ad o2 = u) (kz_B D ty (va_A (wF ty ad q) sz)) (va_A (wF ty ad q) sz)) 0 0 (va_A (wF ty ad q) sz) := by
  refine Met.ofW (cc := cX2_join) (maxL := 8) (ret := (some .int)) (by decide) rfl ?_
  intro p e s m args below meth c s₁ B hml hv
  obtain ⟨rfl, hsz, hP, hK, hD0, hN, hE⟩ := hv
  have hx := B.exec
  have hb := B.bytes
  have hr := B.returns
  have hts := atoms_spec (ws := wsX2_join) B.pre
  have hown : s.vm.findClass RX2 = some m.cls := findClass_of_methodNamed B.named
  have hlocks := B.notSynchronized
  subst hsz
  have hD := hD0.self (sz := s.heap.size)
  generalize hAe : va_A (wF ty ad q) s.heap.size = A at hD hE ⊢
  have hA : ∀ q : Nat, s.heap.size ≤ q → A q := fun q h => by rw [← hAe]; exact Or.inr h
  clear hAe
  have hS : va_S A s.heap s.heap [] := va_S.rf
  have hl := lv_entry ([.ref (ad 18), .int p1, .long p2, .long p3]) (n := 8) (Nat.le_of_ble_eq_true rfl)
  rw [lg_entry_eq]
  generalize (lg_sl ([.ref (ad 18), .int p1, .long p2, .long p3]) ++ List.replicate (8 - (lg_sl ([.ref (ad 18), .int p1, .long p2, .long p3])).length) Slot.unset).toArray = ls at hl ⊢
  have hl : lv_has ls 8 [(0, .ref (ad 18)), (1, .int p1), (2, .long p2), (4, .long p3)] := hl
  have C : dc_C p s m _ meth c cX2_join (some .int) 8 RX2 wsX2_join D ty eo A := ⟨hx, hb, hr, hts, hown, hlocks, hml, hK, hN, hE, hA⟩
  unfold zX2_join_s18 at h
  refine lv_lconst (v := 0) hx hb dX2_join_0 (by decide) ?_
  refine lv_lstore (lv' := [(6, .long 0), (0, .ref (ad 18)), (1, .int p1), (2, .long p2), (4, .long p3)]) hx hb dX2_join_1 hl (by decide) rfl (fun ls hl => ?_)
  refine lv_iload_n hx hb dX2_join_3 rfl (lv_at hl 2 rfl) ?_
  by_cases c1 : p1 = 2
  · rw [if_pos c1] at h
    refine lv_tableIn (off := 48) (tgt := 52) hx hb dX2_join_4 (by rw [c1]; decide) (by rw [c1]; decide) (by rw [c1]; decide) (by decide) ?_
    refine lv_lload_n hx hb dX2_join_52 rfl (lv_at hl 3 rfl) ?_
    refine lv_lload hx hb dX2_join_53 (lv_at hl 4 rfl) ?_
    refine lv_ladd hx hb dX2_join_55 ?_
    refine lv_lstore (lv' := [(6, .long (p2 + p3 : Int64)), (0, .ref (ad 18)), (1, .int p1), (2, .long p2), (4, .long p3)]) hx hb dX2_join_56 hl (by decide) rfl (fun ls hl => ?_)
    refine lv_goto (tgt := 163) hx hb dX2_join_58 (by decide) ?_
    exact WX2_join_s18_163 C  _ _ _ _ _ h hP hD hS (lv_sub hl [1, 0] rfl)
  rw [if_neg c1] at h
  by_cases c2 : p1 = 3
  · rw [if_pos c2] at h
    refine lv_tableIn (off := 57) (tgt := 61) hx hb dX2_join_4 (by rw [c2]; decide) (by rw [c2]; decide) (by rw [c2]; decide) (by decide) ?_
    refine lv_lload_n hx hb dX2_join_61 rfl (lv_at hl 3 rfl) ?_
    refine lv_lload hx hb dX2_join_62 (lv_at hl 4 rfl) ?_
    refine lv_lsub hx hb dX2_join_64 ?_
    refine lv_lstore (lv' := [(6, .long (p2 - p3 : Int64)), (0, .ref (ad 18)), (1, .int p1), (2, .long p2), (4, .long p3)]) hx hb dX2_join_65 hl (by decide) rfl (fun ls hl => ?_)
    refine lv_goto (tgt := 163) hx hb dX2_join_67 (by decide) ?_
    exact WX2_join_s18_163 C  _ _ _ _ _ h hP hD hS (lv_sub hl [1, 0] rfl)
  rw [if_neg c2] at h
  by_cases c3 : p1 = 4
  · rw [if_pos c3] at h
    refine lv_tableIn (off := 66) (tgt := 70) hx hb dX2_join_4 (by rw [c3]; decide) (by rw [c3]; decide) (by rw [c3]; decide) (by decide) ?_
    refine lv_lload_n hx hb dX2_join_70 rfl (lv_at hl 3 rfl) ?_
    refine lv_lload hx hb dX2_join_71 (lv_at hl 4 rfl) ?_
    refine lv_lmul hx hb dX2_join_73 ?_
    refine lv_lstore (lv' := [(6, .long (p2 * p3 : Int64)), (0, .ref (ad 18)), (1, .int p1), (2, .long p2), (4, .long p3)]) hx hb dX2_join_74 hl (by decide) rfl (fun ls hl => ?_)
    refine lv_goto (tgt := 163) hx hb dX2_join_76 (by decide) ?_
    exact WX2_join_s18_163 C  _ _ _ _ _ h hP hD hS (lv_sub hl [1, 0] rfl)
  rw [if_neg c3] at h
  by_cases c4 : p1 = 5
  · rw [if_pos c4] at h
    refine lv_tableIn (off := 126) (tgt := 130) hx hb dX2_join_4 (by rw [c4]; decide) (by rw [c4]; decide) (by rw [c4]; decide) (by decide) ?_
    refine lv_lload hx hb dX2_join_130 (lv_at hl 4 rfl) ?_
    refine lv_lconst (v := 0) hx hb dX2_join_132 (by decide) ?_
    refine W.lcmp hx hb dX2_join_133 ?_
    refine lv_if_ne (tgt := 145) hx hb dX2_join_134 (by decide) (fun c9 => ?_) (fun c9 => ?_)
    · rw [if_neg c9] at h
      refine lv_iload_n hx hb dX2_join_145 rfl (lv_at hl 2 rfl) ?_
      refine lv_iconst (v := 5) hx hb dX2_join_146 (by decide) ?_
      refine lv_icmp_ne (tgt := 157) hx hb dX2_join_147 (by decide) (fun c9 => ?_) (fun c9 => ?_)
      · rw [if_neg c9] at h
        refine lv_lload_n hx hb dX2_join_157 rfl (lv_at hl 3 rfl) ?_
        refine lv_lload hx hb dX2_join_158 (lv_at hl 4 rfl) ?_
        obtain ⟨g5, h⟩ := dG_some h
        refine lv_lrem hx hb dX2_join_160 (dnl_ne g5) ?_
        exact WX2_join_s18_161 C  _ _ _ _ _ h hP hD hS (lv_sub hl [1] rfl)
      · rw [if_pos c9] at h
        refine lv_lload_n hx hb dX2_join_150 rfl (lv_at hl 3 rfl) ?_
        refine lv_lload hx hb dX2_join_151 (lv_at hl 4 rfl) ?_
        obtain ⟨g6, h⟩ := dG_some h
        refine lv_ldiv hx hb dX2_join_153 (dnl_ne g6) ?_
        refine lv_goto (tgt := 161) hx hb dX2_join_154 (by decide) ?_
        exact WX2_join_s18_161 C  _ _ _ _ _ h hP hD hS (lv_sub hl [1] rfl)
    · rw [if_pos c9] at h
      refine lv_aload_n hx hb dX2_join_137 rfl (lv_at hl 1 rfl) ?_
      refine lv_iconst (v := 1) hx hb dX2_join_138 (by decide) ?_
      refine va_put (D := D) (ci := 2) (v := .int 1) (ty := .boolean) (C := RX2) (T := TX2) (N := 2) hx hb hts u9_wsX2_join_X2 tyX2 tyX2_ok nmX2 hown hK hP hD hS 18 rfl rfl 1 (by decide) (hts (.fieldLink RX2 13 "TurnedFloors$Machine" "broken" "Z") f9_wsX2_join_382) (fun _ h9 => h9) rfl (by decide +kernel) rfl rfl (Nat.le_of_ble_eq_true rfl) dX2_join_139 (fun H locs hp hd hs => ?_)
      obtain ⟨q7, eq7, h⟩ := dL_some h
      refine kz_re (w2 := wF ty ad q7) hp hd hs (by rw [← eq7]; exact wF_f18_1 ty ad q 1) ?_
      clear hp hd hs hP hD hS
      intro hP hD hS
      refine lv_goto (tgt := 163) hx hb dX2_join_142 (by decide) ?_
      exact WX2_join_s18_163 C  _ _ _ _ _ h hP hD hS (lv_sub hl [1, 0] rfl)
  rw [if_neg c4] at h
  by_cases c8 : p1 = 6
  · rw [if_pos c8] at h
    refine lv_tableIn (off := 126) (tgt := 130) hx hb dX2_join_4 (by rw [c8]; decide) (by rw [c8]; decide) (by rw [c8]; decide) (by decide) ?_
    refine lv_lload hx hb dX2_join_130 (lv_at hl 4 rfl) ?_
    refine lv_lconst (v := 0) hx hb dX2_join_132 (by decide) ?_
    refine W.lcmp hx hb dX2_join_133 ?_
    refine lv_if_ne (tgt := 145) hx hb dX2_join_134 (by decide) (fun c9 => ?_) (fun c9 => ?_)
    · rw [if_neg c9] at h
      refine lv_iload_n hx hb dX2_join_145 rfl (lv_at hl 2 rfl) ?_
      refine lv_iconst (v := 5) hx hb dX2_join_146 (by decide) ?_
      refine lv_icmp_ne (tgt := 157) hx hb dX2_join_147 (by decide) (fun c9 => ?_) (fun c9 => ?_)
      · rw [if_neg c9] at h
        refine lv_lload_n hx hb dX2_join_157 rfl (lv_at hl 3 rfl) ?_
        refine lv_lload hx hb dX2_join_158 (lv_at hl 4 rfl) ?_
        obtain ⟨g9, h⟩ := dG_some h
        refine lv_lrem hx hb dX2_join_160 (dnl_ne g9) ?_
        exact WX2_join_s18_161 C  _ _ _ _ _ h hP hD hS (lv_sub hl [1] rfl)
      · rw [if_pos c9] at h
        refine lv_lload_n hx hb dX2_join_150 rfl (lv_at hl 3 rfl) ?_
        refine lv_lload hx hb dX2_join_151 (lv_at hl 4 rfl) ?_
        obtain ⟨g10, h⟩ := dG_some h
        refine lv_ldiv hx hb dX2_join_153 (dnl_ne g10) ?_
        refine lv_goto (tgt := 161) hx hb dX2_join_154 (by decide) ?_
        exact WX2_join_s18_161 C  _ _ _ _ _ h hP hD hS (lv_sub hl [1] rfl)
    · rw [if_pos c9] at h
      refine lv_aload_n hx hb dX2_join_137 rfl (lv_at hl 1 rfl) ?_
      refine lv_iconst (v := 1) hx hb dX2_join_138 (by decide) ?_
      refine va_put (D := D) (ci := 2) (v := .int 1) (ty := .boolean) (C := RX2) (T := TX2) (N := 2) hx hb hts u9_wsX2_join_X2 tyX2 tyX2_ok nmX2 hown hK hP hD hS 18 rfl rfl 1 (by decide) (hts (.fieldLink RX2 13 "TurnedFloors$Machine" "broken" "Z") f9_wsX2_join_382) (fun _ h9 => h9) rfl (by decide +kernel) rfl rfl (Nat.le_of_ble_eq_true rfl) dX2_join_139 (fun H locs hp hd hs => ?_)
      obtain ⟨q11, eq11, h⟩ := dL_some h
      refine kz_re (w2 := wF ty ad q11) hp hd hs (by rw [← eq11]; exact wF_f18_1 ty ad q 1) ?_
      clear hp hd hs hP hD hS
      intro hP hD hS
      refine lv_goto (tgt := 163) hx hb dX2_join_142 (by decide) ?_
      exact WX2_join_s18_163 C  _ _ _ _ _ h hP hD hS (lv_sub hl [1, 0] rfl)
  rw [if_neg c8] at h
  by_cases c12 : p1 = 7
  · rw [if_pos c12] at h
    refine lv_tableIn (off := 75) (tgt := 79) hx hb dX2_join_4 (by rw [c12]; decide) (by rw [c12]; decide) (by rw [c12]; decide) (by decide) ?_
    refine lv_lload_n hx hb dX2_join_79 rfl (lv_at hl 3 rfl) ?_
    refine lv_lload hx hb dX2_join_80 (lv_at hl 4 rfl) ?_
    refine W.lcmp hx hb dX2_join_82 ?_
    refine lv_if_ge (tgt := 90) hx hb dX2_join_83 (by decide) (fun c9 => ?_) (fun c9 => ?_)
    · rw [if_pos c9] at h
      refine lv_lconst (v := 0) hx hb dX2_join_90 (by decide) ?_
      exact WX2_join_s18_91 C  _ _ _ _ _ h hP hD hS (lv_sub hl [1] rfl)
    · rw [if_neg c9] at h
      refine lv_lconst (v := 1) hx hb dX2_join_86 (by decide) ?_
      refine lv_goto (tgt := 91) hx hb dX2_join_87 (by decide) ?_
      exact WX2_join_s18_91 C  _ _ _ _ _ h hP hD hS (lv_sub hl [1] rfl)
  rw [if_neg c12] at h
  by_cases c13 : p1 = 8
  · rw [if_pos c13] at h
    refine lv_tableIn (off := 92) (tgt := 96) hx hb dX2_join_4 (by rw [c13]; decide) (by rw [c13]; decide) (by rw [c13]; decide) (by decide) ?_
    refine lv_lload_n hx hb dX2_join_96 rfl (lv_at hl 3 rfl) ?_
    refine lv_lload hx hb dX2_join_97 (lv_at hl 4 rfl) ?_
    refine W.lcmp hx hb dX2_join_99 ?_
    refine lv_if_le (tgt := 107) hx hb dX2_join_100 (by decide) (fun c9 => ?_) (fun c9 => ?_)
    · rw [if_pos c9] at h
      refine lv_lconst (v := 0) hx hb dX2_join_107 (by decide) ?_
      exact WX2_join_s18_108 C  _ _ _ _ _ h hP hD hS (lv_sub hl [1] rfl)
    · rw [if_neg c9] at h
      refine lv_lconst (v := 1) hx hb dX2_join_103 (by decide) ?_
      refine lv_goto (tgt := 108) hx hb dX2_join_104 (by decide) ?_
      exact WX2_join_s18_108 C  _ _ _ _ _ h hP hD hS (lv_sub hl [1] rfl)
  rw [if_neg c13] at h
  by_cases c14 : p1 = 9
  · rw [if_pos c14] at h
    refine lv_tableIn (off := 109) (tgt := 113) hx hb dX2_join_4 (by rw [c14]; decide) (by rw [c14]; decide) (by rw [c14]; decide) (by decide) ?_
    refine lv_lload_n hx hb dX2_join_113 rfl (lv_at hl 3 rfl) ?_
    refine lv_lload hx hb dX2_join_114 (lv_at hl 4 rfl) ?_
    refine W.lcmp hx hb dX2_join_116 ?_
    refine lv_if_ne (tgt := 124) hx hb dX2_join_117 (by decide) (fun c9 => ?_) (fun c9 => ?_)
    · rw [if_neg c9] at h
      refine lv_lconst (v := 0) hx hb dX2_join_124 (by decide) ?_
      exact WX2_join_s18_125 C  _ _ _ _ _ h hP hD hS (lv_sub hl [1] rfl)
    · rw [if_pos c9] at h
      refine lv_lconst (v := 1) hx hb dX2_join_120 (by decide) ?_
      refine lv_goto (tgt := 125) hx hb dX2_join_121 (by decide) ?_
      exact WX2_join_s18_125 C  _ _ _ _ _ h hP hD hS (lv_sub hl [1] rfl)
  rw [if_neg c14] at h
  refine lv_tableOut (tgt := 130) hx hb dX2_join_4 (by simp only [← Int32.toInt_inj, Int32.reduceToInt] at c1 c2 c3 c4 c8 c12 c13 c14; omega) (by decide) ?_
  refine lv_lload hx hb dX2_join_130 (lv_at hl 4 rfl) ?_
  refine lv_lconst (v := 0) hx hb dX2_join_132 (by decide) ?_
  refine W.lcmp hx hb dX2_join_133 ?_
  refine lv_if_ne (tgt := 145) hx hb dX2_join_134 (by decide) (fun c9 => ?_) (fun c9 => ?_)
  · rw [if_neg c9] at h
    refine lv_iload_n hx hb dX2_join_145 rfl (lv_at hl 2 rfl) ?_
    refine lv_iconst (v := 5) hx hb dX2_join_146 (by decide) ?_
    refine lv_icmp_ne (tgt := 157) hx hb dX2_join_147 (by decide) (fun c9 => ?_) (fun c9 => ?_)
    · rw [if_neg c9] at h
      refine lv_lload_n hx hb dX2_join_157 rfl (lv_at hl 3 rfl) ?_
      refine lv_lload hx hb dX2_join_158 (lv_at hl 4 rfl) ?_
      obtain ⟨g15, h⟩ := dG_some h
      refine lv_lrem hx hb dX2_join_160 (dnl_ne g15) ?_
      exact WX2_join_s18_161 C  _ _ _ _ _ h hP hD hS (lv_sub hl [1] rfl)
    · rw [if_pos c9] at h
      refine lv_lload_n hx hb dX2_join_150 rfl (lv_at hl 3 rfl) ?_
      refine lv_lload hx hb dX2_join_151 (lv_at hl 4 rfl) ?_
      obtain ⟨g16, h⟩ := dG_some h
      refine lv_ldiv hx hb dX2_join_153 (dnl_ne g16) ?_
      refine lv_goto (tgt := 161) hx hb dX2_join_154 (by decide) ?_
      exact WX2_join_s18_161 C  _ _ _ _ _ h hP hD hS (lv_sub hl [1] rfl)
  · rw [if_pos c9] at h
    refine lv_aload_n hx hb dX2_join_137 rfl (lv_at hl 1 rfl) ?_
    refine lv_iconst (v := 1) hx hb dX2_join_138 (by decide) ?_
    refine va_put (D := D) (ci := 2) (v := .int 1) (ty := .boolean) (C := RX2) (T := TX2) (N := 2) hx hb hts u9_wsX2_join_X2 tyX2 tyX2_ok nmX2 hown hK hP hD hS 18 rfl rfl 1 (by decide) (hts (.fieldLink RX2 13 "TurnedFloors$Machine" "broken" "Z") f9_wsX2_join_382) (fun _ h9 => h9) rfl (by decide +kernel) rfl rfl (Nat.le_of_ble_eq_true rfl) dX2_join_139 (fun H locs hp hd hs => ?_)
    obtain ⟨q17, eq17, h⟩ := dL_some h
    refine kz_re (w2 := wF ty ad q17) hp hd hs (by rw [← eq17]; exact wF_f18_1 ty ad q 1) ?_
    clear hp hd hs hP hD hS
    intro hP hD hS
    refine lv_goto (tgt := 163) hx hb dX2_join_142 (by decide) ?_
    exact WX2_join_s18_163 C  _ _ _ _ _ h hP hD hS (lv_sub hl [1, 0] rfl)

set_option maxHeartbeats 4000000 in
set_option maxRecDepth 100000 in
theorem WX2_valueOf_s18_l_s21_345 {p : Program} {l : Launch} {e : Env} {s : State} {m : MethodId} {args : Array Value} {below : List Frame} {meth : Method} {c : Code} {D : va_G} {ty : Nat → ClassId} {eo : Nat → Nat} {A : Nat → Prop} {ad : Nat → Nat} {o1 : Int32} {o2 : dK} (C : dc_C p s m args meth c cX2_valueOf (some .int) 13 RX2 wsX2_valueOf D ty eo A)   (q : dK) (y0 : Int32) (H : Heap) (locs : List Loc) (ls : Array Slot) (h : zX2_valueOf_s18_l_s21_345  q y0 = some (o1, o2)) (hP : va_P D vwCl (wF ty ad q) H) (hD : va_D A (wF ty ad q)) (hS : va_S A s.heap H locs) (hl : lv_has ls 13 []) : W p l e ({ frames := 1, cells := 0, slots := 0, locals := 27 } : Room) s m args below meth c H locs 0 0 (MQ below (va_Qi (fun (r : Int32) (u : va_W) => o1 = r ∧ wF ty ad o2 = u) (kz_B D ty A) A) args s 0 0 A) (F0 m 345 ls [.int y0]) := by
  have C0 := C
  obtain ⟨hx, hb, hr, hts, hown, hlocks, hml, hK, hN, hE, hA⟩ := C
  unfold zX2_valueOf_s18_l_s21_345 at h
  cases h
  exact kz_iret hx hb hr hlocks hP hK hD hS dX2_valueOf_345 ⟨rfl, rfl⟩
set_option maxHeartbeats 4000000 in
set_option maxRecDepth 100000 in
theorem WX2_valueOf_s18_l_s21_328 {p : Program} {l : Launch} {e : Env} {s : State} {m : MethodId} {args : Array Value} {below : List Frame} {meth : Method} {c : Code} {D : va_G} {ty : Nat → ClassId} {eo : Nat → Nat} {A : Nat → Prop} {ad : Nat → Nat} {o1 : Int32} {o2 : dK} (C : dc_C p s m args meth c cX2_valueOf (some .int) 13 RX2 wsX2_valueOf D ty eo A)   (q : dK)  (H : Heap) (locs : List Loc) (ls : Array Slot) (h : zX2_valueOf_s18_l_s21_328  q = some (o1, o2)) (hP : va_P D vwCl (wF ty ad q) H) (hD : va_D A (wF ty ad q)) (hS : va_S A s.heap H locs) (hl : lv_has ls 13 [(0, .ref (ad 18))]) : W p l e ({ frames := 1, cells := 0, slots := 0, locals := 27 } : Room) s m args below meth c H locs 0 0 (MQ below (va_Qi (fun (r : Int32) (u : va_W) => o1 = r ∧ wF ty ad o2 = u) (kz_B D ty A) A) args s 0 0 A) (F0 m 328 ls []) := by
  have C0 := C
  obtain ⟨hx, hb, hr, hts, hown, hlocks, hml, hK, hN, hE, hA⟩ := C
  unfold zX2_valueOf_s18_l_s21_328 at h
  refine lv_aload_n hx hb dX2_valueOf_328 rfl (lv_at hl 0 rfl) ?_
  refine va_get (D := D) (ci := 2) (v := .int (q.1 18 1)) (C := RX2) (T := TX2) (N := 2) hx hb hts u9_wsX2_valueOf_X2 hown hK hP 18 rfl rfl 1 (by decide) (hts (.fieldLink RX2 13 "TurnedFloors$Machine" "broken" "Z") f9_wsX2_valueOf_386) (fun _ h9 => h9) rfl dX2_valueOf_329 ?_
  refine lv_if_eq (tgt := 339) hx hb dX2_valueOf_332 (by decide) (fun c9 => ?_) (fun c9 => ?_)
  · rw [if_pos c9] at h
    refine lv_aload_n hx hb dX2_valueOf_339 rfl (lv_at hl 0 rfl) ?_
    refine va_get (D := D) (ci := 2) (v := .ref (ad 19)) (C := RX2) (T := TX2) (N := 2) hx hb hts u9_wsX2_valueOf_X2 hown hK hP 18 rfl rfl 0 (by decide) (hts (.fieldLink RX2 9 "TurnedFloors$Machine" "stack" "[I") f9_wsX2_valueOf_387) (fun _ h9 => h9) rfl dX2_valueOf_340 ?_
    refine lv_iconst (v := 0) hx hb dX2_valueOf_343 (by decide) ?_
    refine va_iald hx hb hK hP 19 0 rfl rfl (by simp only [vp_in]; decide) dX2_valueOf_344 ?_
    refine kz_topi (q.1 19 0) (congrArg (q.1 19) (by decide +kernel : Int32.toNatClampNeg 0 = 0)) ?_
    exact WX2_valueOf_s18_l_s21_345 C0  _ _ _ _ _ h hP hD hS (lv_sub hl [] rfl)
  · rw [if_neg c9] at h
    refine lv_iconst (v := 0) hx hb dX2_valueOf_335 (by decide) ?_
    refine lv_goto (tgt := 345) hx hb dX2_valueOf_336 (by decide) ?_
    exact WX2_valueOf_s18_l_s21_345 C0  _ _ _ _ _ h hP hD hS (lv_sub hl [] rfl)
set_option maxHeartbeats 4000000 in
set_option maxRecDepth 100000 in
theorem WX2_valueOf_s18_l_s21_322 {p : Program} {l : Launch} {e : Env} {s : State} {m : MethodId} {args : Array Value} {below : List Frame} {meth : Method} {c : Code} {D : va_G} {ty : Nat → ClassId} {eo : Nat → Nat} {A : Nat → Prop} {ad : Nat → Nat} {o1 : Int32} {o2 : dK} (C : dc_C p s m args meth c cX2_valueOf (some .int) 13 RX2 wsX2_valueOf D ty eo A) {k32 : dK → Int32 → Int32 → Int32 → Int32 → Int32 → Option (Int32 × dK)} (hk32 : ∀ (q : dK) (x1 : Int32) (x5 : Int32) (x6 : Int32) (x7 : Int32) (x8 : Int32) (H : Heap) (locs : List Loc) (ls : Array Slot), k32 q x1 x5 x6 x7 x8 = some (o1, o2) → va_P D vwCl (wF ty ad q) H → va_D A (wF ty ad q) → va_S A s.heap H locs → lv_has ls 13 [(0, .ref (ad 18)), (1, .ref (ad (63 + 7 * dLi x1))), (4, .ref (ad 21)), (5, .int x5), (6, .int x6), (7, .int x7), (8, .int x8)] → W p l e ({ frames := 1, cells := 0, slots := 0, locals := 27 } : Room) s m args below meth c H locs 0 0 (MQ below (va_Qi (fun (r : Int32) (u : va_W) => o1 = r ∧ wF ty ad o2 = u) (kz_B D ty A) A) args s 0 0 A) (F0 m 32 ls [])) (q : dK) (x1 : Int32) (x5 : Int32) (x6 : Int32) (x7 : Int32) (x8 : Int32) (H : Heap) (locs : List Loc) (ls : Array Slot) (h : zX2_valueOf_s18_l_s21_322 k32 q x1 x5 x6 x7 x8 = some (o1, o2)) (hP : va_P D vwCl (wF ty ad q) H) (hD : va_D A (wF ty ad q)) (hS : va_S A s.heap H locs) (hl : lv_has ls 13 [(0, .ref (ad 18)), (1, .ref (ad (63 + 7 * dLi x1))), (4, .ref (ad 21)), (5, .int x5), (6, .int x6), (7, .int x7), (8, .int x8)]) : W p l e ({ frames := 1, cells := 0, slots := 0, locals := 27 } : Room) s m args below meth c H locs 0 0 (MQ below (va_Qi (fun (r : Int32) (u : va_W) => o1 = r ∧ wF ty ad o2 = u) (kz_B D ty A) A) args s 0 0 A) (F0 m 322 ls []) := by
  have C0 := C
  obtain ⟨hx, hb, hr, hts, hown, hlocks, hml, hK, hN, hE, hA⟩ := C
  unfold zX2_valueOf_s18_l_s21_322 at h
  refine lv_iinc (v := x8 + 1) (lv' := [(8, .int (x8 + 1)), (0, .ref (ad 18)), (1, .ref (ad (63 + 7 * dLi x1))), (4, .ref (ad 21)), (5, .int x5), (6, .int x6), (7, .int x7)]) hx hb dX2_valueOf_322 hl (k := 6) rfl rfl (by decide) rfl (fun ls hl => ?_)
  refine lv_goto (tgt := 32) hx hb dX2_valueOf_325 (by decide) ?_
  exact hk32 _ _ _ _ _ _ _ _ _ h hP hD hS (lv_sub hl [1, 2, 3, 4, 5, 6, 0] rfl)
set_option maxHeartbeats 4000000 in
set_option maxRecDepth 100000 in
theorem WX2_valueOf_s18_l_s21_281 {p : Program} {l : Launch} {e : Env} {s : State} {m : MethodId} {args : Array Value} {below : List Frame} {meth : Method} {c : Code} {D : va_G} {ty : Nat → ClassId} {eo : Nat → Nat} {A : Nat → Prop} {ad : Nat → Nat} {o1 : Int32} {o2 : dK} (C : dc_C p s m args meth c cX2_valueOf (some .int) 13 RX2 wsX2_valueOf D ty eo A) {k32 : dK → Int32 → Int32 → Int32 → Int32 → Int32 → Option (Int32 × dK)} (hk32 : ∀ (q : dK) (x1 : Int32) (x5 : Int32) (x6 : Int32) (x7 : Int32) (x8 : Int32) (H : Heap) (locs : List Loc) (ls : Array Slot), k32 q x1 x5 x6 x7 x8 = some (o1, o2) → va_P D vwCl (wF ty ad q) H → va_D A (wF ty ad q) → va_S A s.heap H locs → lv_has ls 13 [(0, .ref (ad 18)), (1, .ref (ad (63 + 7 * dLi x1))), (4, .ref (ad 21)), (5, .int x5), (6, .int x6), (7, .int x7), (8, .int x8)] → W p l e ({ frames := 1, cells := 0, slots := 0, locals := 27 } : Room) s m args below meth c H locs 0 0 (MQ below (va_Qi (fun (r : Int32) (u : va_W) => o1 = r ∧ wF ty ad o2 = u) (kz_B D ty A) A) args s 0 0 A) (F0 m 32 ls [])) (q : dK) (x1 : Int32) (x6 : Int32) (x7 : Int32) (x8 : Int32) (y0 : Int32) (H : Heap) (locs : List Loc) (ls : Array Slot) (h : zX2_valueOf_s18_l_s21_281 k32 q x1 x6 x7 x8 y0 = some (o1, o2)) (hP : va_P D vwCl (wF ty ad q) H) (hD : va_D A (wF ty ad q)) (hS : va_S A s.heap H locs) (hl : lv_has ls 13 [(0, .ref (ad 18)), (1, .ref (ad (63 + 7 * dLi x1))), (4, .ref (ad 21)), (6, .int x6), (7, .int x7), (8, .int x8)]) : W p l e ({ frames := 1, cells := 0, slots := 0, locals := 27 } : Room) s m args below meth c H locs 0 0 (MQ below (va_Qi (fun (r : Int32) (u : va_W) => o1 = r ∧ wF ty ad o2 = u) (kz_B D ty A) A) args s 0 0 A) (F0 m 281 ls [.int y0]) := by
  have C0 := C
  obtain ⟨hx, hb, hr, hts, hown, hlocks, hml, hK, hN, hE, hA⟩ := C
  unfold zX2_valueOf_s18_l_s21_281 at h
  refine lv_istore (lv' := [(5, .int y0), (0, .ref (ad 18)), (1, .ref (ad (63 + 7 * dLi x1))), (4, .ref (ad 21)), (6, .int x6), (7, .int x7), (8, .int x8)]) hx hb dX2_valueOf_281 hl (by decide) rfl (fun ls hl => ?_)
  refine lv_goto (tgt := 322) hx hb dX2_valueOf_283 (by decide) ?_
  exact WX2_valueOf_s18_l_s21_322 C0 hk32 _ _ _ _ _ _ _ _ _ h hP hD hS (lv_sub hl [1, 2, 3, 0, 4, 5, 6] rfl)
set_option maxHeartbeats 4000000 in
set_option maxRecDepth 100000 in
theorem WX2_valueOf_s18_l_s21_265 {p : Program} {l : Launch} {e : Env} {s : State} {m : MethodId} {args : Array Value} {below : List Frame} {meth : Method} {c : Code} {D : va_G} {ty : Nat → ClassId} {eo : Nat → Nat} {A : Nat → Prop} {ad : Nat → Nat} {o1 : Int32} {o2 : dK} (C : dc_C p s m args meth c cX2_valueOf (some .int) 13 RX2 wsX2_valueOf D ty eo A) {k32 : dK → Int32 → Int32 → Int32 → Int32 → Int32 → Option (Int32 × dK)} (hk32 : ∀ (q : dK) (x1 : Int32) (x5 : Int32) (x6 : Int32) (x7 : Int32) (x8 : Int32) (H : Heap) (locs : List Loc) (ls : Array Slot), k32 q x1 x5 x6 x7 x8 = some (o1, o2) → va_P D vwCl (wF ty ad q) H → va_D A (wF ty ad q) → va_S A s.heap H locs → lv_has ls 13 [(0, .ref (ad 18)), (1, .ref (ad (63 + 7 * dLi x1))), (4, .ref (ad 21)), (5, .int x5), (6, .int x6), (7, .int x7), (8, .int x8)] → W p l e ({ frames := 1, cells := 0, slots := 0, locals := 27 } : Room) s m args below meth c H locs 0 0 (MQ below (va_Qi (fun (r : Int32) (u : va_W) => o1 = r ∧ wF ty ad o2 = u) (kz_B D ty A) A) args s 0 0 A) (F0 m 32 ls [])) (q : dK) (x1 : Int32) (x5 : Int32) (x7 : Int32) (x8 : Int32) (x12 : Int32) (y0 : Int32) (H : Heap) (locs : List Loc) (ls : Array Slot) (h : zX2_valueOf_s18_l_s21_265 k32 q x1 x5 x7 x8 x12 y0 = some (o1, o2)) (hP : va_P D vwCl (wF ty ad q) H) (hD : va_D A (wF ty ad q)) (hS : va_S A s.heap H locs) (hl : lv_has ls 13 [(0, .ref (ad 18)), (1, .ref (ad (63 + 7 * dLi x1))), (4, .ref (ad 21)), (5, .int x5), (7, .int x7), (8, .int x8), (12, .int x12)]) : W p l e ({ frames := 1, cells := 0, slots := 0, locals := 27 } : Room) s m args below meth c H locs 0 0 (MQ below (va_Qi (fun (r : Int32) (u : va_W) => o1 = r ∧ wF ty ad o2 = u) (kz_B D ty A) A) args s 0 0 A) (F0 m 265 ls [.int y0]) := by
  have C0 := C
  obtain ⟨hx, hb, hr, hts, hown, hlocks, hml, hK, hN, hE, hA⟩ := C
  unfold zX2_valueOf_s18_l_s21_265 at h
  refine lv_istore (lv' := [(6, .int y0), (0, .ref (ad 18)), (1, .ref (ad (63 + 7 * dLi x1))), (4, .ref (ad 21)), (5, .int x5), (7, .int x7), (8, .int x8), (12, .int x12)]) hx hb dX2_valueOf_265 hl (by decide) rfl (fun ls hl => ?_)
  refine lv_iload hx hb dX2_valueOf_267 (lv_at hl 7 rfl) ?_
  refine lv_if_eq (tgt := 277) hx hb dX2_valueOf_269 (by decide) (fun c9 => ?_) (fun c9 => ?_)
  · rw [if_pos c9] at h
    refine lv_iload hx hb dX2_valueOf_277 (lv_at hl 4 rfl) ?_
    refine lv_iconst (v := 1) hx hb dX2_valueOf_279 (by decide) ?_
    refine lv_isub hx hb dX2_valueOf_280 ?_
    exact WX2_valueOf_s18_l_s21_281 C0 hk32 _ _ _ _ _ _ _ _ _ h hP hD hS (lv_sub hl [1, 2, 3, 0, 5, 6] rfl)
  · rw [if_neg c9] at h
    refine lv_iload hx hb dX2_valueOf_272 (lv_at hl 4 rfl) ?_
    refine lv_goto (tgt := 281) hx hb dX2_valueOf_274 (by decide) ?_
    exact WX2_valueOf_s18_l_s21_281 C0 hk32 _ _ _ _ _ _ _ _ _ h hP hD hS (lv_sub hl [1, 2, 3, 0, 5, 6] rfl)
set_option maxHeartbeats 4000000 in
set_option maxRecDepth 100000 in
theorem WX2_valueOf_s18_l_s21_251 {p : Program} {l : Launch} {e : Env} {s : State} {m : MethodId} {args : Array Value} {below : List Frame} {meth : Method} {c : Code} {D : va_G} {ty : Nat → ClassId} {eo : Nat → Nat} {A : Nat → Prop} {ad : Nat → Nat} {o1 : Int32} {o2 : dK} (C : dc_C p s m args meth c cX2_valueOf (some .int) 13 RX2 wsX2_valueOf D ty eo A) {k32 : dK → Int32 → Int32 → Int32 → Int32 → Int32 → Option (Int32 × dK)} (hk32 : ∀ (q : dK) (x1 : Int32) (x5 : Int32) (x6 : Int32) (x7 : Int32) (x8 : Int32) (H : Heap) (locs : List Loc) (ls : Array Slot), k32 q x1 x5 x6 x7 x8 = some (o1, o2) → va_P D vwCl (wF ty ad q) H → va_D A (wF ty ad q) → va_S A s.heap H locs → lv_has ls 13 [(0, .ref (ad 18)), (1, .ref (ad (63 + 7 * dLi x1))), (4, .ref (ad 21)), (5, .int x5), (6, .int x6), (7, .int x7), (8, .int x8)] → W p l e ({ frames := 1, cells := 0, slots := 0, locals := 27 } : Room) s m args below meth c H locs 0 0 (MQ below (va_Qi (fun (r : Int32) (u : va_W) => o1 = r ∧ wF ty ad o2 = u) (kz_B D ty A) A) args s 0 0 A) (F0 m 32 ls [])) (q : dK) (x1 : Int32) (x5 : Int32) (x6 : Int32) (x7 : Int32) (x8 : Int32) (x10 : Int32) (y0 : Int32) (H : Heap) (locs : List Loc) (ls : Array Slot) (h : zX2_valueOf_s18_l_s21_251 k32 q x1 x5 x6 x7 x8 x10 y0 = some (o1, o2)) (hP : va_P D vwCl (wF ty ad q) H) (hD : va_D A (wF ty ad q)) (hS : va_S A s.heap H locs) (hl : lv_has ls 13 [(0, .ref (ad 18)), (1, .ref (ad (63 + 7 * dLi x1))), (4, .ref (ad 21)), (5, .int x5), (6, .int x6), (7, .int x7), (8, .int x8), (10, .int x10)]) : W p l e ({ frames := 1, cells := 0, slots := 0, locals := 27 } : Room) s m args below meth c H locs 0 0 (MQ below (va_Qi (fun (r : Int32) (u : va_W) => o1 = r ∧ wF ty ad o2 = u) (kz_B D ty A) A) args s 0 0 A) (F0 m 251 ls [.int y0]) := by
  have C0 := C
  obtain ⟨hx, hb, hr, hts, hown, hlocks, hml, hK, hN, hE, hA⟩ := C
  unfold zX2_valueOf_s18_l_s21_251 at h
  refine lv_istore (lv' := [(12, .int y0), (0, .ref (ad 18)), (1, .ref (ad (63 + 7 * dLi x1))), (4, .ref (ad 21)), (5, .int x5), (6, .int x6), (7, .int x7), (8, .int x8), (10, .int x10)]) hx hb dX2_valueOf_251 hl (by decide) rfl (fun ls hl => ?_)
  refine lv_iload hx hb dX2_valueOf_253 (lv_at hl 0 rfl) ?_
  refine lv_if_eq (tgt := 263) hx hb dX2_valueOf_255 (by decide) (fun c9 => ?_) (fun c9 => ?_)
  · rw [if_pos c9] at h
    refine lv_iload hx hb dX2_valueOf_263 (lv_at hl 5 rfl) ?_
    exact WX2_valueOf_s18_l_s21_265 C0 hk32 _ _ _ _ _ _ _ _ _ _ h hP hD hS (lv_sub hl [1, 2, 3, 4, 6, 7, 0] rfl)
  · rw [if_neg c9] at h
    refine lv_iload hx hb dX2_valueOf_258 (lv_at hl 8 rfl) ?_
    refine lv_goto (tgt := 265) hx hb dX2_valueOf_260 (by decide) ?_
    exact WX2_valueOf_s18_l_s21_265 C0 hk32 _ _ _ _ _ _ _ _ _ _ h hP hD hS (lv_sub hl [1, 2, 3, 4, 6, 7, 0] rfl)
set_option maxHeartbeats 4000000 in
set_option maxRecDepth 100000 in
theorem WX2_valueOf_s18_l_s21_243 {p : Program} {l : Launch} {e : Env} {s : State} {m : MethodId} {args : Array Value} {below : List Frame} {meth : Method} {c : Code} {D : va_G} {ty : Nat → ClassId} {eo : Nat → Nat} {A : Nat → Prop} {ad : Nat → Nat} {o1 : Int32} {o2 : dK} (C : dc_C p s m args meth c cX2_valueOf (some .int) 13 RX2 wsX2_valueOf D ty eo A) {k32 : dK → Int32 → Int32 → Int32 → Int32 → Int32 → Option (Int32 × dK)} (hk32 : ∀ (q : dK) (x1 : Int32) (x5 : Int32) (x6 : Int32) (x7 : Int32) (x8 : Int32) (H : Heap) (locs : List Loc) (ls : Array Slot), k32 q x1 x5 x6 x7 x8 = some (o1, o2) → va_P D vwCl (wF ty ad q) H → va_D A (wF ty ad q) → va_S A s.heap H locs → lv_has ls 13 [(0, .ref (ad 18)), (1, .ref (ad (63 + 7 * dLi x1))), (4, .ref (ad 21)), (5, .int x5), (6, .int x6), (7, .int x7), (8, .int x8)] → W p l e ({ frames := 1, cells := 0, slots := 0, locals := 27 } : Room) s m args below meth c H locs 0 0 (MQ below (va_Qi (fun (r : Int32) (u : va_W) => o1 = r ∧ wF ty ad o2 = u) (kz_B D ty A) A) args s 0 0 A) (F0 m 32 ls [])) (q : dK) (x1 : Int32) (x5 : Int32) (x6 : Int32) (x7 : Int32) (x8 : Int32) (x10 : Int32) (y0 : Int32) (y1 : Int32) (H : Heap) (locs : List Loc) (ls : Array Slot) (h : zX2_valueOf_s18_l_s21_243 k32 q x1 x5 x6 x7 x8 x10 y0 y1 = some (o1, o2)) (hP : va_P D vwCl (wF ty ad q) H) (hD : va_D A (wF ty ad q)) (hS : va_S A s.heap H locs) (hl : lv_has ls 13 [(0, .ref (ad 18)), (1, .ref (ad (63 + 7 * dLi x1))), (4, .ref (ad 21)), (5, .int x5), (6, .int x6), (7, .int x7), (8, .int x8), (10, .int x10)]) : W p l e ({ frames := 1, cells := 0, slots := 0, locals := 27 } : Room) s m args below meth c H locs 0 0 (MQ below (va_Qi (fun (r : Int32) (u : va_W) => o1 = r ∧ wF ty ad o2 = u) (kz_B D ty A) A) args s 0 0 A) (F0 m 243 ls [.int y0, .int y1]) := by
  have C0 := C
  obtain ⟨hx, hb, hr, hts, hown, hlocks, hml, hK, hN, hE, hA⟩ := C
  unfold zX2_valueOf_s18_l_s21_243 at h
  refine lv_icmp_ne (tgt := 250) hx hb dX2_valueOf_243 (by decide) (fun c9 => ?_) (fun c9 => ?_)
  · rw [if_neg c9] at h
    refine lv_iconst (v := 0) hx hb dX2_valueOf_250 (by decide) ?_
    exact WX2_valueOf_s18_l_s21_251 C0 hk32 _ _ _ _ _ _ _ _ _ _ _ h hP hD hS (lv_sub hl [0, 1, 2, 3, 4, 5, 6, 7] rfl)
  · rw [if_pos c9] at h
    refine lv_iconst (v := 1) hx hb dX2_valueOf_246 (by decide) ?_
    refine lv_goto (tgt := 251) hx hb dX2_valueOf_247 (by decide) ?_
    exact WX2_valueOf_s18_l_s21_251 C0 hk32 _ _ _ _ _ _ _ _ _ _ _ h hP hD hS (lv_sub hl [0, 1, 2, 3, 4, 5, 6, 7] rfl)
set_option maxHeartbeats 4000000 in
set_option maxRecDepth 100000 in
theorem WX2_valueOf_s18_l_s21_222 {p : Program} {l : Launch} {e : Env} {s : State} {m : MethodId} {args : Array Value} {below : List Frame} {meth : Method} {c : Code} {D : va_G} {ty : Nat → ClassId} {eo : Nat → Nat} {A : Nat → Prop} {ad : Nat → Nat} {o1 : Int32} {o2 : dK} (C : dc_C p s m args meth c cX2_valueOf (some .int) 13 RX2 wsX2_valueOf D ty eo A) {k32 : dK → Int32 → Int32 → Int32 → Int32 → Int32 → Option (Int32 × dK)} (hk32 : ∀ (q : dK) (x1 : Int32) (x5 : Int32) (x6 : Int32) (x7 : Int32) (x8 : Int32) (H : Heap) (locs : List Loc) (ls : Array Slot), k32 q x1 x5 x6 x7 x8 = some (o1, o2) → va_P D vwCl (wF ty ad q) H → va_D A (wF ty ad q) → va_S A s.heap H locs → lv_has ls 13 [(0, .ref (ad 18)), (1, .ref (ad (63 + 7 * dLi x1))), (4, .ref (ad 21)), (5, .int x5), (6, .int x6), (7, .int x7), (8, .int x8)] → W p l e ({ frames := 1, cells := 0, slots := 0, locals := 27 } : Room) s m args below meth c H locs 0 0 (MQ below (va_Qi (fun (r : Int32) (u : va_W) => o1 = r ∧ wF ty ad o2 = u) (kz_B D ty A) A) args s 0 0 A) (F0 m 32 ls [])) (q : dK) (x1 : Int32) (x5 : Int32) (x6 : Int32) (x7 : Int32) (x8 : Int32) (x9 : Int32) (x10 : Int32) (H : Heap) (locs : List Loc) (ls : Array Slot) (h : zX2_valueOf_s18_l_s21_222 k32 q x1 x5 x6 x7 x8 x9 x10 = some (o1, o2)) (hP : va_P D vwCl (wF ty ad q) H) (hD : va_D A (wF ty ad q)) (hS : va_S A s.heap H locs) (hl : lv_has ls 13 [(0, .ref (ad 18)), (1, .ref (ad (63 + 7 * dLi x1))), (4, .ref (ad 21)), (5, .int x5), (6, .int x6), (7, .int x7), (8, .int x8), (9, .int x9), (10, .int x10)]) : W p l e ({ frames := 1, cells := 0, slots := 0, locals := 27 } : Room) s m args below meth c H locs 0 0 (MQ below (va_Qi (fun (r : Int32) (u : va_W) => o1 = r ∧ wF ty ad o2 = u) (kz_B D ty A) A) args s 0 0 A) (F0 m 222 ls []) := by
  have C0 := C
  obtain ⟨hx, hb, hr, hts, hown, hlocks, hml, hK, hN, hE, hA⟩ := C
  unfold zX2_valueOf_s18_l_s21_222 at h
  refine lv_aload_n hx hb dX2_valueOf_222 rfl (lv_at hl 0 rfl) ?_
  refine va_get (D := D) (ci := 2) (v := .ref (ad 19)) (C := RX2) (T := TX2) (N := 2) hx hb hts u9_wsX2_valueOf_X2 hown hK hP 18 rfl rfl 0 (by decide) (hts (.fieldLink RX2 9 "TurnedFloors$Machine" "stack" "[I") f9_wsX2_valueOf_387) (fun _ h9 => h9) rfl dX2_valueOf_223 ?_
  refine lv_iload hx hb dX2_valueOf_226 (lv_at hl 3 rfl) ?_
  refine lv_iconst (v := 1) hx hb dX2_valueOf_228 (by decide) ?_
  refine lv_isub hx hb dX2_valueOf_229 ?_
  obtain ⟨g1, h⟩ := dG_some h
  refine va_iald hx hb hK hP 19 0 rfl rfl (dg_in g1) dX2_valueOf_230 ?_
  obtain ⟨v2, ev2, h⟩ := dL_some h
  refine kz_topi v2 ev2 ?_
  refine lv_iload hx hb dX2_valueOf_231 (lv_at hl 7 rfl) ?_
  refine lv_bipush (v := 12) hx hb dX2_valueOf_233 (by decide) ?_
  refine lv_icmp_ne (tgt := 242) hx hb dX2_valueOf_235 (by decide) (fun c9 => ?_) (fun c9 => ?_)
  · rw [if_neg c9] at h
    refine lv_iconst (v := 0) hx hb dX2_valueOf_242 (by decide) ?_
    exact WX2_valueOf_s18_l_s21_243 C0 hk32 _ _ _ _ _ _ _ _ _ _ _ _ h hP hD hS (lv_sub hl [0, 1, 2, 3, 4, 5, 6, 8] rfl)
  · rw [if_pos c9] at h
    refine lv_iconst (v := 1) hx hb dX2_valueOf_238 (by decide) ?_
    refine lv_goto (tgt := 243) hx hb dX2_valueOf_239 (by decide) ?_
    exact WX2_valueOf_s18_l_s21_243 C0 hk32 _ _ _ _ _ _ _ _ _ _ _ _ h hP hD hS (lv_sub hl [0, 1, 2, 3, 4, 5, 6, 8] rfl)
set_option maxHeartbeats 4000000 in
set_option maxRecDepth 100000 in
theorem WX2_valueOf_s18_l_s21_171 {p : Program} {l : Launch} {e : Env} {s : State} {m : MethodId} {args : Array Value} {below : List Frame} {meth : Method} {c : Code} {D : va_G} {ty : Nat → ClassId} {eo : Nat → Nat} {A : Nat → Prop} {ad : Nat → Nat} {o1 : Int32} {o2 : dK} (C : dc_C p s m args meth c cX2_valueOf (some .int) 13 RX2 wsX2_valueOf D ty eo A) {k32 : dK → Int32 → Int32 → Int32 → Int32 → Int32 → Option (Int32 × dK)} (hk32 : ∀ (q : dK) (x1 : Int32) (x5 : Int32) (x6 : Int32) (x7 : Int32) (x8 : Int32) (H : Heap) (locs : List Loc) (ls : Array Slot), k32 q x1 x5 x6 x7 x8 = some (o1, o2) → va_P D vwCl (wF ty ad q) H → va_D A (wF ty ad q) → va_S A s.heap H locs → lv_has ls 13 [(0, .ref (ad 18)), (1, .ref (ad (63 + 7 * dLi x1))), (4, .ref (ad 21)), (5, .int x5), (6, .int x6), (7, .int x7), (8, .int x8)] → W p l e ({ frames := 1, cells := 0, slots := 0, locals := 27 } : Room) s m args below meth c H locs 0 0 (MQ below (va_Qi (fun (r : Int32) (u : va_W) => o1 = r ∧ wF ty ad o2 = u) (kz_B D ty A) A) args s 0 0 A) (F0 m 32 ls [])) (q : dK) (x1 : Int32) (x5 : Int32) (x6 : Int32) (x7 : Int32) (x8 : Int32) (y0 : Int32) (y1 : Int32) (H : Heap) (locs : List Loc) (ls : Array Slot) (h : zX2_valueOf_s18_l_s21_171 k32 q x1 x5 x6 x7 x8 y0 y1 = some (o1, o2)) (hP : va_P D vwCl (wF ty ad q) H) (hD : va_D A (wF ty ad q)) (hS : va_S A s.heap H locs) (hl : lv_has ls 13 [(0, .ref (ad 18)), (1, .ref (ad (63 + 7 * dLi x1))), (4, .ref (ad 21)), (5, .int x5), (6, .int x6), (7, .int x7), (8, .int x8)]) : W p l e ({ frames := 1, cells := 0, slots := 0, locals := 27 } : Room) s m args below meth c H locs 0 0 (MQ below (va_Qi (fun (r : Int32) (u : va_W) => o1 = r ∧ wF ty ad o2 = u) (kz_B D ty A) A) args s 0 0 A) (F0 m 171 ls [.int y0, .int y1, .ref (ad 19)]) := by
  have C0 := C
  obtain ⟨hx, hb, hr, hts, hown, hlocks, hml, hK, hN, hE, hA⟩ := C
  unfold zX2_valueOf_s18_l_s21_171 at h
  obtain ⟨g1, h⟩ := dG_some h
  refine va_iast hx hb hK hP hD hS 19 0 rfl rfl (dg_in g1) dX2_valueOf_171 (fun H locs hp hd hs => ?_)
  obtain ⟨q2, eq2, h⟩ := dL_some h
  refine kz_re (w2 := wF ty ad q2) hp hd hs (by rw [← eq2]; exact wF_a19 ty ad q (Int32.toNatClampNeg y1) y0) ?_
  clear hp hd hs hP hD hS
  intro hP hD hS
  refine lv_iinc (v := x5 + 1) (lv' := [(5, .int (x5 + 1)), (0, .ref (ad 18)), (1, .ref (ad (63 + 7 * dLi x1))), (4, .ref (ad 21)), (6, .int x6), (7, .int x7), (8, .int x8)]) hx hb dX2_valueOf_172 hl (k := 3) rfl rfl (by decide) rfl (fun ls hl => ?_)
  refine lv_goto (tgt := 322) hx hb dX2_valueOf_175 (by decide) ?_
  exact WX2_valueOf_s18_l_s21_322 C0 hk32 _ _ _ _ _ _ _ _ _ h hP hD hS (lv_sub hl [1, 2, 3, 0, 4, 5, 6] rfl)
set_option maxHeartbeats 4000000 in
set_option maxRecDepth 100000 in
theorem WX2_valueOf_s18_l_s21_150 {p : Program} {l : Launch} {e : Env} {s : State} {m : MethodId} {args : Array Value} {below : List Frame} {meth : Method} {c : Code} {D : va_G} {ty : Nat → ClassId} {eo : Nat → Nat} {A : Nat → Prop} {ad : Nat → Nat} {o1 : Int32} {o2 : dK} (C : dc_C p s m args meth c cX2_valueOf (some .int) 13 RX2 wsX2_valueOf D ty eo A) {k32 : dK → Int32 → Int32 → Int32 → Int32 → Int32 → Option (Int32 × dK)} (hk32 : ∀ (q : dK) (x1 : Int32) (x5 : Int32) (x6 : Int32) (x7 : Int32) (x8 : Int32) (H : Heap) (locs : List Loc) (ls : Array Slot), k32 q x1 x5 x6 x7 x8 = some (o1, o2) → va_P D vwCl (wF ty ad q) H → va_D A (wF ty ad q) → va_S A s.heap H locs → lv_has ls 13 [(0, .ref (ad 18)), (1, .ref (ad (63 + 7 * dLi x1))), (4, .ref (ad 21)), (5, .int x5), (6, .int x6), (7, .int x7), (8, .int x8)] → W p l e ({ frames := 1, cells := 0, slots := 0, locals := 27 } : Room) s m args below meth c H locs 0 0 (MQ below (va_Qi (fun (r : Int32) (u : va_W) => o1 = r ∧ wF ty ad o2 = u) (kz_B D ty A) A) args s 0 0 A) (F0 m 32 ls [])) (q : dK) (x1 : Int32) (x5 : Int32) (x6 : Int32) (x7 : Int32) (x8 : Int32) (x9 : Int32) (x10 : Int32) (H : Heap) (locs : List Loc) (ls : Array Slot) (h : zX2_valueOf_s18_l_s21_150 k32 q x1 x5 x6 x7 x8 x9 x10 = some (o1, o2)) (hP : va_P D vwCl (wF ty ad q) H) (hD : va_D A (wF ty ad q)) (hS : va_S A s.heap H locs) (hl : lv_has ls 13 [(0, .ref (ad 18)), (1, .ref (ad (63 + 7 * dLi x1))), (4, .ref (ad 21)), (5, .int x5), (6, .int x6), (7, .int x7), (8, .int x8), (9, .int x9), (10, .int x10)]) : W p l e ({ frames := 1, cells := 0, slots := 0, locals := 27 } : Room) s m args below meth c H locs 0 0 (MQ below (va_Qi (fun (r : Int32) (u : va_W) => o1 = r ∧ wF ty ad o2 = u) (kz_B D ty A) A) args s 0 0 A) (F0 m 150 ls []) := by
  have C0 := C
  obtain ⟨hx, hb, hr, hts, hown, hlocks, hml, hK, hN, hE, hA⟩ := C
  unfold zX2_valueOf_s18_l_s21_150 at h
  refine lv_aload_n hx hb dX2_valueOf_150 rfl (lv_at hl 0 rfl) ?_
  refine va_get (D := D) (ci := 2) (v := .ref (ad 19)) (C := RX2) (T := TX2) (N := 2) hx hb hts u9_wsX2_valueOf_X2 hown hK hP 18 rfl rfl 0 (by decide) (hts (.fieldLink RX2 9 "TurnedFloors$Machine" "stack" "[I") f9_wsX2_valueOf_387) (fun _ h9 => h9) rfl dX2_valueOf_151 ?_
  refine lv_iload hx hb dX2_valueOf_154 (lv_at hl 3 rfl) ?_
  refine lv_iload hx hb dX2_valueOf_156 (lv_at hl 7 rfl) ?_
  refine lv_if_ne (tgt := 166) hx hb dX2_valueOf_158 (by decide) (fun c9 => ?_) (fun c9 => ?_)
  · rw [if_neg c9] at h
    refine lv_aload hx hb dX2_valueOf_166 (lv_at hl 2 rfl) ?_
    refine lv_iload hx hb dX2_valueOf_168 (lv_at hl 8 rfl) ?_
    obtain ⟨g1, h⟩ := dG_some h
    refine va_iald hx hb hK hP 21 0 rfl rfl (dg_in g1) dX2_valueOf_170 ?_
    obtain ⟨v2, ev2, h⟩ := dL_some h
    refine kz_topi v2 ev2 ?_
    exact WX2_valueOf_s18_l_s21_171 C0 hk32 _ _ _ _ _ _ _ _ _ _ _ h hP hD hS (lv_sub hl [0, 1, 2, 3, 4, 5, 6] rfl)
  · rw [if_pos c9] at h
    refine lv_iload hx hb dX2_valueOf_161 (lv_at hl 8 rfl) ?_
    refine lv_goto (tgt := 171) hx hb dX2_valueOf_163 (by decide) ?_
    exact WX2_valueOf_s18_l_s21_171 C0 hk32 _ _ _ _ _ _ _ _ _ _ _ h hP hD hS (lv_sub hl [0, 1, 2, 3, 4, 5, 6] rfl)
set_option maxHeartbeats 4000000 in
set_option maxRecDepth 100000 in
theorem WX2_valueOf_s18_l_s21_139 {p : Program} {l : Launch} {e : Env} {s : State} {m : MethodId} {args : Array Value} {below : List Frame} {meth : Method} {c : Code} {D : va_G} {ty : Nat → ClassId} {eo : Nat → Nat} {A : Nat → Prop} {ad : Nat → Nat} {o1 : Int32} {o2 : dK} (C : dc_C p s m args meth c cX2_valueOf (some .int) 13 RX2 wsX2_valueOf D ty eo A) {k32 : dK → Int32 → Int32 → Int32 → Int32 → Int32 → Option (Int32 × dK)} (hk32 : ∀ (q : dK) (x1 : Int32) (x5 : Int32) (x6 : Int32) (x7 : Int32) (x8 : Int32) (H : Heap) (locs : List Loc) (ls : Array Slot), k32 q x1 x5 x6 x7 x8 = some (o1, o2) → va_P D vwCl (wF ty ad q) H → va_D A (wF ty ad q) → va_S A s.heap H locs → lv_has ls 13 [(0, .ref (ad 18)), (1, .ref (ad (63 + 7 * dLi x1))), (4, .ref (ad 21)), (5, .int x5), (6, .int x6), (7, .int x7), (8, .int x8)] → W p l e ({ frames := 1, cells := 0, slots := 0, locals := 27 } : Room) s m args below meth c H locs 0 0 (MQ below (va_Qi (fun (r : Int32) (u : va_W) => o1 = r ∧ wF ty ad o2 = u) (kz_B D ty A) A) args s 0 0 A) (F0 m 32 ls [])) (q : dK) (x1 : Int32) (x5 : Int32) (x6 : Int32) (x7 : Int32) (x8 : Int32) (x9 : Int32) (x10 : Int32) (H : Heap) (locs : List Loc) (ls : Array Slot) (h : zX2_valueOf_s18_l_s21_139 k32 q x1 x5 x6 x7 x8 x9 x10 = some (o1, o2)) (hP : va_P D vwCl (wF ty ad q) H) (hD : va_D A (wF ty ad q)) (hS : va_S A s.heap H locs) (hl : lv_has ls 13 [(0, .ref (ad 18)), (1, .ref (ad (63 + 7 * dLi x1))), (4, .ref (ad 21)), (5, .int x5), (6, .int x6), (7, .int x7), (8, .int x8), (9, .int x9), (10, .int x10)]) : W p l e ({ frames := 1, cells := 0, slots := 0, locals := 27 } : Room) s m args below meth c H locs 0 0 (MQ below (va_Qi (fun (r : Int32) (u : va_W) => o1 = r ∧ wF ty ad o2 = u) (kz_B D ty A) A) args s 0 0 A) (F0 m 139 ls []) := by
  have C0 := C
  obtain ⟨hx, hb, hr, hts, hown, hlocks, hml, hK, hN, hE, hA⟩ := C
  unfold zX2_valueOf_s18_l_s21_139 at h
  refine lv_iload hx hb dX2_valueOf_139 (lv_at hl 7 rfl) ?_
  refine lv_if_eq (tgt := 150) hx hb dX2_valueOf_141 (by decide) (fun c9 => ?_) (fun c9 => ?_)
  · rw [if_pos c9] at h
    exact WX2_valueOf_s18_l_s21_150 C0 hk32 _ _ _ _ _ _ _ _ _ _ _ h hP hD hS (lv_sub hl [0, 1, 2, 3, 4, 5, 6, 7, 8] rfl)
  · rw [if_neg c9] at h
    refine lv_iload hx hb dX2_valueOf_144 (lv_at hl 7 rfl) ?_
    refine lv_iconst (v := 1) hx hb dX2_valueOf_146 (by decide) ?_
    refine lv_icmp_ne (tgt := 178) hx hb dX2_valueOf_147 (by decide) (fun c9 => ?_) (fun c9 => ?_)
    · rw [if_neg c9] at h
      refine lv_iload hx hb dX2_valueOf_178 (lv_at hl 7 rfl) ?_
      refine lv_bipush (v := 10) hx hb dX2_valueOf_180 (by decide) ?_
      refine lv_icmp_ne (tgt := 208) hx hb dX2_valueOf_182 (by decide) (fun c9 => ?_) (fun c9 => ?_)
      · rw [if_neg c9] at h
        refine lv_iload hx hb dX2_valueOf_208 (lv_at hl 7 rfl) ?_
        refine lv_bipush (v := 11) hx hb dX2_valueOf_210 (by decide) ?_
        refine lv_icmp_eq (tgt := 222) hx hb dX2_valueOf_212 (by decide) (fun c9 => ?_) (fun c9 => ?_)
        · rw [if_pos c9] at h
          exact WX2_valueOf_s18_l_s21_222 C0 hk32 _ _ _ _ _ _ _ _ _ _ _ h hP hD hS (lv_sub hl [0, 1, 2, 3, 4, 5, 6, 7, 8] rfl)
        · rw [if_neg c9] at h
          refine lv_iload hx hb dX2_valueOf_215 (lv_at hl 7 rfl) ?_
          refine lv_bipush (v := 12) hx hb dX2_valueOf_217 (by decide) ?_
          refine lv_icmp_ne (tgt := 286) hx hb dX2_valueOf_219 (by decide) (fun c9 => ?_) (fun c9 => ?_)
          · rw [if_neg c9] at h
            refine lv_iinc (v := x5 + (-1)) (lv' := [(5, .int (x5 + (-1))), (0, .ref (ad 18)), (1, .ref (ad (63 + 7 * dLi x1))), (4, .ref (ad 21)), (6, .int x6), (7, .int x7), (8, .int x8), (9, .int x9), (10, .int x10)]) hx hb dX2_valueOf_286 hl (k := 3) rfl rfl (by decide) rfl (fun ls hl => ?_)
            refine lv_aload_n hx hb dX2_valueOf_289 rfl (lv_at hl 1 rfl) ?_
            refine va_get (D := D) (ci := 2) (v := .ref (ad 19)) (C := RX2) (T := TX2) (N := 2) hx hb hts u9_wsX2_valueOf_X2 hown hK hP 18 rfl rfl 0 (by decide) (hts (.fieldLink RX2 9 "TurnedFloors$Machine" "stack" "[I") f9_wsX2_valueOf_387) (fun _ h9 => h9) rfl dX2_valueOf_290 ?_
            refine lv_iload hx hb dX2_valueOf_293 (lv_at hl 0 rfl) ?_
            refine lv_iconst (v := 1) hx hb dX2_valueOf_295 (by decide) ?_
            refine lv_isub hx hb dX2_valueOf_296 ?_
            refine lv_aload_n hx hb dX2_valueOf_297 rfl (lv_at hl 1 rfl) ?_
            refine lv_iload hx hb dX2_valueOf_298 (lv_at hl 7 rfl) ?_
            refine lv_aload_n hx hb dX2_valueOf_300 rfl (lv_at hl 1 rfl) ?_
            refine va_get (D := D) (ci := 2) (v := .ref (ad 19)) (C := RX2) (T := TX2) (N := 2) hx hb hts u9_wsX2_valueOf_X2 hown hK hP 18 rfl rfl 0 (by decide) (hts (.fieldLink RX2 9 "TurnedFloors$Machine" "stack" "[I") f9_wsX2_valueOf_387) (fun _ h9 => h9) rfl dX2_valueOf_301 ?_
            refine lv_iload hx hb dX2_valueOf_304 (lv_at hl 0 rfl) ?_
            refine lv_iconst (v := 1) hx hb dX2_valueOf_306 (by decide) ?_
            refine lv_isub hx hb dX2_valueOf_307 ?_
            obtain ⟨g1, h⟩ := dG_some h
            refine va_iald hx hb hK hP 19 0 rfl rfl (dg_in g1) dX2_valueOf_308 ?_
            obtain ⟨v2, ev2, h⟩ := dL_some h
            refine kz_topi v2 ev2 ?_
            refine lv_i2l (v := Int32.toInt64 v2) hx hb dX2_valueOf_309 rfl ?_
            refine lv_aload_n hx hb dX2_valueOf_310 rfl (lv_at hl 1 rfl) ?_
            refine va_get (D := D) (ci := 2) (v := .ref (ad 19)) (C := RX2) (T := TX2) (N := 2) hx hb hts u9_wsX2_valueOf_X2 hown hK hP 18 rfl rfl 0 (by decide) (hts (.fieldLink RX2 9 "TurnedFloors$Machine" "stack" "[I") f9_wsX2_valueOf_387) (fun _ h9 => h9) rfl dX2_valueOf_311 ?_
            refine lv_iload hx hb dX2_valueOf_314 (lv_at hl 0 rfl) ?_
            obtain ⟨g3, h⟩ := dG_some h
            refine va_iald hx hb hK hP 19 0 rfl rfl (dg_in g3) dX2_valueOf_316 ?_
            obtain ⟨v4, ev4, h⟩ := dL_some h
            refine kz_topi v4 ev4 ?_
            refine lv_i2l (v := Int32.toInt64 v4) hx hb dX2_valueOf_317 rfl ?_
            obtain ⟨r5, q7, h6, h⟩ := dB_some h
            refine dw_ki (va_runV (As := [.int x9, .long (Int32.toInt64 v2), .long (Int32.toInt64 v4)]) (rest := [.int ((x5 + (-1)) - 1 : Int32), .ref (ad 19)]) ⟨hx, hb, hml, hown, hts⟩ (qX2_join_s18 l D ty eo _ ad q x9 (Int32.toInt64 v2) (Int32.toInt64 v4) r5 q7 h6) (cwV 3 hts gX2_valueOf_X2_join rfl rfl rfl (by decide +kernel) ⟨Nat.le_of_ble_eq_true rfl, Nat.le_of_ble_eq_true rfl⟩) (dw_preV (ci := 2) (q0 := 18) hK hN hE hP hD hS hA rfl rfl) rfl rfl hl.1 rfl (lv_room (Nat.le_of_ble_eq_true rfl)) dX2_valueOf_318 ⟨Nat.le_of_ble_eq_true rfl, Nat.le_of_ble_eq_true rfl⟩) hD hS hA (fun r9 u9 H locs hw hp hd hs => ?_)
            clear hP hD hS
            obtain ⟨rfl, rfl⟩ := hw
            have hP := hp; have hD := hd; have hS := hs; clear hp hd hs
            obtain ⟨g8, h⟩ := dG_some h
            refine va_iast hx hb hK hP hD hS 19 0 rfl rfl (dg_in g8) dX2_valueOf_321 (fun H locs hp hd hs => ?_)
            obtain ⟨q9, eq9, h⟩ := dL_some h
            refine kz_re (w2 := wF ty ad q9) hp hd hs (by rw [← eq9]; exact wF_a19 ty ad q7 (Int32.toNatClampNeg ((x5 + (-1)) - 1 : Int32)) r5) ?_
            clear hp hd hs hP hD hS
            intro hP hD hS
            exact WX2_valueOf_s18_l_s21_322 C0 hk32 _ _ _ _ _ _ _ _ _ h hP hD hS (lv_sub hl [1, 2, 3, 0, 4, 5, 6] rfl)
          · rw [if_pos c9] at h
            exact WX2_valueOf_s18_l_s21_222 C0 hk32 _ _ _ _ _ _ _ _ _ _ _ h hP hD hS (lv_sub hl [0, 1, 2, 3, 4, 5, 6, 7, 8] rfl)
      · rw [if_pos c9] at h
        refine lv_aload_n hx hb dX2_valueOf_185 rfl (lv_at hl 0 rfl) ?_
        refine va_get (D := D) (ci := 2) (v := .ref (ad 19)) (C := RX2) (T := TX2) (N := 2) hx hb hts u9_wsX2_valueOf_X2 hown hK hP 18 rfl rfl 0 (by decide) (hts (.fieldLink RX2 9 "TurnedFloors$Machine" "stack" "[I") f9_wsX2_valueOf_387) (fun _ h9 => h9) rfl dX2_valueOf_186 ?_
        refine lv_iload hx hb dX2_valueOf_189 (lv_at hl 3 rfl) ?_
        refine lv_iconst (v := 1) hx hb dX2_valueOf_191 (by decide) ?_
        refine lv_isub hx hb dX2_valueOf_192 ?_
        refine lv_iconst (v := 1) hx hb dX2_valueOf_193 (by decide) ?_
        refine lv_aload_n hx hb dX2_valueOf_194 rfl (lv_at hl 0 rfl) ?_
        refine va_get (D := D) (ci := 2) (v := .ref (ad 19)) (C := RX2) (T := TX2) (N := 2) hx hb hts u9_wsX2_valueOf_X2 hown hK hP 18 rfl rfl 0 (by decide) (hts (.fieldLink RX2 9 "TurnedFloors$Machine" "stack" "[I") f9_wsX2_valueOf_387) (fun _ h9 => h9) rfl dX2_valueOf_195 ?_
        refine lv_iload hx hb dX2_valueOf_198 (lv_at hl 3 rfl) ?_
        refine lv_iconst (v := 1) hx hb dX2_valueOf_200 (by decide) ?_
        refine lv_isub hx hb dX2_valueOf_201 ?_
        obtain ⟨g10, h⟩ := dG_some h
        refine va_iald hx hb hK hP 19 0 rfl rfl (dg_in g10) dX2_valueOf_202 ?_
        obtain ⟨v11, ev11, h⟩ := dL_some h
        refine kz_topi v11 ev11 ?_
        refine lv_isub hx hb dX2_valueOf_203 ?_
        obtain ⟨g12, h⟩ := dG_some h
        refine va_iast hx hb hK hP hD hS 19 0 rfl rfl (dg_in g12) dX2_valueOf_204 (fun H locs hp hd hs => ?_)
        obtain ⟨q13, eq13, h⟩ := dL_some h
        refine kz_re (w2 := wF ty ad q13) hp hd hs (by rw [← eq13]; exact wF_a19 ty ad q (Int32.toNatClampNeg (x5 - 1 : Int32)) (1 - v11 : Int32)) ?_
        clear hp hd hs hP hD hS
        intro hP hD hS
        refine lv_goto (tgt := 322) hx hb dX2_valueOf_205 (by decide) ?_
        exact WX2_valueOf_s18_l_s21_322 C0 hk32 _ _ _ _ _ _ _ _ _ h hP hD hS (lv_sub hl [0, 1, 2, 3, 4, 5, 6] rfl)
    · rw [if_pos c9] at h
      exact WX2_valueOf_s18_l_s21_150 C0 hk32 _ _ _ _ _ _ _ _ _ _ _ h hP hD hS (lv_sub hl [0, 1, 2, 3, 4, 5, 6, 7, 8] rfl)
set_option maxHeartbeats 4000000 in
set_option maxRecDepth 100000 in
theorem WX2_valueOf_s18_l_s21_131 {p : Program} {l : Launch} {e : Env} {s : State} {m : MethodId} {args : Array Value} {below : List Frame} {meth : Method} {c : Code} {D : va_G} {ty : Nat → ClassId} {eo : Nat → Nat} {A : Nat → Prop} {ad : Nat → Nat} {o1 : Int32} {o2 : dK} (C : dc_C p s m args meth c cX2_valueOf (some .int) 13 RX2 wsX2_valueOf D ty eo A) {k32 : dK → Int32 → Int32 → Int32 → Int32 → Int32 → Option (Int32 × dK)} (hk32 : ∀ (q : dK) (x1 : Int32) (x5 : Int32) (x6 : Int32) (x7 : Int32) (x8 : Int32) (H : Heap) (locs : List Loc) (ls : Array Slot), k32 q x1 x5 x6 x7 x8 = some (o1, o2) → va_P D vwCl (wF ty ad q) H → va_D A (wF ty ad q) → va_S A s.heap H locs → lv_has ls 13 [(0, .ref (ad 18)), (1, .ref (ad (63 + 7 * dLi x1))), (4, .ref (ad 21)), (5, .int x5), (6, .int x6), (7, .int x7), (8, .int x8)] → W p l e ({ frames := 1, cells := 0, slots := 0, locals := 27 } : Room) s m args below meth c H locs 0 0 (MQ below (va_Qi (fun (r : Int32) (u : va_W) => o1 = r ∧ wF ty ad o2 = u) (kz_B D ty A) A) args s 0 0 A) (F0 m 32 ls [])) (q : dK) (x1 : Int32) (x5 : Int32) (x6 : Int32) (x7 : Int32) (x8 : Int32) (H : Heap) (locs : List Loc) (ls : Array Slot) (h : zX2_valueOf_s18_l_s21_131 k32 q x1 x5 x6 x7 x8 = some (o1, o2)) (hP : va_P D vwCl (wF ty ad q) H) (hD : va_D A (wF ty ad q)) (hS : va_S A s.heap H locs) (hl : lv_has ls 13 [(0, .ref (ad 18)), (1, .ref (ad (63 + 7 * dLi x1))), (4, .ref (ad 21)), (5, .int x5), (6, .int x6), (7, .int x7), (8, .int x8)]) : W p l e ({ frames := 1, cells := 0, slots := 0, locals := 27 } : Room) s m args below meth c H locs 0 0 (MQ below (va_Qi (fun (r : Int32) (u : va_W) => o1 = r ∧ wF ty ad o2 = u) (kz_B D ty A) A) args s 0 0 A) (F0 m 131 ls []) := by
  have C0 := C
  obtain ⟨hx, hb, hr, hts, hown, hlocks, hml, hK, hN, hE, hA⟩ := C
  unfold zX2_valueOf_s18_l_s21_131 at h
  refine lv_aload_n hx hb dX2_valueOf_131 rfl (lv_at hl 0 rfl) ?_
  refine lv_iconst (v := 1) hx hb dX2_valueOf_132 (by decide) ?_
  refine va_put (D := D) (ci := 2) (v := .int 1) (ty := .boolean) (C := RX2) (T := TX2) (N := 2) hx hb hts u9_wsX2_valueOf_X2 tyX2 tyX2_ok nmX2 hown hK hP hD hS 18 rfl rfl 1 (by decide) (hts (.fieldLink RX2 13 "TurnedFloors$Machine" "broken" "Z") f9_wsX2_valueOf_386) (fun _ h9 => h9) rfl (by decide +kernel) rfl rfl (Nat.le_of_ble_eq_true rfl) dX2_valueOf_133 (fun H locs hp hd hs => ?_)
  obtain ⟨q1, eq1, h⟩ := dL_some h
  refine kz_re (w2 := wF ty ad q1) hp hd hs (by rw [← eq1]; exact wF_f18_1 ty ad q 1) ?_
  clear hp hd hs hP hD hS
  intro hP hD hS
  refine lv_goto (tgt := 322) hx hb dX2_valueOf_136 (by decide) ?_
  exact WX2_valueOf_s18_l_s21_322 C0 hk32 _ _ _ _ _ _ _ _ _ h hP hD hS (lv_sub hl [0, 1, 2, 3, 4, 5, 6] rfl)
set_option maxHeartbeats 4000000 in
set_option maxRecDepth 100000 in
theorem WX2_valueOf_s18_l_s21_98 {p : Program} {l : Launch} {e : Env} {s : State} {m : MethodId} {args : Array Value} {below : List Frame} {meth : Method} {c : Code} {D : va_G} {ty : Nat → ClassId} {eo : Nat → Nat} {A : Nat → Prop} {ad : Nat → Nat} {o1 : Int32} {o2 : dK} (C : dc_C p s m args meth c cX2_valueOf (some .int) 13 RX2 wsX2_valueOf D ty eo A) {k32 : dK → Int32 → Int32 → Int32 → Int32 → Int32 → Option (Int32 × dK)} (hk32 : ∀ (q : dK) (x1 : Int32) (x5 : Int32) (x6 : Int32) (x7 : Int32) (x8 : Int32) (H : Heap) (locs : List Loc) (ls : Array Slot), k32 q x1 x5 x6 x7 x8 = some (o1, o2) → va_P D vwCl (wF ty ad q) H → va_D A (wF ty ad q) → va_S A s.heap H locs → lv_has ls 13 [(0, .ref (ad 18)), (1, .ref (ad (63 + 7 * dLi x1))), (4, .ref (ad 21)), (5, .int x5), (6, .int x6), (7, .int x7), (8, .int x8)] → W p l e ({ frames := 1, cells := 0, slots := 0, locals := 27 } : Room) s m args below meth c H locs 0 0 (MQ below (va_Qi (fun (r : Int32) (u : va_W) => o1 = r ∧ wF ty ad o2 = u) (kz_B D ty A) A) args s 0 0 A) (F0 m 32 ls [])) (q : dK) (x1 : Int32) (x5 : Int32) (x6 : Int32) (x7 : Int32) (x8 : Int32) (x9 : Int32) (x10 : Int32) (y0 : Int32) (H : Heap) (locs : List Loc) (ls : Array Slot) (h : zX2_valueOf_s18_l_s21_98 k32 q x1 x5 x6 x7 x8 x9 x10 y0 = some (o1, o2)) (hP : va_P D vwCl (wF ty ad q) H) (hD : va_D A (wF ty ad q)) (hS : va_S A s.heap H locs) (hl : lv_has ls 13 [(0, .ref (ad 18)), (1, .ref (ad (63 + 7 * dLi x1))), (4, .ref (ad 21)), (5, .int x5), (6, .int x6), (7, .int x7), (8, .int x8), (9, .int x9), (10, .int x10)]) : W p l e ({ frames := 1, cells := 0, slots := 0, locals := 27 } : Room) s m args below meth c H locs 0 0 (MQ below (va_Qi (fun (r : Int32) (u : va_W) => o1 = r ∧ wF ty ad o2 = u) (kz_B D ty A) A) args s 0 0 A) (F0 m 98 ls [.int y0]) := by
  have C0 := C
  obtain ⟨hx, hb, hr, hts, hown, hlocks, hml, hK, hN, hE, hA⟩ := C
  unfold zX2_valueOf_s18_l_s21_98 at h
  refine lv_istore (lv' := [(11, .int y0), (0, .ref (ad 18)), (1, .ref (ad (63 + 7 * dLi x1))), (4, .ref (ad 21)), (5, .int x5), (6, .int x6), (7, .int x7), (8, .int x8), (9, .int x9), (10, .int x10)]) hx hb dX2_valueOf_98 hl (by decide) rfl (fun ls hl => ?_)
  refine lv_iinc (v := x6 + 1) (lv' := [(6, .int (x6 + 1)), (11, .int y0), (0, .ref (ad 18)), (1, .ref (ad (63 + 7 * dLi x1))), (4, .ref (ad 21)), (5, .int x5), (7, .int x7), (8, .int x8), (9, .int x9), (10, .int x10)]) hx hb dX2_valueOf_100 hl (k := 5) rfl rfl (by decide) rfl (fun ls hl => ?_)
  refine lv_iload hx hb dX2_valueOf_103 (lv_at hl 5 rfl) ?_
  refine lv_iload hx hb dX2_valueOf_105 (lv_at hl 1 rfl) ?_
  refine lv_icmp_lt (tgt := 131) hx hb dX2_valueOf_107 (by decide) (fun c9 => ?_) (fun c9 => ?_)
  · rw [if_pos c9] at h
    exact WX2_valueOf_s18_l_s21_131 C0 hk32 _ _ _ _ _ _ _ _ _ h hP hD hS (lv_sub hl [2, 3, 4, 5, 0, 6, 7] rfl)
  · rw [if_neg c9] at h
    refine lv_iload hx hb dX2_valueOf_110 (lv_at hl 5 rfl) ?_
    refine lv_bipush (v := 64) hx hb dX2_valueOf_112 (by decide) ?_
    refine lv_icmp_ge (tgt := 131) hx hb dX2_valueOf_114 (by decide) (fun c9 => ?_) (fun c9 => ?_)
    · rw [if_pos c9] at h
      exact WX2_valueOf_s18_l_s21_131 C0 hk32 _ _ _ _ _ _ _ _ _ h hP hD hS (lv_sub hl [2, 3, 4, 5, 0, 6, 7] rfl)
    · rw [if_neg c9] at h
      refine lv_iload hx hb dX2_valueOf_117 (lv_at hl 8 rfl) ?_
      refine lv_iconst (v := 1) hx hb dX2_valueOf_119 (by decide) ?_
      refine lv_icmp_ne (tgt := 139) hx hb dX2_valueOf_120 (by decide) (fun c9 => ?_) (fun c9 => ?_)
      · rw [if_neg c9] at h
        exact WX2_valueOf_s18_l_s21_139 C0 hk32 _ _ _ _ _ _ _ _ _ _ _ h hP hD hS (lv_sub hl [2, 3, 4, 5, 0, 6, 7, 8, 9] rfl)
      · rw [if_pos c9] at h
        refine lv_iload hx hb dX2_valueOf_123 (lv_at hl 9 rfl) ?_
        refine lv_aload hx hb dX2_valueOf_125 (lv_at hl 4 rfl) ?_
        refine va_alen (v := 9) hx hb hK hP 21 0 rfl rfl rfl dX2_valueOf_127 ?_
        refine lv_icmp_lt (tgt := 139) hx hb dX2_valueOf_128 (by decide) (fun c9 => ?_) (fun c9 => ?_)
        · rw [if_pos c9] at h
          exact WX2_valueOf_s18_l_s21_139 C0 hk32 _ _ _ _ _ _ _ _ _ _ _ h hP hD hS (lv_sub hl [2, 3, 4, 5, 0, 6, 7, 8, 9] rfl)
        · rw [if_neg c9] at h
          exact WX2_valueOf_s18_l_s21_131 C0 hk32 _ _ _ _ _ _ _ _ _ h hP hD hS (lv_sub hl [2, 3, 4, 5, 0, 6, 7] rfl)
set_option maxHeartbeats 4000000 in
set_option maxRecDepth 100000 in
theorem WX2_valueOf_s18_l_s21_32b {p : Program} {l : Launch} {e : Env} {s : State} {m : MethodId} {args : Array Value} {below : List Frame} {meth : Method} {c : Code} {D : va_G} {ty : Nat → ClassId} {eo : Nat → Nat} {A : Nat → Prop} {ad : Nat → Nat} {o1 : Int32} {o2 : dK} (C : dc_C p s m args meth c cX2_valueOf (some .int) 13 RX2 wsX2_valueOf D ty eo A) {k32 : dK → Int32 → Int32 → Int32 → Int32 → Int32 → Option (Int32 × dK)} (hk32 : ∀ (q : dK) (x1 : Int32) (x5 : Int32) (x6 : Int32) (x7 : Int32) (x8 : Int32) (H : Heap) (locs : List Loc) (ls : Array Slot), k32 q x1 x5 x6 x7 x8 = some (o1, o2) → va_P D vwCl (wF ty ad q) H → va_D A (wF ty ad q) → va_S A s.heap H locs → lv_has ls 13 [(0, .ref (ad 18)), (1, .ref (ad (63 + 7 * dLi x1))), (4, .ref (ad 21)), (5, .int x5), (6, .int x6), (7, .int x7), (8, .int x8)] → W p l e ({ frames := 1, cells := 0, slots := 0, locals := 27 } : Room) s m args below meth c H locs 0 0 (MQ below (va_Qi (fun (r : Int32) (u : va_W) => o1 = r ∧ wF ty ad o2 = u) (kz_B D ty A) A) args s 0 0 A) (F0 m 32 ls [])) (q : dK) (x1 : Int32) (x5 : Int32) (x6 : Int32) (x7 : Int32) (x8 : Int32) (H : Heap) (locs : List Loc) (ls : Array Slot) (h : zX2_valueOf_s18_l_s21_32b k32 q x1 x5 x6 x7 x8 = some (o1, o2)) (hP : va_P D vwCl (wF ty ad q) H) (hD : va_D A (wF ty ad q)) (hS : va_S A s.heap H locs) (hl : lv_has ls 13 [(0, .ref (ad 18)), (1, .ref (ad (63 + 7 * dLi x1))), (4, .ref (ad 21)), (5, .int x5), (6, .int x6), (7, .int x7), (8, .int x8)]) : W p l e ({ frames := 1, cells := 0, slots := 0, locals := 27 } : Room) s m args below meth c H locs 0 0 (MQ below (va_Qi (fun (r : Int32) (u : va_W) => o1 = r ∧ wF ty ad o2 = u) (kz_B D ty A) A) args s 0 0 A) (F0 m 32 ls []) := by
  have C0 := C
  obtain ⟨hx, hb, hr, hts, hown, hlocks, hml, hK, hN, hE, hA⟩ := C
  unfold zX2_valueOf_s18_l_s21_32b at h
  refine lv_iload hx hb dX2_valueOf_32 (lv_at hl 6 rfl) ?_
  refine lv_iload hx hb dX2_valueOf_34 (lv_at hl 5 rfl) ?_
  refine lv_icmp_ge (tgt := 328) hx hb dX2_valueOf_36 (by decide) (fun c9 => ?_) (fun c9 => ?_)
  · rw [if_pos c9] at h
    exact WX2_valueOf_s18_l_s21_328 C0  _ _ _ _ h hP hD hS (lv_sub hl [0] rfl)
  · rw [if_neg c9] at h
    refine lv_iload hx hb dX2_valueOf_39 (lv_at hl 4 rfl) ?_
    refine lv_iload hx hb dX2_valueOf_41 (lv_at hl 5 rfl) ?_
    refine lv_icmp_ge (tgt := 328) hx hb dX2_valueOf_43 (by decide) (fun c9 => ?_) (fun c9 => ?_)
    · rw [if_pos c9] at h
      exact WX2_valueOf_s18_l_s21_328 C0  _ _ _ _ h hP hD hS (lv_sub hl [0] rfl)
    · rw [if_neg c9] at h
      refine lv_aload_n hx hb dX2_valueOf_46 rfl (lv_at hl 0 rfl) ?_
      refine va_get (D := D) (ci := 2) (v := .int (q.1 18 1)) (C := RX2) (T := TX2) (N := 2) hx hb hts u9_wsX2_valueOf_X2 hown hK hP 18 rfl rfl 1 (by decide) (hts (.fieldLink RX2 13 "TurnedFloors$Machine" "broken" "Z") f9_wsX2_valueOf_386) (fun _ h9 => h9) rfl dX2_valueOf_47 ?_
      refine lv_if_ne (tgt := 328) hx hb dX2_valueOf_50 (by decide) (fun c9 => ?_) (fun c9 => ?_)
      · rw [if_neg c9] at h
        exact WX2_valueOf_s18_l_s21_328 C0  _ _ _ _ h hP hD hS (lv_sub hl [0] rfl)
      · rw [if_pos c9] at h
        refine lv_aload_n hx hb dX2_valueOf_53 rfl (lv_at hl 1 rfl) ?_
        obtain ⟨g1, h⟩ := dG_some h
        refine va_getN (D := D) (ci := 7) (v := .ref (ad (63 + 7 * dLi x1 + 6))) (C := RX7) (T := TX7) (N := 8) hx hb hts u9_wsX2_valueOf_X7 hown hK hP _ (lw_o g1) rfl 5 (by decide) (hN.use (.fieldLinkNest "TurnedFloors$Machine" 17 "TurnedFloors$Text" "code" "[I" "TurnedFloors") (by decide +kernel)) (fun _ h9 => h9) rfl dX2_valueOf_54 ?_
        refine lv_iload hx hb dX2_valueOf_57 (lv_at hl 4 rfl) ?_
        obtain ⟨g2, h⟩ := dG_some h
        obtain ⟨g3, h⟩ := dG_some h
        refine va_iald hx hb hK hP _ 0 (lw_a6 g2) rfl (dg_in g3) dX2_valueOf_59 ?_
        obtain ⟨v4, ev4, h⟩ := dL_some h
        refine kz_topi v4 ev4 ?_
        refine lv_bipush (v := 15) hx hb dX2_valueOf_60 (by decide) ?_
        refine lv_iand hx hb dX2_valueOf_62 ?_
        refine lv_istore (lv' := [(9, .int (v4 &&& 15 : Int32)), (0, .ref (ad 18)), (1, .ref (ad (63 + 7 * dLi x1))), (4, .ref (ad 21)), (5, .int x5), (6, .int x6), (7, .int x7), (8, .int x8)]) hx hb dX2_valueOf_63 hl (by decide) rfl (fun ls hl => ?_)
        refine lv_aload_n hx hb dX2_valueOf_65 rfl (lv_at hl 2 rfl) ?_
        obtain ⟨g5, h⟩ := dG_some h
        refine va_getN (D := D) (ci := 7) (v := .ref (ad (63 + 7 * dLi x1 + 6))) (C := RX7) (T := TX7) (N := 8) hx hb hts u9_wsX2_valueOf_X7 hown hK hP _ (lw_o g5) rfl 5 (by decide) (hN.use (.fieldLinkNest "TurnedFloors$Machine" 17 "TurnedFloors$Text" "code" "[I" "TurnedFloors") (by decide +kernel)) (fun _ h9 => h9) rfl dX2_valueOf_66 ?_
        refine lv_iload hx hb dX2_valueOf_69 (lv_at hl 5 rfl) ?_
        obtain ⟨g6, h⟩ := dG_some h
        obtain ⟨g7, h⟩ := dG_some h
        refine va_iald hx hb hK hP _ 0 (lw_a6 g6) rfl (dg_in g7) dX2_valueOf_71 ?_
        obtain ⟨v8, ev8, h⟩ := dL_some h
        refine kz_topi v8 ev8 ?_
        refine lv_iconst (v := 4) hx hb dX2_valueOf_72 (by decide) ?_
        refine lv_ishr hx hb dX2_valueOf_73 ?_
        refine lv_istore (lv' := [(10, .int (v8 >>> ((4 : Int32) &&& 31) : Int32)), (9, .int (v4 &&& 15 : Int32)), (0, .ref (ad 18)), (1, .ref (ad (63 + 7 * dLi x1))), (4, .ref (ad 21)), (5, .int x5), (6, .int x6), (7, .int x7), (8, .int x8)]) hx hb dX2_valueOf_74 hl (by decide) rfl (fun ls hl => ?_)
        refine lv_iload hx hb dX2_valueOf_76 (lv_at hl 1 rfl) ?_
        refine lv_iconst (v := 1) hx hb dX2_valueOf_78 (by decide) ?_
        refine lv_icmp_gt (tgt := 86) hx hb dX2_valueOf_79 (by decide) (fun c9 => ?_) (fun c9 => ?_)
        · rw [if_pos c9] at h
          refine lv_iload hx hb dX2_valueOf_86 (lv_at hl 1 rfl) ?_
          refine lv_bipush (v := 10) hx hb dX2_valueOf_88 (by decide) ?_
          refine lv_icmp_ge (tgt := 97) hx hb dX2_valueOf_90 (by decide) (fun c9 => ?_) (fun c9 => ?_)
          · rw [if_pos c9] at h
            refine lv_iconst (v := 1) hx hb dX2_valueOf_97 (by decide) ?_
            exact WX2_valueOf_s18_l_s21_98 C0 hk32 _ _ _ _ _ _ _ _ _ _ _ _ h hP hD hS (lv_sub hl [2, 3, 4, 5, 6, 7, 8, 1, 0] rfl)
          · rw [if_neg c9] at h
            refine lv_iconst (v := 2) hx hb dX2_valueOf_93 (by decide) ?_
            refine lv_goto (tgt := 98) hx hb dX2_valueOf_94 (by decide) ?_
            exact WX2_valueOf_s18_l_s21_98 C0 hk32 _ _ _ _ _ _ _ _ _ _ _ _ h hP hD hS (lv_sub hl [2, 3, 4, 5, 6, 7, 8, 1, 0] rfl)
        · rw [if_neg c9] at h
          refine lv_iconst (v := 0) hx hb dX2_valueOf_82 (by decide) ?_
          refine lv_goto (tgt := 98) hx hb dX2_valueOf_83 (by decide) ?_
          exact WX2_valueOf_s18_l_s21_98 C0 hk32 _ _ _ _ _ _ _ _ _ _ _ _ h hP hD hS (lv_sub hl [2, 3, 4, 5, 6, 7, 8, 1, 0] rfl)
set_option maxHeartbeats 4000000 in
set_option maxRecDepth 100000 in
theorem WX2_valueOf_s18_l_s21_32 {p : Program} {l : Launch} {e : Env} {s : State} {m : MethodId} {args : Array Value} {below : List Frame} {meth : Method} {c : Code} {D : va_G} {ty : Nat → ClassId} {eo : Nat → Nat} {A : Nat → Prop} {ad : Nat → Nat} {o1 : Int32} {o2 : dK} (C : dc_C p s m args meth c cX2_valueOf (some .int) 13 RX2 wsX2_valueOf D ty eo A)   (n : Nat) (q : dK) (x1 : Int32) (x5 : Int32) (x6 : Int32) (x7 : Int32) (x8 : Int32) (H : Heap) (locs : List Loc) (ls : Array Slot) (h : zX2_valueOf_s18_l_s21_32  n q x1 x5 x6 x7 x8 = some (o1, o2)) (hP : va_P D vwCl (wF ty ad q) H) (hD : va_D A (wF ty ad q)) (hS : va_S A s.heap H locs) (hl : lv_has ls 13 [(0, .ref (ad 18)), (1, .ref (ad (63 + 7 * dLi x1))), (4, .ref (ad 21)), (5, .int x5), (6, .int x6), (7, .int x7), (8, .int x8)]) : W p l e ({ frames := 1, cells := 0, slots := 0, locals := 27 } : Room) s m args below meth c H locs 0 0 (MQ below (va_Qi (fun (r : Int32) (u : va_W) => o1 = r ∧ wF ty ad o2 = u) (kz_B D ty A) A) args s 0 0 A) (F0 m 32 ls []) := by
  exact dFix_W (F := fun k (a : dK × Int32 × Int32 × Int32 × Int32 × Int32) => zX2_valueOf_s18_l_s21_32b  (fun q x1 x5 x6 x7 x8 => k (q, x1, x5, x6, x7, x8)) a.1 a.2.1 a.2.2.1 a.2.2.2.1 a.2.2.2.2.1 a.2.2.2.2.2) (o := (o1, o2)) (P := fun (a : dK × Int32 × Int32 × Int32 × Int32 × Int32) H locs ls => va_P D vwCl (wF ty ad a.1) H ∧ va_D A (wF ty ad a.1) ∧ va_S A s.heap H locs ∧ lv_has ls 13 [(0, .ref (ad 18)), (1, .ref (ad (63 + 7 * dLi a.2.1))), (4, .ref (ad 21)), (5, .int a.2.2.1), (6, .int a.2.2.2.1), (7, .int a.2.2.2.2.1), (8, .int a.2.2.2.2.2)]) (G := fun H locs ls => W p l e ({ frames := 1, cells := 0, slots := 0, locals := 27 } : Room) s m args below meth c H locs 0 0 (MQ below (va_Qi (fun (r : Int32) (u : va_W) => o1 = r ∧ wF ty ad o2 = u) (kz_B D ty A) A) args s 0 0 A) (F0 m 32 ls []))
    (fun k hk a H locs ls h hp => WX2_valueOf_s18_l_s21_32b C  (fun q x1 x5 x6 x7 x8 H locs ls h h1 h2 h3 h4 => hk (q, x1, x5, x6, x7, x8) H locs ls h ⟨h1, h2, h3, h4⟩) a.1 a.2.1 a.2.2.1 a.2.2.2.1 a.2.2.2.2.1 a.2.2.2.2.2 H locs ls h hp.1 hp.2.1 hp.2.2.1 hp.2.2.2) n (q, x1, x5, x6, x7, x8) H locs ls h ⟨hP, hD, hS, hl⟩
set_option maxHeartbeats 4000000 in
set_option maxRecDepth 100000 in
theorem qX2_valueOf_s18_l_s21 (l : Launch) (D : va_G) (ty : Nat → ClassId) (eo : Nat → Nat) (sz : Nat) (ad : Nat → Nat) (q : dK) (p1 : Int32) (p2 : Int32) (p3 : Int32) (o1 : Int32) (o2 : dK) (h : zX2_valueOf_s18_l_s21 q p1 p2 p3 = some (o1, o2)) : Met l yX2_valueOf wsX2_valueOf ({ frames := 1, cells := 0, slots := 0, locals := 27 } : Room) (va_Pc [.ref (ad 18), .ref (ad (63 + 7 * dLi p1)), .int p2, .int p3, .ref (ad 21)] (kz_pre D ty eo (wF ty ad q) sz)) (va_Qi (fun (r : Int32) (u : va_W) => o1 = r ∧ wF ty ad o2 = u) (kz_B D ty (va_A (wF ty ad q) sz)) (va_A (wF ty ad q) sz)) 0 0 (va_A (wF ty ad q) sz) := by
  refine Met.ofW (cc := cX2_valueOf) (maxL := 13) (ret := (some .int)) (by decide) rfl ?_
  intro p e s m args below meth c s₁ B hml hv
  obtain ⟨rfl, hsz, hP, hK, hD0, hN, hE⟩ := hv
  have hx := B.exec
  have hb := B.bytes
  have hr := B.returns
  have hts := atoms_spec (ws := wsX2_valueOf) B.pre
  have hown : s.vm.findClass RX2 = some m.cls := findClass_of_methodNamed B.named
  have hlocks := B.notSynchronized
  subst hsz
  have hD := hD0.self (sz := s.heap.size)
  generalize hAe : va_A (wF ty ad q) s.heap.size = A at hD hE ⊢
  have hA : ∀ q : Nat, s.heap.size ≤ q → A q := fun q h => by rw [← hAe]; exact Or.inr h
  clear hAe
  have hS : va_S A s.heap s.heap [] := va_S.rf
  have hl := lv_entry ([.ref (ad 18), .ref (ad (63 + 7 * dLi p1)), .int p2, .int p3, .ref (ad 21)]) (n := 13) (Nat.le_of_ble_eq_true rfl)
  rw [lg_entry_eq]
  generalize (lg_sl ([.ref (ad 18), .ref (ad (63 + 7 * dLi p1)), .int p2, .int p3, .ref (ad 21)]) ++ List.replicate (13 - (lg_sl ([.ref (ad 18), .ref (ad (63 + 7 * dLi p1)), .int p2, .int p3, .ref (ad 21)])).length) Slot.unset).toArray = ls at hl ⊢
  have hl : lv_has ls 13 [(0, .ref (ad 18)), (1, .ref (ad (63 + 7 * dLi p1))), (2, .int p2), (3, .int p3), (4, .ref (ad 21))] := hl
  have C : dc_C p s m _ meth c cX2_valueOf (some .int) 13 RX2 wsX2_valueOf D ty eo A := ⟨hx, hb, hr, hts, hown, hlocks, hml, hK, hN, hE, hA⟩
  unfold zX2_valueOf_s18_l_s21 at h
  refine lv_aload_n hx hb dX2_valueOf_0 rfl (lv_at hl 0 rfl) ?_
  refine lv_iconst (v := 0) hx hb dX2_valueOf_1 (by decide) ?_
  refine va_put (D := D) (ci := 2) (v := .int 0) (ty := .boolean) (C := RX2) (T := TX2) (N := 2) hx hb hts u9_wsX2_valueOf_X2 tyX2 tyX2_ok nmX2 hown hK hP hD hS 18 rfl rfl 1 (by decide) (hts (.fieldLink RX2 13 "TurnedFloors$Machine" "broken" "Z") f9_wsX2_valueOf_386) (fun _ h9 => h9) rfl (by decide +kernel) rfl rfl (Nat.le_of_ble_eq_true rfl) dX2_valueOf_2 (fun H locs hp hd hs => ?_)
  obtain ⟨q1, eq1, h⟩ := dL_some h
  refine kz_re (w2 := wF ty ad q1) hp hd hs (by rw [← eq1]; exact wF_f18_1 ty ad q 0) ?_
  clear hp hd hs hP hD hS
  intro hP hD hS
  refine lv_aload_n hx hb dX2_valueOf_5 rfl (lv_at hl 0 rfl) ?_
  refine va_get (D := D) (ci := 2) (v := .ref (ad 19)) (C := RX2) (T := TX2) (N := 2) hx hb hts u9_wsX2_valueOf_X2 hown hK hP 18 rfl rfl 0 (by decide) (hts (.fieldLink RX2 9 "TurnedFloors$Machine" "stack" "[I") f9_wsX2_valueOf_387) (fun _ h9 => h9) rfl dX2_valueOf_6 ?_
  refine lv_iconst (v := 0) hx hb dX2_valueOf_9 (by decide) ?_
  refine lv_iconst (v := 1) hx hb dX2_valueOf_10 (by decide) ?_
  refine va_iast hx hb hK hP hD hS 19 0 rfl rfl (by simp only [vp_in]; decide) dX2_valueOf_11 (fun H locs hp hd hs => ?_)
  obtain ⟨q2, eq2, h⟩ := dL_some h
  refine kz_re (w2 := wF ty ad q2) hp hd hs (by rw [(by decide +kernel : Int32.toNatClampNeg 0 = 0), ← eq2]; exact wF_a19 ty ad q1 0 1) ?_
  clear hp hd hs hP hD hS
  intro hP hD hS
  refine lv_iconst (v := 0) hx hb dX2_valueOf_12 (by decide) ?_
  refine lv_istore (lv' := [(5, .int 0), (0, .ref (ad 18)), (1, .ref (ad (63 + 7 * dLi p1))), (2, .int p2), (3, .int p3), (4, .ref (ad 21))]) hx hb dX2_valueOf_13 hl (by decide) rfl (fun ls hl => ?_)
  refine lv_iload_n hx hb dX2_valueOf_15 rfl (lv_at hl 3 rfl) ?_
  refine lv_istore (lv' := [(6, .int p2), (5, .int 0), (0, .ref (ad 18)), (1, .ref (ad (63 + 7 * dLi p1))), (2, .int p2), (3, .int p3), (4, .ref (ad 21))]) hx hb dX2_valueOf_16 hl (by decide) rfl (fun ls hl => ?_)
  refine lv_iload_n hx hb dX2_valueOf_18 rfl (lv_at hl 5 rfl) ?_
  refine lv_aload_n hx hb dX2_valueOf_19 rfl (lv_at hl 3 rfl) ?_
  obtain ⟨g3, h⟩ := dG_some h
  refine va_getN (D := D) (ci := 7) (v := .ref (ad (63 + 7 * dLi p1 + 6))) (C := RX7) (T := TX7) (N := 8) hx hb hts u9_wsX2_valueOf_X7 hown hK hP _ (lw_o g3) rfl 5 (by decide) (hN.use (.fieldLinkNest "TurnedFloors$Machine" 17 "TurnedFloors$Text" "code" "[I" "TurnedFloors") (by decide +kernel)) (fun _ h9 => h9) rfl dX2_valueOf_20 ?_
  obtain ⟨g4, h⟩ := dG_some h
  refine va_alen (v := Int32.ofNat (Int32.toNatClampNeg (dTx q2 p1).2.2.2.1)) hx hb hK hP _ 0 (lw_a6 g4) rfl rfl dX2_valueOf_23 ?_
  refine va_mmin hx hb (hml.trans hl.1.symm) hown (hts (.methodLink RX2 22 Lib.Math.min.name) f9_wsX2_valueOf_389) (hts (.static Lib.Math.min.name) f9_wsX2_valueOf_390) (hts (.initialized "java/lang/Math") f9_wsX2_valueOf_391) (hts (.code Lib.Math.min.name Lib.Math.min.code 2 (some .int)) f9_wsX2_valueOf_392) (Nat.le_of_ble_eq_true rfl) (Nat.le_of_ble_eq_true rfl) (Nat.le_of_ble_eq_true rfl) (Nat.le_of_ble_eq_true rfl) dX2_valueOf_24 ?_
  refine kz_topi (mnI p3 (Int32.ofNat (Int32.toNatClampNeg (dTx q2 p1).2.2.2.1))) rfl ?_
  refine lv_istore (lv' := [(7, .int (mnI p3 (Int32.ofNat (Int32.toNatClampNeg (dTx q2 p1).2.2.2.1)))), (6, .int p2), (5, .int 0), (0, .ref (ad 18)), (1, .ref (ad (63 + 7 * dLi p1))), (2, .int p2), (3, .int p3), (4, .ref (ad 21))]) hx hb dX2_valueOf_27 hl (by decide) rfl (fun ls hl => ?_)
  refine lv_iload_n hx hb dX2_valueOf_29 rfl (lv_at hl 5 rfl) ?_
  refine lv_istore (lv' := [(8, .int p2), (7, .int (mnI p3 (Int32.ofNat (Int32.toNatClampNeg (dTx q2 p1).2.2.2.1)))), (6, .int p2), (5, .int 0), (0, .ref (ad 18)), (1, .ref (ad (63 + 7 * dLi p1))), (2, .int p2), (3, .int p3), (4, .ref (ad 21))]) hx hb dX2_valueOf_30 hl (by decide) rfl (fun ls hl => ?_)
  exact WX2_valueOf_s18_l_s21_32 C  _ _ _ _ _ _ _ _ _ _ h hP hD hS (lv_sub hl [4, 5, 8, 3, 2, 1, 0] rfl)
