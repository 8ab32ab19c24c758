noncomputable def zX10_was_28 (k4 : dS → Int32 → Int32 → Option (Int32 × dS)) (q : dS) (x2 : Int32) (y0 : Int32) (y1 : Int32) : Option (Int32 × dS) := k4 q (y1 ||| y0) (x2 + 1)
set_option maxHeartbeats 4000000 in
set_option maxRecDepth 100000 in
theorem WX10_was_28 {p : Program} {l : Launch} {e : Env} {s : State} {m : MethodId} {args : Array Value} {below : List Frame} {meth : Method} {c : Code} {D : va_G} {ty : Nat → ClassId} {eo : Nat → Nat} {A : Nat → Prop} {ad : Nat → Nat} {o1 : Int32} {o2 : dS} (C : dc_C p s m args meth c cX10_was (some .int) 3 RX10 wsX10_was D ty eo A) {k4 : dS → Int32 → Int32 → Option (Int32 × dS)} (hk4 : ∀ (q : dS) (x1 : Int32) (x2 : Int32) (H : Heap) (locs : List Loc) (ls : Array Slot), k4 q x1 x2 = some (o1, o2) → va_P D vwCl (w10 ty ad q) H → va_D A (w10 ty ad q) → va_S A s.heap H locs → lv_has ls 3 [(0, .ref (ad 0)), (1, .int x1), (2, .int x2)] → W p l e ({ frames := 89, cells := 0, slots := 0, locals := 2267 } : Room) s m args below meth c H locs 0 0 (MQ below (va_Qi (fun (r : Int32) (u : va_W) => o1 = r ∧ w10 ty ad o2 = u) (kz_B D ty A) A) args s 0 0 A) (F0 m 4 ls [])) (q : dS) (x2 : Int32) (y0 : Int32) (y1 : Int32) (H : Heap) (locs : List Loc) (ls : Array Slot) (h : zX10_was_28 k4 q x2 y0 y1 = some (o1, o2)) (hP : va_P D vwCl (w10 ty ad q) H) (hD : va_D A (w10 ty ad q)) (hS : va_S A s.heap H locs) (hl : lv_has ls 3 [(0, .ref (ad 0)), (2, .int x2)]) : W p l e ({ frames := 89, cells := 0, slots := 0, locals := 2267 } : Room) s m args below meth c H locs 0 0 (MQ below (va_Qi (fun (r : Int32) (u : va_W) => o1 = r ∧ w10 ty ad o2 = u) (kz_B D ty A) A) args s 0 0 A) (F0 m 28 ls [.int y0, .int y1]) := by
  have C0 := C
  obtain ⟨hx, hb, hr, hts, hown, hlocks, hml, hK, hN, hE, hA⟩ := C
  unfold zX10_was_28 at h
  refine lv_ior hx hb dX10_was_28 ?_
  refine lv_istore_n (lv' := [(1, .int (y1 ||| y0)), (0, .ref (ad 0)), (2, .int x2)]) hx hb dX10_was_29 rfl hl (by decide) rfl (fun ls hl => ?_)
  refine lv_iinc (v := x2 + 1) (lv' := [(2, .int (x2 + 1)), (1, .int (y1 ||| y0)), (0, .ref (ad 0))]) hx hb dX10_was_30 hl (k := 2) rfl rfl (by decide) rfl (fun ls hl => ?_)
  refine lv_goto (tgt := 4) hx hb dX10_was_33 (by decide) ?_
  exact hk4 _ _ _ _ _ _ h hP hD hS (lv_sub hl [2, 1, 0] rfl)
noncomputable def zX10_was_4b (k4 : dS → Int32 → Int32 → Option (Int32 × dS)) (q : dS) (x1 : Int32) (x2 : Int32) : Option (Int32 × dS) := dB (zX10_size q ) (fun r1 q3 => if r1 < x2 then some (x1, q3) else dB (zX10_itWas q3 x2) (fun r4 q6 => if r4 = 0 then zX10_was_28 k4 q6 x2 0 x1 else zX10_was_28 k4 q6 x2 (1 <<< ((x2 : Int32) &&& 31) : Int32) x1))
set_option maxHeartbeats 4000000 in
set_option maxRecDepth 100000 in
theorem WX10_was_4b {p : Program} {l : Launch} {e : Env} {s : State} {m : MethodId} {args : Array Value} {below : List Frame} {meth : Method} {c : Code} {D : va_G} {ty : Nat → ClassId} {eo : Nat → Nat} {A : Nat → Prop} {ad : Nat → Nat} {o1 : Int32} {o2 : dS} (C : dc_C p s m args meth c cX10_was (some .int) 3 RX10 wsX10_was D ty eo A) {k4 : dS → Int32 → Int32 → Option (Int32 × dS)} (hk4 : ∀ (q : dS) (x1 : Int32) (x2 : Int32) (H : Heap) (locs : List Loc) (ls : Array Slot), k4 q x1 x2 = some (o1, o2) → va_P D vwCl (w10 ty ad q) H → va_D A (w10 ty ad q) → va_S A s.heap H locs → lv_has ls 3 [(0, .ref (ad 0)), (1, .int x1), (2, .int x2)] → W p l e ({ frames := 89, cells := 0, slots := 0, locals := 2267 } : Room) s m args below meth c H locs 0 0 (MQ below (va_Qi (fun (r : Int32) (u : va_W) => o1 = r ∧ w10 ty ad o2 = u) (kz_B D ty A) A) args s 0 0 A) (F0 m 4 ls [])) (q : dS) (x1 : Int32) (x2 : Int32) (H : Heap) (locs : List Loc) (ls : Array Slot) (h : zX10_was_4b k4 q x1 x2 = some (o1, o2)) (hP : va_P D vwCl (w10 ty ad q) H) (hD : va_D A (w10 ty ad q)) (hS : va_S A s.heap H locs) (hl : lv_has ls 3 [(0, .ref (ad 0)), (1, .int x1), (2, .int x2)]) : W p l e ({ frames := 89, cells := 0, slots := 0, locals := 2267 } : Room) s m args below meth c H locs 0 0 (MQ below (va_Qi (fun (r : Int32) (u : va_W) => o1 = r ∧ w10 ty ad o2 = u) (kz_B D ty A) A) args s 0 0 A) (F0 m 4 ls []) := by
  have C0 := C
  obtain ⟨hx, hb, hr, hts, hown, hlocks, hml, hK, hN, hE, hA⟩ := C
  unfold zX10_was_4b at h
  refine lv_iload_n hx hb dX10_was_4 rfl (lv_at hl 2 rfl) ?_
  refine lv_aload_n hx hb dX10_was_5 rfl (lv_at hl 0 rfl) ?_
  obtain ⟨r1, q3, h2, h⟩ := dB_some h
  refine dw_ki (va_runV (As := []) (rest := [.int x2]) ⟨hx, hb, hml, hown, hts⟩ (qX10_size l D ty eo _ ad q  r1 q3 h2) (cwV 0 hts gX10_was_X10_size rfl rfl rfl (by decide +kernel) ⟨Nat.le_of_ble_eq_true rfl, Nat.le_of_ble_eq_true rfl⟩) (dw_preV (ci := 10) (q0 := 0) hK hN hE hP hD hS hA rfl rfl) rfl rfl hl.1 rfl (lv_room (Nat.le_of_ble_eq_true rfl)) dX10_was_6 ⟨Nat.le_of_ble_eq_true rfl, Nat.le_of_ble_eq_true rfl⟩) hD hS hA (fun r9 u9 H locs hw hp hd hs => ?_)
  clear hP hD hS
  obtain ⟨rfl, rfl⟩ := hw
  have hP := hp; have hD := hd; have hS := hs; clear hp hd hs
  refine lv_icmp_gt (tgt := 36) hx hb dX10_was_9 (by decide) (fun c9 => ?_) (fun c9 => ?_)
  · rw [if_pos c9] at h
    refine lv_iload_n hx hb dX10_was_36 rfl (lv_at hl 1 rfl) ?_
    cases h
    exact kz_iret hx hb hr hlocks hP hK hD hS dX10_was_37 ⟨rfl, rfl⟩
  · rw [if_neg c9] at h
    refine lv_iload_n hx hb dX10_was_12 rfl (lv_at hl 1 rfl) ?_
    refine lv_aload_n hx hb dX10_was_13 rfl (lv_at hl 0 rfl) ?_
    refine lv_iload_n hx hb dX10_was_14 rfl (lv_at hl 2 rfl) ?_
    obtain ⟨r4, q6, h5, h⟩ := dB_some h
    refine dw_ki (va_runV (As := [.int x2]) (rest := [.int x1]) ⟨hx, hb, hml, hown, hts⟩ (qX10_itWas l D ty eo _ ad q3 x2 r4 q6 h5) (cwV 1 hts gX10_was_X10_itWas rfl rfl rfl (by decide +kernel) ⟨Nat.le_of_ble_eq_true rfl, Nat.le_of_ble_eq_true rfl⟩) (dw_preV (ci := 10) (q0 := 0) hK hN hE hP hD hS hA rfl rfl) rfl rfl hl.1 rfl (lv_room (Nat.le_of_ble_eq_true rfl)) dX10_was_15 ⟨Nat.le_of_ble_eq_true rfl, Nat.le_of_ble_eq_true rfl⟩) hD hS hA (fun r9 u9 H locs hw hp hd hs => ?_)
    clear hP hD hS
    obtain ⟨rfl, rfl⟩ := hw
    have hP := hp; have hD := hd; have hS := hs; clear hp hd hs
    refine lv_if_eq (tgt := 27) hx hb dX10_was_18 (by decide) (fun c9 => ?_) (fun c9 => ?_)
    · rw [if_pos c9] at h
      refine lv_iconst (v := 0) hx hb dX10_was_27 (by decide) ?_
      exact WX10_was_28 C0 hk4 _ _ _ _ _ _ _ h hP hD hS (lv_sub hl [0, 2] rfl)
    · rw [if_neg c9] at h
      refine lv_iconst (v := 1) hx hb dX10_was_21 (by decide) ?_
      refine lv_iload_n hx hb dX10_was_22 rfl (lv_at hl 2 rfl) ?_
      refine lv_ishl hx hb dX10_was_23 ?_
      refine lv_goto (tgt := 28) hx hb dX10_was_24 (by decide) ?_
      exact WX10_was_28 C0 hk4 _ _ _ _ _ _ _ h hP hD hS (lv_sub hl [0, 2] rfl)
noncomputable def zX10_was_4  (n : Nat) (q : dS) (x1 : Int32) (x2 : Int32) : Option (Int32 × dS) := dFix (α := dS × Int32 × Int32) (fun k a => zX10_was_4b  (fun q x1 x2 => k (q, x1, x2)) a.1 a.2.1 a.2.2) n (q, x1, x2)
set_option maxHeartbeats 4000000 in
set_option maxRecDepth 100000 in
theorem WX10_was_4 {p : Program} {l : Launch} {e : Env} {s : State} {m : MethodId} {args : Array Value} {below : List Frame} {meth : Method} {c : Code} {D : va_G} {ty : Nat → ClassId} {eo : Nat → Nat} {A : Nat → Prop} {ad : Nat → Nat} {o1 : Int32} {o2 : dS} (C : dc_C p s m args meth c cX10_was (some .int) 3 RX10 wsX10_was D ty eo A)   (n : Nat) (q : dS) (x1 : Int32) (x2 : Int32) (H : Heap) (locs : List Loc) (ls : Array Slot) (h : zX10_was_4  n q x1 x2 = some (o1, o2)) (hP : va_P D vwCl (w10 ty ad q) H) (hD : va_D A (w10 ty ad q)) (hS : va_S A s.heap H locs) (hl : lv_has ls 3 [(0, .ref (ad 0)), (1, .int x1), (2, .int x2)]) : W p l e ({ frames := 89, cells := 0, slots := 0, locals := 2267 } : Room) s m args below meth c H locs 0 0 (MQ below (va_Qi (fun (r : Int32) (u : va_W) => o1 = r ∧ w10 ty ad o2 = u) (kz_B D ty A) A) args s 0 0 A) (F0 m 4 ls []) := by
  exact dFix_W (F := fun k (a : dS × Int32 × Int32) => zX10_was_4b  (fun q x1 x2 => k (q, x1, x2)) a.1 a.2.1 a.2.2) (o := (o1, o2)) (P := fun (a : dS × Int32 × Int32) H locs ls => va_P D vwCl (w10 ty ad a.1) H ∧ va_D A (w10 ty ad a.1) ∧ va_S A s.heap H locs ∧ lv_has ls 3 [(0, .ref (ad 0)), (1, .int a.2.1), (2, .int a.2.2)]) (G := fun H locs ls => W p l e ({ frames := 89, cells := 0, slots := 0, locals := 2267 } : Room) s m args below meth c H locs 0 0 (MQ below (va_Qi (fun (r : Int32) (u : va_W) => o1 = r ∧ w10 ty ad o2 = u) (kz_B D ty A) A) args s 0 0 A) (F0 m 4 ls []))
    (fun k hk a H locs ls h hp => WX10_was_4b C  (fun q x1 x2 H locs ls h h1 h2 h3 h4 => hk (q, x1, x2) H locs ls h ⟨h1, h2, h3, h4⟩) a.1 a.2.1 a.2.2 H locs ls h hp.1 hp.2.1 hp.2.2.1 hp.2.2.2) n (q, x1, x2) H locs ls h ⟨hP, hD, hS, hl⟩
noncomputable def zX10_was (q : dS)  : Option (Int32 × dS) := zX10_was_4  dF q 0 1
set_option maxHeartbeats 4000000 in
set_option maxRecDepth 100000 in
theorem qX10_was (l : Launch) (D : va_G) (ty : Nat → ClassId) (eo : Nat → Nat) (sz : Nat) (ad : Nat → Nat) (q : dS)  (o1 : Int32) (o2 : dS) (h : zX10_was q = some (o1, o2)) : Met l yX10_was wsX10_was ({ frames := 89, cells := 0, slots := 0, locals := 2267 } : Room) (va_Pc [.ref (ad 0)] (kz_pre D ty eo (w10 ty ad q) sz)) (va_Qi (fun (r : Int32) (u : va_W) => o1 = r ∧ w10 ty ad o2 = u) (kz_B D ty (va_A (w10 ty ad q) sz)) (va_A (w10 ty ad q) sz)) 0 0 (va_A (w10 ty ad q) sz) := by
  refine Met.ofW (cc := cX10_was) (maxL := 3) (ret := (some .int)) (by decide) rfl ?_
  intro p e s m args below meth c s₁ B hml hv
  obtain ⟨rfl, hsz, hP, hK, hD0, hN, hE⟩ := hv
  have hx := B.exec
  have hb := B.bytes
  have hr := B.returns
  have hts := atoms_spec (ws := wsX10_was) B.pre
  have hown : s.vm.findClass RX10 = some m.cls := findClass_of_methodNamed B.named
  have hlocks := B.notSynchronized
  subst hsz
  have hD := hD0.self (sz := s.heap.size)
  generalize hAe : va_A (w10 ty ad q) s.heap.size = A at hD hE ⊢
  have hA : ∀ q : Nat, s.heap.size ≤ q → A q := fun q h => by rw [← hAe]; exact Or.inr h
  clear hAe
  have hS : va_S A s.heap s.heap [] := va_S.rf
  have hl := lv_entry ([.ref (ad 0)]) (n := 3) (Nat.le_of_ble_eq_true rfl)
  rw [lg_entry_eq]
  generalize (lg_sl ([.ref (ad 0)]) ++ List.replicate (3 - (lg_sl ([.ref (ad 0)])).length) Slot.unset).toArray = ls at hl ⊢
  have hl : lv_has ls 3 [(0, .ref (ad 0))] := hl
  have C : dc_C p s m _ meth c cX10_was (some .int) 3 RX10 wsX10_was D ty eo A := ⟨hx, hb, hr, hts, hown, hlocks, hml, hK, hN, hE, hA⟩
  unfold zX10_was at h
  refine lv_iconst (v := 0) hx hb dX10_was_0 (by decide) ?_
  refine lv_istore_n (lv' := [(1, .int 0), (0, .ref (ad 0))]) hx hb dX10_was_1 rfl hl (by decide) rfl (fun ls hl => ?_)
  refine lv_iconst (v := 1) hx hb dX10_was_2 (by decide) ?_
  refine lv_istore_n (lv' := [(2, .int 1), (1, .int 0), (0, .ref (ad 0))]) hx hb dX10_was_3 rfl hl (by decide) rfl (fun ls hl => ?_)
  exact WX10_was_4 C  _ _ _ _ _ _ _ h hP hD hS (lv_sub hl [2, 1, 0] rfl)

noncomputable def zX10_mostAlike_79 (k26 : dS → Int32 → Int32 → Int32 → Int32 → Option (Int32 × dS)) (q : dS) (x1 : Int32) (x2 : Int32) (x3 : Int32) (x4 : Int32) : Option (Int32 × dS) := k26 q x1 x2 x3 (x4 + 1)
set_option maxHeartbeats 4000000 in
set_option maxRecDepth 100000 in
theorem WX10_mostAlike_79 {p : Program} {l : Launch} {e : Env} {s : State} {m : MethodId} {args : Array Value} {below : List Frame} {meth : Method} {c : Code} {D : va_G} {ty : Nat → ClassId} {eo : Nat → Nat} {A : Nat → Prop} {ad : Nat → Nat} {o1 : Int32} {o2 : dS} (C : dc_C p s m args meth c cX10_mostAlike (some .int) 6 RX10 wsX10_mostAlike D ty eo A) {k26 : dS → Int32 → Int32 → Int32 → Int32 → Option (Int32 × dS)} (hk26 : ∀ (q : dS) (x1 : Int32) (x2 : Int32) (x3 : Int32) (x4 : Int32) (H : Heap) (locs : List Loc) (ls : Array Slot), k26 q x1 x2 x3 x4 = some (o1, o2) → va_P D vwCl (w10 ty ad q) H → va_D A (w10 ty ad q) → va_S A s.heap H locs → lv_has ls 6 [(0, .ref (ad 0)), (1, .int x1), (2, .int x2), (3, .int x3), (4, .int x4)] → W p l e ({ frames := 3, cells := 0, slots := 0, locals := 65 } : Room) s m args below meth c H locs 0 0 (MQ below (va_Qi (fun (r : Int32) (u : va_W) => o1 = r ∧ w10 ty ad o2 = u) (kz_B D ty A) A) args s 0 0 A) (F0 m 26 ls [])) (q : dS) (x1 : Int32) (x2 : Int32) (x3 : Int32) (x4 : Int32) (H : Heap) (locs : List Loc) (ls : Array Slot) (h : zX10_mostAlike_79 k26 q x1 x2 x3 x4 = some (o1, o2)) (hP : va_P D vwCl (w10 ty ad q) H) (hD : va_D A (w10 ty ad q)) (hS : va_S A s.heap H locs) (hl : lv_has ls 6 [(0, .ref (ad 0)), (1, .int x1), (2, .int x2), (3, .int x3), (4, .int x4)]) : W p l e ({ frames := 3, cells := 0, slots := 0, locals := 65 } : Room) s m args below meth c H locs 0 0 (MQ below (va_Qi (fun (r : Int32) (u : va_W) => o1 = r ∧ w10 ty ad o2 = u) (kz_B D ty A) A) args s 0 0 A) (F0 m 79 ls []) := by
  have C0 := C
  obtain ⟨hx, hb, hr, hts, hown, hlocks, hml, hK, hN, hE, hA⟩ := C
  unfold zX10_mostAlike_79 at h
  refine lv_iinc (v := x4 + 1) (lv' := [(4, .int (x4 + 1)), (0, .ref (ad 0)), (1, .int x1), (2, .int x2), (3, .int x3)]) hx hb dX10_mostAlike_79 hl (k := 4) rfl rfl (by decide) rfl (fun ls hl => ?_)
  refine lv_goto (tgt := 26) hx hb dX10_mostAlike_82 (by decide) ?_
  exact hk26 _ _ _ _ _ _ _ _ h hP hD hS (lv_sub hl [1, 2, 3, 4, 0] rfl)
noncomputable def zX10_mostAlike_26b (k26 : dS → Int32 → Int32 → Int32 → Int32 → Option (Int32 × dS)) (q : dS) (x1 : Int32) (x2 : Int32) (x3 : Int32) (x4 : Int32) : Option (Int32 × dS) := dB (zX10_size q ) (fun r1 q3 => if r1 < x4 then some (x3, q3) else dV (zX10_isIn x1 x4) (fun r4 => if r4 = 0 then zX10_mostAlike_79 k26 q3 x1 x2 x3 x4 else dB (zX10_rankBehind q3 x4 x2) (fun r6 q8 => dG (dg r6 6) (dL (q8.1 25 (Int32.toNatClampNeg r6)) (fun v10 => dG (dg r6 6) (dL (dui q8 25 (Int32.toNatClampNeg r6) (v10 + 1 : Int32)) (fun q12 => dG (dg r6 6) (dL (q12.1 25 (Int32.toNatClampNeg r6)) (fun v14 => dV (zX10_greater x3 v14) (fun r15 => zX10_mostAlike_79 k26 q12 x1 x2 r15 x4))))))))))
set_option maxHeartbeats 4000000 in
set_option maxRecDepth 100000 in
theorem WX10_mostAlike_26b {p : Program} {l : Launch} {e : Env} {s : State} {m : MethodId} {args : Array Value} {below : List Frame} {meth : Method} {c : Code} {D : va_G} {ty : Nat → ClassId} {eo : Nat → Nat} {A : Nat → Prop} {ad : Nat → Nat} {o1 : Int32} {o2 : dS} (C : dc_C p s m args meth c cX10_mostAlike (some .int) 6 RX10 wsX10_mostAlike D ty eo A) {k26 : dS → Int32 → Int32 → Int32 → Int32 → Option (Int32 × dS)} (hk26 : ∀ (q : dS) (x1 : Int32) (x2 : Int32) (x3 : Int32) (x4 : Int32) (H : Heap) (locs : List Loc) (ls : Array Slot), k26 q x1 x2 x3 x4 = some (o1, o2) → va_P D vwCl (w10 ty ad q) H → va_D A (w10 ty ad q) → va_S A s.heap H locs → lv_has ls 6 [(0, .ref (ad 0)), (1, .int x1), (2, .int x2), (3, .int x3), (4, .int x4)] → W p l e ({ frames := 3, cells := 0, slots := 0, locals := 65 } : Room) s m args below meth c H locs 0 0 (MQ below (va_Qi (fun (r : Int32) (u : va_W) => o1 = r ∧ w10 ty ad o2 = u) (kz_B D ty A) A) args s 0 0 A) (F0 m 26 ls [])) (q : dS) (x1 : Int32) (x2 : Int32) (x3 : Int32) (x4 : Int32) (H : Heap) (locs : List Loc) (ls : Array Slot) (h : zX10_mostAlike_26b k26 q x1 x2 x3 x4 = some (o1, o2)) (hP : va_P D vwCl (w10 ty ad q) H) (hD : va_D A (w10 ty ad q)) (hS : va_S A s.heap H locs) (hl : lv_has ls 6 [(0, .ref (ad 0)), (1, .int x1), (2, .int x2), (3, .int x3), (4, .int x4)]) : W p l e ({ frames := 3, cells := 0, slots := 0, locals := 65 } : Room) s m args below meth c H locs 0 0 (MQ below (va_Qi (fun (r : Int32) (u : va_W) => o1 = r ∧ w10 ty ad o2 = u) (kz_B D ty A) A) args s 0 0 A) (F0 m 26 ls []) := by
  have C0 := C
  obtain ⟨hx, hb, hr, hts, hown, hlocks, hml, hK, hN, hE, hA⟩ := C
  unfold zX10_mostAlike_26b at h
  refine lv_iload hx hb dX10_mostAlike_26 (lv_at hl 4 rfl) ?_
  refine lv_aload_n hx hb dX10_mostAlike_28 rfl (lv_at hl 0 rfl) ?_
  obtain ⟨r1, q3, h2, h⟩ := dB_some h
  refine dw_ki (va_runV (As := []) (rest := [.int x4]) ⟨hx, hb, hml, hown, hts⟩ (qX10_size l D ty eo _ ad q  r1 q3 h2) (cwV 0 hts gX10_mostAlike_X10_size rfl rfl rfl (by decide +kernel) ⟨Nat.le_of_ble_eq_true rfl, Nat.le_of_ble_eq_true rfl⟩) (dw_preV (ci := 10) (q0 := 0) hK hN hE hP hD hS hA rfl rfl) rfl rfl hl.1 rfl (lv_room (Nat.le_of_ble_eq_true rfl)) dX10_mostAlike_29 ⟨Nat.le_of_ble_eq_true rfl, Nat.le_of_ble_eq_true rfl⟩) hD hS hA (fun r9 u9 H locs hw hp hd hs => ?_)
  clear hP hD hS
  obtain ⟨rfl, rfl⟩ := hw
  have hP := hp; have hD := hd; have hS := hs; clear hp hd hs
  refine lv_icmp_gt (tgt := 85) hx hb dX10_mostAlike_32 (by decide) (fun c9 => ?_) (fun c9 => ?_)
  · rw [if_pos c9] at h
    refine lv_iload_n hx hb dX10_mostAlike_85 rfl (lv_at hl 3 rfl) ?_
    cases h
    exact kz_iret hx hb hr hlocks hP hK hD hS dX10_mostAlike_86 ⟨rfl, rfl⟩
  · rw [if_neg c9] at h
    refine lv_iload_n hx hb dX10_mostAlike_35 rfl (lv_at hl 1 rfl) ?_
    refine lv_iload hx hb dX10_mostAlike_36 (lv_at hl 4 rfl) ?_
    obtain ⟨r4, h5, h⟩ := dV_some h
    refine dw_ks (va_runS (As := [.int x1, .int x4]) (rest := []) ⟨hx, hb, hml, hown, hts⟩ (qX10_isIn l D ty eo _ x1 x4 _ h5) (va_cwS 2 hts gX10_mostAlike_X10_isIn rfl rfl rfl (by decide +kernel) ⟨Nat.le_of_ble_eq_true rfl, Nat.le_of_ble_eq_true rfl⟩) (kz_preS hK hN hE hP hD hS hA [] (by decide) rfl) rfl rfl hl.1 rfl (lv_room (Nat.le_of_ble_eq_true rfl)) dX10_mostAlike_38 ⟨Nat.le_of_ble_eq_true rfl, Nat.le_of_ble_eq_true rfl⟩) hP hD hS hA (fun _ _ h9 => h9.2.symm) (fun r9 u9 H locs hw hp hd hs => ?_)
    obtain ⟨rfl, -⟩ := hw
    clear hP hD hS
    have hP := hp; have hD := hd; have hS := hs; clear hp hd hs
    refine lv_if_ne (tgt := 47) hx hb dX10_mostAlike_41 (by decide) (fun c9 => ?_) (fun c9 => ?_)
    · rw [if_neg c9] at h
      refine lv_aload_n hx hb dX10_mostAlike_47 rfl (lv_at hl 0 rfl) ?_
      refine lv_iload hx hb dX10_mostAlike_48 (lv_at hl 4 rfl) ?_
      refine lv_iload_n hx hb dX10_mostAlike_50 rfl (lv_at hl 2 rfl) ?_
      obtain ⟨r6, q8, h7, h⟩ := dB_some h
      refine dw_ki (va_runV (As := [.int x4, .int x2]) (rest := []) ⟨hx, hb, hml, hown, hts⟩ (qX10_rankBehind l D ty eo _ ad q3 x4 x2 r6 q8 h7) (cwV 2 hts gX10_mostAlike_X10_rankBehind rfl rfl rfl (by decide +kernel) ⟨Nat.le_of_ble_eq_true rfl, Nat.le_of_ble_eq_true rfl⟩) (dw_preV (ci := 10) (q0 := 0) hK hN hE hP hD hS hA rfl rfl) rfl rfl hl.1 rfl (lv_room (Nat.le_of_ble_eq_true rfl)) dX10_mostAlike_51 ⟨Nat.le_of_ble_eq_true rfl, Nat.le_of_ble_eq_true rfl⟩) hD hS hA (fun r9 u9 H locs hw hp hd hs => ?_)
      clear hP hD hS
      obtain ⟨rfl, rfl⟩ := hw
      have hP := hp; have hD := hd; have hS := hs; clear hp hd hs
      refine lv_istore (lv' := [(5, .int r6), (0, .ref (ad 0)), (1, .int x1), (2, .int x2), (3, .int x3), (4, .int x4)]) hx hb dX10_mostAlike_54 hl (by decide) rfl (fun ls hl => ?_)
      refine lv_aload_n hx hb dX10_mostAlike_56 rfl (lv_at hl 1 rfl) ?_
      refine va_get (D := D) (ci := 10) (v := .ref (ad 25)) (C := RX10) (T := TX10) (N := 56) hx hb hts (by decide +kernel) hown hK hP 0 rfl rfl 44 (by decide) (hts (.fieldLink RX10 103 "TurnedFloorsModel" "alike" "[I") (by decide +kernel)) (fun _ h9 => h9) rfl dX10_mostAlike_57 ?_
      refine lv_iload hx hb dX10_mostAlike_60 (lv_at hl 0 rfl) ?_
      refine lv_dup2_11 hx hb dX10_mostAlike_62 rfl rfl ?_
      obtain ⟨g9, h⟩ := dG_some h
      refine va_iald hx hb hK hP 25 0 rfl rfl (dg_in g9) dX10_mostAlike_63 ?_
      obtain ⟨v10, ev10, h⟩ := dL_some h
      refine kz_topi v10 ev10 ?_
      refine lv_iconst (v := 1) hx hb dX10_mostAlike_64 (by decide) ?_
      refine lv_iadd hx hb dX10_mostAlike_65 ?_
      obtain ⟨g11, h⟩ := dG_some h
      refine va_iast hx hb hK hP hD hS 25 0 rfl rfl (dg_in g11) dX10_mostAlike_66 (fun H locs hp hd hs => ?_)
      obtain ⟨q12, eq12, h⟩ := dL_some h
      refine kz_re (w2 := w10 ty ad q12) hp hd hs (by rw [← eq12]; exact w10_a25 ty ad q8 (Int32.toNatClampNeg r6) (v10 + 1 : Int32)) ?_
      clear hp hd hs hP hD hS
      intro hP hD hS
      refine lv_iload_n hx hb dX10_mostAlike_67 rfl (lv_at hl 4 rfl) ?_
      refine lv_aload_n hx hb dX10_mostAlike_68 rfl (lv_at hl 1 rfl) ?_
      refine va_get (D := D) (ci := 10) (v := .ref (ad 25)) (C := RX10) (T := TX10) (N := 56) hx hb hts (by decide +kernel) hown hK hP 0 rfl rfl 44 (by decide) (hts (.fieldLink RX10 103 "TurnedFloorsModel" "alike" "[I") (by decide +kernel)) (fun _ h9 => h9) rfl dX10_mostAlike_69 ?_
      refine lv_iload hx hb dX10_mostAlike_72 (lv_at hl 0 rfl) ?_
      obtain ⟨g13, h⟩ := dG_some h
      refine va_iald hx hb hK hP 25 0 rfl rfl (dg_in g13) dX10_mostAlike_74 ?_
      obtain ⟨v14, ev14, h⟩ := dL_some h
      refine kz_topi v14 ev14 ?_
      obtain ⟨r15, h16, h⟩ := dV_some h
      refine dw_ks (va_runS (As := [.int x3, .int v14]) (rest := []) ⟨hx, hb, hml, hown, hts⟩ (qX10_greater l D ty eo _ x3 v14 _ h16) (va_cwS 2 hts gX10_mostAlike_X10_greater rfl rfl rfl (by decide +kernel) ⟨Nat.le_of_ble_eq_true rfl, Nat.le_of_ble_eq_true rfl⟩) (kz_preS hK hN hE hP hD hS hA [] (by decide) rfl) rfl rfl hl.1 rfl (lv_room (Nat.le_of_ble_eq_true rfl)) dX10_mostAlike_75 ⟨Nat.le_of_ble_eq_true rfl, Nat.le_of_ble_eq_true rfl⟩) hP hD hS hA (fun _ _ h9 => h9.2.symm) (fun r9 u9 H locs hw hp hd hs => ?_)
      obtain ⟨rfl, -⟩ := hw
      clear hP hD hS
      have hP := hp; have hD := hd; have hS := hs; clear hp hd hs
      refine lv_istore_n (lv' := [(3, .int r15), (5, .int r6), (0, .ref (ad 0)), (1, .int x1), (2, .int x2), (4, .int x4)]) hx hb dX10_mostAlike_78 rfl hl (by decide) rfl (fun ls hl => ?_)
      exact WX10_mostAlike_79 C0 hk26 _ _ _ _ _ _ _ _ h hP hD hS (lv_sub hl [2, 3, 4, 0, 5] rfl)
    · rw [if_pos c9] at h
      refine lv_goto (tgt := 79) hx hb dX10_mostAlike_44 (by decide) ?_
      exact WX10_mostAlike_79 C0 hk26 _ _ _ _ _ _ _ _ h hP hD hS (lv_sub hl [0, 1, 2, 3, 4] rfl)
noncomputable def zX10_mostAlike_26  (n : Nat) (q : dS) (x1 : Int32) (x2 : Int32) (x3 : Int32) (x4 : Int32) : Option (Int32 × dS) := dFix (α := dS × Int32 × Int32 × Int32 × Int32) (fun k a => zX10_mostAlike_26b  (fun q x1 x2 x3 x4 => k (q, x1, x2, x3, x4)) a.1 a.2.1 a.2.2.1 a.2.2.2.1 a.2.2.2.2) n (q, x1, x2, x3, x4)
set_option maxHeartbeats 4000000 in
set_option maxRecDepth 100000 in
theorem WX10_mostAlike_26 {p : Program} {l : Launch} {e : Env} {s : State} {m : MethodId} {args : Array Value} {below : List Frame} {meth : Method} {c : Code} {D : va_G} {ty : Nat → ClassId} {eo : Nat → Nat} {A : Nat → Prop} {ad : Nat → Nat} {o1 : Int32} {o2 : dS} (C : dc_C p s m args meth c cX10_mostAlike (some .int) 6 RX10 wsX10_mostAlike D ty eo A)   (n : Nat) (q : dS) (x1 : Int32) (x2 : Int32) (x3 : Int32) (x4 : Int32) (H : Heap) (locs : List Loc) (ls : Array Slot) (h : zX10_mostAlike_26  n q x1 x2 x3 x4 = some (o1, o2)) (hP : va_P D vwCl (w10 ty ad q) H) (hD : va_D A (w10 ty ad q)) (hS : va_S A s.heap H locs) (hl : lv_has ls 6 [(0, .ref (ad 0)), (1, .int x1), (2, .int x2), (3, .int x3), (4, .int x4)]) : W p l e ({ frames := 3, cells := 0, slots := 0, locals := 65 } : Room) s m args below meth c H locs 0 0 (MQ below (va_Qi (fun (r : Int32) (u : va_W) => o1 = r ∧ w10 ty ad o2 = u) (kz_B D ty A) A) args s 0 0 A) (F0 m 26 ls []) := by
  exact dFix_W (F := fun k (a : dS × Int32 × Int32 × Int32 × Int32) => zX10_mostAlike_26b  (fun q x1 x2 x3 x4 => k (q, x1, x2, x3, x4)) a.1 a.2.1 a.2.2.1 a.2.2.2.1 a.2.2.2.2) (o := (o1, o2)) (P := fun (a : dS × Int32 × Int32 × Int32 × Int32) H locs ls => va_P D vwCl (w10 ty ad a.1) H ∧ va_D A (w10 ty ad a.1) ∧ va_S A s.heap H locs ∧ lv_has ls 6 [(0, .ref (ad 0)), (1, .int a.2.1), (2, .int a.2.2.1), (3, .int a.2.2.2.1), (4, .int a.2.2.2.2)]) (G := fun H locs ls => W p l e ({ frames := 3, cells := 0, slots := 0, locals := 65 } : Room) s m args below meth c H locs 0 0 (MQ below (va_Qi (fun (r : Int32) (u : va_W) => o1 = r ∧ w10 ty ad o2 = u) (kz_B D ty A) A) args s 0 0 A) (F0 m 26 ls []))
    (fun k hk a H locs ls h hp => WX10_mostAlike_26b C  (fun q x1 x2 x3 x4 H locs ls h h1 h2 h3 h4 => hk (q, x1, x2, x3, x4) H locs ls h ⟨h1, h2, h3, h4⟩) a.1 a.2.1 a.2.2.1 a.2.2.2.1 a.2.2.2.2 H locs ls h hp.1 hp.2.1 hp.2.2.1 hp.2.2.2) n (q, x1, x2, x3, x4) H locs ls h ⟨hP, hD, hS, hl⟩
noncomputable def zX10_mostAlike_2b (k2 : dS → Int32 → Int32 → Int32 → Option (Int32 × dS)) (q : dS) (x1 : Int32) (x2 : Int32) (x3 : Int32) : Option (Int32 × dS) := if 6 ≤ x3 then zX10_mostAlike_26  dF q x1 x2 0 1 else dG (dg x3 6) (dL (dui q 25 (Int32.toNatClampNeg x3) 0) (fun q2 => k2 q2 x1 x2 (x3 + 1)))
set_option maxHeartbeats 4000000 in
set_option maxRecDepth 100000 in
theorem WX10_mostAlike_2b {p : Program} {l : Launch} {e : Env} {s : State} {m : MethodId} {args : Array Value} {below : List Frame} {meth : Method} {c : Code} {D : va_G} {ty : Nat → ClassId} {eo : Nat → Nat} {A : Nat → Prop} {ad : Nat → Nat} {o1 : Int32} {o2 : dS} (C : dc_C p s m args meth c cX10_mostAlike (some .int) 6 RX10 wsX10_mostAlike D ty eo A) {k2 : dS → Int32 → Int32 → Int32 → Option (Int32 × dS)} (hk2 : ∀ (q : dS) (x1 : Int32) (x2 : Int32) (x3 : Int32) (H : Heap) (locs : List Loc) (ls : Array Slot), k2 q x1 x2 x3 = some (o1, o2) → va_P D vwCl (w10 ty ad q) H → va_D A (w10 ty ad q) → va_S A s.heap H locs → lv_has ls 6 [(0, .ref (ad 0)), (1, .int x1), (2, .int x2), (3, .int x3)] → W p l e ({ frames := 3, cells := 0, slots := 0, locals := 65 } : Room) s m args below meth c H locs 0 0 (MQ below (va_Qi (fun (r : Int32) (u : va_W) => o1 = r ∧ w10 ty ad o2 = u) (kz_B D ty A) A) args s 0 0 A) (F0 m 2 ls [])) (q : dS) (x1 : Int32) (x2 : Int32) (x3 : Int32) (H : Heap) (locs : List Loc) (ls : Array Slot) (h : zX10_mostAlike_2b k2 q x1 x2 x3 = some (o1, o2)) (hP : va_P D vwCl (w10 ty ad q) H) (hD : va_D A (w10 ty ad q)) (hS : va_S A s.heap H locs) (hl : lv_has ls 6 [(0, .ref (ad 0)), (1, .int x1), (2, .int x2), (3, .int x3)]) : W p l e ({ frames := 3, cells := 0, slots := 0, locals := 65 } : Room) s m args below meth c H locs 0 0 (MQ below (va_Qi (fun (r : Int32) (u : va_W) => o1 = r ∧ w10 ty ad o2 = u) (kz_B D ty A) A) args s 0 0 A) (F0 m 2 ls []) := by
  have C0 := C
  obtain ⟨hx, hb, hr, hts, hown, hlocks, hml, hK, hN, hE, hA⟩ := C
  unfold zX10_mostAlike_2b at h
  refine lv_iload_n hx hb dX10_mostAlike_2 rfl (lv_at hl 3 rfl) ?_
  refine lv_bipush (v := 6) hx hb dX10_mostAlike_3 (by decide) ?_
  refine lv_icmp_ge (tgt := 21) hx hb dX10_mostAlike_5 (by decide) (fun c9 => ?_) (fun c9 => ?_)
  · rw [if_pos c9] at h
    refine lv_iconst (v := 0) hx hb dX10_mostAlike_21 (by decide) ?_
    refine lv_istore_n (lv' := [(3, .int 0), (0, .ref (ad 0)), (1, .int x1), (2, .int x2)]) hx hb dX10_mostAlike_22 rfl hl (by decide) rfl (fun ls hl => ?_)
    refine lv_iconst (v := 1) hx hb dX10_mostAlike_23 (by decide) ?_
    refine lv_istore (lv' := [(4, .int 1), (3, .int 0), (0, .ref (ad 0)), (1, .int x1), (2, .int x2)]) hx hb dX10_mostAlike_24 hl (by decide) rfl (fun ls hl => ?_)
    exact WX10_mostAlike_26 C0  _ _ _ _ _ _ _ _ _ h hP hD hS (lv_sub hl [2, 3, 4, 1, 0] rfl)
  · rw [if_neg c9] at h
    refine lv_aload_n hx hb dX10_mostAlike_8 rfl (lv_at hl 0 rfl) ?_
    refine va_get (D := D) (ci := 10) (v := .ref (ad 25)) (C := RX10) (T := TX10) (N := 56) hx hb hts (by decide +kernel) hown hK hP 0 rfl rfl 44 (by decide) (hts (.fieldLink RX10 103 "TurnedFloorsModel" "alike" "[I") (by decide +kernel)) (fun _ h9 => h9) rfl dX10_mostAlike_9 ?_
    refine lv_iload_n hx hb dX10_mostAlike_12 rfl (lv_at hl 3 rfl) ?_
    refine lv_iconst (v := 0) hx hb dX10_mostAlike_13 (by decide) ?_
    obtain ⟨g1, h⟩ := dG_some h
    refine va_iast hx hb hK hP hD hS 25 0 rfl rfl (dg_in g1) dX10_mostAlike_14 (fun H locs hp hd hs => ?_)
    obtain ⟨q2, eq2, h⟩ := dL_some h
    refine kz_re (w2 := w10 ty ad q2) hp hd hs (by rw [← eq2]; exact w10_a25 ty ad q (Int32.toNatClampNeg x3) 0) ?_
    clear hp hd hs hP hD hS
    intro hP hD hS
    refine lv_iinc (v := x3 + 1) (lv' := [(3, .int (x3 + 1)), (0, .ref (ad 0)), (1, .int x1), (2, .int x2)]) hx hb dX10_mostAlike_15 hl (k := 3) rfl rfl (by decide) rfl (fun ls hl => ?_)
    refine lv_goto (tgt := 2) hx hb dX10_mostAlike_18 (by decide) ?_
    exact hk2 _ _ _ _ _ _ _ h hP hD hS (lv_sub hl [1, 2, 3, 0] rfl)
noncomputable def zX10_mostAlike_2  (n : Nat) (q : dS) (x1 : Int32) (x2 : Int32) (x3 : Int32) : Option (Int32 × dS) := dFix (α := dS × Int32 × Int32 × Int32) (fun k a => zX10_mostAlike_2b  (fun q x1 x2 x3 => k (q, x1, x2, x3)) a.1 a.2.1 a.2.2.1 a.2.2.2) n (q, x1, x2, x3)
set_option maxHeartbeats 4000000 in
set_option maxRecDepth 100000 in
theorem WX10_mostAlike_2 {p : Program} {l : Launch} {e : Env} {s : State} {m : MethodId} {args : Array Value} {below : List Frame} {meth : Method} {c : Code} {D : va_G} {ty : Nat → ClassId} {eo : Nat → Nat} {A : Nat → Prop} {ad : Nat → Nat} {o1 : Int32} {o2 : dS} (C : dc_C p s m args meth c cX10_mostAlike (some .int) 6 RX10 wsX10_mostAlike D ty eo A)   (n : Nat) (q : dS) (x1 : Int32) (x2 : Int32) (x3 : Int32) (H : Heap) (locs : List Loc) (ls : Array Slot) (h : zX10_mostAlike_2  n q x1 x2 x3 = some (o1, o2)) (hP : va_P D vwCl (w10 ty ad q) H) (hD : va_D A (w10 ty ad q)) (hS : va_S A s.heap H locs) (hl : lv_has ls 6 [(0, .ref (ad 0)), (1, .int x1), (2, .int x2), (3, .int x3)]) : W p l e ({ frames := 3, cells := 0, slots := 0, locals := 65 } : Room) s m args below meth c H locs 0 0 (MQ below (va_Qi (fun (r : Int32) (u : va_W) => o1 = r ∧ w10 ty ad o2 = u) (kz_B D ty A) A) args s 0 0 A) (F0 m 2 ls []) := by
  exact dFix_W (F := fun k (a : dS × Int32 × Int32 × Int32) => zX10_mostAlike_2b  (fun q x1 x2 x3 => k (q, x1, x2, x3)) a.1 a.2.1 a.2.2.1 a.2.2.2) (o := (o1, o2)) (P := fun (a : dS × Int32 × Int32 × Int32) H locs ls => va_P D vwCl (w10 ty ad a.1) H ∧ va_D A (w10 ty ad a.1) ∧ va_S A s.heap H locs ∧ lv_has ls 6 [(0, .ref (ad 0)), (1, .int a.2.1), (2, .int a.2.2.1), (3, .int a.2.2.2)]) (G := fun H locs ls => W p l e ({ frames := 3, cells := 0, slots := 0, locals := 65 } : Room) s m args below meth c H locs 0 0 (MQ below (va_Qi (fun (r : Int32) (u : va_W) => o1 = r ∧ w10 ty ad o2 = u) (kz_B D ty A) A) args s 0 0 A) (F0 m 2 ls []))
    (fun k hk a H locs ls h hp => WX10_mostAlike_2b C  (fun q x1 x2 x3 H locs ls h h1 h2 h3 h4 => hk (q, x1, x2, x3) H locs ls h ⟨h1, h2, h3, h4⟩) a.1 a.2.1 a.2.2.1 a.2.2.2 H locs ls h hp.1 hp.2.1 hp.2.2.1 hp.2.2.2) n (q, x1, x2, x3) H locs ls h ⟨hP, hD, hS, hl⟩
noncomputable def zX10_mostAlike (q : dS) (p1 : Int32) (p2 : Int32) : Option (Int32 × dS) := zX10_mostAlike_2  dF q p1 p2 0
set_option maxHeartbeats 4000000 in
set_option maxRecDepth 100000 in
theorem qX10_mostAlike (l : Launch) (D : va_G) (ty : Nat → ClassId) (eo : Nat → Nat) (sz : Nat) (ad : Nat → Nat) (q : dS) (p1 : Int32) (p2 : Int32) (o1 : Int32) (o2 : dS) (h : zX10_mostAlike q p1 p2 = some (o1, o2)) : Met l yX10_mostAlike wsX10_mostAlike ({ frames := 3, cells := 0, slots := 0, locals := 65 } : Room) (va_Pc [.ref (ad 0), .int p1, .int p2] (kz_pre D ty eo (w10 ty ad q) sz)) (va_Qi (fun (r : Int32) (u : va_W) => o1 = r ∧ w10 ty ad o2 = u) (kz_B D ty (va_A (w10 ty ad q) sz)) (va_A (w10 ty ad q) sz)) 0 0 (va_A (w10 ty ad q) sz) := by
  refine Met.ofW (cc := cX10_mostAlike) (maxL := 6) (ret := (some .int)) (by decide) rfl ?_
  intro p e s m args below meth c s₁ B hml hv
  obtain ⟨rfl, hsz, hP, hK, hD0, hN, hE⟩ := hv
  have hx := B.exec
  have hb := B.bytes
  have hr := B.returns
  have hts := atoms_spec (ws := wsX10_mostAlike) B.pre
  have hown : s.vm.findClass RX10 = some m.cls := findClass_of_methodNamed B.named
  have hlocks := B.notSynchronized
  subst hsz
  have hD := hD0.self (sz := s.heap.size)
  generalize hAe : va_A (w10 ty ad q) s.heap.size = A at hD hE ⊢
  have hA : ∀ q : Nat, s.heap.size ≤ q → A q := fun q h => by rw [← hAe]; exact Or.inr h
  clear hAe
  have hS : va_S A s.heap s.heap [] := va_S.rf
  have hl := lv_entry ([.ref (ad 0), .int p1, .int p2]) (n := 6) (Nat.le_of_ble_eq_true rfl)
  rw [lg_entry_eq]
  generalize (lg_sl ([.ref (ad 0), .int p1, .int p2]) ++ List.replicate (6 - (lg_sl ([.ref (ad 0), .int p1, .int p2])).length) Slot.unset).toArray = ls at hl ⊢
  have hl : lv_has ls 6 [(0, .ref (ad 0)), (1, .int p1), (2, .int p2)] := hl
  have C : dc_C p s m _ meth c cX10_mostAlike (some .int) 6 RX10 wsX10_mostAlike D ty eo A := ⟨hx, hb, hr, hts, hown, hlocks, hml, hK, hN, hE, hA⟩
  unfold zX10_mostAlike at h
  refine lv_iconst (v := 0) hx hb dX10_mostAlike_0 (by decide) ?_
  refine lv_istore_n (lv' := [(3, .int 0), (0, .ref (ad 0)), (1, .int p1), (2, .int p2)]) hx hb dX10_mostAlike_1 rfl hl (by decide) rfl (fun ls hl => ?_)
  exact WX10_mostAlike_2 C  _ _ _ _ _ _ _ _ h hP hD hS (lv_sub hl [1, 2, 3, 0] rfl)

noncomputable def zX10_look_85  (q : dS) (y0 : Int32) : Option (Int32 × dS) := some (y0, q)
set_option maxHeartbeats 4000000 in
set_option maxRecDepth 100000 in
theorem WX10_look_85 {p : Program} {l : Launch} {e : Env} {s : State} {m : MethodId} {args : Array Value} {below : List Frame} {meth : Method} {c : Code} {D : va_G} {ty : Nat → ClassId} {eo : Nat → Nat} {A : Nat → Prop} {ad : Nat → Nat} {o1 : Int32} {o2 : dS} (C : dc_C p s m args meth c cX10_look (some .int) 7 RX10 wsX10_look D ty eo A)   (q : dS) (y0 : Int32) (H : Heap) (locs : List Loc) (ls : Array Slot) (h : zX10_look_85  q y0 = some (o1, o2)) (hP : va_P D vwCl (w10 ty ad q) H) (hD : va_D A (w10 ty ad q)) (hS : va_S A s.heap H locs) (hl : lv_has ls 7 []) : W p l e ({ frames := 90, cells := 0, slots := 0, locals := 2289 } : Room) s m args below meth c H locs 0 0 (MQ below (va_Qi (fun (r : Int32) (u : va_W) => o1 = r ∧ w10 ty ad o2 = u) (kz_B D ty A) A) args s 0 0 A) (F0 m 85 ls [.int y0]) := by
  have C0 := C
  obtain ⟨hx, hb, hr, hts, hown, hlocks, hml, hK, hN, hE, hA⟩ := C
  unfold zX10_look_85 at h
  cases h
  exact kz_iret hx hb hr hlocks hP hK hD hS dX10_look_85 ⟨rfl, rfl⟩
noncomputable def zX10_look_79  (q : dS) (x3 : Int32) : Option (Int32 × dS) := zX10_look_85  q x3
set_option maxHeartbeats 4000000 in
set_option maxRecDepth 100000 in
theorem WX10_look_79 {p : Program} {l : Launch} {e : Env} {s : State} {m : MethodId} {args : Array Value} {below : List Frame} {meth : Method} {c : Code} {D : va_G} {ty : Nat → ClassId} {eo : Nat → Nat} {A : Nat → Prop} {ad : Nat → Nat} {o1 : Int32} {o2 : dS} (C : dc_C p s m args meth c cX10_look (some .int) 7 RX10 wsX10_look D ty eo A)   (q : dS) (x3 : Int32) (H : Heap) (locs : List Loc) (ls : Array Slot) (h : zX10_look_79  q x3 = some (o1, o2)) (hP : va_P D vwCl (w10 ty ad q) H) (hD : va_D A (w10 ty ad q)) (hS : va_S A s.heap H locs) (hl : lv_has ls 7 [(3, .int x3)]) : W p l e ({ frames := 90, cells := 0, slots := 0, locals := 2289 } : Room) s m args below meth c H locs 0 0 (MQ below (va_Qi (fun (r : Int32) (u : va_W) => o1 = r ∧ w10 ty ad o2 = u) (kz_B D ty A) A) args s 0 0 A) (F0 m 79 ls []) := by
  have C0 := C
  obtain ⟨hx, hb, hr, hts, hown, hlocks, hml, hK, hN, hE, hA⟩ := C
  unfold zX10_look_79 at h
  refine lv_iload_n hx hb dX10_look_79 rfl (lv_at hl 0 rfl) ?_
  refine lv_goto (tgt := 85) hx hb dX10_look_80 (by decide) ?_
  exact WX10_look_85 C0  _ _ _ _ _ h hP hD hS (lv_sub hl [] rfl)
noncomputable def zX10_look_70  (q : dS) (x1 : Int32) (x3 : Int32) (x4 : Int32) : Option (Int32 × dS) := if x3 = (-1) then zX10_look_79  q x3 else if x1 = 0 then zX10_look_79  q x3 else zX10_look_85  q x4
set_option maxHeartbeats 4000000 in
set_option maxRecDepth 100000 in
theorem WX10_look_70 {p : Program} {l : Launch} {e : Env} {s : State} {m : MethodId} {args : Array Value} {below : List Frame} {meth : Method} {c : Code} {D : va_G} {ty : Nat → ClassId} {eo : Nat → Nat} {A : Nat → Prop} {ad : Nat → Nat} {o1 : Int32} {o2 : dS} (C : dc_C p s m args meth c cX10_look (some .int) 7 RX10 wsX10_look D ty eo A)   (q : dS) (x1 : Int32) (x3 : Int32) (x4 : Int32) (H : Heap) (locs : List Loc) (ls : Array Slot) (h : zX10_look_70  q x1 x3 x4 = some (o1, o2)) (hP : va_P D vwCl (w10 ty ad q) H) (hD : va_D A (w10 ty ad q)) (hS : va_S A s.heap H locs) (hl : lv_has ls 7 [(1, .int x1), (3, .int x3), (4, .int x4)]) : W p l e ({ frames := 90, cells := 0, slots := 0, locals := 2289 } : Room) s m args below meth c H locs 0 0 (MQ below (va_Qi (fun (r : Int32) (u : va_W) => o1 = r ∧ w10 ty ad o2 = u) (kz_B D ty A) A) args s 0 0 A) (F0 m 70 ls []) := by
  have C0 := C
  obtain ⟨hx, hb, hr, hts, hown, hlocks, hml, hK, hN, hE, hA⟩ := C
  unfold zX10_look_70 at h
  refine lv_iload_n hx hb dX10_look_70 rfl (lv_at hl 1 rfl) ?_
  refine lv_iconst (v := (-1)) hx hb dX10_look_71 (by decide) ?_
  refine lv_icmp_eq (tgt := 79) hx hb dX10_look_72 (by decide) (fun c9 => ?_) (fun c9 => ?_)
  · rw [if_pos c9] at h
    exact WX10_look_79 C0  _ _ _ _ _ h hP hD hS (lv_sub hl [1] rfl)
  · rw [if_neg c9] at h
    refine lv_iload_n hx hb dX10_look_75 rfl (lv_at hl 0 rfl) ?_
    refine lv_if_ne (tgt := 83) hx hb dX10_look_76 (by decide) (fun c9 => ?_) (fun c9 => ?_)
    · rw [if_neg c9] at h
      refine lv_iload hx hb dX10_look_83 (lv_at hl 2 rfl) ?_
      exact WX10_look_85 C0  _ _ _ _ _ h hP hD hS (lv_sub hl [] rfl)
    · rw [if_pos c9] at h
      exact WX10_look_79 C0  _ _ _ _ _ h hP hD hS (lv_sub hl [1] rfl)
noncomputable def zX10_look_64 (k25 : dS → Int32 → Int32 → Int32 → Int32 → Int32 → Option (Int32 × dS)) (q : dS) (x1 : Int32) (x2 : Int32) (x3 : Int32) (x4 : Int32) (x5 : Int32) : Option (Int32 × dS) := k25 q x1 x2 x3 x4 (x5 + 1)
set_option maxHeartbeats 4000000 in
set_option maxRecDepth 100000 in
theorem WX10_look_64 {p : Program} {l : Launch} {e : Env} {s : State} {m : MethodId} {args : Array Value} {below : List Frame} {meth : Method} {c : Code} {D : va_G} {ty : Nat → ClassId} {eo : Nat → Nat} {A : Nat → Prop} {ad : Nat → Nat} {o1 : Int32} {o2 : dS} (C : dc_C p s m args meth c cX10_look (some .int) 7 RX10 wsX10_look D ty eo A) {k25 : dS → Int32 → Int32 → Int32 → Int32 → Int32 → Option (Int32 × dS)} (hk25 : ∀ (q : dS) (x1 : Int32) (x2 : Int32) (x3 : Int32) (x4 : Int32) (x5 : Int32) (H : Heap) (locs : List Loc) (ls : Array Slot), k25 q x1 x2 x3 x4 x5 = some (o1, o2) → va_P D vwCl (w10 ty ad q) H → va_D A (w10 ty ad q) → va_S A s.heap H locs → lv_has ls 7 [(0, .ref (ad 0)), (1, .int x1), (2, .int x2), (3, .int x3), (4, .int x4), (5, .int x5)] → W p l e ({ frames := 90, cells := 0, slots := 0, locals := 2289 } : Room) s m args below meth c H locs 0 0 (MQ below (va_Qi (fun (r : Int32) (u : va_W) => o1 = r ∧ w10 ty ad o2 = u) (kz_B D ty A) A) args s 0 0 A) (F0 m 25 ls [])) (q : dS) (x1 : Int32) (x2 : Int32) (x3 : Int32) (x4 : Int32) (x5 : Int32) (H : Heap) (locs : List Loc) (ls : Array Slot) (h : zX10_look_64 k25 q x1 x2 x3 x4 x5 = some (o1, o2)) (hP : va_P D vwCl (w10 ty ad q) H) (hD : va_D A (w10 ty ad q)) (hS : va_S A s.heap H locs) (hl : lv_has ls 7 [(0, .ref (ad 0)), (1, .int x1), (2, .int x2), (3, .int x3), (4, .int x4), (5, .int x5)]) : W p l e ({ frames := 90, cells := 0, slots := 0, locals := 2289 } : Room) s m args below meth c H locs 0 0 (MQ below (va_Qi (fun (r : Int32) (u : va_W) => o1 = r ∧ w10 ty ad o2 = u) (kz_B D ty A) A) args s 0 0 A) (F0 m 64 ls []) := by
  have C0 := C
  obtain ⟨hx, hb, hr, hts, hown, hlocks, hml, hK, hN, hE, hA⟩ := C
  unfold zX10_look_64 at h
  refine lv_iinc (v := x5 + 1) (lv' := [(5, .int (x5 + 1)), (0, .ref (ad 0)), (1, .int x1), (2, .int x2), (3, .int x3), (4, .int x4)]) hx hb dX10_look_64 hl (k := 5) rfl rfl (by decide) rfl (fun ls hl => ?_)
  refine lv_goto (tgt := 25) hx hb dX10_look_67 (by decide) ?_
  exact hk25 _ _ _ _ _ _ _ _ _ h hP hD hS (lv_sub hl [1, 2, 3, 4, 5, 0] rfl)
noncomputable def zX10_look_25b (k25 : dS → Int32 → Int32 → Int32 → Int32 → Int32 → Option (Int32 × dS)) (q : dS) (x1 : Int32) (x2 : Int32) (x3 : Int32) (x4 : Int32) (x5 : Int32) : Option (Int32 × dS) := dB (zX10_size q ) (fun r1 q3 => if r1 ≤ x5 then zX10_look_70  q3 x1 x3 x4 else if x2 = 0 then zX10_look_70  q3 x1 x3 x4 else dB (zX10_mostAlike q3 x2 x5) (fun r4 q6 => if r4 < x4 then zX10_look_64 k25 q6 x1 x2 x5 r4 x5 else zX10_look_64 k25 q6 x1 x2 x3 x4 x5))
set_option maxHeartbeats 4000000 in
set_option maxRecDepth 100000 in
theorem WX10_look_25b {p : Program} {l : Launch} {e : Env} {s : State} {m : MethodId} {args : Array Value} {below : List Frame} {meth : Method} {c : Code} {D : va_G} {ty : Nat → ClassId} {eo : Nat → Nat} {A : Nat → Prop} {ad : Nat → Nat} {o1 : Int32} {o2 : dS} (C : dc_C p s m args meth c cX10_look (some .int) 7 RX10 wsX10_look D ty eo A) {k25 : dS → Int32 → Int32 → Int32 → Int32 → Int32 → Option (Int32 × dS)} (hk25 : ∀ (q : dS) (x1 : Int32) (x2 : Int32) (x3 : Int32) (x4 : Int32) (x5 : Int32) (H : Heap) (locs : List Loc) (ls : Array Slot), k25 q x1 x2 x3 x4 x5 = some (o1, o2) → va_P D vwCl (w10 ty ad q) H → va_D A (w10 ty ad q) → va_S A s.heap H locs → lv_has ls 7 [(0, .ref (ad 0)), (1, .int x1), (2, .int x2), (3, .int x3), (4, .int x4), (5, .int x5)] → W p l e ({ frames := 90, cells := 0, slots := 0, locals := 2289 } : Room) s m args below meth c H locs 0 0 (MQ below (va_Qi (fun (r : Int32) (u : va_W) => o1 = r ∧ w10 ty ad o2 = u) (kz_B D ty A) A) args s 0 0 A) (F0 m 25 ls [])) (q : dS) (x1 : Int32) (x2 : Int32) (x3 : Int32) (x4 : Int32) (x5 : Int32) (H : Heap) (locs : List Loc) (ls : Array Slot) (h : zX10_look_25b k25 q x1 x2 x3 x4 x5 = some (o1, o2)) (hP : va_P D vwCl (w10 ty ad q) H) (hD : va_D A (w10 ty ad q)) (hS : va_S A s.heap H locs) (hl : lv_has ls 7 [(0, .ref (ad 0)), (1, .int x1), (2, .int x2), (3, .int x3), (4, .int x4), (5, .int x5)]) : W p l e ({ frames := 90, cells := 0, slots := 0, locals := 2289 } : Room) s m args below meth c H locs 0 0 (MQ below (va_Qi (fun (r : Int32) (u : va_W) => o1 = r ∧ w10 ty ad o2 = u) (kz_B D ty A) A) args s 0 0 A) (F0 m 25 ls []) := by
  have C0 := C
  obtain ⟨hx, hb, hr, hts, hown, hlocks, hml, hK, hN, hE, hA⟩ := C
  unfold zX10_look_25b at h
  refine lv_iload hx hb dX10_look_25 (lv_at hl 5 rfl) ?_
  refine lv_aload_n hx hb dX10_look_27 rfl (lv_at hl 0 rfl) ?_
  obtain ⟨r1, q3, h2, h⟩ := dB_some h
  refine dw_ki (va_runV (As := []) (rest := [.int x5]) ⟨hx, hb, hml, hown, hts⟩ (qX10_size l D ty eo _ ad q  r1 q3 h2) (cwV 0 hts gX10_look_X10_size rfl rfl rfl (by decide +kernel) ⟨Nat.le_of_ble_eq_true rfl, Nat.le_of_ble_eq_true rfl⟩) (dw_preV (ci := 10) (q0 := 0) hK hN hE hP hD hS hA rfl rfl) rfl rfl hl.1 rfl (lv_room (Nat.le_of_ble_eq_true rfl)) dX10_look_28 ⟨Nat.le_of_ble_eq_true rfl, Nat.le_of_ble_eq_true rfl⟩) hD hS hA (fun r9 u9 H locs hw hp hd hs => ?_)
  clear hP hD hS
  obtain ⟨rfl, rfl⟩ := hw
  have hP := hp; have hD := hd; have hS := hs; clear hp hd hs
  refine lv_icmp_ge (tgt := 70) hx hb dX10_look_31 (by decide) (fun c9 => ?_) (fun c9 => ?_)
  · rw [if_pos c9] at h
    exact WX10_look_70 C0  _ _ _ _ _ _ _ h hP hD hS (lv_sub hl [1, 3, 4] rfl)
  · rw [if_neg c9] at h
    refine lv_iload_n hx hb dX10_look_34 rfl (lv_at hl 2 rfl) ?_
    refine lv_if_eq (tgt := 70) hx hb dX10_look_35 (by decide) (fun c9 => ?_) (fun c9 => ?_)
    · rw [if_pos c9] at h
      exact WX10_look_70 C0  _ _ _ _ _ _ _ h hP hD hS (lv_sub hl [1, 3, 4] rfl)
    · rw [if_neg c9] at h
      refine lv_aload_n hx hb dX10_look_38 rfl (lv_at hl 0 rfl) ?_
      refine lv_iload_n hx hb dX10_look_39 rfl (lv_at hl 2 rfl) ?_
      refine lv_iload hx hb dX10_look_40 (lv_at hl 5 rfl) ?_
      obtain ⟨r4, q6, h5, h⟩ := dB_some h
      refine dw_ki (va_runV (As := [.int x2, .int x5]) (rest := []) ⟨hx, hb, hml, hown, hts⟩ (qX10_mostAlike l D ty eo _ ad q3 x2 x5 r4 q6 h5) (cwV 2 hts gX10_look_X10_mostAlike rfl rfl rfl (by decide +kernel) ⟨Nat.le_of_ble_eq_true rfl, Nat.le_of_ble_eq_true rfl⟩) (dw_preV (ci := 10) (q0 := 0) hK hN hE hP hD hS hA rfl rfl) rfl rfl hl.1 rfl (lv_room (Nat.le_of_ble_eq_true rfl)) dX10_look_42 ⟨Nat.le_of_ble_eq_true rfl, Nat.le_of_ble_eq_true rfl⟩) hD hS hA (fun r9 u9 H locs hw hp hd hs => ?_)
      clear hP hD hS
      obtain ⟨rfl, rfl⟩ := hw
      have hP := hp; have hD := hd; have hS := hs; clear hp hd hs
      refine lv_istore (lv' := [(6, .int r4), (0, .ref (ad 0)), (1, .int x1), (2, .int x2), (3, .int x3), (4, .int x4), (5, .int x5)]) hx hb dX10_look_45 hl (by decide) rfl (fun ls hl => ?_)
      refine lv_iload hx hb dX10_look_47 (lv_at hl 0 rfl) ?_
      refine lv_iload hx hb dX10_look_49 (lv_at hl 5 rfl) ?_
      refine lv_icmp_lt (tgt := 57) hx hb dX10_look_51 (by decide) (fun c9 => ?_) (fun c9 => ?_)
      · rw [if_pos c9] at h
        refine lv_iload hx hb dX10_look_57 (lv_at hl 0 rfl) ?_
        refine lv_istore (lv' := [(4, .int r4), (6, .int r4), (0, .ref (ad 0)), (1, .int x1), (2, .int x2), (3, .int x3), (5, .int x5)]) hx hb dX10_look_59 hl (by decide) rfl (fun ls hl => ?_)
        refine lv_iload hx hb dX10_look_61 (lv_at hl 6 rfl) ?_
        refine lv_istore_n (lv' := [(3, .int x5), (4, .int r4), (6, .int r4), (0, .ref (ad 0)), (1, .int x1), (2, .int x2), (5, .int x5)]) hx hb dX10_look_63 rfl hl (by decide) rfl (fun ls hl => ?_)
        exact WX10_look_64 C0 hk25 _ _ _ _ _ _ _ _ _ h hP hD hS (lv_sub hl [3, 4, 5, 0, 1, 6] rfl)
      · rw [if_neg c9] at h
        refine lv_goto (tgt := 64) hx hb dX10_look_54 (by decide) ?_
        exact WX10_look_64 C0 hk25 _ _ _ _ _ _ _ _ _ h hP hD hS (lv_sub hl [1, 2, 3, 4, 5, 6] rfl)
noncomputable def zX10_look_25  (n : Nat) (q : dS) (x1 : Int32) (x2 : Int32) (x3 : Int32) (x4 : Int32) (x5 : Int32) : Option (Int32 × dS) := dFix (α := dS × Int32 × Int32 × Int32 × Int32 × Int32) (fun k a => zX10_look_25b  (fun q x1 x2 x3 x4 x5 => k (q, x1, x2, x3, x4, x5)) a.1 a.2.1 a.2.2.1 a.2.2.2.1 a.2.2.2.2.1 a.2.2.2.2.2) n (q, x1, x2, x3, x4, x5)
set_option maxHeartbeats 4000000 in
set_option maxRecDepth 100000 in
theorem WX10_look_25 {p : Program} {l : Launch} {e : Env} {s : State} {m : MethodId} {args : Array Value} {below : List Frame} {meth : Method} {c : Code} {D : va_G} {ty : Nat → ClassId} {eo : Nat → Nat} {A : Nat → Prop} {ad : Nat → Nat} {o1 : Int32} {o2 : dS} (C : dc_C p s m args meth c cX10_look (some .int) 7 RX10 wsX10_look D ty eo A)   (n : Nat) (q : dS) (x1 : Int32) (x2 : Int32) (x3 : Int32) (x4 : Int32) (x5 : Int32) (H : Heap) (locs : List Loc) (ls : Array Slot) (h : zX10_look_25  n q x1 x2 x3 x4 x5 = some (o1, o2)) (hP : va_P D vwCl (w10 ty ad q) H) (hD : va_D A (w10 ty ad q)) (hS : va_S A s.heap H locs) (hl : lv_has ls 7 [(0, .ref (ad 0)), (1, .int x1), (2, .int x2), (3, .int x3), (4, .int x4), (5, .int x5)]) : W p l e ({ frames := 90, cells := 0, slots := 0, locals := 2289 } : Room) s m args below meth c H locs 0 0 (MQ below (va_Qi (fun (r : Int32) (u : va_W) => o1 = r ∧ w10 ty ad o2 = u) (kz_B D ty A) A) args s 0 0 A) (F0 m 25 ls []) := by
  exact dFix_W (F := fun k (a : dS × Int32 × Int32 × Int32 × Int32 × Int32) => zX10_look_25b  (fun q x1 x2 x3 x4 x5 => k (q, x1, x2, x3, x4, x5)) a.1 a.2.1 a.2.2.1 a.2.2.2.1 a.2.2.2.2.1 a.2.2.2.2.2) (o := (o1, o2)) (P := fun (a : dS × Int32 × Int32 × Int32 × Int32 × Int32) H locs ls => va_P D vwCl (w10 ty ad a.1) H ∧ va_D A (w10 ty ad a.1) ∧ va_S A s.heap H locs ∧ lv_has ls 7 [(0, .ref (ad 0)), (1, .int a.2.1), (2, .int a.2.2.1), (3, .int a.2.2.2.1), (4, .int a.2.2.2.2.1), (5, .int a.2.2.2.2.2)]) (G := fun H locs ls => W p l e ({ frames := 90, cells := 0, slots := 0, locals := 2289 } : Room) s m args below meth c H locs 0 0 (MQ below (va_Qi (fun (r : Int32) (u : va_W) => o1 = r ∧ w10 ty ad o2 = u) (kz_B D ty A) A) args s 0 0 A) (F0 m 25 ls []))
    (fun k hk a H locs ls h hp => WX10_look_25b C  (fun q x1 x2 x3 x4 x5 H locs ls h h1 h2 h3 h4 => hk (q, x1, x2, x3, x4, x5) H locs ls h ⟨h1, h2, h3, h4⟩) a.1 a.2.1 a.2.2.1 a.2.2.2.1 a.2.2.2.2.1 a.2.2.2.2.2 H locs ls h hp.1 hp.2.1 hp.2.2.1 hp.2.2.2) n (q, x1, x2, x3, x4, x5) H locs ls h ⟨hP, hD, hS, hl⟩
noncomputable def zX10_look (q : dS) (p1 : Int32) : Option (Int32 × dS) := dV (zX10_lies p1 0 1) (fun r1 => if r1 = 0 then some ((-1), q) else dB (zX10_was q ) (fun r3 q5 => zX10_look_25  dF q5 p1 r3 (-1) 1000000 0))
set_option maxHeartbeats 4000000 in
set_option maxRecDepth 100000 in
theorem qX10_look (l : Launch) (D : va_G) (ty : Nat → ClassId) (eo : Nat → Nat) (sz : Nat) (ad : Nat → Nat) (q : dS) (p1 : Int32) (o1 : Int32) (o2 : dS) (h : zX10_look q p1 = some (o1, o2)) : Met l yX10_look wsX10_look ({ frames := 90, cells := 0, slots := 0, locals := 2289 } : Room) (va_Pc [.ref (ad 0), .int p1] (kz_pre D ty eo (w10 ty ad q) sz)) (va_Qi (fun (r : Int32) (u : va_W) => o1 = r ∧ w10 ty ad o2 = u) (kz_B D ty (va_A (w10 ty ad q) sz)) (va_A (w10 ty ad q) sz)) 0 0 (va_A (w10 ty ad q) sz) := by
  refine Met.ofW (cc := cX10_look) (maxL := 7) (ret := (some .int)) (by decide) rfl ?_
  intro p e s m args below meth c s₁ B hml hv
  obtain ⟨rfl, hsz, hP, hK, hD0, hN, hE⟩ := hv
  have hx := B.exec
  have hb := B.bytes
  have hr := B.returns
  have hts := atoms_spec (ws := wsX10_look) B.pre
  have hown : s.vm.findClass RX10 = some m.cls := findClass_of_methodNamed B.named
  have hlocks := B.notSynchronized
  subst hsz
  have hD := hD0.self (sz := s.heap.size)
  generalize hAe : va_A (w10 ty ad q) s.heap.size = A at hD hE ⊢
  have hA : ∀ q : Nat, s.heap.size ≤ q → A q := fun q h => by rw [← hAe]; exact Or.inr h
  clear hAe
  have hS : va_S A s.heap s.heap [] := va_S.rf
  have hl := lv_entry ([.ref (ad 0), .int p1]) (n := 7) (Nat.le_of_ble_eq_true rfl)
  rw [lg_entry_eq]
  generalize (lg_sl ([.ref (ad 0), .int p1]) ++ List.replicate (7 - (lg_sl ([.ref (ad 0), .int p1])).length) Slot.unset).toArray = ls at hl ⊢
  have hl : lv_has ls 7 [(0, .ref (ad 0)), (1, .int p1)] := hl
  have C : dc_C p s m _ meth c cX10_look (some .int) 7 RX10 wsX10_look D ty eo A := ⟨hx, hb, hr, hts, hown, hlocks, hml, hK, hN, hE, hA⟩
  unfold zX10_look at h
  refine lv_iload_n hx hb dX10_look_0 rfl (lv_at hl 1 rfl) ?_
  refine lv_iconst (v := 0) hx hb dX10_look_1 (by decide) ?_
  refine lv_iconst (v := 1) hx hb dX10_look_2 (by decide) ?_
  obtain ⟨r1, h2, h⟩ := dV_some h
  refine dw_ks (va_runS (As := [.int p1, .int 0, .int 1]) (rest := []) ⟨hx, hb, hml, hown, hts⟩ (qX10_lies l D ty eo _ p1 0 1 _ h2) (va_cwS 3 hts gX10_look_X10_lies rfl rfl rfl (by decide +kernel) ⟨Nat.le_of_ble_eq_true rfl, Nat.le_of_ble_eq_true rfl⟩) (kz_preS hK hN hE hP hD hS hA [] (by decide) rfl) rfl rfl hl.1 rfl (lv_room (Nat.le_of_ble_eq_true rfl)) dX10_look_3 ⟨Nat.le_of_ble_eq_true rfl, Nat.le_of_ble_eq_true rfl⟩) hP hD hS hA (fun _ _ h9 => h9.2.symm) (fun r9 u9 H locs hw hp hd hs => ?_)
  obtain ⟨rfl, -⟩ := hw
  clear hP hD hS
  have hP := hp; have hD := hd; have hS := hs; clear hp hd hs
  refine lv_if_ne (tgt := 11) hx hb dX10_look_6 (by decide) (fun c9 => ?_) (fun c9 => ?_)
  · rw [if_neg c9] at h
    refine lv_aload_n hx hb dX10_look_11 rfl (lv_at hl 0 rfl) ?_
    obtain ⟨r3, q5, h4, h⟩ := dB_some h
    refine dw_ki (va_runV (As := []) (rest := []) ⟨hx, hb, hml, hown, hts⟩ (qX10_was l D ty eo _ ad q  r3 q5 h4) (cwV 0 hts gX10_look_X10_was rfl rfl rfl (by decide +kernel) ⟨Nat.le_of_ble_eq_true rfl, Nat.le_of_ble_eq_true rfl⟩) (dw_preV (ci := 10) (q0 := 0) hK hN hE hP hD hS hA rfl rfl) rfl rfl hl.1 rfl (lv_room (Nat.le_of_ble_eq_true rfl)) dX10_look_12 ⟨Nat.le_of_ble_eq_true rfl, Nat.le_of_ble_eq_true rfl⟩) hD hS hA (fun r9 u9 H locs hw hp hd hs => ?_)
    clear hP hD hS
    obtain ⟨rfl, rfl⟩ := hw
    have hP := hp; have hD := hd; have hS := hs; clear hp hd hs
    refine lv_istore_n (lv' := [(2, .int r3), (0, .ref (ad 0)), (1, .int p1)]) hx hb dX10_look_15 rfl hl (by decide) rfl (fun ls hl => ?_)
    refine lv_iconst (v := (-1)) hx hb dX10_look_16 (by decide) ?_
    refine lv_istore_n (lv' := [(3, .int (-1)), (2, .int r3), (0, .ref (ad 0)), (1, .int p1)]) hx hb dX10_look_17 rfl hl (by decide) rfl (fun ls hl => ?_)
    refine lv_ldc (v := 1000000) hx hb hown (hts (.constant RX10 188 1000000) (by decide +kernel)) dX10_look_18 ?_
    refine lv_istore (lv' := [(4, .int 1000000), (3, .int (-1)), (2, .int r3), (0, .ref (ad 0)), (1, .int p1)]) hx hb dX10_look_20 hl (by decide) rfl (fun ls hl => ?_)
    refine lv_iconst (v := 0) hx hb dX10_look_22 (by decide) ?_
    refine lv_istore (lv' := [(5, .int 0), (4, .int 1000000), (3, .int (-1)), (2, .int r3), (0, .ref (ad 0)), (1, .int p1)]) hx hb dX10_look_23 hl (by decide) rfl (fun ls hl => ?_)
    exact WX10_look_25 C  _ _ _ _ _ _ _ _ _ _ h hP hD hS (lv_sub hl [4, 5, 3, 2, 1, 0] rfl)
  · rw [if_pos c9] at h
    refine lv_iconst (v := (-1)) hx hb dX10_look_9 (by decide) ?_
    cases h
    exact kz_iret hx hb hr hlocks hP hK hD hS dX10_look_10 ⟨rfl, rfl⟩

noncomputable def zX10_few_151b (k151 : dS → Int32 → Int64 → Int32 → Option (Int64 × dS)) (q : dS) (x1 : Int32) (x3 : Int64) (x5 : Int32) : Option (Int64 × dS) := if x1 ≤ x5 then some (x3, q) else dG (dg x5 21) (dL (q.2 26 (Int32.toNatClampNeg x5)) (fun v2 => k151 q x1 (x3 + v2 : Int64) (x5 + 1)))
set_option maxHeartbeats 4000000 in
set_option maxRecDepth 100000 in
theorem WX10_few_151b {p : Program} {l : Launch} {e : Env} {s : State} {m : MethodId} {args : Array Value} {below : List Frame} {meth : Method} {c : Code} {D : va_G} {ty : Nat → ClassId} {eo : Nat → Nat} {A : Nat → Prop} {ad : Nat → Nat} {o1 : Int64} {o2 : dS} (C : dc_C p s m args meth c cX10_few (some .long) 6 RX10 wsX10_few D ty eo A) {k151 : dS → Int32 → Int64 → Int32 → Option (Int64 × dS)} (hk151 : ∀ (q : dS) (x1 : Int32) (x3 : Int64) (x5 : Int32) (H : Heap) (locs : List Loc) (ls : Array Slot), k151 q x1 x3 x5 = some (o1, o2) → va_P D vwCl (w10 ty ad q) H → va_D A (w10 ty ad q) → va_S A s.heap H locs → lv_has ls 6 [(0, .ref (ad 0)), (1, .int x1), (3, .long x3), (5, .int x5)] → W p l e ({ frames := 1, cells := 0, slots := 0, locals := 22 } : Room) s m args below meth c H locs 0 0 (MQ below (va_Ql (fun (r : Int64) (u : va_W) => o1 = r ∧ w10 ty ad o2 = u) (kz_B D ty A) A) args s 0 0 A) (F0 m 151 ls [])) (q : dS) (x1 : Int32) (x3 : Int64) (x5 : Int32) (H : Heap) (locs : List Loc) (ls : Array Slot) (h : zX10_few_151b k151 q x1 x3 x5 = some (o1, o2)) (hP : va_P D vwCl (w10 ty ad q) H) (hD : va_D A (w10 ty ad q)) (hS : va_S A s.heap H locs) (hl : lv_has ls 6 [(0, .ref (ad 0)), (1, .int x1), (3, .long x3), (5, .int x5)]) : W p l e ({ frames := 1, cells := 0, slots := 0, locals := 22 } : Room) s m args below meth c H locs 0 0 (MQ below (va_Ql (fun (r : Int64) (u : va_W) => o1 = r ∧ w10 ty ad o2 = u) (kz_B D ty A) A) args s 0 0 A) (F0 m 151 ls []) := by
  have C0 := C
  obtain ⟨hx, hb, hr, hts, hown, hlocks, hml, hK, hN, hE, hA⟩ := C
  unfold zX10_few_151b at h
  refine lv_iload hx hb dX10_few_151 (lv_at hl 3 rfl) ?_
  refine lv_iload_n hx hb dX10_few_153 rfl (lv_at hl 1 rfl) ?_
  refine lv_icmp_ge (tgt := 173) hx hb dX10_few_154 (by decide) (fun c9 => ?_) (fun c9 => ?_)
  · rw [if_pos c9] at h
    refine lv_lload_n hx hb dX10_few_173 rfl (lv_at hl 2 rfl) ?_
    cases h
    exact kz_lret hx hb hr hlocks hP hK hD hS dX10_few_174 ⟨rfl, rfl⟩
  · rw [if_neg c9] at h
    refine lv_lload_n hx hb dX10_few_157 rfl (lv_at hl 2 rfl) ?_
    refine lv_aload_n hx hb dX10_few_158 rfl (lv_at hl 0 rfl) ?_
    refine va_get (D := D) (ci := 10) (v := .ref (ad 26)) (C := RX10) (T := TX10) (N := 56) hx hb hts (by decide +kernel) hown hK hP 0 rfl rfl 45 (by decide) (hts (.fieldLink RX10 106 "TurnedFloorsModel" "shares" "[J") (by decide +kernel)) (fun _ h9 => h9) rfl dX10_few_159 ?_
    refine lv_iload hx hb dX10_few_162 (lv_at hl 3 rfl) ?_
    obtain ⟨g1, h⟩ := dG_some h
    refine va_lald hx hb hK hP 26 1 rfl rfl (dg_in g1) dX10_few_164 ?_
    obtain ⟨v2, ev2, h⟩ := dL_some h
    refine kz_topl v2 ev2 ?_
    refine lv_ladd hx hb dX10_few_165 ?_
    refine lv_lstore_n (lv' := [(3, .long (x3 + v2 : Int64)), (0, .ref (ad 0)), (1, .int x1), (5, .int x5)]) hx hb dX10_few_166 rfl hl (by decide) rfl (fun ls hl => ?_)
    refine lv_iinc (v := x5 + 1) (lv' := [(5, .int (x5 + 1)), (3, .long (x3 + v2 : Int64)), (0, .ref (ad 0)), (1, .int x1)]) hx hb dX10_few_167 hl (k := 3) rfl rfl (by decide) rfl (fun ls hl => ?_)
    refine lv_goto (tgt := 151) hx hb dX10_few_170 (by decide) ?_
    exact hk151 _ _ _ _ _ _ _ h hP hD hS (lv_sub hl [2, 3, 1, 0] rfl)
noncomputable def zX10_few_151  (n : Nat) (q : dS) (x1 : Int32) (x3 : Int64) (x5 : Int32) : Option (Int64 × dS) := dFix (α := dS × Int32 × Int64 × Int32) (fun k a => zX10_few_151b  (fun q x1 x3 x5 => k (q, x1, x3, x5)) a.1 a.2.1 a.2.2.1 a.2.2.2) n (q, x1, x3, x5)
set_option maxHeartbeats 4000000 in
set_option maxRecDepth 100000 in
theorem WX10_few_151 {p : Program} {l : Launch} {e : Env} {s : State} {m : MethodId} {args : Array Value} {below : List Frame} {meth : Method} {c : Code} {D : va_G} {ty : Nat → ClassId} {eo : Nat → Nat} {A : Nat → Prop} {ad : Nat → Nat} {o1 : Int64} {o2 : dS} (C : dc_C p s m args meth c cX10_few (some .long) 6 RX10 wsX10_few D ty eo A)   (n : Nat) (q : dS) (x1 : Int32) (x3 : Int64) (x5 : Int32) (H : Heap) (locs : List Loc) (ls : Array Slot) (h : zX10_few_151  n q x1 x3 x5 = some (o1, o2)) (hP : va_P D vwCl (w10 ty ad q) H) (hD : va_D A (w10 ty ad q)) (hS : va_S A s.heap H locs) (hl : lv_has ls 6 [(0, .ref (ad 0)), (1, .int x1), (3, .long x3), (5, .int x5)]) : W p l e ({ frames := 1, cells := 0, slots := 0, locals := 22 } : Room) s m args below meth c H locs 0 0 (MQ below (va_Ql (fun (r : Int64) (u : va_W) => o1 = r ∧ w10 ty ad o2 = u) (kz_B D ty A) A) args s 0 0 A) (F0 m 151 ls []) := by
  exact dFix_W (F := fun k (a : dS × Int32 × Int64 × Int32) => zX10_few_151b  (fun q x1 x3 x5 => k (q, x1, x3, x5)) a.1 a.2.1 a.2.2.1 a.2.2.2) (o := (o1, o2)) (P := fun (a : dS × Int32 × Int64 × Int32) H locs ls => va_P D vwCl (w10 ty ad a.1) H ∧ va_D A (w10 ty ad a.1) ∧ va_S A s.heap H locs ∧ lv_has ls 6 [(0, .ref (ad 0)), (1, .int a.2.1), (3, .long a.2.2.1), (5, .int a.2.2.2)]) (G := fun H locs ls => W p l e ({ frames := 1, cells := 0, slots := 0, locals := 22 } : Room) s m args below meth c H locs 0 0 (MQ below (va_Ql (fun (r : Int64) (u : va_W) => o1 = r ∧ w10 ty ad o2 = u) (kz_B D ty A) A) args s 0 0 A) (F0 m 151 ls []))
    (fun k hk a H locs ls h hp => WX10_few_151b C  (fun q x1 x3 x5 H locs ls h h1 h2 h3 h4 => hk (q, x1, x3, x5) H locs ls h ⟨h1, h2, h3, h4⟩) a.1 a.2.1 a.2.2.1 a.2.2.2 H locs ls h hp.1 hp.2.1 hp.2.2.1 hp.2.2.2) n (q, x1, x3, x5) H locs ls h ⟨hP, hD, hS, hl⟩
noncomputable def zX10_few_67b (k57 : dS → Int32 → Int32 → Int32 → Option (Int64 × dS)) (k67 : dS → Int32 → Int32 → Int32 → Int32 → Option (Int64 × dS)) (q : dS) (x1 : Int32) (x2 : Int32) (x3 : Int32) (x4 : Int32) : Option (Int64 × dS) := if x4 < 0 then k57 q x1 x2 (x3 + 1) else dG (dg (x4 + 1 : Int32) 21) (dL (q.2 26 (Int32.toNatClampNeg (x4 + 1 : Int32))) (fun v2 => dG (dg x4 21) (dL (q.2 26 (Int32.toNatClampNeg x4)) (fun v4 => dL (v2 + ((v4 * (Int32.toInt64 (q.1 2 26)) : Int64) / 10 : Int64) : Int64) (fun v5 => dG (dg (x4 + 1 : Int32) 21) (dL (dul q 26 (Int32.toNatClampNeg (x4 + 1 : Int32)) v5) (fun q7 => dG (dg x4 21) (dL (q7.2 26 (Int32.toNatClampNeg x4)) (fun v9 => dL ((v9 * (Int32.toInt64 (10 - (q7.1 2 26) : Int32)) : Int64) / 10 : Int64) (fun v10 => dG (dg x4 21) (dL (dul q7 26 (Int32.toNatClampNeg x4) v10) (fun q12 => k67 q12 x1 x2 x3 (x4 + (-1))))))))))))))
set_option maxHeartbeats 4000000 in
set_option maxRecDepth 100000 in
theorem WX10_few_67b {p : Program} {l : Launch} {e : Env} {s : State} {m : MethodId} {args : Array Value} {below : List Frame} {meth : Method} {c : Code} {D : va_G} {ty : Nat → ClassId} {eo : Nat → Nat} {A : Nat → Prop} {ad : Nat → Nat} {o1 : Int64} {o2 : dS} (C : dc_C p s m args meth c cX10_few (some .long) 6 RX10 wsX10_few D ty eo A) {k57 : dS → Int32 → Int32 → Int32 → Option (Int64 × dS)} {k67 : dS → Int32 → Int32 → Int32 → Int32 → Option (Int64 × dS)} (hk57 : ∀ (q : dS) (x1 : Int32) (x2 : Int32) (x3 : Int32) (H : Heap) (locs : List Loc) (ls : Array Slot), k57 q x1 x2 x3 = some (o1, o2) → va_P D vwCl (w10 ty ad q) H → va_D A (w10 ty ad q) → va_S A s.heap H locs → lv_has ls 6 [(0, .ref (ad 0)), (1, .int x1), (2, .int x2), (3, .int x3)] → W p l e ({ frames := 1, cells := 0, slots := 0, locals := 22 } : Room) s m args below meth c H locs 0 0 (MQ below (va_Ql (fun (r : Int64) (u : va_W) => o1 = r ∧ w10 ty ad o2 = u) (kz_B D ty A) A) args s 0 0 A) (F0 m 57 ls [])) (hk67 : ∀ (q : dS) (x1 : Int32) (x2 : Int32) (x3 : Int32) (x4 : Int32) (H : Heap) (locs : List Loc) (ls : Array Slot), k67 q x1 x2 x3 x4 = some (o1, o2) → va_P D vwCl (w10 ty ad q) H → va_D A (w10 ty ad q) → va_S A s.heap H locs → lv_has ls 6 [(0, .ref (ad 0)), (1, .int x1), (2, .int x2), (3, .int x3), (4, .int x4)] → W p l e ({ frames := 1, cells := 0, slots := 0, locals := 22 } : Room) s m args below meth c H locs 0 0 (MQ below (va_Ql (fun (r : Int64) (u : va_W) => o1 = r ∧ w10 ty ad o2 = u) (kz_B D ty A) A) args s 0 0 A) (F0 m 67 ls [])) (q : dS) (x1 : Int32) (x2 : Int32) (x3 : Int32) (x4 : Int32) (H : Heap) (locs : List Loc) (ls : Array Slot) (h : zX10_few_67b k57 k67 q x1 x2 x3 x4 = some (o1, o2)) (hP : va_P D vwCl (w10 ty ad q) H) (hD : va_D A (w10 ty ad q)) (hS : va_S A s.heap H locs) (hl : lv_has ls 6 [(0, .ref (ad 0)), (1, .int x1), (2, .int x2), (3, .int x3), (4, .int x4)]) : W p l e ({ frames := 1, cells := 0, slots := 0, locals := 22 } : Room) s m args below meth c H locs 0 0 (MQ below (va_Ql (fun (r : Int64) (u : va_W) => o1 = r ∧ w10 ty ad o2 = u) (kz_B D ty A) A) args s 0 0 A) (F0 m 67 ls []) := by
  have C0 := C
  obtain ⟨hx, hb, hr, hts, hown, hlocks, hml, hK, hN, hE, hA⟩ := C
  unfold zX10_few_67b at h
  refine lv_iload hx hb dX10_few_67 (lv_at hl 4 rfl) ?_
  refine lv_if_lt (tgt := 140) hx hb dX10_few_69 (by decide) (fun c9 => ?_) (fun c9 => ?_)
  · rw [if_pos c9] at h
    refine lv_iinc (v := x3 + 1) (lv' := [(3, .int (x3 + 1)), (0, .ref (ad 0)), (1, .int x1), (2, .int x2), (4, .int x4)]) hx hb dX10_few_140 hl (k := 3) rfl rfl (by decide) rfl (fun ls hl => ?_)
    refine lv_goto (tgt := 57) hx hb dX10_few_143 (by decide) ?_
    exact hk57 _ _ _ _ _ _ _ h hP hD hS (lv_sub hl [1, 2, 3, 0] rfl)
  · rw [if_neg c9] at h
    refine lv_aload_n hx hb dX10_few_72 rfl (lv_at hl 0 rfl) ?_
    refine va_get (D := D) (ci := 10) (v := .ref (ad 26)) (C := RX10) (T := TX10) (N := 56) hx hb hts (by decide +kernel) hown hK hP 0 rfl rfl 45 (by decide) (hts (.fieldLink RX10 106 "TurnedFloorsModel" "shares" "[J") (by decide +kernel)) (fun _ h9 => h9) rfl dX10_few_73 ?_
    refine lv_iload hx hb dX10_few_76 (lv_at hl 4 rfl) ?_
    refine lv_iconst (v := 1) hx hb dX10_few_78 (by decide) ?_
    refine lv_iadd hx hb dX10_few_79 ?_
    refine lv_dup2_11 hx hb dX10_few_80 rfl rfl ?_
    obtain ⟨g1, h⟩ := dG_some h
    refine va_lald hx hb hK hP 26 1 rfl rfl (dg_in g1) dX10_few_81 ?_
    obtain ⟨v2, ev2, h⟩ := dL_some h
    refine kz_topl v2 ev2 ?_
    refine lv_aload_n hx hb dX10_few_82 rfl (lv_at hl 0 rfl) ?_
    refine va_get (D := D) (ci := 10) (v := .ref (ad 26)) (C := RX10) (T := TX10) (N := 56) hx hb hts (by decide +kernel) hown hK hP 0 rfl rfl 45 (by decide) (hts (.fieldLink RX10 106 "TurnedFloorsModel" "shares" "[J") (by decide +kernel)) (fun _ h9 => h9) rfl dX10_few_83 ?_
    refine lv_iload hx hb dX10_few_86 (lv_at hl 4 rfl) ?_
    obtain ⟨g3, h⟩ := dG_some h
    refine va_lald hx hb hK hP 26 1 rfl rfl (dg_in g3) dX10_few_88 ?_
    obtain ⟨v4, ev4, h⟩ := dL_some h
    refine kz_topl v4 ev4 ?_
    refine lv_aload_n hx hb dX10_few_89 rfl (lv_at hl 0 rfl) ?_
    refine va_get (D := D) (ci := 10) (v := .ref (ad 2)) (C := RX10) (T := TX10) (N := 56) hx hb hts (by decide +kernel) hown hK hP 0 rfl rfl 2 (by decide) (hts (.fieldLink RX10 28 "TurnedFloorsModel" "kept" "[I") (by decide +kernel)) (fun _ h9 => h9) rfl dX10_few_90 ?_
    refine lv_bipush (v := 26) hx hb dX10_few_93 (by decide) ?_
    refine va_iald hx hb hK hP 2 0 rfl rfl (by simp only [vp_in]; decide) dX10_few_95 ?_
    refine kz_topi (q.1 2 26) (congrArg (q.1 2) (by decide +kernel : Int32.toNatClampNeg 26 = 26)) ?_
    refine lv_i2l (v := Int32.toInt64 (q.1 2 26)) hx hb dX10_few_96 rfl ?_
    refine lv_lmul hx hb dX10_few_97 ?_
    refine lv_ldc2 (v := 10) hx hb hown (hts (.constantLong RX10 470 10) (by decide +kernel)) dX10_few_98 ?_
    refine lv_ldiv hx hb dX10_few_101 (by decide) ?_
    refine lv_ladd hx hb dX10_few_102 ?_
    obtain ⟨v5, ev5, h⟩ := dL_some h
    refine kz_topl v5 ev5 ?_
    obtain ⟨g6, h⟩ := dG_some h
    refine va_last hx hb hK hP hD hS 26 1 rfl rfl (dg_in g6) dX10_few_103 (fun H locs hp hd hs => ?_)
    obtain ⟨q7, eq7, h⟩ := dL_some h
    refine kz_re (w2 := w10 ty ad q7) hp hd hs (by rw [← eq7]; exact w10_a26 ty ad q (Int32.toNatClampNeg (x4 + 1 : Int32)) v5) ?_
    clear hp hd hs hP hD hS
    intro hP hD hS
    refine lv_aload_n hx hb dX10_few_104 rfl (lv_at hl 0 rfl) ?_
    refine va_get (D := D) (ci := 10) (v := .ref (ad 26)) (C := RX10) (T := TX10) (N := 56) hx hb hts (by decide +kernel) hown hK hP 0 rfl rfl 45 (by decide) (hts (.fieldLink RX10 106 "TurnedFloorsModel" "shares" "[J") (by decide +kernel)) (fun _ h9 => h9) rfl dX10_few_105 ?_
    refine lv_iload hx hb dX10_few_108 (lv_at hl 4 rfl) ?_
    refine lv_aload_n hx hb dX10_few_110 rfl (lv_at hl 0 rfl) ?_
    refine va_get (D := D) (ci := 10) (v := .ref (ad 26)) (C := RX10) (T := TX10) (N := 56) hx hb hts (by decide +kernel) hown hK hP 0 rfl rfl 45 (by decide) (hts (.fieldLink RX10 106 "TurnedFloorsModel" "shares" "[J") (by decide +kernel)) (fun _ h9 => h9) rfl dX10_few_111 ?_
    refine lv_iload hx hb dX10_few_114 (lv_at hl 4 rfl) ?_
    obtain ⟨g8, h⟩ := dG_some h
    refine va_lald hx hb hK hP 26 1 rfl rfl (dg_in g8) dX10_few_116 ?_
    obtain ⟨v9, ev9, h⟩ := dL_some h
    refine kz_topl v9 ev9 ?_
    refine lv_bipush (v := 10) hx hb dX10_few_117 (by decide) ?_
    refine lv_aload_n hx hb dX10_few_119 rfl (lv_at hl 0 rfl) ?_
    refine va_get (D := D) (ci := 10) (v := .ref (ad 2)) (C := RX10) (T := TX10) (N := 56) hx hb hts (by decide +kernel) hown hK hP 0 rfl rfl 2 (by decide) (hts (.fieldLink RX10 28 "TurnedFloorsModel" "kept" "[I") (by decide +kernel)) (fun _ h9 => h9) rfl dX10_few_120 ?_
    refine lv_bipush (v := 26) hx hb dX10_few_123 (by decide) ?_
    refine va_iald hx hb hK hP 2 0 rfl rfl (by simp only [vp_in]; decide) dX10_few_125 ?_
    refine kz_topi (q7.1 2 26) (congrArg (q7.1 2) (by decide +kernel : Int32.toNatClampNeg 26 = 26)) ?_
    refine lv_isub hx hb dX10_few_126 ?_
    refine lv_i2l (v := Int32.toInt64 (10 - (q7.1 2 26) : Int32)) hx hb dX10_few_127 rfl ?_
    refine lv_lmul hx hb dX10_few_128 ?_
    refine lv_ldc2 (v := 10) hx hb hown (hts (.constantLong RX10 470 10) (by decide +kernel)) dX10_few_129 ?_
    refine lv_ldiv hx hb dX10_few_132 (by decide) ?_
    obtain ⟨v10, ev10, h⟩ := dL_some h
    refine kz_topl v10 ev10 ?_
    obtain ⟨g11, h⟩ := dG_some h
    refine va_last hx hb hK hP hD hS 26 1 rfl rfl (dg_in g11) dX10_few_133 (fun H locs hp hd hs => ?_)
    obtain ⟨q12, eq12, h⟩ := dL_some h
    refine kz_re (w2 := w10 ty ad q12) hp hd hs (by rw [← eq12]; exact w10_a26 ty ad q7 (Int32.toNatClampNeg x4) v10) ?_
    clear hp hd hs hP hD hS
    intro hP hD hS
    refine lv_iinc (v := x4 + (-1)) (lv' := [(4, .int (x4 + (-1))), (0, .ref (ad 0)), (1, .int x1), (2, .int x2), (3, .int x3)]) hx hb dX10_few_134 hl (k := 4) rfl rfl (by decide) rfl (fun ls hl => ?_)
    refine lv_goto (tgt := 67) hx hb dX10_few_137 (by decide) ?_
    exact hk67 _ _ _ _ _ _ _ _ h hP hD hS (lv_sub hl [1, 2, 3, 4, 0] rfl)
noncomputable def zX10_few_67 (k57 : dS → Int32 → Int32 → Int32 → Option (Int64 × dS)) (n : Nat) (q : dS) (x1 : Int32) (x2 : Int32) (x3 : Int32) (x4 : Int32) : Option (Int64 × dS) := dFix (α := dS × Int32 × Int32 × Int32 × Int32) (fun k a => zX10_few_67b k57 (fun q x1 x2 x3 x4 => k (q, x1, x2, x3, x4)) a.1 a.2.1 a.2.2.1 a.2.2.2.1 a.2.2.2.2) n (q, x1, x2, x3, x4)
set_option maxHeartbeats 4000000 in
set_option maxRecDepth 100000 in
theorem WX10_few_67 {p : Program} {l : Launch} {e : Env} {s : State} {m : MethodId} {args : Array Value} {below : List Frame} {meth : Method} {c : Code} {D : va_G} {ty : Nat → ClassId} {eo : Nat → Nat} {A : Nat → Prop} {ad : Nat → Nat} {o1 : Int64} {o2 : dS} (C : dc_C p s m args meth c cX10_few (some .long) 6 RX10 wsX10_few D ty eo A) {k57 : dS → Int32 → Int32 → Int32 → Option (Int64 × dS)} (hk57 : ∀ (q : dS) (x1 : Int32) (x2 : Int32) (x3 : Int32) (H : Heap) (locs : List Loc) (ls : Array Slot), k57 q x1 x2 x3 = some (o1, o2) → va_P D vwCl (w10 ty ad q) H → va_D A (w10 ty ad q) → va_S A s.heap H locs → lv_has ls 6 [(0, .ref (ad 0)), (1, .int x1), (2, .int x2), (3, .int x3)] → W p l e ({ frames := 1, cells := 0, slots := 0, locals := 22 } : Room) s m args below meth c H locs 0 0 (MQ below (va_Ql (fun (r : Int64) (u : va_W) => o1 = r ∧ w10 ty ad o2 = u) (kz_B D ty A) A) args s 0 0 A) (F0 m 57 ls [])) (n : Nat) (q : dS) (x1 : Int32) (x2 : Int32) (x3 : Int32) (x4 : Int32) (H : Heap) (locs : List Loc) (ls : Array Slot) (h : zX10_few_67 k57 n q x1 x2 x3 x4 = some (o1, o2)) (hP : va_P D vwCl (w10 ty ad q) H) (hD : va_D A (w10 ty ad q)) (hS : va_S A s.heap H locs) (hl : lv_has ls 6 [(0, .ref (ad 0)), (1, .int x1), (2, .int x2), (3, .int x3), (4, .int x4)]) : W p l e ({ frames := 1, cells := 0, slots := 0, locals := 22 } : Room) s m args below meth c H locs 0 0 (MQ below (va_Ql (fun (r : Int64) (u : va_W) => o1 = r ∧ w10 ty ad o2 = u) (kz_B D ty A) A) args s 0 0 A) (F0 m 67 ls []) := by
  exact dFix_W (F := fun k (a : dS × Int32 × Int32 × Int32 × Int32) => zX10_few_67b k57 (fun q x1 x2 x3 x4 => k (q, x1, x2, x3, x4)) a.1 a.2.1 a.2.2.1 a.2.2.2.1 a.2.2.2.2) (o := (o1, o2)) (P := fun (a : dS × Int32 × Int32 × Int32 × Int32) H locs ls => va_P D vwCl (w10 ty ad a.1) H ∧ va_D A (w10 ty ad a.1) ∧ va_S A s.heap H locs ∧ lv_has ls 6 [(0, .ref (ad 0)), (1, .int a.2.1), (2, .int a.2.2.1), (3, .int a.2.2.2.1), (4, .int a.2.2.2.2)]) (G := fun H locs ls => W p l e ({ frames := 1, cells := 0, slots := 0, locals := 22 } : Room) s m args below meth c H locs 0 0 (MQ below (va_Ql (fun (r : Int64) (u : va_W) => o1 = r ∧ w10 ty ad o2 = u) (kz_B D ty A) A) args s 0 0 A) (F0 m 67 ls []))
    (fun k hk a H locs ls h hp => WX10_few_67b C hk57 (fun q x1 x2 x3 x4 H locs ls h h1 h2 h3 h4 => hk (q, x1, x2, x3, x4) H locs ls h ⟨h1, h2, h3, h4⟩) a.1 a.2.1 a.2.2.1 a.2.2.2.1 a.2.2.2.2 H locs ls h hp.1 hp.2.1 hp.2.2.1 hp.2.2.2) n (q, x1, x2, x3, x4) H locs ls h ⟨hP, hD, hS, hl⟩
noncomputable def zX10_few_57b (k57 : dS → Int32 → Int32 → Int32 → Option (Int64 × dS)) (q : dS) (x1 : Int32) (x2 : Int32) (x3 : Int32) : Option (Int64 × dS) := if x2 ≤ x3 then zX10_few_151  dF q x1 0 0 else zX10_few_67 k57 dF q x1 x2 x3 (x1 - 1 : Int32)
set_option maxHeartbeats 4000000 in
set_option maxRecDepth 100000 in
theorem WX10_few_57b {p : Program} {l : Launch} {e : Env} {s : State} {m : MethodId} {args : Array Value} {below : List Frame} {meth : Method} {c : Code} {D : va_G} {ty : Nat → ClassId} {eo : Nat → Nat} {A : Nat → Prop} {ad : Nat → Nat} {o1 : Int64} {o2 : dS} (C : dc_C p s m args meth c cX10_few (some .long) 6 RX10 wsX10_few D ty eo A) {k57 : dS → Int32 → Int32 → Int32 → Option (Int64 × dS)} (hk57 : ∀ (q : dS) (x1 : Int32) (x2 : Int32) (x3 : Int32) (H : Heap) (locs : List Loc) (ls : Array Slot), k57 q x1 x2 x3 = some (o1, o2) → va_P D vwCl (w10 ty ad q) H → va_D A (w10 ty ad q) → va_S A s.heap H locs → lv_has ls 6 [(0, .ref (ad 0)), (1, .int x1), (2, .int x2), (3, .int x3)] → W p l e ({ frames := 1, cells := 0, slots := 0, locals := 22 } : Room) s m args below meth c H locs 0 0 (MQ below (va_Ql (fun (r : Int64) (u : va_W) => o1 = r ∧ w10 ty ad o2 = u) (kz_B D ty A) A) args s 0 0 A) (F0 m 57 ls [])) (q : dS) (x1 : Int32) (x2 : Int32) (x3 : Int32) (H : Heap) (locs : List Loc) (ls : Array Slot) (h : zX10_few_57b k57 q x1 x2 x3 = some (o1, o2)) (hP : va_P D vwCl (w10 ty ad q) H) (hD : va_D A (w10 ty ad q)) (hS : va_S A s.heap H locs) (hl : lv_has ls 6 [(0, .ref (ad 0)), (1, .int x1), (2, .int x2), (3, .int x3)]) : W p l e ({ frames := 1, cells := 0, slots := 0, locals := 22 } : Room) s m args below meth c H locs 0 0 (MQ below (va_Ql (fun (r : Int64) (u : va_W) => o1 = r ∧ w10 ty ad o2 = u) (kz_B D ty A) A) args s 0 0 A) (F0 m 57 ls []) := by
  have C0 := C
  obtain ⟨hx, hb, hr, hts, hown, hlocks, hml, hK, hN, hE, hA⟩ := C
  unfold zX10_few_57b at h
  refine lv_iload_n hx hb dX10_few_57 rfl (lv_at hl 3 rfl) ?_
  refine lv_iload_n hx hb dX10_few_58 rfl (lv_at hl 2 rfl) ?_
  refine lv_icmp_ge (tgt := 146) hx hb dX10_few_59 (by decide) (fun c9 => ?_) (fun c9 => ?_)
  · rw [if_pos c9] at h
    refine lv_lconst (v := 0) hx hb dX10_few_146 (by decide) ?_
    refine lv_lstore_n (lv' := [(3, .long 0), (0, .ref (ad 0)), (1, .int x1), (2, .int x2)]) hx hb dX10_few_147 rfl hl (by decide) rfl (fun ls hl => ?_)
    refine lv_iconst (v := 0) hx hb dX10_few_148 (by decide) ?_
    refine lv_istore (lv' := [(5, .int 0), (3, .long 0), (0, .ref (ad 0)), (1, .int x1), (2, .int x2)]) hx hb dX10_few_149 hl (by decide) rfl (fun ls hl => ?_)
    exact WX10_few_151 C0  _ _ _ _ _ _ _ _ h hP hD hS (lv_sub hl [2, 3, 1, 0] rfl)
  · rw [if_neg c9] at h
    refine lv_iload_n hx hb dX10_few_62 rfl (lv_at hl 1 rfl) ?_
    refine lv_iconst (v := 1) hx hb dX10_few_63 (by decide) ?_
    refine lv_isub hx hb dX10_few_64 ?_
    refine lv_istore (lv' := [(4, .int (x1 - 1 : Int32)), (0, .ref (ad 0)), (1, .int x1), (2, .int x2), (3, .int x3)]) hx hb dX10_few_65 hl (by decide) rfl (fun ls hl => ?_)
    exact WX10_few_67 C0 hk57 _ _ _ _ _ _ _ _ _ h hP hD hS (lv_sub hl [1, 2, 3, 4, 0] rfl)
noncomputable def zX10_few_57  (n : Nat) (q : dS) (x1 : Int32) (x2 : Int32) (x3 : Int32) : Option (Int64 × dS) := dFix (α := dS × Int32 × Int32 × Int32) (fun k a => zX10_few_57b  (fun q x1 x2 x3 => k (q, x1, x2, x3)) a.1 a.2.1 a.2.2.1 a.2.2.2) n (q, x1, x2, x3)
set_option maxHeartbeats 4000000 in
set_option maxRecDepth 100000 in
theorem WX10_few_57 {p : Program} {l : Launch} {e : Env} {s : State} {m : MethodId} {args : Array Value} {below : List Frame} {meth : Method} {c : Code} {D : va_G} {ty : Nat → ClassId} {eo : Nat → Nat} {A : Nat → Prop} {ad : Nat → Nat} {o1 : Int64} {o2 : dS} (C : dc_C p s m args meth c cX10_few (some .long) 6 RX10 wsX10_few D ty eo A)   (n : Nat) (q : dS) (x1 : Int32) (x2 : Int32) (x3 : Int32) (H : Heap) (locs : List Loc) (ls : Array Slot) (h : zX10_few_57  n q x1 x2 x3 = some (o1, o2)) (hP : va_P D vwCl (w10 ty ad q) H) (hD : va_D A (w10 ty ad q)) (hS : va_S A s.heap H locs) (hl : lv_has ls 6 [(0, .ref (ad 0)), (1, .int x1), (2, .int x2), (3, .int x3)]) : W p l e ({ frames := 1, cells := 0, slots := 0, locals := 22 } : Room) s m args below meth c H locs 0 0 (MQ below (va_Ql (fun (r : Int64) (u : va_W) => o1 = r ∧ w10 ty ad o2 = u) (kz_B D ty A) A) args s 0 0 A) (F0 m 57 ls []) := by
  exact dFix_W (F := fun k (a : dS × Int32 × Int32 × Int32) => zX10_few_57b  (fun q x1 x2 x3 => k (q, x1, x2, x3)) a.1 a.2.1 a.2.2.1 a.2.2.2) (o := (o1, o2)) (P := fun (a : dS × Int32 × Int32 × Int32) H locs ls => va_P D vwCl (w10 ty ad a.1) H ∧ va_D A (w10 ty ad a.1) ∧ va_S A s.heap H locs ∧ lv_has ls 6 [(0, .ref (ad 0)), (1, .int a.2.1), (2, .int a.2.2.1), (3, .int a.2.2.2)]) (G := fun H locs ls => W p l e ({ frames := 1, cells := 0, slots := 0, locals := 22 } : Room) s m args below meth c H locs 0 0 (MQ below (va_Ql (fun (r : Int64) (u : va_W) => o1 = r ∧ w10 ty ad o2 = u) (kz_B D ty A) A) args s 0 0 A) (F0 m 57 ls []))
    (fun k hk a H locs ls h hp => WX10_few_57b C  (fun q x1 x2 x3 H locs ls h h1 h2 h3 h4 => hk (q, x1, x2, x3) H locs ls h ⟨h1, h2, h3, h4⟩) a.1 a.2.1 a.2.2.1 a.2.2.2 H locs ls h hp.1 hp.2.1 hp.2.2.1 hp.2.2.2) n (q, x1, x2, x3) H locs ls h ⟨hP, hD, hS, hl⟩
noncomputable def zX10_few_48 (k26 : dS → Int32 → Int32 → Int32 → Option (Int64 × dS)) (q : dS) (x1 : Int32) (x2 : Int32) (x3 : Int32) (y0 : Int64) (y1 : Int32) : Option (Int64 × dS) := dG (dg y1 21) (dL (dul q 26 (Int32.toNatClampNeg y1) y0) (fun q2 => k26 q2 x1 x2 (x3 + 1)))
set_option maxHeartbeats 4000000 in
set_option maxRecDepth 100000 in
theorem WX10_few_48 {p : Program} {l : Launch} {e : Env} {s : State} {m : MethodId} {args : Array Value} {below : List Frame} {meth : Method} {c : Code} {D : va_G} {ty : Nat → ClassId} {eo : Nat → Nat} {A : Nat → Prop} {ad : Nat → Nat} {o1 : Int64} {o2 : dS} (C : dc_C p s m args meth c cX10_few (some .long) 6 RX10 wsX10_few D ty eo A) {k26 : dS → Int32 → Int32 → Int32 → Option (Int64 × dS)} (hk26 : ∀ (q : dS) (x1 : Int32) (x2 : Int32) (x3 : Int32) (H : Heap) (locs : List Loc) (ls : Array Slot), k26 q x1 x2 x3 = some (o1, o2) → va_P D vwCl (w10 ty ad q) H → va_D A (w10 ty ad q) → va_S A s.heap H locs → lv_has ls 6 [(0, .ref (ad 0)), (1, .int x1), (2, .int x2), (3, .int x3)] → W p l e ({ frames := 1, cells := 0, slots := 0, locals := 22 } : Room) s m args below meth c H locs 0 0 (MQ below (va_Ql (fun (r : Int64) (u : va_W) => o1 = r ∧ w10 ty ad o2 = u) (kz_B D ty A) A) args s 0 0 A) (F0 m 26 ls [])) (q : dS) (x1 : Int32) (x2 : Int32) (x3 : Int32) (y0 : Int64) (y1 : Int32) (H : Heap) (locs : List Loc) (ls : Array Slot) (h : zX10_few_48 k26 q x1 x2 x3 y0 y1 = some (o1, o2)) (hP : va_P D vwCl (w10 ty ad q) H) (hD : va_D A (w10 ty ad q)) (hS : va_S A s.heap H locs) (hl : lv_has ls 6 [(0, .ref (ad 0)), (1, .int x1), (2, .int x2), (3, .int x3)]) : W p l e ({ frames := 1, cells := 0, slots := 0, locals := 22 } : Room) s m args below meth c H locs 0 0 (MQ below (va_Ql (fun (r : Int64) (u : va_W) => o1 = r ∧ w10 ty ad o2 = u) (kz_B D ty A) A) args s 0 0 A) (F0 m 48 ls [.long y0, .int y1, .ref (ad 26)]) := by
  have C0 := C
  obtain ⟨hx, hb, hr, hts, hown, hlocks, hml, hK, hN, hE, hA⟩ := C
  unfold zX10_few_48 at h
  obtain ⟨g1, h⟩ := dG_some h
  refine va_last hx hb hK hP hD hS 26 1 rfl rfl (dg_in g1) dX10_few_48 (fun H locs hp hd hs => ?_)
  obtain ⟨q2, eq2, h⟩ := dL_some h
  refine kz_re (w2 := w10 ty ad q2) hp hd hs (by rw [← eq2]; exact w10_a26 ty ad q (Int32.toNatClampNeg y1) y0) ?_
  clear hp hd hs hP hD hS
  intro hP hD hS
  refine lv_iinc (v := x3 + 1) (lv' := [(3, .int (x3 + 1)), (0, .ref (ad 0)), (1, .int x1), (2, .int x2)]) hx hb dX10_few_49 hl (k := 3) rfl rfl (by decide) rfl (fun ls hl => ?_)
  refine lv_goto (tgt := 26) hx hb dX10_few_52 (by decide) ?_
  exact hk26 _ _ _ _ _ _ _ h hP hD hS (lv_sub hl [1, 2, 3, 0] rfl)
noncomputable def zX10_few_26b (k26 : dS → Int32 → Int32 → Int32 → Option (Int64 × dS)) (q : dS) (x1 : Int32) (x2 : Int32) (x3 : Int32) : Option (Int64 × dS) := if 20 < x3 then zX10_few_57  dF q x1 x2 0 else if x3 = 0 then zX10_few_48 k26 q x1 x2 x3 1000000000000 x3 else zX10_few_48 k26 q x1 x2 x3 0 x3
set_option maxHeartbeats 4000000 in
set_option maxRecDepth 100000 in
theorem WX10_few_26b {p : Program} {l : Launch} {e : Env} {s : State} {m : MethodId} {args : Array Value} {below : List Frame} {meth : Method} {c : Code} {D : va_G} {ty : Nat → ClassId} {eo : Nat → Nat} {A : Nat → Prop} {ad : Nat → Nat} {o1 : Int64} {o2 : dS} (C : dc_C p s m args meth c cX10_few (some .long) 6 RX10 wsX10_few D ty eo A) {k26 : dS → Int32 → Int32 → Int32 → Option (Int64 × dS)} (hk26 : ∀ (q : dS) (x1 : Int32) (x2 : Int32) (x3 : Int32) (H : Heap) (locs : List Loc) (ls : Array Slot), k26 q x1 x2 x3 = some (o1, o2) → va_P D vwCl (w10 ty ad q) H → va_D A (w10 ty ad q) → va_S A s.heap H locs → lv_has ls 6 [(0, .ref (ad 0)), (1, .int x1), (2, .int x2), (3, .int x3)] → W p l e ({ frames := 1, cells := 0, slots := 0, locals := 22 } : Room) s m args below meth c H locs 0 0 (MQ below (va_Ql (fun (r : Int64) (u : va_W) => o1 = r ∧ w10 ty ad o2 = u) (kz_B D ty A) A) args s 0 0 A) (F0 m 26 ls [])) (q : dS) (x1 : Int32) (x2 : Int32) (x3 : Int32) (H : Heap) (locs : List Loc) (ls : Array Slot) (h : zX10_few_26b k26 q x1 x2 x3 = some (o1, o2)) (hP : va_P D vwCl (w10 ty ad q) H) (hD : va_D A (w10 ty ad q)) (hS : va_S A s.heap H locs) (hl : lv_has ls 6 [(0, .ref (ad 0)), (1, .int x1), (2, .int x2), (3, .int x3)]) : W p l e ({ frames := 1, cells := 0, slots := 0, locals := 22 } : Room) s m args below meth c H locs 0 0 (MQ below (va_Ql (fun (r : Int64) (u : va_W) => o1 = r ∧ w10 ty ad o2 = u) (kz_B D ty A) A) args s 0 0 A) (F0 m 26 ls []) := by
  have C0 := C
  obtain ⟨hx, hb, hr, hts, hown, hlocks, hml, hK, hN, hE, hA⟩ := C
  unfold zX10_few_26b at h
  refine lv_iload_n hx hb dX10_few_26 rfl (lv_at hl 3 rfl) ?_
  refine lv_bipush (v := 20) hx hb dX10_few_27 (by decide) ?_
  refine lv_icmp_gt (tgt := 55) hx hb dX10_few_29 (by decide) (fun c9 => ?_) (fun c9 => ?_)
  · rw [if_pos c9] at h
    refine lv_iconst (v := 0) hx hb dX10_few_55 (by decide) ?_
    refine lv_istore_n (lv' := [(3, .int 0), (0, .ref (ad 0)), (1, .int x1), (2, .int x2)]) hx hb dX10_few_56 rfl hl (by decide) rfl (fun ls hl => ?_)
    exact WX10_few_57 C0  _ _ _ _ _ _ _ _ h hP hD hS (lv_sub hl [1, 2, 3, 0] rfl)
  · rw [if_neg c9] at h
    refine lv_aload_n hx hb dX10_few_32 rfl (lv_at hl 0 rfl) ?_
    refine va_get (D := D) (ci := 10) (v := .ref (ad 26)) (C := RX10) (T := TX10) (N := 56) hx hb hts (by decide +kernel) hown hK hP 0 rfl rfl 45 (by decide) (hts (.fieldLink RX10 106 "TurnedFloorsModel" "shares" "[J") (by decide +kernel)) (fun _ h9 => h9) rfl dX10_few_33 ?_
    refine lv_iload_n hx hb dX10_few_36 rfl (lv_at hl 3 rfl) ?_
    refine lv_iload_n hx hb dX10_few_37 rfl (lv_at hl 3 rfl) ?_
    refine lv_if_ne (tgt := 47) hx hb dX10_few_38 (by decide) (fun c9 => ?_) (fun c9 => ?_)
    · rw [if_neg c9] at h
      refine lv_lconst (v := 0) hx hb dX10_few_47 (by decide) ?_
      exact WX10_few_48 C0 hk26 _ _ _ _ _ _ _ _ _ h hP hD hS (lv_sub hl [0, 1, 2, 3] rfl)
    · rw [if_pos c9] at h
      refine lv_ldc2 (v := 1000000000000) hx hb hown (hts (.constantLong RX10 468 1000000000000) (by decide +kernel)) dX10_few_41 ?_
      refine lv_goto (tgt := 48) hx hb dX10_few_44 (by decide) ?_
      exact WX10_few_48 C0 hk26 _ _ _ _ _ _ _ _ _ h hP hD hS (lv_sub hl [0, 1, 2, 3] rfl)
noncomputable def zX10_few_26  (n : Nat) (q : dS) (x1 : Int32) (x2 : Int32) (x3 : Int32) : Option (Int64 × dS) := dFix (α := dS × Int32 × Int32 × Int32) (fun k a => zX10_few_26b  (fun q x1 x2 x3 => k (q, x1, x2, x3)) a.1 a.2.1 a.2.2.1 a.2.2.2) n (q, x1, x2, x3)
set_option maxHeartbeats 4000000 in
set_option maxRecDepth 100000 in
theorem WX10_few_26 {p : Program} {l : Launch} {e : Env} {s : State} {m : MethodId} {args : Array Value} {below : List Frame} {meth : Method} {c : Code} {D : va_G} {ty : Nat → ClassId} {eo : Nat → Nat} {A : Nat → Prop} {ad : Nat → Nat} {o1 : Int64} {o2 : dS} (C : dc_C p s m args meth c cX10_few (some .long) 6 RX10 wsX10_few D ty eo A)   (n : Nat) (q : dS) (x1 : Int32) (x2 : Int32) (x3 : Int32) (H : Heap) (locs : List Loc) (ls : Array Slot) (h : zX10_few_26  n q x1 x2 x3 = some (o1, o2)) (hP : va_P D vwCl (w10 ty ad q) H) (hD : va_D A (w10 ty ad q)) (hS : va_S A s.heap H locs) (hl : lv_has ls 6 [(0, .ref (ad 0)), (1, .int x1), (2, .int x2), (3, .int x3)]) : W p l e ({ frames := 1, cells := 0, slots := 0, locals := 22 } : Room) s m args below meth c H locs 0 0 (MQ below (va_Ql (fun (r : Int64) (u : va_W) => o1 = r ∧ w10 ty ad o2 = u) (kz_B D ty A) A) args s 0 0 A) (F0 m 26 ls []) := by
  exact dFix_W (F := fun k (a : dS × Int32 × Int32 × Int32) => zX10_few_26b  (fun q x1 x2 x3 => k (q, x1, x2, x3)) a.1 a.2.1 a.2.2.1 a.2.2.2) (o := (o1, o2)) (P := fun (a : dS × Int32 × Int32 × Int32) H locs ls => va_P D vwCl (w10 ty ad a.1) H ∧ va_D A (w10 ty ad a.1) ∧ va_S A s.heap H locs ∧ lv_has ls 6 [(0, .ref (ad 0)), (1, .int a.2.1), (2, .int a.2.2.1), (3, .int a.2.2.2)]) (G := fun H locs ls => W p l e ({ frames := 1, cells := 0, slots := 0, locals := 22 } : Room) s m args below meth c H locs 0 0 (MQ below (va_Ql (fun (r : Int64) (u : va_W) => o1 = r ∧ w10 ty ad o2 = u) (kz_B D ty A) A) args s 0 0 A) (F0 m 26 ls []))
    (fun k hk a H locs ls h hp => WX10_few_26b C  (fun q x1 x2 x3 H locs ls h h1 h2 h3 h4 => hk (q, x1, x2, x3) H locs ls h ⟨h1, h2, h3, h4⟩) a.1 a.2.1 a.2.2.1 a.2.2.2 H locs ls h hp.1 hp.2.1 hp.2.2.1 hp.2.2.2) n (q, x1, x2, x3) H locs ls h ⟨hP, hD, hS, hl⟩
noncomputable def zX10_few_20  (q : dS)  : Option (Int64 × dS) := some ((-1), q)
set_option maxHeartbeats 4000000 in
set_option maxRecDepth 100000 in
theorem WX10_few_20 {p : Program} {l : Launch} {e : Env} {s : State} {m : MethodId} {args : Array Value} {below : List Frame} {meth : Method} {c : Code} {D : va_G} {ty : Nat → ClassId} {eo : Nat → Nat} {A : Nat → Prop} {ad : Nat → Nat} {o1 : Int64} {o2 : dS} (C : dc_C p s m args meth c cX10_few (some .long) 6 RX10 wsX10_few D ty eo A)   (q : dS)  (H : Heap) (locs : List Loc) (ls : Array Slot) (h : zX10_few_20  q = some (o1, o2)) (hP : va_P D vwCl (w10 ty ad q) H) (hD : va_D A (w10 ty ad q)) (hS : va_S A s.heap H locs) (hl : lv_has ls 6 []) : W p l e ({ frames := 1, cells := 0, slots := 0, locals := 22 } : Room) s m args below meth c H locs 0 0 (MQ below (va_Ql (fun (r : Int64) (u : va_W) => o1 = r ∧ w10 ty ad o2 = u) (kz_B D ty A) A) args s 0 0 A) (F0 m 20 ls []) := by
  have C0 := C
  obtain ⟨hx, hb, hr, hts, hown, hlocks, hml, hK, hN, hE, hA⟩ := C
  unfold zX10_few_20 at h
  refine lv_ldc2 (v := (-1)) hx hb hown (hts (.constantLong RX10 466 (-1)) (by decide +kernel)) dX10_few_20 ?_
  cases h
  exact kz_lret hx hb hr hlocks hP hK hD hS dX10_few_23 ⟨rfl, rfl⟩
noncomputable def zX10_few (q : dS) (p1 : Int32) (p2 : Int32) : Option (Int64 × dS) := dV (zX10_lies p1 1 20) (fun r1 => if r1 = 0 then zX10_few_20  q else dV (zX10_lies p2 0 99) (fun r3 => if r3 = 0 then zX10_few_20  q else zX10_few_26  dF q p1 p2 0))
set_option maxHeartbeats 4000000 in
set_option maxRecDepth 100000 in
theorem qX10_few (l : Launch) (D : va_G) (ty : Nat → ClassId) (eo : Nat → Nat) (sz : Nat) (ad : Nat → Nat) (q : dS) (p1 : Int32) (p2 : Int32) (o1 : Int64) (o2 : dS) (h : zX10_few q p1 p2 = some (o1, o2)) : Met l yX10_few wsX10_few ({ frames := 1, cells := 0, slots := 0, locals := 22 } : Room) (va_Pc [.ref (ad 0), .int p1, .int p2] (kz_pre D ty eo (w10 ty ad q) sz)) (va_Ql (fun (r : Int64) (u : va_W) => o1 = r ∧ w10 ty ad o2 = u) (kz_B D ty (va_A (w10 ty ad q) sz)) (va_A (w10 ty ad q) sz)) 0 0 (va_A (w10 ty ad q) sz) := by
  refine Met.ofW (cc := cX10_few) (maxL := 6) (ret := (some .long)) (by decide) rfl ?_
  intro p e s m args below meth c s₁ B hml hv
  obtain ⟨rfl, hsz, hP, hK, hD0, hN, hE⟩ := hv
  have hx := B.exec
  have hb := B.bytes
  have hr := B.returns
  have hts := atoms_spec (ws := wsX10_few) B.pre
  have hown : s.vm.findClass RX10 = some m.cls := findClass_of_methodNamed B.named
  have hlocks := B.notSynchronized
  subst hsz
  have hD := hD0.self (sz := s.heap.size)
  generalize hAe : va_A (w10 ty ad q) s.heap.size = A at hD hE ⊢
  have hA : ∀ q : Nat, s.heap.size ≤ q → A q := fun q h => by rw [← hAe]; exact Or.inr h
  clear hAe
  have hS : va_S A s.heap s.heap [] := va_S.rf
  have hl := lv_entry ([.ref (ad 0), .int p1, .int p2]) (n := 6) (Nat.le_of_ble_eq_true rfl)
  rw [lg_entry_eq]
  generalize (lg_sl ([.ref (ad 0), .int p1, .int p2]) ++ List.replicate (6 - (lg_sl ([.ref (ad 0), .int p1, .int p2])).length) Slot.unset).toArray = ls at hl ⊢
  have hl : lv_has ls 6 [(0, .ref (ad 0)), (1, .int p1), (2, .int p2)] := hl
  have C : dc_C p s m _ meth c cX10_few (some .long) 6 RX10 wsX10_few D ty eo A := ⟨hx, hb, hr, hts, hown, hlocks, hml, hK, hN, hE, hA⟩
  unfold zX10_few at h
  refine lv_iload_n hx hb dX10_few_0 rfl (lv_at hl 1 rfl) ?_
  refine lv_iconst (v := 1) hx hb dX10_few_1 (by decide) ?_
  refine lv_bipush (v := 20) hx hb dX10_few_2 (by decide) ?_
  obtain ⟨r1, h2, h⟩ := dV_some h
  refine dw_ks (va_runS (As := [.int p1, .int 1, .int 20]) (rest := []) ⟨hx, hb, hml, hown, hts⟩ (qX10_lies l D ty eo _ p1 1 20 _ h2) (va_cwS 3 hts gX10_few_X10_lies rfl rfl rfl (by decide +kernel) ⟨Nat.le_of_ble_eq_true rfl, Nat.le_of_ble_eq_true rfl⟩) (kz_preS hK hN hE hP hD hS hA [] (by decide) rfl) rfl rfl hl.1 rfl (lv_room (Nat.le_of_ble_eq_true rfl)) dX10_few_4 ⟨Nat.le_of_ble_eq_true rfl, Nat.le_of_ble_eq_true rfl⟩) hP hD hS hA (fun _ _ h9 => h9.2.symm) (fun r9 u9 H locs hw hp hd hs => ?_)
  obtain ⟨rfl, -⟩ := hw
  clear hP hD hS
  have hP := hp; have hD := hd; have hS := hs; clear hp hd hs
  refine lv_if_eq (tgt := 20) hx hb dX10_few_7 (by decide) (fun c9 => ?_) (fun c9 => ?_)
  · rw [if_pos c9] at h
    exact WX10_few_20 C  _ _ _ _ h hP hD hS (lv_sub hl [] rfl)
  · rw [if_neg c9] at h
    refine lv_iload_n hx hb dX10_few_10 rfl (lv_at hl 2 rfl) ?_
    refine lv_iconst (v := 0) hx hb dX10_few_11 (by decide) ?_
    refine lv_bipush (v := 99) hx hb dX10_few_12 (by decide) ?_
    obtain ⟨r3, h4, h⟩ := dV_some h
    refine dw_ks (va_runS (As := [.int p2, .int 0, .int 99]) (rest := []) ⟨hx, hb, hml, hown, hts⟩ (qX10_lies l D ty eo _ p2 0 99 _ h4) (va_cwS 3 hts gX10_few_X10_lies rfl rfl rfl (by decide +kernel) ⟨Nat.le_of_ble_eq_true rfl, Nat.le_of_ble_eq_true rfl⟩) (kz_preS hK hN hE hP hD hS hA [] (by decide) rfl) rfl rfl hl.1 rfl (lv_room (Nat.le_of_ble_eq_true rfl)) dX10_few_14 ⟨Nat.le_of_ble_eq_true rfl, Nat.le_of_ble_eq_true rfl⟩) hP hD hS hA (fun _ _ h9 => h9.2.symm) (fun r9 u9 H locs hw hp hd hs => ?_)
    obtain ⟨rfl, -⟩ := hw
    clear hP hD hS
    have hP := hp; have hD := hd; have hS := hs; clear hp hd hs
    refine lv_if_ne (tgt := 24) hx hb dX10_few_17 (by decide) (fun c9 => ?_) (fun c9 => ?_)
    · rw [if_neg c9] at h
      refine lv_iconst (v := 0) hx hb dX10_few_24 (by decide) ?_
      refine lv_istore_n (lv' := [(3, .int 0), (0, .ref (ad 0)), (1, .int p1), (2, .int p2)]) hx hb dX10_few_25 rfl hl (by decide) rfl (fun ls hl => ?_)
      exact WX10_few_26 C  _ _ _ _ _ _ _ _ h hP hD hS (lv_sub hl [1, 2, 3, 0] rfl)
    · rw [if_pos c9] at h
      exact WX10_few_20 C  _ _ _ _ h hP hD hS (lv_sub hl [] rfl)

noncomputable def zX10_stopped (q : dS)  : Option (Int32 × dS) := some (q.1 0 46, q)
set_option maxHeartbeats 4000000 in
set_option maxRecDepth 100000 in
theorem qX10_stopped (l : Launch) (D : va_G) (ty : Nat → ClassId) (eo : Nat → Nat) (sz : Nat) (ad : Nat → Nat) (q : dS)  (o1 : Int32) (o2 : dS) (h : zX10_stopped q = some (o1, o2)) : Met l yX10_stopped wsX10_stopped ({ frames := 0, cells := 0, slots := 0, locals := 0 } : Room) (va_Pc [.ref (ad 0)] (kz_pre D ty eo (w10 ty ad q) sz)) (va_Qi (fun (r : Int32) (u : va_W) => o1 = r ∧ w10 ty ad o2 = u) (kz_B D ty (va_A (w10 ty ad q) sz)) (va_A (w10 ty ad q) sz)) 0 0 (va_A (w10 ty ad q) sz) := by
  refine Met.ofW (cc := cX10_stopped) (maxL := 1) (ret := (some .int)) (by decide) rfl ?_
  intro p e s m args below meth c s₁ B hml hv
  obtain ⟨rfl, hsz, hP, hK, hD0, hN, hE⟩ := hv
  have hx := B.exec
  have hb := B.bytes
  have hr := B.returns
  have hts := atoms_spec (ws := wsX10_stopped) B.pre
  have hown : s.vm.findClass RX10 = some m.cls := findClass_of_methodNamed B.named
  have hlocks := B.notSynchronized
  subst hsz
  have hD := hD0.self (sz := s.heap.size)
  generalize hAe : va_A (w10 ty ad q) s.heap.size = A at hD hE ⊢
  have hA : ∀ q : Nat, s.heap.size ≤ q → A q := fun q h => by rw [← hAe]; exact Or.inr h
  clear hAe
  have hS : va_S A s.heap s.heap [] := va_S.rf
  have hl := lv_entry ([.ref (ad 0)]) (n := 1) (Nat.le_of_ble_eq_true rfl)
  rw [lg_entry_eq]
  generalize (lg_sl ([.ref (ad 0)]) ++ List.replicate (1 - (lg_sl ([.ref (ad 0)])).length) Slot.unset).toArray = ls at hl ⊢
  have hl : lv_has ls 1 [(0, .ref (ad 0))] := hl
  have C : dc_C p s m _ meth c cX10_stopped (some .int) 1 RX10 wsX10_stopped D ty eo A := ⟨hx, hb, hr, hts, hown, hlocks, hml, hK, hN, hE, hA⟩
  unfold zX10_stopped at h
  refine lv_aload_n hx hb dX10_stopped_0 rfl (lv_at hl 0 rfl) ?_
  refine va_get (D := D) (ci := 10) (v := .int (q.1 0 46)) (C := RX10) (T := TX10) (N := 56) hx hb hts (by decide +kernel) hown hK hP 0 rfl rfl 46 (by decide) (hts (.fieldLink RX10 110 "TurnedFloorsModel" "stopped0" "I") (by decide +kernel)) (fun _ h9 => h9) rfl dX10_stopped_1 ?_
  cases h
  exact kz_iret hx hb hr hlocks hP hK hD hS dX10_stopped_4 ⟨rfl, rfl⟩
