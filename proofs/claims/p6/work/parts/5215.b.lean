theorem u9_wsX3_makeRoom_X3 : ∀ w ∈ u_ws RX3 TX3 20, w ∈ wsX3_makeRoom := by
  first | exact fun w h => List.mem_cons_of_mem _ (List.mem_append_right _ h) | decide +kernel
theorem f9_wsX3_makeRoom_728 : (Cond.fieldLink RX3 51 "TurnedFloors$Paper" "floors" "I") ∈ wsX3_makeRoom := by decide +kernel
theorem f9_wsX3_makeRoom_729 : (Cond.fieldLink RX3 36 "TurnedFloors$Paper" "turnedHeads" "[I") ∈ wsX3_makeRoom := by decide +kernel
theorem f9_wsX3_makeRoom_730 : (Cond.fieldLink RX3 30 "TurnedFloors$Paper" "orders" "[I") ∈ wsX3_makeRoom := by decide +kernel
theorem f9_wsX3_makeRoom_731 : (Cond.fieldLink RX3 55 "TurnedFloors$Paper" "size" "I") ∈ wsX3_makeRoom := by decide +kernel
theorem f9_wsX3_makeRoom_732 : (Cond.arrayClass .int) ∈ wsX3_makeRoom := by decide +kernel
theorem f9_wsX3_makeRoom_733 : (Cond.fieldLink RX3 39 "TurnedFloors$Paper" "toOrder" "[I") ∈ wsX3_makeRoom := by decide +kernel
theorem f9_wsX3_makeRoom_734 : (Cond.fieldLink RX3 42 "TurnedFloors$Paper" "marks" "[I") ∈ wsX3_makeRoom := by decide +kernel
theorem f9_wsX3_makeRoom_735 : (Cond.fieldLink RX3 45 "TurnedFloors$Paper" "line" "[I") ∈ wsX3_makeRoom := by decide +kernel
theorem f9_wsX3_makeRoom_736 : (Cond.fieldLink RX3 48 "TurnedFloors$Paper" "links" "[I") ∈ wsX3_makeRoom := by decide +kernel
theorem f9_wsX3_makeRoom_737 : (Cond.fieldLink RX3 76 "TurnedFloors$Paper" "FACTORIALS" "[I") ∈ wsX3_makeRoom := by decide +kernel
theorem f9_wsX3_makeRoom_738 : (Cond.fieldLink RX3 33 "TurnedFloors$Paper" "turnedOrders" "[I") ∈ wsX3_makeRoom := by decide +kernel
theorem f9_wsX3_makeRoom_739 : (Cond.fieldLink RX3 64 "TurnedFloors$Paper" "measuredFloors" "I") ∈ wsX3_makeRoom := by decide +kernel
set_option maxHeartbeats 4000000 in
set_option maxRecDepth 100000 in
theorem WX3_makeRoom_s32_125b {p : Program} {l : Launch} {e : Env} {s : State} {m : MethodId} {args : Array Value} {below : List Frame} {meth : Method} {c : Code} {D : va_G} {ty : Nat → ClassId} {eo : Nat → Nat} {A : Nat → Prop} {ad : Nat → Nat} {o2 : dK} {nc ns : Nat} {ad0 : Nat → Nat} (hag : dAg ad0 ad) (C : dc_C p s m args meth c cX3_makeRoom none 3 RX3 wsX3_makeRoom D ty eo A) {k113 : dK → Int32 → Option (dK)} {k125 : dK → Int32 → Int32 → Option (dK)} (hk113 : ∀ (q : dK) (x1 : Int32) (H : Heap) (locs : List Loc) (ls : Array Slot), k113 q x1 = some o2 → va_P D vwCl (wF ty ad q) H → va_D A (wF ty ad q) → va_S A s.heap H locs → lv_has ls 3 [(0, .ref (ad 32)), (1, .int x1)] → W p l e ({ frames := 3, cells := nc, slots := ns, locals := 69 } : Room) s m args below meth c H locs nc ns (MQ below (va_Qv (fun (u : va_W) => ∃ ad9 : Nat → Nat, dAg ad0 ad9 ∧ wF ty ad9 o2 = u) (kz_B D ty A) A) args s nc ns A) (F0 m 113 ls [])) (hk125 : ∀ (q : dK) (x1 : Int32) (x2 : Int32) (H : Heap) (locs : List Loc) (ls : Array Slot), k125 q x1 x2 = some o2 → va_P D vwCl (wF ty ad q) H → va_D A (wF ty ad q) → va_S A s.heap H locs → lv_has ls 3 [(0, .ref (ad 32)), (1, .int x1), (2, .int x2)] → W p l e ({ frames := 3, cells := nc, slots := ns, locals := 69 } : Room) s m args below meth c H locs nc ns (MQ below (va_Qv (fun (u : va_W) => ∃ ad9 : Nat → Nat, dAg ad0 ad9 ∧ wF ty ad9 o2 = u) (kz_B D ty A) A) args s nc ns A) (F0 m 125 ls [])) (q : dK) (x1 : Int32) (x2 : Int32) (H : Heap) (locs : List Loc) (ls : Array Slot) (h : zX3_makeRoom_s32_125b nc ns k113 k125 q x1 x2 = some o2) (hP : va_P D vwCl (wF ty ad q) H) (hD : va_D A (wF ty ad q)) (hS : va_S A s.heap H locs) (hl : lv_has ls 3 [(0, .ref (ad 32)), (1, .int x1), (2, .int x2)]) : W p l e ({ frames := 3, cells := nc, slots := ns, locals := 69 } : Room) s m args below meth c H locs nc ns (MQ below (va_Qv (fun (u : va_W) => ∃ ad9 : Nat → Nat, dAg ad0 ad9 ∧ wF ty ad9 o2 = u) (kz_B D ty A) A) args s nc ns A) (F0 m 125 ls []) := by
  have C0 := C
  obtain ⟨hx, hb, hr, hts, hown, hlocks, hml, hK, hN, hE, hA⟩ := C
  unfold zX3_makeRoom_s32_125b at h
  refine lv_iload_n hx hb dX3_makeRoom_125 rfl (lv_at hl 2 rfl) ?_
  refine lv_aload_n hx hb dX3_makeRoom_126 rfl (lv_at hl 0 rfl) ?_
  refine va_get (D := D) (ci := 3) (v := .int (q.1 32 13)) (C := RX3) (T := TX3) (N := 20) hx hb hts u9_wsX3_makeRoom_X3 hown hK hP 32 rfl rfl 13 (by decide) (hts (.fieldLink RX3 51 "TurnedFloors$Paper" "floors" "I") f9_wsX3_makeRoom_728) (fun _ h9 => h9) rfl dX3_makeRoom_127 ?_
  refine lv_icmp_gt (tgt := 157) hx hb dX3_makeRoom_130 (by decide) (fun c9 => ?_) (fun c9 => ?_)
  · rw [if_pos c9] at h
    refine lv_iinc (v := x1 + 1) (lv' := [(1, .int (x1 + 1)), (0, .ref (ad 32)), (2, .int x2)]) hx hb dX3_makeRoom_157 hl (k := 1) rfl rfl (by decide) rfl (fun ls hl => ?_)
    refine lv_goto (tgt := 113) hx hb dX3_makeRoom_160 (by decide) ?_
    exact hk113 _ _ _ _ _ h hP hD hS (lv_sub hl [1, 0] rfl)
  · rw [if_neg c9] at h
    refine lv_aload_n hx hb dX3_makeRoom_133 rfl (lv_at hl 0 rfl) ?_
    refine va_get (D := D) (ci := 3) (v := .ref (ad 41)) (C := RX3) (T := TX3) (N := 20) hx hb hts u9_wsX3_makeRoom_X3 hown hK hP 32 rfl rfl 8 (by decide) (hts (.fieldLink RX3 36 "TurnedFloors$Paper" "turnedHeads" "[I") f9_wsX3_makeRoom_729) (fun _ h9 => h9) rfl dX3_makeRoom_134 ?_
    refine lv_iload_n hx hb dX3_makeRoom_137 rfl (lv_at hl 1 rfl) ?_
    refine lv_bipush (v := 6) hx hb dX3_makeRoom_138 (by decide) ?_
    refine lv_imul hx hb dX3_makeRoom_140 ?_
    refine lv_iload_n hx hb dX3_makeRoom_141 rfl (lv_at hl 2 rfl) ?_
    refine lv_iadd hx hb dX3_makeRoom_142 ?_
    refine lv_iconst (v := 1) hx hb dX3_makeRoom_143 (by decide) ?_
    refine lv_isub hx hb dX3_makeRoom_144 ?_
    refine lv_iload_n hx hb dX3_makeRoom_145 rfl (lv_at hl 1 rfl) ?_
    refine lv_iload_n hx hb dX3_makeRoom_146 rfl (lv_at hl 2 rfl) ?_
    obtain ⟨r1, h2, h⟩ := dV_some h
    refine dw_ks (va_runS (As := [.int x1, .int x2]) (rest := [.int (((x1 * 6 : Int32) + x2) - 1 : Int32), .ref (ad 41)]) ⟨hx, hb, hml, hown, hts⟩ (qX3_headsTurned l D ty eo _ x1 x2 _ h2) (va_cwS 2 hts gX3_makeRoom_X3_headsTurned rfl rfl rfl (by decide +kernel) ⟨Nat.le_of_ble_eq_true rfl, Nat.le_of_ble_eq_true rfl⟩) (kz_preS hK hN hE hP hD hS hA [] (by decide) rfl) rfl rfl hl.1 rfl (lv_room (Nat.le_of_ble_eq_true rfl)) dX3_makeRoom_147 ⟨Nat.le_refl _, Nat.le_refl _⟩) hP hD hS hA (fun _ _ h9 => h9.2.symm) (fun r9 u9 H locs hw hp hd hs => ?_)
    obtain ⟨rfl, -⟩ := hw
    clear hP hD hS
    have hP := hp; have hD := hd; have hS := hs; clear hp hd hs
    obtain ⟨g3, h⟩ := dG_some h
    refine va_iast hx hb hK hP hD hS 41 0 rfl rfl (dg_in g3) dX3_makeRoom_150 (fun H locs hp hd hs => ?_)
    obtain ⟨q4, eq4, h⟩ := dL_some h
    refine kz_re (w2 := wF ty ad q4) hp hd hs (by rw [← eq4]; exact wF_a41 ty ad q (Int32.toNatClampNeg (((x1 * 6 : Int32) + x2) - 1 : Int32)) r1) ?_
    clear hp hd hs hP hD hS
    intro hP hD hS
    refine lv_iinc (v := x2 + 1) (lv' := [(2, .int (x2 + 1)), (0, .ref (ad 32)), (1, .int x1)]) hx hb dX3_makeRoom_151 hl (k := 2) rfl rfl (by decide) rfl (fun ls hl => ?_)
    refine lv_goto (tgt := 125) hx hb dX3_makeRoom_154 (by decide) ?_
    exact hk125 _ _ _ _ _ _ h hP hD hS (lv_sub hl [1, 2, 0] rfl)
set_option maxHeartbeats 4000000 in
set_option maxRecDepth 100000 in
theorem WX3_makeRoom_s32_125 {p : Program} {l : Launch} {e : Env} {s : State} {m : MethodId} {args : Array Value} {below : List Frame} {meth : Method} {c : Code} {D : va_G} {ty : Nat → ClassId} {eo : Nat → Nat} {A : Nat → Prop} {ad : Nat → Nat} {o2 : dK} {nc ns : Nat} {ad0 : Nat → Nat} (hag : dAg ad0 ad) (C : dc_C p s m args meth c cX3_makeRoom none 3 RX3 wsX3_makeRoom D ty eo A) {k113 : dK → Int32 → Option (dK)} (hk113 : ∀ (q : dK) (x1 : Int32) (H : Heap) (locs : List Loc) (ls : Array Slot), k113 q x1 = some o2 → va_P D vwCl (wF ty ad q) H → va_D A (wF ty ad q) → va_S A s.heap H locs → lv_has ls 3 [(0, .ref (ad 32)), (1, .int x1)] → W p l e ({ frames := 3, cells := nc, slots := ns, locals := 69 } : Room) s m args below meth c H locs nc ns (MQ below (va_Qv (fun (u : va_W) => ∃ ad9 : Nat → Nat, dAg ad0 ad9 ∧ wF ty ad9 o2 = u) (kz_B D ty A) A) args s nc ns A) (F0 m 113 ls [])) (n : Nat) (q : dK) (x1 : Int32) (x2 : Int32) (H : Heap) (locs : List Loc) (ls : Array Slot) (h : zX3_makeRoom_s32_125 nc ns k113 n q x1 x2 = some o2) (hP : va_P D vwCl (wF ty ad q) H) (hD : va_D A (wF ty ad q)) (hS : va_S A s.heap H locs) (hl : lv_has ls 3 [(0, .ref (ad 32)), (1, .int x1), (2, .int x2)]) : W p l e ({ frames := 3, cells := nc, slots := ns, locals := 69 } : Room) s m args below meth c H locs nc ns (MQ below (va_Qv (fun (u : va_W) => ∃ ad9 : Nat → Nat, dAg ad0 ad9 ∧ wF ty ad9 o2 = u) (kz_B D ty A) A) args s nc ns A) (F0 m 125 ls []) := by
  exact dFix_W (F := fun k (a : dK × Int32 × Int32) => zX3_makeRoom_s32_125b nc ns k113 (fun q x1 x2 => k (q, x1, x2)) a.1 a.2.1 a.2.2) (o := o2) (P := fun (a : dK × Int32 × Int32) H locs ls => va_P D vwCl (wF ty ad a.1) H ∧ va_D A (wF ty ad a.1) ∧ va_S A s.heap H locs ∧ lv_has ls 3 [(0, .ref (ad 32)), (1, .int a.2.1), (2, .int a.2.2)]) (G := fun H locs ls => W p l e ({ frames := 3, cells := nc, slots := ns, locals := 69 } : Room) s m args below meth c H locs nc ns (MQ below (va_Qv (fun (u : va_W) => ∃ ad9 : Nat → Nat, dAg ad0 ad9 ∧ wF ty ad9 o2 = u) (kz_B D ty A) A) args s nc ns A) (F0 m 125 ls []))
    (fun k hk a H locs ls h hp => WX3_makeRoom_s32_125b hag C hk113 (fun q x1 x2 H locs ls h h1 h2 h3 h4 => hk (q, x1, x2) H locs ls h ⟨h1, h2, h3, h4⟩) a.1 a.2.1 a.2.2 H locs ls h hp.1 hp.2.1 hp.2.2.1 hp.2.2.2) n (q, x1, x2) H locs ls h ⟨hP, hD, hS, hl⟩
set_option maxHeartbeats 4000000 in
set_option maxRecDepth 100000 in
theorem WX3_makeRoom_s32_113b {p : Program} {l : Launch} {e : Env} {s : State} {m : MethodId} {args : Array Value} {below : List Frame} {meth : Method} {c : Code} {D : va_G} {ty : Nat → ClassId} {eo : Nat → Nat} {A : Nat → Prop} {ad : Nat → Nat} {o2 : dK} {nc ns : Nat} {ad0 : Nat → Nat} (hag : dAg ad0 ad) (C : dc_C p s m args meth c cX3_makeRoom none 3 RX3 wsX3_makeRoom D ty eo A) {k113 : dK → Int32 → Option (dK)} (hk113 : ∀ (q : dK) (x1 : Int32) (H : Heap) (locs : List Loc) (ls : Array Slot), k113 q x1 = some o2 → va_P D vwCl (wF ty ad q) H → va_D A (wF ty ad q) → va_S A s.heap H locs → lv_has ls 3 [(0, .ref (ad 32)), (1, .int x1)] → W p l e ({ frames := 3, cells := nc, slots := ns, locals := 69 } : Room) s m args below meth c H locs nc ns (MQ below (va_Qv (fun (u : va_W) => ∃ ad9 : Nat → Nat, dAg ad0 ad9 ∧ wF ty ad9 o2 = u) (kz_B D ty A) A) args s nc ns A) (F0 m 113 ls [])) (q : dK) (x1 : Int32) (H : Heap) (locs : List Loc) (ls : Array Slot) (h : zX3_makeRoom_s32_113b nc ns k113 q x1 = some o2) (hP : va_P D vwCl (wF ty ad q) H) (hD : va_D A (wF ty ad q)) (hS : va_S A s.heap H locs) (hl : lv_has ls 3 [(0, .ref (ad 32)), (1, .int x1)]) : W p l e ({ frames := 3, cells := nc, slots := ns, locals := 69 } : Room) s m args below meth c H locs nc ns (MQ below (va_Qv (fun (u : va_W) => ∃ ad9 : Nat → Nat, dAg ad0 ad9 ∧ wF ty ad9 o2 = u) (kz_B D ty A) A) args s nc ns A) (F0 m 113 ls []) := by
  have C0 := C
  obtain ⟨hx, hb, hr, hts, hown, hlocks, hml, hK, hN, hE, hA⟩ := C
  unfold zX3_makeRoom_s32_113b at h
  refine lv_iload_n hx hb dX3_makeRoom_113 rfl (lv_at hl 1 rfl) ?_
  refine lv_iconst (v := 1) hx hb dX3_makeRoom_114 (by decide) ?_
  refine lv_aload_n hx hb dX3_makeRoom_115 rfl (lv_at hl 0 rfl) ?_
  refine va_get (D := D) (ci := 3) (v := .int (q.1 32 13)) (C := RX3) (T := TX3) (N := 20) hx hb hts u9_wsX3_makeRoom_X3 hown hK hP 32 rfl rfl 13 (by decide) (hts (.fieldLink RX3 51 "TurnedFloors$Paper" "floors" "I") f9_wsX3_makeRoom_728) (fun _ h9 => h9) rfl dX3_makeRoom_116 ?_
  refine lv_ishl hx hb dX3_makeRoom_119 ?_
  refine lv_icmp_ge (tgt := 163) hx hb dX3_makeRoom_120 (by decide) (fun c9 => ?_) (fun c9 => ?_)
  · rw [if_pos c9] at h
    cases h
    exact kz_vret hx hb hr hlocks hP hK hD hS dX3_makeRoom_163 ⟨ad, hag, rfl⟩
  · rw [if_neg c9] at h
    refine lv_iconst (v := 1) hx hb dX3_makeRoom_123 (by decide) ?_
    refine lv_istore_n (lv' := [(2, .int 1), (0, .ref (ad 32)), (1, .int x1)]) hx hb dX3_makeRoom_124 rfl hl (by decide) rfl (fun ls hl => ?_)
    exact WX3_makeRoom_s32_125 hag C0 hk113 _ _ _ _ _ _ _ h hP hD hS (lv_sub hl [1, 2, 0] rfl)
set_option maxHeartbeats 4000000 in
set_option maxRecDepth 100000 in
theorem WX3_makeRoom_s32_113 {p : Program} {l : Launch} {e : Env} {s : State} {m : MethodId} {args : Array Value} {below : List Frame} {meth : Method} {c : Code} {D : va_G} {ty : Nat → ClassId} {eo : Nat → Nat} {A : Nat → Prop} {ad : Nat → Nat} {o2 : dK} {nc ns : Nat} {ad0 : Nat → Nat} (hag : dAg ad0 ad) (C : dc_C p s m args meth c cX3_makeRoom none 3 RX3 wsX3_makeRoom D ty eo A)   (n : Nat) (q : dK) (x1 : Int32) (H : Heap) (locs : List Loc) (ls : Array Slot) (h : zX3_makeRoom_s32_113 nc ns  n q x1 = some o2) (hP : va_P D vwCl (wF ty ad q) H) (hD : va_D A (wF ty ad q)) (hS : va_S A s.heap H locs) (hl : lv_has ls 3 [(0, .ref (ad 32)), (1, .int x1)]) : W p l e ({ frames := 3, cells := nc, slots := ns, locals := 69 } : Room) s m args below meth c H locs nc ns (MQ below (va_Qv (fun (u : va_W) => ∃ ad9 : Nat → Nat, dAg ad0 ad9 ∧ wF ty ad9 o2 = u) (kz_B D ty A) A) args s nc ns A) (F0 m 113 ls []) := by
  exact dFix_W (F := fun k (a : dK × Int32) => zX3_makeRoom_s32_113b nc ns  (fun q x1 => k (q, x1)) a.1 a.2) (o := o2) (P := fun (a : dK × Int32) H locs ls => va_P D vwCl (wF ty ad a.1) H ∧ va_D A (wF ty ad a.1) ∧ va_S A s.heap H locs ∧ lv_has ls 3 [(0, .ref (ad 32)), (1, .int a.2)]) (G := fun H locs ls => W p l e ({ frames := 3, cells := nc, slots := ns, locals := 69 } : Room) s m args below meth c H locs nc ns (MQ below (va_Qv (fun (u : va_W) => ∃ ad9 : Nat → Nat, dAg ad0 ad9 ∧ wF ty ad9 o2 = u) (kz_B D ty A) A) args s nc ns A) (F0 m 113 ls []))
    (fun k hk a H locs ls h hp => WX3_makeRoom_s32_113b hag C  (fun q x1 H locs ls h h1 h2 h3 h4 => hk (q, x1) H locs ls h ⟨h1, h2, h3, h4⟩) a.1 a.2 H locs ls h hp.1 hp.2.1 hp.2.2.1 hp.2.2.2) n (q, x1) H locs ls h ⟨hP, hD, hS, hl⟩
set_option maxHeartbeats 4000000 in
set_option maxRecDepth 100000 in
theorem WX3_makeRoom_s32_91b {p : Program} {l : Launch} {e : Env} {s : State} {m : MethodId} {args : Array Value} {below : List Frame} {meth : Method} {c : Code} {D : va_G} {ty : Nat → ClassId} {eo : Nat → Nat} {A : Nat → Prop} {ad : Nat → Nat} {o2 : dK} {nc ns : Nat} {ad0 : Nat → Nat} (hag : dAg ad0 ad) (C : dc_C p s m args meth c cX3_makeRoom none 3 RX3 wsX3_makeRoom D ty eo A) {k91 : dK → Int32 → Option (dK)} (hk91 : ∀ (q : dK) (x1 : Int32) (H : Heap) (locs : List Loc) (ls : Array Slot), k91 q x1 = some o2 → va_P D vwCl (wF ty ad q) H → va_D A (wF ty ad q) → va_S A s.heap H locs → lv_has ls 3 [(0, .ref (ad 32)), (1, .int x1)] → W p l e ({ frames := 3, cells := nc, slots := ns, locals := 69 } : Room) s m args below meth c H locs nc ns (MQ below (va_Qv (fun (u : va_W) => ∃ ad9 : Nat → Nat, dAg ad0 ad9 ∧ wF ty ad9 o2 = u) (kz_B D ty A) A) args s nc ns A) (F0 m 91 ls [])) (q : dK) (x1 : Int32) (H : Heap) (locs : List Loc) (ls : Array Slot) (h : zX3_makeRoom_s32_91b nc ns k91 q x1 = some o2) (hP : va_P D vwCl (wF ty ad q) H) (hD : va_D A (wF ty ad q)) (hS : va_S A s.heap H locs) (hl : lv_has ls 3 [(0, .ref (ad 32)), (1, .int x1)]) : W p l e ({ frames := 3, cells := nc, slots := ns, locals := 69 } : Room) s m args below meth c H locs nc ns (MQ below (va_Qv (fun (u : va_W) => ∃ ad9 : Nat → Nat, dAg ad0 ad9 ∧ wF ty ad9 o2 = u) (kz_B D ty A) A) args s nc ns A) (F0 m 91 ls []) := by
  have C0 := C
  obtain ⟨hx, hb, hr, hts, hown, hlocks, hml, hK, hN, hE, hA⟩ := C
  unfold zX3_makeRoom_s32_91b at h
  refine lv_iload_n hx hb dX3_makeRoom_91 rfl (lv_at hl 1 rfl) ?_
  refine lv_aload_n hx hb dX3_makeRoom_92 rfl (lv_at hl 0 rfl) ?_
  refine va_get (D := D) (ci := 3) (v := .ref (ad 39)) (C := RX3) (T := TX3) (N := 20) hx hb hts u9_wsX3_makeRoom_X3 hown hK hP 32 rfl rfl 6 (by decide) (hts (.fieldLink RX3 30 "TurnedFloors$Paper" "orders" "[I") f9_wsX3_makeRoom_730) (fun _ h9 => h9) rfl dX3_makeRoom_93 ?_
  refine va_alen (v := Int32.ofNat (Int32.toNatClampNeg (q.1 32 100))) hx hb hK hP 39 0 rfl rfl rfl dX3_makeRoom_96 ?_
  refine lv_icmp_ge (tgt := 111) hx hb dX3_makeRoom_97 (by decide) (fun c9 => ?_) (fun c9 => ?_)
  · rw [if_pos c9] at h
    refine lv_iconst (v := 0) hx hb dX3_makeRoom_111 (by decide) ?_
    refine lv_istore_n (lv' := [(1, .int 0), (0, .ref (ad 32))]) hx hb dX3_makeRoom_112 rfl hl (by decide) rfl (fun ls hl => ?_)
    exact WX3_makeRoom_s32_113 hag C0  _ _ _ _ _ _ h hP hD hS (lv_sub hl [1, 0] rfl)
  · rw [if_neg c9] at h
    refine lv_aload_n hx hb dX3_makeRoom_100 rfl (lv_at hl 0 rfl) ?_
    refine lv_iload_n hx hb dX3_makeRoom_101 rfl (lv_at hl 1 rfl) ?_
    obtain ⟨q3, h2, h⟩ := dV_some h
    refine dw_kv (va_runV (As := [.int x1]) (rest := []) ⟨hx, hb, hml, hown, hts⟩ (qX3_listOrder_s32 l D ty eo _ ad q x1 q3 h2) (cwV 1 hts gX3_makeRoom_X3_listOrder rfl rfl rfl (by decide +kernel) ⟨Nat.le_of_ble_eq_true rfl, Nat.le_of_ble_eq_true rfl⟩) (dw_preV (ci := 3) (q0 := 32) hK hN hE hP hD hS hA rfl rfl) rfl rfl hl.1 rfl (lv_room (Nat.le_of_ble_eq_true rfl)) dX3_makeRoom_102 ⟨Nat.le_refl _, Nat.le_refl _⟩) hD hS hA (fun u9 H locs hw hp hd hs => ?_)
    clear hP hD hS
    obtain rfl := hw
    have hP := hp; have hD := hd; have hS := hs; clear hp hd hs
    refine lv_iinc (v := x1 + 1) (lv' := [(1, .int (x1 + 1)), (0, .ref (ad 32))]) hx hb dX3_makeRoom_105 hl (k := 1) rfl rfl (by decide) rfl (fun ls hl => ?_)
    refine lv_goto (tgt := 91) hx hb dX3_makeRoom_108 (by decide) ?_
    exact hk91 _ _ _ _ _ h hP hD hS (lv_sub hl [1, 0] rfl)
set_option maxHeartbeats 4000000 in
set_option maxRecDepth 100000 in
theorem WX3_makeRoom_s32_91 {p : Program} {l : Launch} {e : Env} {s : State} {m : MethodId} {args : Array Value} {below : List Frame} {meth : Method} {c : Code} {D : va_G} {ty : Nat → ClassId} {eo : Nat → Nat} {A : Nat → Prop} {ad : Nat → Nat} {o2 : dK} {nc ns : Nat} {ad0 : Nat → Nat} (hag : dAg ad0 ad) (C : dc_C p s m args meth c cX3_makeRoom none 3 RX3 wsX3_makeRoom D ty eo A)   (n : Nat) (q : dK) (x1 : Int32) (H : Heap) (locs : List Loc) (ls : Array Slot) (h : zX3_makeRoom_s32_91 nc ns  n q x1 = some o2) (hP : va_P D vwCl (wF ty ad q) H) (hD : va_D A (wF ty ad q)) (hS : va_S A s.heap H locs) (hl : lv_has ls 3 [(0, .ref (ad 32)), (1, .int x1)]) : W p l e ({ frames := 3, cells := nc, slots := ns, locals := 69 } : Room) s m args below meth c H locs nc ns (MQ below (va_Qv (fun (u : va_W) => ∃ ad9 : Nat → Nat, dAg ad0 ad9 ∧ wF ty ad9 o2 = u) (kz_B D ty A) A) args s nc ns A) (F0 m 91 ls []) := by
  exact dFix_W (F := fun k (a : dK × Int32) => zX3_makeRoom_s32_91b nc ns  (fun q x1 => k (q, x1)) a.1 a.2) (o := o2) (P := fun (a : dK × Int32) H locs ls => va_P D vwCl (wF ty ad a.1) H ∧ va_D A (wF ty ad a.1) ∧ va_S A s.heap H locs ∧ lv_has ls 3 [(0, .ref (ad 32)), (1, .int a.2)]) (G := fun H locs ls => W p l e ({ frames := 3, cells := nc, slots := ns, locals := 69 } : Room) s m args below meth c H locs nc ns (MQ below (va_Qv (fun (u : va_W) => ∃ ad9 : Nat → Nat, dAg ad0 ad9 ∧ wF ty ad9 o2 = u) (kz_B D ty A) A) args s nc ns A) (F0 m 91 ls []))
    (fun k hk a H locs ls h hp => WX3_makeRoom_s32_91b hag C  (fun q x1 H locs ls h h1 h2 h3 h4 => hk (q, x1) H locs ls h ⟨h1, h2, h3, h4⟩) a.1 a.2 H locs ls h hp.1 hp.2.1 hp.2.2.1 hp.2.2.2) n (q, x1) H locs ls h ⟨hP, hD, hS, hl⟩
set_option maxHeartbeats 4000000 in
set_option maxRecDepth 100000 in
theorem qX3_makeRoom_s32 (l : Launch) (D : va_G) (ty : Nat → ClassId) (eo : Nat → Nat) (sz : Nat) (ad : Nat → Nat) (nc ns : Nat) (q : dK)  (o2 : dK) (h : zX3_makeRoom_s32 nc ns q = some o2) : Met l yX3_makeRoom wsX3_makeRoom ({ frames := 3, cells := nc, slots := ns, locals := 69 } : Room) (va_Pc [.ref (ad 32)] (kz_pre D ty eo (wF ty ad q) sz)) (va_Qv (fun (u : va_W) => ∃ ad9 : Nat → Nat, dAg ad ad9 ∧ wF ty ad9 o2 = u) (kz_B D ty (va_A (wF ty ad q) sz)) (va_A (wF ty ad q) sz)) nc ns (va_A (wF ty ad q) sz) := by
  have hag : dAg ad ad := fun _ _ => rfl
  refine Met.ofW (cc := cX3_makeRoom) (maxL := 3) (ret := none) (by decide) rfl ?_
  intro p e s m args below meth c s₁ B hml hv
  obtain ⟨rfl, hsz, hP, hK, hD0, hN, hE⟩ := hv
  have hx := B.exec
  have hb := B.bytes
  have hr := B.returns
  have hts := atoms_spec (ws := wsX3_makeRoom) B.pre
  have hown : s.vm.findClass RX3 = some m.cls := findClass_of_methodNamed B.named
  have hlocks := B.notSynchronized
  subst hsz
  have hD := hD0.self (sz := s.heap.size)
  generalize hAe : va_A (wF ty ad q) s.heap.size = A at hD hE ⊢
  have hA : ∀ q : Nat, s.heap.size ≤ q → A q := fun q h => by rw [← hAe]; exact Or.inr h
  clear hAe
  have hS : va_S A s.heap s.heap [] := va_S.rf
  have hl := lv_entry ([.ref (ad 32)]) (n := 3) (Nat.le_of_ble_eq_true rfl)
  rw [lg_entry_eq]
  generalize (lg_sl ([.ref (ad 32)]) ++ List.replicate (3 - (lg_sl ([.ref (ad 32)])).length) Slot.unset).toArray = ls at hl ⊢
  have hl : lv_has ls 3 [(0, .ref (ad 32))] := hl
  have C : dc_C p s m _ meth c cX3_makeRoom none 3 RX3 wsX3_makeRoom D ty eo A := ⟨hx, hb, hr, hts, hown, hlocks, hml, hK, hN, hE, hA⟩
  unfold zX3_makeRoom_s32 at h
  refine lv_aload_n hx hb dX3_makeRoom_0 rfl (lv_at hl 0 rfl) ?_
  refine lv_aload_n hx hb dX3_makeRoom_1 rfl (lv_at hl 0 rfl) ?_
  refine va_get (D := D) (ci := 3) (v := .int (q.1 32 14)) (C := RX3) (T := TX3) (N := 20) hx hb hts u9_wsX3_makeRoom_X3 hown hK hP 32 rfl rfl 14 (by decide) (hts (.fieldLink RX3 55 "TurnedFloors$Paper" "size" "I") f9_wsX3_makeRoom_731) (fun _ h9 => h9) rfl dX3_makeRoom_2 ?_
  obtain ⟨g1, h⟩ := dG_some h
  refine va_newa (atype := .int) (ty := .int) (N' := Int32.toNatClampNeg (q.1 32 14)) (a0 := (Int32.toNatClampNeg (q.1 32 14), .inl (fun _ => 0))) hx hb (hts (.arrayClass .int) f9_wsX3_makeRoom_732) rfl hK hP hD hS hA (fun _ => rfl) (of_decide_eq_true g1).1 rfl (of_decide_eq_true g1).2.2.2 (of_decide_eq_true g1).2.1 (of_decide_eq_true g1).2.2.1 dX3_makeRoom_5 (fun a9 cA H hK2 hp hd hs => ?_)
  obtain rfl : cA = ty 0 := kz_cA (t0 := 0) (t1 := 6) hK2 rfl rfl rfl
  clear hP hD hS hK2
  have hP := hp; have hD := hd; have hS := hs; clear hp hd hs
  refine va_put (D := D) (ci := 3) (v := .ref a9) (ty := .array .int) (C := RX3) (T := TX3) (N := 20) hx hb hts u9_wsX3_makeRoom_X3 tyX3 tyX3_ok nmX3 hown hK hP hD hS 32 rfl rfl 9 (by decide) (hts (.fieldLink RX3 39 "TurnedFloors$Paper" "toOrder" "[I") f9_wsX3_makeRoom_733) (fun _ h9 => h9) rfl (by decide +kernel) rfl rfl (Nat.le_of_ble_eq_true rfl) dX3_makeRoom_7 (fun H locs hp hd hs => ?_)
  replace hd := dw_newD (i := 32) (j := 42) (Nat.lt_of_lt_of_le (by decide : 32 < 63) (wF_len ty ad q)) (Nat.lt_of_lt_of_le (by decide : 42 < 63) (wF_len ty ad q)) (by decide) hd
  replace hp := dw_newP (i := 32) (j := 42) (Nat.lt_of_lt_of_le (by decide : 32 < 63) (wF_len ty ad q)) (Nat.lt_of_lt_of_le (by decide : 42 < 63) (wF_len ty ad q)) (by decide) hp
  replace hp := (congrArg (fun w9 => va_P D vwCl w9 H) (wF_n42 ty ad q a9 (q.1 32 14))).mp hp
  replace hd := (congrArg (fun w9 => va_D A w9) (wF_n42 ty ad q a9 (q.1 32 14))).mp hd
  have hag1 : dAg ad (adu ad 42 a9) := dAg_u (by decide)
  replace hag := dAg_t hag hag1
  generalize adu ad 42 a9 = ad at hp hd hag1 hag
  rw [dAg_s hag1 32 (by decide)] at hl
  clear hag1
  obtain ⟨q2, eq2, h⟩ := dL_some h
  refine kz_re (w2 := wF ty ad q2) hp hd hs (by rw [← eq2]) ?_
  clear hp hd hs hP hD hS
  intro hP hD hS
  refine lv_aload_n hx hb dX3_makeRoom_10 rfl (lv_at hl 0 rfl) ?_
  refine lv_aload_n hx hb dX3_makeRoom_11 rfl (lv_at hl 0 rfl) ?_
  refine va_get (D := D) (ci := 3) (v := .int (q2.1 32 14)) (C := RX3) (T := TX3) (N := 20) hx hb hts u9_wsX3_makeRoom_X3 hown hK hP 32 rfl rfl 14 (by decide) (hts (.fieldLink RX3 55 "TurnedFloors$Paper" "size" "I") f9_wsX3_makeRoom_731) (fun _ h9 => h9) rfl dX3_makeRoom_12 ?_
  obtain ⟨g3, h⟩ := dG_some h
  refine va_newa (atype := .int) (ty := .int) (N' := Int32.toNatClampNeg (q2.1 32 14)) (a0 := (Int32.toNatClampNeg (q2.1 32 14), .inl (fun _ => 0))) hx hb (hts (.arrayClass .int) f9_wsX3_makeRoom_732) rfl hK hP hD hS hA (fun _ => rfl) (of_decide_eq_true g3).1 rfl (of_decide_eq_true g3).2.2.2 (of_decide_eq_true g3).2.1 (of_decide_eq_true g3).2.2.1 dX3_makeRoom_15 (fun a9 cA H hK2 hp hd hs => ?_)
  obtain rfl : cA = ty 0 := kz_cA (t0 := 0) (t1 := 6) hK2 rfl rfl rfl
  clear hP hD hS hK2
  have hP := hp; have hD := hd; have hS := hs; clear hp hd hs
  refine va_put (D := D) (ci := 3) (v := .ref a9) (ty := .array .int) (C := RX3) (T := TX3) (N := 20) hx hb hts u9_wsX3_makeRoom_X3 tyX3 tyX3_ok nmX3 hown hK hP hD hS 32 rfl rfl 10 (by decide) (hts (.fieldLink RX3 42 "TurnedFloors$Paper" "marks" "[I") f9_wsX3_makeRoom_734) (fun _ h9 => h9) rfl (by decide +kernel) rfl rfl (Nat.le_of_ble_eq_true rfl) dX3_makeRoom_17 (fun H locs hp hd hs => ?_)
  replace hd := dw_newD (i := 32) (j := 43) (Nat.lt_of_lt_of_le (by decide : 32 < 63) (wF_len ty ad q2)) (Nat.lt_of_lt_of_le (by decide : 43 < 63) (wF_len ty ad q2)) (by decide) hd
  replace hp := dw_newP (i := 32) (j := 43) (Nat.lt_of_lt_of_le (by decide : 32 < 63) (wF_len ty ad q2)) (Nat.lt_of_lt_of_le (by decide : 43 < 63) (wF_len ty ad q2)) (by decide) hp
  replace hp := (congrArg (fun w9 => va_P D vwCl w9 H) (wF_n43 ty ad q2 a9 (q2.1 32 14))).mp hp
  replace hd := (congrArg (fun w9 => va_D A w9) (wF_n43 ty ad q2 a9 (q2.1 32 14))).mp hd
  have hag1 : dAg ad (adu ad 43 a9) := dAg_u (by decide)
  replace hag := dAg_t hag hag1
  generalize adu ad 43 a9 = ad at hp hd hag1 hag
  rw [dAg_s hag1 32 (by decide)] at hl
  clear hag1
  obtain ⟨q4, eq4, h⟩ := dL_some h
  refine kz_re (w2 := wF ty ad q4) hp hd hs (by rw [← eq4]) ?_
  clear hp hd hs hP hD hS
  intro hP hD hS
  refine lv_aload_n hx hb dX3_makeRoom_20 rfl (lv_at hl 0 rfl) ?_
  refine lv_aload_n hx hb dX3_makeRoom_21 rfl (lv_at hl 0 rfl) ?_
  refine va_get (D := D) (ci := 3) (v := .int (q4.1 32 14)) (C := RX3) (T := TX3) (N := 20) hx hb hts u9_wsX3_makeRoom_X3 hown hK hP 32 rfl rfl 14 (by decide) (hts (.fieldLink RX3 55 "TurnedFloors$Paper" "size" "I") f9_wsX3_makeRoom_731) (fun _ h9 => h9) rfl dX3_makeRoom_22 ?_
  obtain ⟨g5, h⟩ := dG_some h
  refine va_newa (atype := .int) (ty := .int) (N' := Int32.toNatClampNeg (q4.1 32 14)) (a0 := (Int32.toNatClampNeg (q4.1 32 14), .inl (fun _ => 0))) hx hb (hts (.arrayClass .int) f9_wsX3_makeRoom_732) rfl hK hP hD hS hA (fun _ => rfl) (of_decide_eq_true g5).1 rfl (of_decide_eq_true g5).2.2.2 (of_decide_eq_true g5).2.1 (of_decide_eq_true g5).2.2.1 dX3_makeRoom_25 (fun a9 cA H hK2 hp hd hs => ?_)
  obtain rfl : cA = ty 0 := kz_cA (t0 := 0) (t1 := 6) hK2 rfl rfl rfl
  clear hP hD hS hK2
  have hP := hp; have hD := hd; have hS := hs; clear hp hd hs
  refine va_put (D := D) (ci := 3) (v := .ref a9) (ty := .array .int) (C := RX3) (T := TX3) (N := 20) hx hb hts u9_wsX3_makeRoom_X3 tyX3 tyX3_ok nmX3 hown hK hP hD hS 32 rfl rfl 11 (by decide) (hts (.fieldLink RX3 45 "TurnedFloors$Paper" "line" "[I") f9_wsX3_makeRoom_735) (fun _ h9 => h9) rfl (by decide +kernel) rfl rfl (Nat.le_of_ble_eq_true rfl) dX3_makeRoom_27 (fun H locs hp hd hs => ?_)
  replace hd := dw_newD (i := 32) (j := 44) (Nat.lt_of_lt_of_le (by decide : 32 < 63) (wF_len ty ad q4)) (Nat.lt_of_lt_of_le (by decide : 44 < 63) (wF_len ty ad q4)) (by decide) hd
  replace hp := dw_newP (i := 32) (j := 44) (Nat.lt_of_lt_of_le (by decide : 32 < 63) (wF_len ty ad q4)) (Nat.lt_of_lt_of_le (by decide : 44 < 63) (wF_len ty ad q4)) (by decide) hp
  replace hp := (congrArg (fun w9 => va_P D vwCl w9 H) (wF_n44 ty ad q4 a9 (q4.1 32 14))).mp hp
  replace hd := (congrArg (fun w9 => va_D A w9) (wF_n44 ty ad q4 a9 (q4.1 32 14))).mp hd
  have hag1 : dAg ad (adu ad 44 a9) := dAg_u (by decide)
  replace hag := dAg_t hag hag1
  generalize adu ad 44 a9 = ad at hp hd hag1 hag
  rw [dAg_s hag1 32 (by decide)] at hl
  clear hag1
  obtain ⟨q6, eq6, h⟩ := dL_some h
  refine kz_re (w2 := wF ty ad q6) hp hd hs (by rw [← eq6]) ?_
  clear hp hd hs hP hD hS
  intro hP hD hS
  refine lv_aload_n hx hb dX3_makeRoom_30 rfl (lv_at hl 0 rfl) ?_
  refine lv_aload_n hx hb dX3_makeRoom_31 rfl (lv_at hl 0 rfl) ?_
  refine va_get (D := D) (ci := 3) (v := .int (q6.1 32 14)) (C := RX3) (T := TX3) (N := 20) hx hb hts u9_wsX3_makeRoom_X3 hown hK hP 32 rfl rfl 14 (by decide) (hts (.fieldLink RX3 55 "TurnedFloors$Paper" "size" "I") f9_wsX3_makeRoom_731) (fun _ h9 => h9) rfl dX3_makeRoom_32 ?_
  obtain ⟨g7, h⟩ := dG_some h
  refine va_newa (atype := .int) (ty := .int) (N' := Int32.toNatClampNeg (q6.1 32 14)) (a0 := (Int32.toNatClampNeg (q6.1 32 14), .inl (fun _ => 0))) hx hb (hts (.arrayClass .int) f9_wsX3_makeRoom_732) rfl hK hP hD hS hA (fun _ => rfl) (of_decide_eq_true g7).1 rfl (of_decide_eq_true g7).2.2.2 (of_decide_eq_true g7).2.1 (of_decide_eq_true g7).2.2.1 dX3_makeRoom_35 (fun a9 cA H hK2 hp hd hs => ?_)
  obtain rfl : cA = ty 0 := kz_cA (t0 := 0) (t1 := 6) hK2 rfl rfl rfl
  clear hP hD hS hK2
  have hP := hp; have hD := hd; have hS := hs; clear hp hd hs
  refine va_put (D := D) (ci := 3) (v := .ref a9) (ty := .array .int) (C := RX3) (T := TX3) (N := 20) hx hb hts u9_wsX3_makeRoom_X3 tyX3 tyX3_ok nmX3 hown hK hP hD hS 32 rfl rfl 12 (by decide) (hts (.fieldLink RX3 48 "TurnedFloors$Paper" "links" "[I") f9_wsX3_makeRoom_736) (fun _ h9 => h9) rfl (by decide +kernel) rfl rfl (Nat.le_of_ble_eq_true rfl) dX3_makeRoom_37 (fun H locs hp hd hs => ?_)
  replace hd := dw_newD (i := 32) (j := 45) (Nat.lt_of_lt_of_le (by decide : 32 < 63) (wF_len ty ad q6)) (Nat.lt_of_lt_of_le (by decide : 45 < 63) (wF_len ty ad q6)) (by decide) hd
  replace hp := dw_newP (i := 32) (j := 45) (Nat.lt_of_lt_of_le (by decide : 32 < 63) (wF_len ty ad q6)) (Nat.lt_of_lt_of_le (by decide : 45 < 63) (wF_len ty ad q6)) (by decide) hp
  replace hp := (congrArg (fun w9 => va_P D vwCl w9 H) (wF_n45 ty ad q6 a9 (q6.1 32 14))).mp hp
  replace hd := (congrArg (fun w9 => va_D A w9) (wF_n45 ty ad q6 a9 (q6.1 32 14))).mp hd
  have hag1 : dAg ad (adu ad 45 a9) := dAg_u (by decide)
  replace hag := dAg_t hag hag1
  generalize adu ad 45 a9 = ad at hp hd hag1 hag
  rw [dAg_s hag1 32 (by decide)] at hl
  clear hag1
  obtain ⟨q8, eq8, h⟩ := dL_some h
  refine kz_re (w2 := wF ty ad q8) hp hd hs (by rw [← eq8]) ?_
  clear hp hd hs hP hD hS
  intro hP hD hS
  refine lv_aload_n hx hb dX3_makeRoom_40 rfl (lv_at hl 0 rfl) ?_
  refine va_gets hx hb hE.1 hS hown (hts (.fieldLink RX3 76 "TurnedFloors$Paper" "FACTORIALS" "[I") f9_wsX3_makeRoom_737) (fun _ h9 => h9) dX3_makeRoom_41 ?_
  refine lv_aload_n hx hb dX3_makeRoom_44 rfl (lv_at hl 0 rfl) ?_
  refine va_get (D := D) (ci := 3) (v := .int (q8.1 32 13)) (C := RX3) (T := TX3) (N := 20) hx hb hts u9_wsX3_makeRoom_X3 hown hK hP 32 rfl rfl 13 (by decide) (hts (.fieldLink RX3 51 "TurnedFloors$Paper" "floors" "I") f9_wsX3_makeRoom_728) (fun _ h9 => h9) rfl dX3_makeRoom_45 ?_
  obtain ⟨g9, h⟩ := dG_some h
  refine va_ti (v := .int (([1, 1, 2, 6, 24, 120, 720] : List Int32).getD (Int32.toNatClampNeg (q8.1 32 13)) 0)) hx hb hE.2.1 hS (dg_in g9) rfl dX3_makeRoom_48 ?_
  obtain ⟨v10, ev10, h⟩ := dL_some h
  refine kz_topi v10 ev10 ?_
  obtain ⟨g11, h⟩ := dG_some h
  refine va_newa (atype := .int) (ty := .int) (N' := Int32.toNatClampNeg v10) (a0 := (Int32.toNatClampNeg v10, .inl (fun _ => 0))) hx hb (hts (.arrayClass .int) f9_wsX3_makeRoom_732) rfl hK hP hD hS hA (fun _ => rfl) (of_decide_eq_true g11).1 rfl (of_decide_eq_true g11).2.2.2 (of_decide_eq_true g11).2.1 (of_decide_eq_true g11).2.2.1 dX3_makeRoom_49 (fun a9 cA H hK2 hp hd hs => ?_)
  obtain rfl : cA = ty 0 := kz_cA (t0 := 0) (t1 := 6) hK2 rfl rfl rfl
  clear hP hD hS hK2
  have hP := hp; have hD := hd; have hS := hs; clear hp hd hs
  refine va_put (D := D) (ci := 3) (v := .ref a9) (ty := .array .int) (C := RX3) (T := TX3) (N := 20) hx hb hts u9_wsX3_makeRoom_X3 tyX3 tyX3_ok nmX3 hown hK hP hD hS 32 rfl rfl 6 (by decide) (hts (.fieldLink RX3 30 "TurnedFloors$Paper" "orders" "[I") f9_wsX3_makeRoom_730) (fun _ h9 => h9) rfl (by decide +kernel) rfl rfl (Nat.le_of_ble_eq_true rfl) dX3_makeRoom_51 (fun H locs hp hd hs => ?_)
  replace hd := dw_newD (i := 32) (j := 39) (Nat.lt_of_lt_of_le (by decide : 32 < 63) (wF_len ty ad q8)) (Nat.lt_of_lt_of_le (by decide : 39 < 63) (wF_len ty ad q8)) (by decide) hd
  replace hp := dw_newP (i := 32) (j := 39) (Nat.lt_of_lt_of_le (by decide : 32 < 63) (wF_len ty ad q8)) (Nat.lt_of_lt_of_le (by decide : 39 < 63) (wF_len ty ad q8)) (by decide) hp
  replace hp := (congrArg (fun w9 => va_P D vwCl w9 H) (wF_n39 ty ad q8 a9 v10)).mp hp
  replace hd := (congrArg (fun w9 => va_D A w9) (wF_n39 ty ad q8 a9 v10)).mp hd
  have hag1 : dAg ad (adu ad 39 a9) := dAg_u (by decide)
  replace hag := dAg_t hag hag1
  generalize adu ad 39 a9 = ad at hp hd hag1 hag
  rw [dAg_s hag1 32 (by decide)] at hl
  clear hag1
  obtain ⟨q12, eq12, h⟩ := dL_some h
  refine kz_re (w2 := wF ty ad q12) hp hd hs (by rw [← eq12]) ?_
  clear hp hd hs hP hD hS
  intro hP hD hS
  refine lv_aload_n hx hb dX3_makeRoom_54 rfl (lv_at hl 0 rfl) ?_
  refine va_gets hx hb hE.1 hS hown (hts (.fieldLink RX3 76 "TurnedFloors$Paper" "FACTORIALS" "[I") f9_wsX3_makeRoom_737) (fun _ h9 => h9) dX3_makeRoom_55 ?_
  refine lv_aload_n hx hb dX3_makeRoom_58 rfl (lv_at hl 0 rfl) ?_
  refine va_get (D := D) (ci := 3) (v := .int (q12.1 32 13)) (C := RX3) (T := TX3) (N := 20) hx hb hts u9_wsX3_makeRoom_X3 hown hK hP 32 rfl rfl 13 (by decide) (hts (.fieldLink RX3 51 "TurnedFloors$Paper" "floors" "I") f9_wsX3_makeRoom_728) (fun _ h9 => h9) rfl dX3_makeRoom_59 ?_
  obtain ⟨g13, h⟩ := dG_some h
  refine va_ti (v := .int (([1, 1, 2, 6, 24, 120, 720] : List Int32).getD (Int32.toNatClampNeg (q12.1 32 13)) 0)) hx hb hE.2.1 hS (dg_in g13) rfl dX3_makeRoom_62 ?_
  obtain ⟨v14, ev14, h⟩ := dL_some h
  refine kz_topi v14 ev14 ?_
  refine lv_bipush (v := 6) hx hb dX3_makeRoom_63 (by decide) ?_
  refine lv_imul hx hb dX3_makeRoom_65 ?_
  obtain ⟨g15, h⟩ := dG_some h
  refine va_newa (atype := .int) (ty := .int) (N' := Int32.toNatClampNeg (v14 * 6 : Int32)) (a0 := (Int32.toNatClampNeg (v14 * 6 : Int32), .inl (fun _ => 0))) hx hb (hts (.arrayClass .int) f9_wsX3_makeRoom_732) rfl hK hP hD hS hA (fun _ => rfl) (of_decide_eq_true g15).1 rfl (of_decide_eq_true g15).2.2.2 (of_decide_eq_true g15).2.1 (of_decide_eq_true g15).2.2.1 dX3_makeRoom_66 (fun a9 cA H hK2 hp hd hs => ?_)
  obtain rfl : cA = ty 0 := kz_cA (t0 := 0) (t1 := 6) hK2 rfl rfl rfl
  clear hP hD hS hK2
  have hP := hp; have hD := hd; have hS := hs; clear hp hd hs
  refine va_put (D := D) (ci := 3) (v := .ref a9) (ty := .array .int) (C := RX3) (T := TX3) (N := 20) hx hb hts u9_wsX3_makeRoom_X3 tyX3 tyX3_ok nmX3 hown hK hP hD hS 32 rfl rfl 7 (by decide) (hts (.fieldLink RX3 33 "TurnedFloors$Paper" "turnedOrders" "[I") f9_wsX3_makeRoom_738) (fun _ h9 => h9) rfl (by decide +kernel) rfl rfl (Nat.le_of_ble_eq_true rfl) dX3_makeRoom_68 (fun H locs hp hd hs => ?_)
  replace hd := dw_newD (i := 32) (j := 40) (Nat.lt_of_lt_of_le (by decide : 32 < 63) (wF_len ty ad q12)) (Nat.lt_of_lt_of_le (by decide : 40 < 63) (wF_len ty ad q12)) (by decide) hd
  replace hp := dw_newP (i := 32) (j := 40) (Nat.lt_of_lt_of_le (by decide : 32 < 63) (wF_len ty ad q12)) (Nat.lt_of_lt_of_le (by decide : 40 < 63) (wF_len ty ad q12)) (by decide) hp
  replace hp := (congrArg (fun w9 => va_P D vwCl w9 H) (wF_n40 ty ad q12 a9 (v14 * 6 : Int32))).mp hp
  replace hd := (congrArg (fun w9 => va_D A w9) (wF_n40 ty ad q12 a9 (v14 * 6 : Int32))).mp hd
  have hag1 : dAg ad (adu ad 40 a9) := dAg_u (by decide)
  replace hag := dAg_t hag hag1
  generalize adu ad 40 a9 = ad at hp hd hag1 hag
  rw [dAg_s hag1 32 (by decide)] at hl
  clear hag1
  obtain ⟨q16, eq16, h⟩ := dL_some h
  refine kz_re (w2 := wF ty ad q16) hp hd hs (by rw [← eq16]) ?_
  clear hp hd hs hP hD hS
  intro hP hD hS
  refine lv_aload_n hx hb dX3_makeRoom_71 rfl (lv_at hl 0 rfl) ?_
  refine lv_bipush (v := 6) hx hb dX3_makeRoom_72 (by decide) ?_
  refine lv_aload_n hx hb dX3_makeRoom_74 rfl (lv_at hl 0 rfl) ?_
  refine va_get (D := D) (ci := 3) (v := .int (q16.1 32 13)) (C := RX3) (T := TX3) (N := 20) hx hb hts u9_wsX3_makeRoom_X3 hown hK hP 32 rfl rfl 13 (by decide) (hts (.fieldLink RX3 51 "TurnedFloors$Paper" "floors" "I") f9_wsX3_makeRoom_728) (fun _ h9 => h9) rfl dX3_makeRoom_75 ?_
  refine lv_ishl hx hb dX3_makeRoom_78 ?_
  obtain ⟨g17, h⟩ := dG_some h
  refine va_newa (atype := .int) (ty := .int) (N' := Int32.toNatClampNeg (6 <<< ((q16.1 32 13 : Int32) &&& 31) : Int32)) (a0 := (Int32.toNatClampNeg (6 <<< ((q16.1 32 13 : Int32) &&& 31) : Int32), .inl (fun _ => 0))) hx hb (hts (.arrayClass .int) f9_wsX3_makeRoom_732) rfl hK hP hD hS hA (fun _ => rfl) (of_decide_eq_true g17).1 rfl (of_decide_eq_true g17).2.2.2 (of_decide_eq_true g17).2.1 (of_decide_eq_true g17).2.2.1 dX3_makeRoom_79 (fun a9 cA H hK2 hp hd hs => ?_)
  obtain rfl : cA = ty 0 := kz_cA (t0 := 0) (t1 := 6) hK2 rfl rfl rfl
  clear hP hD hS hK2
  have hP := hp; have hD := hd; have hS := hs; clear hp hd hs
  refine va_put (D := D) (ci := 3) (v := .ref a9) (ty := .array .int) (C := RX3) (T := TX3) (N := 20) hx hb hts u9_wsX3_makeRoom_X3 tyX3 tyX3_ok nmX3 hown hK hP hD hS 32 rfl rfl 8 (by decide) (hts (.fieldLink RX3 36 "TurnedFloors$Paper" "turnedHeads" "[I") f9_wsX3_makeRoom_729) (fun _ h9 => h9) rfl (by decide +kernel) rfl rfl (Nat.le_of_ble_eq_true rfl) dX3_makeRoom_81 (fun H locs hp hd hs => ?_)
  replace hd := dw_newD (i := 32) (j := 41) (Nat.lt_of_lt_of_le (by decide : 32 < 63) (wF_len ty ad q16)) (Nat.lt_of_lt_of_le (by decide : 41 < 63) (wF_len ty ad q16)) (by decide) hd
  replace hp := dw_newP (i := 32) (j := 41) (Nat.lt_of_lt_of_le (by decide : 32 < 63) (wF_len ty ad q16)) (Nat.lt_of_lt_of_le (by decide : 41 < 63) (wF_len ty ad q16)) (by decide) hp
  replace hp := (congrArg (fun w9 => va_P D vwCl w9 H) (wF_n41 ty ad q16 a9 (6 <<< ((q16.1 32 13 : Int32) &&& 31) : Int32))).mp hp
  replace hd := (congrArg (fun w9 => va_D A w9) (wF_n41 ty ad q16 a9 (6 <<< ((q16.1 32 13 : Int32) &&& 31) : Int32))).mp hd
  have hag1 : dAg ad (adu ad 41 a9) := dAg_u (by decide)
  replace hag := dAg_t hag hag1
  generalize adu ad 41 a9 = ad at hp hd hag1 hag
  rw [dAg_s hag1 32 (by decide)] at hl
  clear hag1
  obtain ⟨q18, eq18, h⟩ := dL_some h
  refine kz_re (w2 := wF ty ad q18) hp hd hs (by rw [← eq18]) ?_
  clear hp hd hs hP hD hS
  intro hP hD hS
  refine lv_aload_n hx hb dX3_makeRoom_84 rfl (lv_at hl 0 rfl) ?_
  refine lv_iconst (v := (-1)) hx hb dX3_makeRoom_85 (by decide) ?_
  refine va_put (D := D) (ci := 3) (v := .int (-1)) (ty := .int) (C := RX3) (T := TX3) (N := 20) hx hb hts u9_wsX3_makeRoom_X3 tyX3 tyX3_ok nmX3 hown hK hP hD hS 32 rfl rfl 17 (by decide) (hts (.fieldLink RX3 64 "TurnedFloors$Paper" "measuredFloors" "I") f9_wsX3_makeRoom_739) (fun _ h9 => h9) rfl (by decide +kernel) rfl rfl (Nat.le_of_ble_eq_true rfl) dX3_makeRoom_86 (fun H locs hp hd hs => ?_)
  obtain ⟨q19, eq19, h⟩ := dL_some h
  refine kz_re (w2 := wF ty ad q19) hp hd hs (by rw [← eq19]; exact wF_f32_17 ty ad q18 (-1)) ?_
  clear hp hd hs hP hD hS
  intro hP hD hS
  refine lv_iconst (v := 0) hx hb dX3_makeRoom_89 (by decide) ?_
  refine lv_istore_n (lv' := [(1, .int 0), (0, .ref (ad 32))]) hx hb dX3_makeRoom_90 rfl hl (by decide) rfl (fun ls hl => ?_)
  refine dw_up (c2 := nc) (s2 := ns) (of_decide_eq_true g17).2.1 (of_decide_eq_true g17).2.2.1 ?_
  exact WX3_makeRoom_s32_91 hag C  _ _ _ _ _ _ h hP hD hS (lv_sub hl [1, 0] rfl)

set_option maxHeartbeats 4000000 in
set_option maxRecDepth 100000 in
theorem qX3_caseNumber (l : Launch) (D : va_G) (ty : Nat → ClassId) (eo : Nat → Nat) (sz : Nat) (p1 : Int32) (p2 : Int32) (p3 : Int32) (p4 : Int32) (o1 : Int32) (h : zX3_caseNumber p1 p2 p3 p4 = some o1) : Met l yX3_caseNumber wsX3_caseNumber ({ frames := 0, cells := 0, slots := 0, locals := 0 } : Room) (va_Pc [.int p1, .int p2, .int p3, .int p4] (kz_pre D ty eo (([] : va_W)) sz)) (va_Qi (fun (r : Int32) (u : va_W) => o1 = r ∧ ([] : va_W) = u) (kz_B D ty (va_A (([] : va_W)) sz)) (va_A (([] : va_W)) sz)) 0 0 (va_A (([] : va_W)) sz) := by
  refine Met.ofW (cc := cX3_caseNumber) (maxL := 4) (ret := (some .int)) (by decide) rfl ?_
  intro p e s m args below meth c s₁ B hml hv
  obtain ⟨rfl, hsz, hP, hK, hD0, hN, hE⟩ := hv
  have hx := B.exec
  have hb := B.bytes
  have hr := B.returns
  have hts := atoms_spec (ws := wsX3_caseNumber) B.pre
  have hown : s.vm.findClass RX3 = some m.cls := findClass_of_methodNamed B.named
  have hlocks := B.notSynchronized
  subst hsz
  have hD := hD0.self (sz := s.heap.size)
  generalize hAe : va_A (([] : va_W)) s.heap.size = A at hD hE ⊢
  have hA : ∀ q : Nat, s.heap.size ≤ q → A q := fun q h => by rw [← hAe]; exact Or.inr h
  clear hAe
  have hS : va_S A s.heap s.heap [] := va_S.rf
  have hl := lv_entry ([.int p1, .int p2, .int p3, .int p4]) (n := 4) (Nat.le_of_ble_eq_true rfl)
  rw [lg_entry_eq]
  generalize (lg_sl ([.int p1, .int p2, .int p3, .int p4]) ++ List.replicate (4 - (lg_sl ([.int p1, .int p2, .int p3, .int p4])).length) Slot.unset).toArray = ls at hl ⊢
  have hl : lv_has ls 4 [(0, .int p1), (1, .int p2), (2, .int p3), (3, .int p4)] := hl
  have C : dc_C p s m _ meth c cX3_caseNumber (some .int) 4 RX3 wsX3_caseNumber D ty eo A := ⟨hx, hb, hr, hts, hown, hlocks, hml, hK, hN, hE, hA⟩
  unfold zX3_caseNumber at h
  refine lv_iload_n hx hb dX3_caseNumber_0 rfl (lv_at hl 0 rfl) ?_
  refine lv_iconst (v := 1) hx hb dX3_caseNumber_1 (by decide) ?_
  refine lv_isub hx hb dX3_caseNumber_2 ?_
  refine lv_bipush (v := 6) hx hb dX3_caseNumber_3 (by decide) ?_
  refine lv_imul hx hb dX3_caseNumber_5 ?_
  refine lv_iload_n hx hb dX3_caseNumber_6 rfl (lv_at hl 1 rfl) ?_
  refine lv_iadd hx hb dX3_caseNumber_7 ?_
  refine lv_bipush (v := 7) hx hb dX3_caseNumber_8 (by decide) ?_
  refine lv_imul hx hb dX3_caseNumber_10 ?_
  refine lv_iload_n hx hb dX3_caseNumber_11 rfl (lv_at hl 2 rfl) ?_
  refine lv_iadd hx hb dX3_caseNumber_12 ?_
  refine lv_iconst (v := 2) hx hb dX3_caseNumber_13 (by decide) ?_
  refine lv_imul hx hb dX3_caseNumber_14 ?_
  obtain ⟨v1, ev1, h⟩ := dL_some h
  refine kz_topi v1 ev1 ?_
  refine lv_iload_n hx hb dX3_caseNumber_15 rfl (lv_at hl 3 rfl) ?_
  refine lv_iadd hx hb dX3_caseNumber_16 ?_
  cases h
  exact kz_iret hx hb hr hlocks hP hK hD hS dX3_caseNumber_17 ⟨rfl, rfl⟩
