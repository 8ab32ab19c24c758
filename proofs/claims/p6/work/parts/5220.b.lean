theorem f9_wsX3_askCases_821 : (Cond.fieldLink RX3 21 "TurnedFloors$Paper" "pays" "[I") ∈ wsX3_askCases := by decide +kernel
theorem u9_wsX3_putInBucket_X3 : ∀ w ∈ u_ws RX3 TX3 20, w ∈ wsX3_putInBucket := by
  first | exact fun w h => List.mem_cons_of_mem _ (List.mem_append_right _ h) | decide +kernel
theorem f9_wsX3_putInBucket_823 : (Cond.fieldLink RX3 27 "TurnedFloors$Paper" "buckets" "[I") ∈ wsX3_putInBucket := by decide +kernel
theorem f9_wsX3_putInBucket_824 : (Cond.fieldLink RX3 42 "TurnedFloors$Paper" "marks" "[I") ∈ wsX3_putInBucket := by decide +kernel
theorem f9_wsX3_putInBucket_825 : (Cond.fieldLink RX3 45 "TurnedFloors$Paper" "line" "[I") ∈ wsX3_putInBucket := by decide +kernel
theorem f9_wsX3_putInBucket_826 : (Cond.fieldLink RX3 48 "TurnedFloors$Paper" "links" "[I") ∈ wsX3_putInBucket := by decide +kernel
theorem u9_wsX3_takeFromBucket_X3 : ∀ w ∈ u_ws RX3 TX3 20, w ∈ wsX3_takeFromBucket := by
  first | exact fun w h => List.mem_cons_of_mem _ (List.mem_append_right _ h) | decide +kernel
theorem f9_wsX3_takeFromBucket_828 : (Cond.fieldLink RX3 45 "TurnedFloors$Paper" "line" "[I") ∈ wsX3_takeFromBucket := by decide +kernel
theorem f9_wsX3_takeFromBucket_829 : (Cond.fieldLink RX3 48 "TurnedFloors$Paper" "links" "[I") ∈ wsX3_takeFromBucket := by decide +kernel
theorem f9_wsX3_takeFromBucket_830 : (Cond.fieldLink RX3 27 "TurnedFloors$Paper" "buckets" "[I") ∈ wsX3_takeFromBucket := by decide +kernel
theorem f9_wsX3_takeFromBucket_831 : (Cond.fieldLink RX3 42 "TurnedFloors$Paper" "marks" "[I") ∈ wsX3_takeFromBucket := by decide +kernel
set_option maxHeartbeats 4000000 in
set_option maxRecDepth 100000 in
theorem WX3_askCases_s32_s20_c0_173 {p : Program} {l : Launch} {e : Env} {s : State} {m : MethodId} {args : Array Value} {below : List Frame} {meth : Method} {c : Code} {D : va_G} {ty : Nat → ClassId} {eo : Nat → Nat} {A : Nat → Prop} {ad : Nat → Nat} {o2 : dK} (C : dc_C p s m args meth c cX3_askCases none 13 RX3 wsX3_askCases D ty eo A) {k36 : dK → Int32 → Int32 → Option (dK)} {k48 : dK → Int32 → Int32 → Int32 → Option (dK)} {k100 : dK → Int32 → Int32 → Int32 → Int32 → Int32 → Option (dK)} {k130 : dK → Int32 → Int32 → Int32 → Int32 → Int32 → Int32 → Int32 → Option (dK)} (hk36 : ∀ (q : dK) (x3 : Int32) (x5 : Int32) (H : Heap) (locs : List Loc) (ls : Array Slot), k36 q x3 x5 = some o2 → va_P D vwCl (wF ty ad q) H → va_D A (wF ty ad q) → va_S A s.heap H locs → lv_has ls 13 [(0, .ref (ad 32)), (1, .ref (ad 20)), (3, .int x3), (4, .ref (ad 36)), (5, .int x5)] → W p l e ({ frames := 3, cells := 0, slots := 0, locals := 81 } : Room) s m args below meth c H locs 0 0 (MQ below (va_Qv (fun (u : va_W) => wF ty ad o2 = u) (kz_B D ty A) A) args s 0 0 A) (F0 m 36 ls [])) (hk48 : ∀ (q : dK) (x3 : Int32) (x5 : Int32) (x6 : Int32) (H : Heap) (locs : List Loc) (ls : Array Slot), k48 q x3 x5 x6 = some o2 → va_P D vwCl (wF ty ad q) H → va_D A (wF ty ad q) → va_S A s.heap H locs → lv_has ls 13 [(0, .ref (ad 32)), (1, .ref (ad 20)), (3, .int x3), (4, .ref (ad 36)), (5, .int x5), (6, .int x6)] → W p l e ({ frames := 3, cells := 0, slots := 0, locals := 81 } : Room) s m args below meth c H locs 0 0 (MQ below (va_Qv (fun (u : va_W) => wF ty ad o2 = u) (kz_B D ty A) A) args s 0 0 A) (F0 m 48 ls [])) (hk100 : ∀ (q : dK) (x3 : Int32) (x5 : Int32) (x6 : Int32) (x8 : Int32) (x9 : Int32) (H : Heap) (locs : List Loc) (ls : Array Slot), k100 q x3 x5 x6 x8 x9 = some o2 → va_P D vwCl (wF ty ad q) H → va_D A (wF ty ad q) → va_S A s.heap H locs → lv_has ls 13 [(0, .ref (ad 32)), (1, .ref (ad 20)), (3, .int x3), (4, .ref (ad 36)), (5, .int x5), (6, .int x6), (8, .int x8), (9, .int x9)] → W p l e ({ frames := 3, cells := 0, slots := 0, locals := 81 } : Room) s m args below meth c H locs 0 0 (MQ below (va_Qv (fun (u : va_W) => wF ty ad o2 = u) (kz_B D ty A) A) args s 0 0 A) (F0 m 100 ls [])) (hk130 : ∀ (q : dK) (x3 : Int32) (x5 : Int32) (x6 : Int32) (x8 : Int32) (x9 : Int32) (x10 : Int32) (x11 : Int32) (H : Heap) (locs : List Loc) (ls : Array Slot), k130 q x3 x5 x6 x8 x9 x10 x11 = some o2 → va_P D vwCl (wF ty ad q) H → va_D A (wF ty ad q) → va_S A s.heap H locs → lv_has ls 13 [(0, .ref (ad 32)), (1, .ref (ad 20)), (3, .int x3), (4, .ref (ad 36)), (5, .int x5), (6, .int x6), (8, .int x8), (9, .int x9), (10, .int x10), (11, .int x11)] → W p l e ({ frames := 3, cells := 0, slots := 0, locals := 81 } : Room) s m args below meth c H locs 0 0 (MQ below (va_Qv (fun (u : va_W) => wF ty ad o2 = u) (kz_B D ty A) A) args s 0 0 A) (F0 m 130 ls [])) (q : dK) (x3 : Int32) (x5 : Int32) (x6 : Int32) (x8 : Int32) (x9 : Int32) (x10 : Int32) (x11 : Int32) (y0 : Int32) (H : Heap) (locs : List Loc) (ls : Array Slot) (h : zX3_askCases_s32_s20_c0_173 k36 k48 k100 k130 q x3 x5 x6 x8 x9 x10 x11 y0 = some o2) (hP : va_P D vwCl (wF ty ad q) H) (hD : va_D A (wF ty ad q)) (hS : va_S A s.heap H locs) (hl : lv_has ls 13 [(0, .ref (ad 32)), (1, .ref (ad 20)), (3, .int x3), (4, .ref (ad 36)), (5, .int x5), (6, .int x6), (8, .int x8), (9, .int x9), (10, .int x10), (11, .int x11)]) : W p l e ({ frames := 3, cells := 0, slots := 0, locals := 81 } : Room) s m args below meth c H locs 0 0 (MQ below (va_Qv (fun (u : va_W) => wF ty ad o2 = u) (kz_B D ty A) A) args s 0 0 A) (F0 m 173 ls [.int y0]) := by
  have C0 := C
  obtain ⟨hx, hb, hr, hts, hown, hlocks, hml, hK, hN, hE, hA⟩ := C
  unfold zX3_askCases_s32_s20_c0_173 at h
  refine lv_istore (lv' := [(12, .int y0), (0, .ref (ad 32)), (1, .ref (ad 20)), (3, .int x3), (4, .ref (ad 36)), (5, .int x5), (6, .int x6), (8, .int x8), (9, .int x9), (10, .int x10), (11, .int x11)]) hx hb dX3_askCases_173 hl (by decide) rfl (fun ls hl => ?_)
  refine lv_aload hx hb dX3_askCases_175 (lv_at hl 4 rfl) ?_
  refine lv_iload hx hb dX3_askCases_177 (lv_at hl 5 rfl) ?_
  refine lv_iload hx hb dX3_askCases_179 (lv_at hl 6 rfl) ?_
  refine lv_iload hx hb dX3_askCases_181 (lv_at hl 8 rfl) ?_
  refine lv_iload hx hb dX3_askCases_183 (lv_at hl 10 rfl) ?_
  obtain ⟨r1, h2, h⟩ := dV_some h
  refine dw_ks (va_runS (As := [.int x5, .int x6, .int x9, .int x11]) (rest := [.ref (ad 36)]) ⟨hx, hb, hml, hown, hts⟩ (qX3_caseNumber l D ty eo _ x5 x6 x9 x11 _ h2) (va_cwS 4 hts gX3_askCases_X3_caseNumber rfl rfl rfl (by decide +kernel) ⟨Nat.le_of_ble_eq_true rfl, Nat.le_of_ble_eq_true rfl⟩) (kz_preS hK hN hE hP hD hS hA [] (by decide) rfl) rfl rfl hl.1 rfl (lv_room (Nat.le_of_ble_eq_true rfl)) dX3_askCases_185 ⟨Nat.le_of_ble_eq_true rfl, Nat.le_of_ble_eq_true rfl⟩) hP hD hS hA (fun _ _ h9 => h9.2.symm) (fun r9 u9 H locs hw hp hd hs => ?_)
  obtain ⟨rfl, -⟩ := hw
  clear hP hD hS
  have hP := hp; have hD := hd; have hS := hs; clear hp hd hs
  refine lv_iload hx hb dX3_askCases_188 (lv_at hl 0 rfl) ?_
  obtain ⟨g3, h⟩ := dG_some h
  refine va_iast hx hb hK hP hD hS 36 0 rfl rfl (dg_in g3) dX3_askCases_190 (fun H locs hp hd hs => ?_)
  obtain ⟨q4, eq4, h⟩ := dL_some h
  refine kz_re (w2 := wF ty ad q4) hp hd hs (by rw [← eq4]; exact wF_a36 ty ad q (Int32.toNatClampNeg r1) y0) ?_
  clear hp hd hs hP hD hS
  intro hP hD hS
  refine lv_iinc (v := x11 + 1) (lv' := [(11, .int (x11 + 1)), (12, .int y0), (0, .ref (ad 32)), (1, .ref (ad 20)), (3, .int x3), (4, .ref (ad 36)), (5, .int x5), (6, .int x6), (8, .int x8), (9, .int x9), (10, .int x10)]) hx hb dX3_askCases_191 hl (k := 10) rfl rfl (by decide) rfl (fun ls hl => ?_)
  refine lv_goto (tgt := 130) hx hb dX3_askCases_194 (by decide) ?_
  exact hk130 _ _ _ _ _ _ _ _ _ _ _ h hP hD hS (lv_sub hl [2, 3, 4, 5, 6, 7, 8, 9, 10, 0] rfl)
set_option maxHeartbeats 4000000 in
set_option maxRecDepth 100000 in
theorem WX3_askCases_s32_s20_c0_130b {p : Program} {l : Launch} {e : Env} {s : State} {m : MethodId} {args : Array Value} {below : List Frame} {meth : Method} {c : Code} {D : va_G} {ty : Nat → ClassId} {eo : Nat → Nat} {A : Nat → Prop} {ad : Nat → Nat} {o2 : dK} (C : dc_C p s m args meth c cX3_askCases none 13 RX3 wsX3_askCases D ty eo A) {k36 : dK → Int32 → Int32 → Option (dK)} {k48 : dK → Int32 → Int32 → Int32 → Option (dK)} {k100 : dK → Int32 → Int32 → Int32 → Int32 → Int32 → Option (dK)} {k130 : dK → Int32 → Int32 → Int32 → Int32 → Int32 → Int32 → Int32 → Option (dK)} (hk36 : ∀ (q : dK) (x3 : Int32) (x5 : Int32) (H : Heap) (locs : List Loc) (ls : Array Slot), k36 q x3 x5 = some o2 → va_P D vwCl (wF ty ad q) H → va_D A (wF ty ad q) → va_S A s.heap H locs → lv_has ls 13 [(0, .ref (ad 32)), (1, .ref (ad 20)), (3, .int x3), (4, .ref (ad 36)), (5, .int x5)] → W p l e ({ frames := 3, cells := 0, slots := 0, locals := 81 } : Room) s m args below meth c H locs 0 0 (MQ below (va_Qv (fun (u : va_W) => wF ty ad o2 = u) (kz_B D ty A) A) args s 0 0 A) (F0 m 36 ls [])) (hk48 : ∀ (q : dK) (x3 : Int32) (x5 : Int32) (x6 : Int32) (H : Heap) (locs : List Loc) (ls : Array Slot), k48 q x3 x5 x6 = some o2 → va_P D vwCl (wF ty ad q) H → va_D A (wF ty ad q) → va_S A s.heap H locs → lv_has ls 13 [(0, .ref (ad 32)), (1, .ref (ad 20)), (3, .int x3), (4, .ref (ad 36)), (5, .int x5), (6, .int x6)] → W p l e ({ frames := 3, cells := 0, slots := 0, locals := 81 } : Room) s m args below meth c H locs 0 0 (MQ below (va_Qv (fun (u : va_W) => wF ty ad o2 = u) (kz_B D ty A) A) args s 0 0 A) (F0 m 48 ls [])) (hk100 : ∀ (q : dK) (x3 : Int32) (x5 : Int32) (x6 : Int32) (x8 : Int32) (x9 : Int32) (H : Heap) (locs : List Loc) (ls : Array Slot), k100 q x3 x5 x6 x8 x9 = some o2 → va_P D vwCl (wF ty ad q) H → va_D A (wF ty ad q) → va_S A s.heap H locs → lv_has ls 13 [(0, .ref (ad 32)), (1, .ref (ad 20)), (3, .int x3), (4, .ref (ad 36)), (5, .int x5), (6, .int x6), (8, .int x8), (9, .int x9)] → W p l e ({ frames := 3, cells := 0, slots := 0, locals := 81 } : Room) s m args below meth c H locs 0 0 (MQ below (va_Qv (fun (u : va_W) => wF ty ad o2 = u) (kz_B D ty A) A) args s 0 0 A) (F0 m 100 ls [])) (hk130 : ∀ (q : dK) (x3 : Int32) (x5 : Int32) (x6 : Int32) (x8 : Int32) (x9 : Int32) (x10 : Int32) (x11 : Int32) (H : Heap) (locs : List Loc) (ls : Array Slot), k130 q x3 x5 x6 x8 x9 x10 x11 = some o2 → va_P D vwCl (wF ty ad q) H → va_D A (wF ty ad q) → va_S A s.heap H locs → lv_has ls 13 [(0, .ref (ad 32)), (1, .ref (ad 20)), (3, .int x3), (4, .ref (ad 36)), (5, .int x5), (6, .int x6), (8, .int x8), (9, .int x9), (10, .int x10), (11, .int x11)] → W p l e ({ frames := 3, cells := 0, slots := 0, locals := 81 } : Room) s m args below meth c H locs 0 0 (MQ below (va_Qv (fun (u : va_W) => wF ty ad o2 = u) (kz_B D ty A) A) args s 0 0 A) (F0 m 130 ls [])) (q : dK) (x3 : Int32) (x5 : Int32) (x6 : Int32) (x8 : Int32) (x9 : Int32) (x10 : Int32) (x11 : Int32) (H : Heap) (locs : List Loc) (ls : Array Slot) (h : zX3_askCases_s32_s20_c0_130b k36 k48 k100 k130 q x3 x5 x6 x8 x9 x10 x11 = some o2) (hP : va_P D vwCl (wF ty ad q) H) (hD : va_D A (wF ty ad q)) (hS : va_S A s.heap H locs) (hl : lv_has ls 13 [(0, .ref (ad 32)), (1, .ref (ad 20)), (3, .int x3), (4, .ref (ad 36)), (5, .int x5), (6, .int x6), (8, .int x8), (9, .int x9), (10, .int x10), (11, .int x11)]) : W p l e ({ frames := 3, cells := 0, slots := 0, locals := 81 } : Room) s m args below meth c H locs 0 0 (MQ below (va_Qv (fun (u : va_W) => wF ty ad o2 = u) (kz_B D ty A) A) args s 0 0 A) (F0 m 130 ls []) := by
  have C0 := C
  obtain ⟨hx, hb, hr, hts, hown, hlocks, hml, hK, hN, hE, hA⟩ := C
  unfold zX3_askCases_s32_s20_c0_130b at h
  refine lv_iload hx hb dX3_askCases_130 (lv_at hl 9 rfl) ?_
  refine lv_iconst (v := 2) hx hb dX3_askCases_132 (by decide) ?_
  refine lv_icmp_ge (tgt := 197) hx hb dX3_askCases_133 (by decide) (fun c9 => ?_) (fun c9 => ?_)
  · rw [if_pos c9] at h
    refine lv_iinc (v := x9 + 1) (lv' := [(9, .int (x9 + 1)), (0, .ref (ad 32)), (1, .ref (ad 20)), (3, .int x3), (4, .ref (ad 36)), (5, .int x5), (6, .int x6), (8, .int x8), (10, .int x10), (11, .int x11)]) hx hb dX3_askCases_197 hl (k := 7) rfl rfl (by decide) rfl (fun ls hl => ?_)
    refine lv_goto (tgt := 100) hx hb dX3_askCases_200 (by decide) ?_
    exact hk100 _ _ _ _ _ _ _ _ _ h hP hD hS (lv_sub hl [1, 2, 3, 4, 5, 6, 7, 0] rfl)
  · rw [if_neg c9] at h
    refine lv_aload_n hx hb dX3_askCases_136 rfl (lv_at hl 1 rfl) ?_
    refine lv_iload hx hb dX3_askCases_137 (lv_at hl 4 rfl) ?_
    refine lv_aload_n hx hb dX3_askCases_139 rfl (lv_at hl 0 rfl) ?_
    refine va_get (D := D) (ci := 3) (v := .ref (ad 33)) (C := RX3) (T := TX3) (N := 20) hx hb hts u9_wsX3_askCases_X3 hown hK hP 32 rfl rfl 0 (by decide) (hts (.fieldLink RX3 9 "TurnedFloors$Paper" "ranks" "[I") f9_wsX3_askCases_741) (fun _ h9 => h9) rfl dX3_askCases_140 ?_
    refine lv_iload hx hb dX3_askCases_143 (lv_at hl 5 rfl) ?_
    obtain ⟨g1, h⟩ := dG_some h
    refine va_iald hx hb hK hP 33 0 rfl rfl (dg_in g1) dX3_askCases_145 ?_
    obtain ⟨v2, ev2, h⟩ := dL_some h
    refine kz_topi v2 ev2 ?_
    refine lv_iload hx hb dX3_askCases_146 (lv_at hl 8 rfl) ?_
    refine lv_iload hx hb dX3_askCases_148 (lv_at hl 9 rfl) ?_
    obtain ⟨q5, h4, h⟩ := dV_some h
    refine dw_kv (va_runV (As := [.int x5, .int v2, .int x10, .int x11]) (rest := []) ⟨hx, hb, hml, hown, hts⟩ (qX1_setGrip_s20 l D ty eo _ ad q x5 v2 x10 x11 q5 h4) (cwV 4 hts gX3_askCases_X1_setGrip rfl rfl rfl (by decide +kernel) ⟨Nat.le_of_ble_eq_true rfl, Nat.le_of_ble_eq_true rfl⟩) (dw_preV (ci := 1) (q0 := 20) hK hN hE hP hD hS hA rfl rfl) rfl rfl hl.1 rfl (lv_room (Nat.le_of_ble_eq_true rfl)) dX3_askCases_150 ⟨Nat.le_of_ble_eq_true rfl, Nat.le_of_ble_eq_true rfl⟩) hD hS hA (fun u9 H locs hw hp hd hs => ?_)
    clear hP hD hS
    obtain rfl := hw
    have hP := hp; have hD := hd; have hS := hs; clear hp hd hs
    refine lv_iload_n hx hb dX3_askCases_153 rfl (lv_at hl 2 rfl) ?_
    refine lv_iconst (v := 1) hx hb dX3_askCases_154 (by decide) ?_
    refine lv_icmp_ne (tgt := 169) hx hb dX3_askCases_155 (by decide) (fun c9 => ?_) (fun c9 => ?_)
    · rw [if_neg c9] at h
      refine lv_aload_n hx hb dX3_askCases_169 rfl (lv_at hl 1 rfl) ?_
      obtain ⟨r6, q8, h7, h⟩ := dB_some h
      refine dw_ki (va_runV (As := []) (rest := []) ⟨hx, hb, hml, hown, hts⟩ (qX1_pay_s20 l D ty eo _ ad q5  r6 q8 h7) (cwV 0 hts gX3_askCases_X1_pay rfl rfl rfl (by decide +kernel) ⟨Nat.le_of_ble_eq_true rfl, Nat.le_of_ble_eq_true rfl⟩) (dw_preV (ci := 1) (q0 := 20) hK hN hE hP hD hS hA rfl rfl) rfl rfl hl.1 rfl (lv_room (Nat.le_of_ble_eq_true rfl)) dX3_askCases_170 ⟨Nat.le_of_ble_eq_true rfl, Nat.le_of_ble_eq_true rfl⟩) hD hS hA (fun r9 u9 H locs hw hp hd hs => ?_)
      clear hP hD hS
      obtain ⟨rfl, rfl⟩ := hw
      have hP := hp; have hD := hd; have hS := hs; clear hp hd hs
      exact WX3_askCases_s32_s20_c0_173 C0 hk36 hk48 hk100 hk130 _ _ _ _ _ _ _ _ _ _ _ _ h hP hD hS (lv_sub hl [0, 1, 2, 3, 4, 5, 6, 7, 8, 9] rfl)
    · rw [if_pos c9] at h
      refine lv_aload_n hx hb dX3_askCases_158 rfl (lv_at hl 1 rfl) ?_
      refine lv_iconst (v := 1) hx hb dX3_askCases_159 (by decide) ?_
      obtain ⟨r9, q11, h10, h⟩ := dB_some h
      refine dw_ki (va_runV (As := [.int 1]) (rest := []) ⟨hx, hb, hml, hown, hts⟩ (qX1_anyHolds_s20 l D ty eo _ ad q5 1 r9 q11 h10) (cwV 1 hts gX3_askCases_X1_anyHolds rfl rfl rfl (by decide +kernel) ⟨Nat.le_of_ble_eq_true rfl, Nat.le_of_ble_eq_true rfl⟩) (dw_preV (ci := 1) (q0 := 20) hK hN hE hP hD hS hA rfl rfl) rfl rfl hl.1 rfl (lv_room (Nat.le_of_ble_eq_true rfl)) dX3_askCases_160 ⟨Nat.le_of_ble_eq_true rfl, Nat.le_of_ble_eq_true rfl⟩) hD hS hA (fun r9 u9 H locs hw hp hd hs => ?_)
      clear hP hD hS
      obtain ⟨rfl, rfl⟩ := hw
      have hP := hp; have hD := hd; have hS := hs; clear hp hd hs
      obtain ⟨r12, h13, h⟩ := dV_some h
      refine dw_ks (va_runSN (As := [.int r9]) (rest := []) ⟨hx, hb, hml, hown, hts⟩ (qX9_bit l D ty eo _ r9 _ h13) ⟨va_cnB 1 hts gX3_askCases_X9_bit_n133 rfl rfl rfl (hN.1 _ (by decide +kernel : (.methodLinkNest "TurnedFloors$Paper" 133 yX9_bit "TurnedFloors" : Cond) ∈ kzN1)) (hts (.initialized RX9) f9_wsX3_askCases_742) (by decide +kernel) ⟨Nat.le_of_ble_eq_true rfl, Nat.le_of_ble_eq_true rfl⟩, hts (.static yX9_bit) (by decide +kernel), trivial⟩ (kz_preS hK hN hE hP hD hS hA [] (by decide) rfl) rfl rfl hl.1 rfl (lv_room (Nat.le_of_ble_eq_true rfl)) dX3_askCases_163 ⟨Nat.le_of_ble_eq_true rfl, Nat.le_of_ble_eq_true rfl⟩) hP hD hS hA (fun _ _ h9 => h9.2.symm) (fun r9 u9 H locs hw hp hd hs => ?_)
      obtain ⟨rfl, -⟩ := hw
      clear hP hD hS
      have hP := hp; have hD := hd; have hS := hs; clear hp hd hs
      refine lv_goto (tgt := 173) hx hb dX3_askCases_166 (by decide) ?_
      exact WX3_askCases_s32_s20_c0_173 C0 hk36 hk48 hk100 hk130 _ _ _ _ _ _ _ _ _ _ _ _ h hP hD hS (lv_sub hl [0, 1, 2, 3, 4, 5, 6, 7, 8, 9] rfl)
set_option maxHeartbeats 4000000 in
set_option maxRecDepth 100000 in
theorem WX3_askCases_s32_s20_c0_130 {p : Program} {l : Launch} {e : Env} {s : State} {m : MethodId} {args : Array Value} {below : List Frame} {meth : Method} {c : Code} {D : va_G} {ty : Nat → ClassId} {eo : Nat → Nat} {A : Nat → Prop} {ad : Nat → Nat} {o2 : dK} (C : dc_C p s m args meth c cX3_askCases none 13 RX3 wsX3_askCases D ty eo A) {k36 : dK → Int32 → Int32 → Option (dK)} {k48 : dK → Int32 → Int32 → Int32 → Option (dK)} {k100 : dK → Int32 → Int32 → Int32 → Int32 → Int32 → Option (dK)} (hk36 : ∀ (q : dK) (x3 : Int32) (x5 : Int32) (H : Heap) (locs : List Loc) (ls : Array Slot), k36 q x3 x5 = some o2 → va_P D vwCl (wF ty ad q) H → va_D A (wF ty ad q) → va_S A s.heap H locs → lv_has ls 13 [(0, .ref (ad 32)), (1, .ref (ad 20)), (3, .int x3), (4, .ref (ad 36)), (5, .int x5)] → W p l e ({ frames := 3, cells := 0, slots := 0, locals := 81 } : Room) s m args below meth c H locs 0 0 (MQ below (va_Qv (fun (u : va_W) => wF ty ad o2 = u) (kz_B D ty A) A) args s 0 0 A) (F0 m 36 ls [])) (hk48 : ∀ (q : dK) (x3 : Int32) (x5 : Int32) (x6 : Int32) (H : Heap) (locs : List Loc) (ls : Array Slot), k48 q x3 x5 x6 = some o2 → va_P D vwCl (wF ty ad q) H → va_D A (wF ty ad q) → va_S A s.heap H locs → lv_has ls 13 [(0, .ref (ad 32)), (1, .ref (ad 20)), (3, .int x3), (4, .ref (ad 36)), (5, .int x5), (6, .int x6)] → W p l e ({ frames := 3, cells := 0, slots := 0, locals := 81 } : Room) s m args below meth c H locs 0 0 (MQ below (va_Qv (fun (u : va_W) => wF ty ad o2 = u) (kz_B D ty A) A) args s 0 0 A) (F0 m 48 ls [])) (hk100 : ∀ (q : dK) (x3 : Int32) (x5 : Int32) (x6 : Int32) (x8 : Int32) (x9 : Int32) (H : Heap) (locs : List Loc) (ls : Array Slot), k100 q x3 x5 x6 x8 x9 = some o2 → va_P D vwCl (wF ty ad q) H → va_D A (wF ty ad q) → va_S A s.heap H locs → lv_has ls 13 [(0, .ref (ad 32)), (1, .ref (ad 20)), (3, .int x3), (4, .ref (ad 36)), (5, .int x5), (6, .int x6), (8, .int x8), (9, .int x9)] → W p l e ({ frames := 3, cells := 0, slots := 0, locals := 81 } : Room) s m args below meth c H locs 0 0 (MQ below (va_Qv (fun (u : va_W) => wF ty ad o2 = u) (kz_B D ty A) A) args s 0 0 A) (F0 m 100 ls [])) (n : Nat) (q : dK) (x3 : Int32) (x5 : Int32) (x6 : Int32) (x8 : Int32) (x9 : Int32) (x10 : Int32) (x11 : Int32) (H : Heap) (locs : List Loc) (ls : Array Slot) (h : zX3_askCases_s32_s20_c0_130 k36 k48 k100 n q x3 x5 x6 x8 x9 x10 x11 = some o2) (hP : va_P D vwCl (wF ty ad q) H) (hD : va_D A (wF ty ad q)) (hS : va_S A s.heap H locs) (hl : lv_has ls 13 [(0, .ref (ad 32)), (1, .ref (ad 20)), (3, .int x3), (4, .ref (ad 36)), (5, .int x5), (6, .int x6), (8, .int x8), (9, .int x9), (10, .int x10), (11, .int x11)]) : W p l e ({ frames := 3, cells := 0, slots := 0, locals := 81 } : Room) s m args below meth c H locs 0 0 (MQ below (va_Qv (fun (u : va_W) => wF ty ad o2 = u) (kz_B D ty A) A) args s 0 0 A) (F0 m 130 ls []) := by
  exact dFix_W (F := fun k (a : dK × Int32 × Int32 × Int32 × Int32 × Int32 × Int32 × Int32) => zX3_askCases_s32_s20_c0_130b k36 k48 k100 (fun q x3 x5 x6 x8 x9 x10 x11 => k (q, x3, x5, x6, x8, x9, x10, x11)) a.1 a.2.1 a.2.2.1 a.2.2.2.1 a.2.2.2.2.1 a.2.2.2.2.2.1 a.2.2.2.2.2.2.1 a.2.2.2.2.2.2.2) (o := o2) (P := fun (a : dK × Int32 × Int32 × Int32 × Int32 × Int32 × Int32 × Int32) H locs ls => va_P D vwCl (wF ty ad a.1) H ∧ va_D A (wF ty ad a.1) ∧ va_S A s.heap H locs ∧ lv_has ls 13 [(0, .ref (ad 32)), (1, .ref (ad 20)), (3, .int a.2.1), (4, .ref (ad 36)), (5, .int a.2.2.1), (6, .int a.2.2.2.1), (8, .int a.2.2.2.2.1), (9, .int a.2.2.2.2.2.1), (10, .int a.2.2.2.2.2.2.1), (11, .int a.2.2.2.2.2.2.2)]) (G := fun H locs ls => W p l e ({ frames := 3, cells := 0, slots := 0, locals := 81 } : Room) s m args below meth c H locs 0 0 (MQ below (va_Qv (fun (u : va_W) => wF ty ad o2 = u) (kz_B D ty A) A) args s 0 0 A) (F0 m 130 ls []))
    (fun k hk a H locs ls h hp => WX3_askCases_s32_s20_c0_130b C hk36 hk48 hk100 (fun q x3 x5 x6 x8 x9 x10 x11 H locs ls h h1 h2 h3 h4 => hk (q, x3, x5, x6, x8, x9, x10, x11) H locs ls h ⟨h1, h2, h3, h4⟩) a.1 a.2.1 a.2.2.1 a.2.2.2.1 a.2.2.2.2.1 a.2.2.2.2.2.1 a.2.2.2.2.2.2.1 a.2.2.2.2.2.2.2 H locs ls h hp.1 hp.2.1 hp.2.2.1 hp.2.2.2) n (q, x3, x5, x6, x8, x9, x10, x11) H locs ls h ⟨hP, hD, hS, hl⟩
set_option maxHeartbeats 4000000 in
set_option maxRecDepth 100000 in
theorem WX3_askCases_s32_s20_c0_125 {p : Program} {l : Launch} {e : Env} {s : State} {m : MethodId} {args : Array Value} {below : List Frame} {meth : Method} {c : Code} {D : va_G} {ty : Nat → ClassId} {eo : Nat → Nat} {A : Nat → Prop} {ad : Nat → Nat} {o2 : dK} (C : dc_C p s m args meth c cX3_askCases none 13 RX3 wsX3_askCases D ty eo A) {k36 : dK → Int32 → Int32 → Option (dK)} {k48 : dK → Int32 → Int32 → Int32 → Option (dK)} {k100 : dK → Int32 → Int32 → Int32 → Int32 → Int32 → Option (dK)} (hk36 : ∀ (q : dK) (x3 : Int32) (x5 : Int32) (H : Heap) (locs : List Loc) (ls : Array Slot), k36 q x3 x5 = some o2 → va_P D vwCl (wF ty ad q) H → va_D A (wF ty ad q) → va_S A s.heap H locs → lv_has ls 13 [(0, .ref (ad 32)), (1, .ref (ad 20)), (3, .int x3), (4, .ref (ad 36)), (5, .int x5)] → W p l e ({ frames := 3, cells := 0, slots := 0, locals := 81 } : Room) s m args below meth c H locs 0 0 (MQ below (va_Qv (fun (u : va_W) => wF ty ad o2 = u) (kz_B D ty A) A) args s 0 0 A) (F0 m 36 ls [])) (hk48 : ∀ (q : dK) (x3 : Int32) (x5 : Int32) (x6 : Int32) (H : Heap) (locs : List Loc) (ls : Array Slot), k48 q x3 x5 x6 = some o2 → va_P D vwCl (wF ty ad q) H → va_D A (wF ty ad q) → va_S A s.heap H locs → lv_has ls 13 [(0, .ref (ad 32)), (1, .ref (ad 20)), (3, .int x3), (4, .ref (ad 36)), (5, .int x5), (6, .int x6)] → W p l e ({ frames := 3, cells := 0, slots := 0, locals := 81 } : Room) s m args below meth c H locs 0 0 (MQ below (va_Qv (fun (u : va_W) => wF ty ad o2 = u) (kz_B D ty A) A) args s 0 0 A) (F0 m 48 ls [])) (hk100 : ∀ (q : dK) (x3 : Int32) (x5 : Int32) (x6 : Int32) (x8 : Int32) (x9 : Int32) (H : Heap) (locs : List Loc) (ls : Array Slot), k100 q x3 x5 x6 x8 x9 = some o2 → va_P D vwCl (wF ty ad q) H → va_D A (wF ty ad q) → va_S A s.heap H locs → lv_has ls 13 [(0, .ref (ad 32)), (1, .ref (ad 20)), (3, .int x3), (4, .ref (ad 36)), (5, .int x5), (6, .int x6), (8, .int x8), (9, .int x9)] → W p l e ({ frames := 3, cells := 0, slots := 0, locals := 81 } : Room) s m args below meth c H locs 0 0 (MQ below (va_Qv (fun (u : va_W) => wF ty ad o2 = u) (kz_B D ty A) A) args s 0 0 A) (F0 m 100 ls [])) (q : dK) (x3 : Int32) (x5 : Int32) (x6 : Int32) (x8 : Int32) (x9 : Int32) (y0 : Int32) (H : Heap) (locs : List Loc) (ls : Array Slot) (h : zX3_askCases_s32_s20_c0_125 k36 k48 k100 q x3 x5 x6 x8 x9 y0 = some o2) (hP : va_P D vwCl (wF ty ad q) H) (hD : va_D A (wF ty ad q)) (hS : va_S A s.heap H locs) (hl : lv_has ls 13 [(0, .ref (ad 32)), (1, .ref (ad 20)), (3, .int x3), (4, .ref (ad 36)), (5, .int x5), (6, .int x6), (8, .int x8), (9, .int x9)]) : W p l e ({ frames := 3, cells := 0, slots := 0, locals := 81 } : Room) s m args below meth c H locs 0 0 (MQ below (va_Qv (fun (u : va_W) => wF ty ad o2 = u) (kz_B D ty A) A) args s 0 0 A) (F0 m 125 ls [.int y0]) := by
  have C0 := C
  obtain ⟨hx, hb, hr, hts, hown, hlocks, hml, hK, hN, hE, hA⟩ := C
  unfold zX3_askCases_s32_s20_c0_125 at h
  refine lv_istore (lv' := [(10, .int y0), (0, .ref (ad 32)), (1, .ref (ad 20)), (3, .int x3), (4, .ref (ad 36)), (5, .int x5), (6, .int x6), (8, .int x8), (9, .int x9)]) hx hb dX3_askCases_125 hl (by decide) rfl (fun ls hl => ?_)
  refine lv_iconst (v := 0) hx hb dX3_askCases_127 (by decide) ?_
  refine lv_istore (lv' := [(11, .int 0), (10, .int y0), (0, .ref (ad 32)), (1, .ref (ad 20)), (3, .int x3), (4, .ref (ad 36)), (5, .int x5), (6, .int x6), (8, .int x8), (9, .int x9)]) hx hb dX3_askCases_128 hl (by decide) rfl (fun ls hl => ?_)
  exact WX3_askCases_s32_s20_c0_130 C0 hk36 hk48 hk100 _ _ _ _ _ _ _ _ _ _ _ _ h hP hD hS (lv_sub hl [2, 3, 4, 5, 6, 7, 8, 9, 1, 0] rfl)
set_option maxHeartbeats 4000000 in
set_option maxRecDepth 100000 in
theorem WX3_askCases_s32_s20_c0_100b {p : Program} {l : Launch} {e : Env} {s : State} {m : MethodId} {args : Array Value} {below : List Frame} {meth : Method} {c : Code} {D : va_G} {ty : Nat → ClassId} {eo : Nat → Nat} {A : Nat → Prop} {ad : Nat → Nat} {o2 : dK} (C : dc_C p s m args meth c cX3_askCases none 13 RX3 wsX3_askCases D ty eo A) {k36 : dK → Int32 → Int32 → Option (dK)} {k48 : dK → Int32 → Int32 → Int32 → Option (dK)} {k100 : dK → Int32 → Int32 → Int32 → Int32 → Int32 → Option (dK)} (hk36 : ∀ (q : dK) (x3 : Int32) (x5 : Int32) (H : Heap) (locs : List Loc) (ls : Array Slot), k36 q x3 x5 = some o2 → va_P D vwCl (wF ty ad q) H → va_D A (wF ty ad q) → va_S A s.heap H locs → lv_has ls 13 [(0, .ref (ad 32)), (1, .ref (ad 20)), (3, .int x3), (4, .ref (ad 36)), (5, .int x5)] → W p l e ({ frames := 3, cells := 0, slots := 0, locals := 81 } : Room) s m args below meth c H locs 0 0 (MQ below (va_Qv (fun (u : va_W) => wF ty ad o2 = u) (kz_B D ty A) A) args s 0 0 A) (F0 m 36 ls [])) (hk48 : ∀ (q : dK) (x3 : Int32) (x5 : Int32) (x6 : Int32) (H : Heap) (locs : List Loc) (ls : Array Slot), k48 q x3 x5 x6 = some o2 → va_P D vwCl (wF ty ad q) H → va_D A (wF ty ad q) → va_S A s.heap H locs → lv_has ls 13 [(0, .ref (ad 32)), (1, .ref (ad 20)), (3, .int x3), (4, .ref (ad 36)), (5, .int x5), (6, .int x6)] → W p l e ({ frames := 3, cells := 0, slots := 0, locals := 81 } : Room) s m args below meth c H locs 0 0 (MQ below (va_Qv (fun (u : va_W) => wF ty ad o2 = u) (kz_B D ty A) A) args s 0 0 A) (F0 m 48 ls [])) (hk100 : ∀ (q : dK) (x3 : Int32) (x5 : Int32) (x6 : Int32) (x8 : Int32) (x9 : Int32) (H : Heap) (locs : List Loc) (ls : Array Slot), k100 q x3 x5 x6 x8 x9 = some o2 → va_P D vwCl (wF ty ad q) H → va_D A (wF ty ad q) → va_S A s.heap H locs → lv_has ls 13 [(0, .ref (ad 32)), (1, .ref (ad 20)), (3, .int x3), (4, .ref (ad 36)), (5, .int x5), (6, .int x6), (8, .int x8), (9, .int x9)] → W p l e ({ frames := 3, cells := 0, slots := 0, locals := 81 } : Room) s m args below meth c H locs 0 0 (MQ below (va_Qv (fun (u : va_W) => wF ty ad o2 = u) (kz_B D ty A) A) args s 0 0 A) (F0 m 100 ls [])) (q : dK) (x3 : Int32) (x5 : Int32) (x6 : Int32) (x8 : Int32) (x9 : Int32) (H : Heap) (locs : List Loc) (ls : Array Slot) (h : zX3_askCases_s32_s20_c0_100b k36 k48 k100 q x3 x5 x6 x8 x9 = some o2) (hP : va_P D vwCl (wF ty ad q) H) (hD : va_D A (wF ty ad q)) (hS : va_S A s.heap H locs) (hl : lv_has ls 13 [(0, .ref (ad 32)), (1, .ref (ad 20)), (3, .int x3), (4, .ref (ad 36)), (5, .int x5), (6, .int x6), (8, .int x8), (9, .int x9)]) : W p l e ({ frames := 3, cells := 0, slots := 0, locals := 81 } : Room) s m args below meth c H locs 0 0 (MQ below (va_Qv (fun (u : va_W) => wF ty ad o2 = u) (kz_B D ty A) A) args s 0 0 A) (F0 m 100 ls []) := by
  have C0 := C
  obtain ⟨hx, hb, hr, hts, hown, hlocks, hml, hK, hN, hE, hA⟩ := C
  unfold zX3_askCases_s32_s20_c0_100b at h
  refine lv_iload hx hb dX3_askCases_100 (lv_at hl 7 rfl) ?_
  refine lv_iload hx hb dX3_askCases_102 (lv_at hl 6 rfl) ?_
  refine lv_icmp_gt (tgt := 203) hx hb dX3_askCases_104 (by decide) (fun c9 => ?_) (fun c9 => ?_)
  · rw [if_pos c9] at h
    refine lv_iinc (v := x6 + 1) (lv' := [(6, .int (x6 + 1)), (0, .ref (ad 32)), (1, .ref (ad 20)), (3, .int x3), (4, .ref (ad 36)), (5, .int x5), (8, .int x8), (9, .int x9)]) hx hb dX3_askCases_203 hl (k := 5) rfl rfl (by decide) rfl (fun ls hl => ?_)
    refine lv_goto (tgt := 48) hx hb dX3_askCases_206 (by decide) ?_
    exact hk48 _ _ _ _ _ _ _ h hP hD hS (lv_sub hl [1, 2, 3, 4, 5, 0] rfl)
  · rw [if_neg c9] at h
    refine lv_iload hx hb dX3_askCases_107 (lv_at hl 7 rfl) ?_
    refine lv_bipush (v := 6) hx hb dX3_askCases_109 (by decide) ?_
    refine lv_icmp_ne (tgt := 118) hx hb dX3_askCases_111 (by decide) (fun c9 => ?_) (fun c9 => ?_)
    · rw [if_neg c9] at h
      refine lv_aload_n hx hb dX3_askCases_118 rfl (lv_at hl 0 rfl) ?_
      refine va_get (D := D) (ci := 3) (v := .ref (ad 33)) (C := RX3) (T := TX3) (N := 20) hx hb hts u9_wsX3_askCases_X3 hown hK hP 32 rfl rfl 0 (by decide) (hts (.fieldLink RX3 9 "TurnedFloors$Paper" "ranks" "[I") f9_wsX3_askCases_741) (fun _ h9 => h9) rfl dX3_askCases_119 ?_
      refine lv_iload hx hb dX3_askCases_122 (lv_at hl 7 rfl) ?_
      obtain ⟨g1, h⟩ := dG_some h
      refine va_iald hx hb hK hP 33 0 rfl rfl (dg_in g1) dX3_askCases_124 ?_
      obtain ⟨v2, ev2, h⟩ := dL_some h
      refine kz_topi v2 ev2 ?_
      exact WX3_askCases_s32_s20_c0_125 C0 hk36 hk48 hk100 _ _ _ _ _ _ _ _ _ _ h hP hD hS (lv_sub hl [0, 1, 2, 3, 4, 5, 6, 7] rfl)
    · rw [if_pos c9] at h
      refine lv_iconst (v := (-1)) hx hb dX3_askCases_114 (by decide) ?_
      refine lv_goto (tgt := 125) hx hb dX3_askCases_115 (by decide) ?_
      exact WX3_askCases_s32_s20_c0_125 C0 hk36 hk48 hk100 _ _ _ _ _ _ _ _ _ _ h hP hD hS (lv_sub hl [0, 1, 2, 3, 4, 5, 6, 7] rfl)
set_option maxHeartbeats 4000000 in
set_option maxRecDepth 100000 in
theorem WX3_askCases_s32_s20_c0_100 {p : Program} {l : Launch} {e : Env} {s : State} {m : MethodId} {args : Array Value} {below : List Frame} {meth : Method} {c : Code} {D : va_G} {ty : Nat → ClassId} {eo : Nat → Nat} {A : Nat → Prop} {ad : Nat → Nat} {o2 : dK} (C : dc_C p s m args meth c cX3_askCases none 13 RX3 wsX3_askCases D ty eo A) {k36 : dK → Int32 → Int32 → Option (dK)} {k48 : dK → Int32 → Int32 → Int32 → Option (dK)} (hk36 : ∀ (q : dK) (x3 : Int32) (x5 : Int32) (H : Heap) (locs : List Loc) (ls : Array Slot), k36 q x3 x5 = some o2 → va_P D vwCl (wF ty ad q) H → va_D A (wF ty ad q) → va_S A s.heap H locs → lv_has ls 13 [(0, .ref (ad 32)), (1, .ref (ad 20)), (3, .int x3), (4, .ref (ad 36)), (5, .int x5)] → W p l e ({ frames := 3, cells := 0, slots := 0, locals := 81 } : Room) s m args below meth c H locs 0 0 (MQ below (va_Qv (fun (u : va_W) => wF ty ad o2 = u) (kz_B D ty A) A) args s 0 0 A) (F0 m 36 ls [])) (hk48 : ∀ (q : dK) (x3 : Int32) (x5 : Int32) (x6 : Int32) (H : Heap) (locs : List Loc) (ls : Array Slot), k48 q x3 x5 x6 = some o2 → va_P D vwCl (wF ty ad q) H → va_D A (wF ty ad q) → va_S A s.heap H locs → lv_has ls 13 [(0, .ref (ad 32)), (1, .ref (ad 20)), (3, .int x3), (4, .ref (ad 36)), (5, .int x5), (6, .int x6)] → W p l e ({ frames := 3, cells := 0, slots := 0, locals := 81 } : Room) s m args below meth c H locs 0 0 (MQ below (va_Qv (fun (u : va_W) => wF ty ad o2 = u) (kz_B D ty A) A) args s 0 0 A) (F0 m 48 ls [])) (n : Nat) (q : dK) (x3 : Int32) (x5 : Int32) (x6 : Int32) (x8 : Int32) (x9 : Int32) (H : Heap) (locs : List Loc) (ls : Array Slot) (h : zX3_askCases_s32_s20_c0_100 k36 k48 n q x3 x5 x6 x8 x9 = some o2) (hP : va_P D vwCl (wF ty ad q) H) (hD : va_D A (wF ty ad q)) (hS : va_S A s.heap H locs) (hl : lv_has ls 13 [(0, .ref (ad 32)), (1, .ref (ad 20)), (3, .int x3), (4, .ref (ad 36)), (5, .int x5), (6, .int x6), (8, .int x8), (9, .int x9)]) : W p l e ({ frames := 3, cells := 0, slots := 0, locals := 81 } : Room) s m args below meth c H locs 0 0 (MQ below (va_Qv (fun (u : va_W) => wF ty ad o2 = u) (kz_B D ty A) A) args s 0 0 A) (F0 m 100 ls []) := by
  exact dFix_W (F := fun k (a : dK × Int32 × Int32 × Int32 × Int32 × Int32) => zX3_askCases_s32_s20_c0_100b k36 k48 (fun q x3 x5 x6 x8 x9 => k (q, x3, x5, x6, x8, x9)) a.1 a.2.1 a.2.2.1 a.2.2.2.1 a.2.2.2.2.1 a.2.2.2.2.2) (o := o2) (P := fun (a : dK × Int32 × Int32 × Int32 × Int32 × Int32) H locs ls => va_P D vwCl (wF ty ad a.1) H ∧ va_D A (wF ty ad a.1) ∧ va_S A s.heap H locs ∧ lv_has ls 13 [(0, .ref (ad 32)), (1, .ref (ad 20)), (3, .int a.2.1), (4, .ref (ad 36)), (5, .int a.2.2.1), (6, .int a.2.2.2.1), (8, .int a.2.2.2.2.1), (9, .int a.2.2.2.2.2)]) (G := fun H locs ls => W p l e ({ frames := 3, cells := 0, slots := 0, locals := 81 } : Room) s m args below meth c H locs 0 0 (MQ below (va_Qv (fun (u : va_W) => wF ty ad o2 = u) (kz_B D ty A) A) args s 0 0 A) (F0 m 100 ls []))
    (fun k hk a H locs ls h hp => WX3_askCases_s32_s20_c0_100b C hk36 hk48 (fun q x3 x5 x6 x8 x9 H locs ls h h1 h2 h3 h4 => hk (q, x3, x5, x6, x8, x9) H locs ls h ⟨h1, h2, h3, h4⟩) a.1 a.2.1 a.2.2.1 a.2.2.2.1 a.2.2.2.2.1 a.2.2.2.2.2 H locs ls h hp.1 hp.2.1 hp.2.2.1 hp.2.2.2) n (q, x3, x5, x6, x8, x9) H locs ls h ⟨hP, hD, hS, hl⟩
set_option maxHeartbeats 4000000 in
set_option maxRecDepth 100000 in
theorem WX3_askCases_s32_s20_c0_94 {p : Program} {l : Launch} {e : Env} {s : State} {m : MethodId} {args : Array Value} {below : List Frame} {meth : Method} {c : Code} {D : va_G} {ty : Nat → ClassId} {eo : Nat → Nat} {A : Nat → Prop} {ad : Nat → Nat} {o2 : dK} (C : dc_C p s m args meth c cX3_askCases none 13 RX3 wsX3_askCases D ty eo A) {k36 : dK → Int32 → Int32 → Option (dK)} {k48 : dK → Int32 → Int32 → Int32 → Option (dK)} (hk36 : ∀ (q : dK) (x3 : Int32) (x5 : Int32) (H : Heap) (locs : List Loc) (ls : Array Slot), k36 q x3 x5 = some o2 → va_P D vwCl (wF ty ad q) H → va_D A (wF ty ad q) → va_S A s.heap H locs → lv_has ls 13 [(0, .ref (ad 32)), (1, .ref (ad 20)), (3, .int x3), (4, .ref (ad 36)), (5, .int x5)] → W p l e ({ frames := 3, cells := 0, slots := 0, locals := 81 } : Room) s m args below meth c H locs 0 0 (MQ below (va_Qv (fun (u : va_W) => wF ty ad o2 = u) (kz_B D ty A) A) args s 0 0 A) (F0 m 36 ls [])) (hk48 : ∀ (q : dK) (x3 : Int32) (x5 : Int32) (x6 : Int32) (H : Heap) (locs : List Loc) (ls : Array Slot), k48 q x3 x5 x6 = some o2 → va_P D vwCl (wF ty ad q) H → va_D A (wF ty ad q) → va_S A s.heap H locs → lv_has ls 13 [(0, .ref (ad 32)), (1, .ref (ad 20)), (3, .int x3), (4, .ref (ad 36)), (5, .int x5), (6, .int x6)] → W p l e ({ frames := 3, cells := 0, slots := 0, locals := 81 } : Room) s m args below meth c H locs 0 0 (MQ below (va_Qv (fun (u : va_W) => wF ty ad o2 = u) (kz_B D ty A) A) args s 0 0 A) (F0 m 48 ls [])) (q : dK) (x3 : Int32) (x5 : Int32) (x6 : Int32) (x7 : Int32) (y0 : Int32) (H : Heap) (locs : List Loc) (ls : Array Slot) (h : zX3_askCases_s32_s20_c0_94 k36 k48 q x3 x5 x6 x7 y0 = some o2) (hP : va_P D vwCl (wF ty ad q) H) (hD : va_D A (wF ty ad q)) (hS : va_S A s.heap H locs) (hl : lv_has ls 13 [(0, .ref (ad 32)), (1, .ref (ad 20)), (3, .int x3), (4, .ref (ad 36)), (5, .int x5), (6, .int x6), (7, .int x7)]) : W p l e ({ frames := 3, cells := 0, slots := 0, locals := 81 } : Room) s m args below meth c H locs 0 0 (MQ below (va_Qv (fun (u : va_W) => wF ty ad o2 = u) (kz_B D ty A) A) args s 0 0 A) (F0 m 94 ls [.int y0]) := by
  have C0 := C
  obtain ⟨hx, hb, hr, hts, hown, hlocks, hml, hK, hN, hE, hA⟩ := C
  unfold zX3_askCases_s32_s20_c0_94 at h
  refine lv_istore (lv' := [(8, .int y0), (0, .ref (ad 32)), (1, .ref (ad 20)), (3, .int x3), (4, .ref (ad 36)), (5, .int x5), (6, .int x6), (7, .int x7)]) hx hb dX3_askCases_94 hl (by decide) rfl (fun ls hl => ?_)
  refine lv_iload hx hb dX3_askCases_96 (lv_at hl 7 rfl) ?_
  refine lv_istore (lv' := [(9, .int x7), (8, .int y0), (0, .ref (ad 32)), (1, .ref (ad 20)), (3, .int x3), (4, .ref (ad 36)), (5, .int x5), (6, .int x6), (7, .int x7)]) hx hb dX3_askCases_98 hl (by decide) rfl (fun ls hl => ?_)
  exact WX3_askCases_s32_s20_c0_100 C0 hk36 hk48 _ _ _ _ _ _ _ _ _ _ h hP hD hS (lv_sub hl [2, 3, 4, 5, 6, 7, 1, 0] rfl)
set_option maxHeartbeats 4000000 in
set_option maxRecDepth 100000 in
theorem WX3_askCases_s32_s20_c0_72 {p : Program} {l : Launch} {e : Env} {s : State} {m : MethodId} {args : Array Value} {below : List Frame} {meth : Method} {c : Code} {D : va_G} {ty : Nat → ClassId} {eo : Nat → Nat} {A : Nat → Prop} {ad : Nat → Nat} {o2 : dK} (C : dc_C p s m args meth c cX3_askCases none 13 RX3 wsX3_askCases D ty eo A) {k36 : dK → Int32 → Int32 → Option (dK)} {k48 : dK → Int32 → Int32 → Int32 → Option (dK)} (hk36 : ∀ (q : dK) (x3 : Int32) (x5 : Int32) (H : Heap) (locs : List Loc) (ls : Array Slot), k36 q x3 x5 = some o2 → va_P D vwCl (wF ty ad q) H → va_D A (wF ty ad q) → va_S A s.heap H locs → lv_has ls 13 [(0, .ref (ad 32)), (1, .ref (ad 20)), (3, .int x3), (4, .ref (ad 36)), (5, .int x5)] → W p l e ({ frames := 3, cells := 0, slots := 0, locals := 81 } : Room) s m args below meth c H locs 0 0 (MQ below (va_Qv (fun (u : va_W) => wF ty ad o2 = u) (kz_B D ty A) A) args s 0 0 A) (F0 m 36 ls [])) (hk48 : ∀ (q : dK) (x3 : Int32) (x5 : Int32) (x6 : Int32) (H : Heap) (locs : List Loc) (ls : Array Slot), k48 q x3 x5 x6 = some o2 → va_P D vwCl (wF ty ad q) H → va_D A (wF ty ad q) → va_S A s.heap H locs → lv_has ls 13 [(0, .ref (ad 32)), (1, .ref (ad 20)), (3, .int x3), (4, .ref (ad 36)), (5, .int x5), (6, .int x6)] → W p l e ({ frames := 3, cells := 0, slots := 0, locals := 81 } : Room) s m args below meth c H locs 0 0 (MQ below (va_Qv (fun (u : va_W) => wF ty ad o2 = u) (kz_B D ty A) A) args s 0 0 A) (F0 m 48 ls [])) (q : dK) (x3 : Int32) (x5 : Int32) (x6 : Int32) (y0 : Int32) (H : Heap) (locs : List Loc) (ls : Array Slot) (h : zX3_askCases_s32_s20_c0_72 k36 k48 q x3 x5 x6 y0 = some o2) (hP : va_P D vwCl (wF ty ad q) H) (hD : va_D A (wF ty ad q)) (hS : va_S A s.heap H locs) (hl : lv_has ls 13 [(0, .ref (ad 32)), (1, .ref (ad 20)), (3, .int x3), (4, .ref (ad 36)), (5, .int x5), (6, .int x6)]) : W p l e ({ frames := 3, cells := 0, slots := 0, locals := 81 } : Room) s m args below meth c H locs 0 0 (MQ below (va_Qv (fun (u : va_W) => wF ty ad o2 = u) (kz_B D ty A) A) args s 0 0 A) (F0 m 72 ls [.int y0]) := by
  have C0 := C
  obtain ⟨hx, hb, hr, hts, hown, hlocks, hml, hK, hN, hE, hA⟩ := C
  unfold zX3_askCases_s32_s20_c0_72 at h
  refine lv_istore (lv' := [(7, .int y0), (0, .ref (ad 32)), (1, .ref (ad 20)), (3, .int x3), (4, .ref (ad 36)), (5, .int x5), (6, .int x6)]) hx hb dX3_askCases_72 hl (by decide) rfl (fun ls hl => ?_)
  refine lv_iload hx hb dX3_askCases_74 (lv_at hl 5 rfl) ?_
  refine lv_aload_n hx hb dX3_askCases_76 rfl (lv_at hl 1 rfl) ?_
  refine va_get (D := D) (ci := 3) (v := .int (q.1 32 13)) (C := RX3) (T := TX3) (N := 20) hx hb hts u9_wsX3_askCases_X3 hown hK hP 32 rfl rfl 13 (by decide) (hts (.fieldLink RX3 51 "TurnedFloors$Paper" "floors" "I") f9_wsX3_askCases_743) (fun _ h9 => h9) rfl dX3_askCases_77 ?_
  refine lv_icmp_ge (tgt := 92) hx hb dX3_askCases_80 (by decide) (fun c9 => ?_) (fun c9 => ?_)
  · rw [if_pos c9] at h
    refine lv_bipush (v := 6) hx hb dX3_askCases_92 (by decide) ?_
    exact WX3_askCases_s32_s20_c0_94 C0 hk36 hk48 _ _ _ _ _ _ _ _ _ h hP hD hS (lv_sub hl [1, 2, 3, 4, 5, 6, 0] rfl)
  · rw [if_neg c9] at h
    refine lv_aload_n hx hb dX3_askCases_83 rfl (lv_at hl 1 rfl) ?_
    refine va_get (D := D) (ci := 3) (v := .int (q.1 32 13)) (C := RX3) (T := TX3) (N := 20) hx hb hts u9_wsX3_askCases_X3 hown hK hP 32 rfl rfl 13 (by decide) (hts (.fieldLink RX3 51 "TurnedFloors$Paper" "floors" "I") f9_wsX3_askCases_743) (fun _ h9 => h9) rfl dX3_askCases_84 ?_
    refine lv_iconst (v := 1) hx hb dX3_askCases_87 (by decide) ?_
    refine lv_isub hx hb dX3_askCases_88 ?_
    refine lv_goto (tgt := 94) hx hb dX3_askCases_89 (by decide) ?_
    exact WX3_askCases_s32_s20_c0_94 C0 hk36 hk48 _ _ _ _ _ _ _ _ _ h hP hD hS (lv_sub hl [1, 2, 3, 4, 5, 6, 0] rfl)
set_option maxHeartbeats 4000000 in
set_option maxRecDepth 100000 in
theorem WX3_askCases_s32_s20_c0_48b {p : Program} {l : Launch} {e : Env} {s : State} {m : MethodId} {args : Array Value} {below : List Frame} {meth : Method} {c : Code} {D : va_G} {ty : Nat → ClassId} {eo : Nat → Nat} {A : Nat → Prop} {ad : Nat → Nat} {o2 : dK} (C : dc_C p s m args meth c cX3_askCases none 13 RX3 wsX3_askCases D ty eo A) {k36 : dK → Int32 → Int32 → Option (dK)} {k48 : dK → Int32 → Int32 → Int32 → Option (dK)} (hk36 : ∀ (q : dK) (x3 : Int32) (x5 : Int32) (H : Heap) (locs : List Loc) (ls : Array Slot), k36 q x3 x5 = some o2 → va_P D vwCl (wF ty ad q) H → va_D A (wF ty ad q) → va_S A s.heap H locs → lv_has ls 13 [(0, .ref (ad 32)), (1, .ref (ad 20)), (3, .int x3), (4, .ref (ad 36)), (5, .int x5)] → W p l e ({ frames := 3, cells := 0, slots := 0, locals := 81 } : Room) s m args below meth c H locs 0 0 (MQ below (va_Qv (fun (u : va_W) => wF ty ad o2 = u) (kz_B D ty A) A) args s 0 0 A) (F0 m 36 ls [])) (hk48 : ∀ (q : dK) (x3 : Int32) (x5 : Int32) (x6 : Int32) (H : Heap) (locs : List Loc) (ls : Array Slot), k48 q x3 x5 x6 = some o2 → va_P D vwCl (wF ty ad q) H → va_D A (wF ty ad q) → va_S A s.heap H locs → lv_has ls 13 [(0, .ref (ad 32)), (1, .ref (ad 20)), (3, .int x3), (4, .ref (ad 36)), (5, .int x5), (6, .int x6)] → W p l e ({ frames := 3, cells := 0, slots := 0, locals := 81 } : Room) s m args below meth c H locs 0 0 (MQ below (va_Qv (fun (u : va_W) => wF ty ad o2 = u) (kz_B D ty A) A) args s 0 0 A) (F0 m 48 ls [])) (q : dK) (x3 : Int32) (x5 : Int32) (x6 : Int32) (H : Heap) (locs : List Loc) (ls : Array Slot) (h : zX3_askCases_s32_s20_c0_48b k36 k48 q x3 x5 x6 = some o2) (hP : va_P D vwCl (wF ty ad q) H) (hD : va_D A (wF ty ad q)) (hS : va_S A s.heap H locs) (hl : lv_has ls 13 [(0, .ref (ad 32)), (1, .ref (ad 20)), (3, .int x3), (4, .ref (ad 36)), (5, .int x5), (6, .int x6)]) : W p l e ({ frames := 3, cells := 0, slots := 0, locals := 81 } : Room) s m args below meth c H locs 0 0 (MQ below (va_Qv (fun (u : va_W) => wF ty ad o2 = u) (kz_B D ty A) A) args s 0 0 A) (F0 m 48 ls []) := by
  have C0 := C
  obtain ⟨hx, hb, hr, hts, hown, hlocks, hml, hK, hN, hE, hA⟩ := C
  unfold zX3_askCases_s32_s20_c0_48b at h
  refine lv_iload hx hb dX3_askCases_48 (lv_at hl 5 rfl) ?_
  refine lv_aload_n hx hb dX3_askCases_50 rfl (lv_at hl 0 rfl) ?_
  refine va_get (D := D) (ci := 3) (v := .int (q.1 32 13)) (C := RX3) (T := TX3) (N := 20) hx hb hts u9_wsX3_askCases_X3 hown hK hP 32 rfl rfl 13 (by decide) (hts (.fieldLink RX3 51 "TurnedFloors$Paper" "floors" "I") f9_wsX3_askCases_743) (fun _ h9 => h9) rfl dX3_askCases_51 ?_
  refine lv_icmp_ge (tgt := 209) hx hb dX3_askCases_54 (by decide) (fun c9 => ?_) (fun c9 => ?_)
  · rw [if_pos c9] at h
    refine lv_iinc (v := x5 + 1) (lv' := [(5, .int (x5 + 1)), (0, .ref (ad 32)), (1, .ref (ad 20)), (3, .int x3), (4, .ref (ad 36)), (6, .int x6)]) hx hb dX3_askCases_209 hl (k := 4) rfl rfl (by decide) rfl (fun ls hl => ?_)
    refine lv_goto (tgt := 36) hx hb dX3_askCases_212 (by decide) ?_
    exact hk36 _ _ _ _ _ _ h hP hD hS (lv_sub hl [1, 2, 3, 4, 0] rfl)
  · rw [if_neg c9] at h
    refine lv_iload hx hb dX3_askCases_57 (lv_at hl 4 rfl) ?_
    refine lv_aload_n hx hb dX3_askCases_59 rfl (lv_at hl 0 rfl) ?_
    refine va_get (D := D) (ci := 3) (v := .int (q.1 32 13)) (C := RX3) (T := TX3) (N := 20) hx hb hts u9_wsX3_askCases_X3 hown hK hP 32 rfl rfl 13 (by decide) (hts (.fieldLink RX3 51 "TurnedFloors$Paper" "floors" "I") f9_wsX3_askCases_743) (fun _ h9 => h9) rfl dX3_askCases_60 ?_
    refine lv_icmp_ge (tgt := 70) hx hb dX3_askCases_63 (by decide) (fun c9 => ?_) (fun c9 => ?_)
    · rw [if_pos c9] at h
      refine lv_bipush (v := 6) hx hb dX3_askCases_70 (by decide) ?_
      exact WX3_askCases_s32_s20_c0_72 C0 hk36 hk48 _ _ _ _ _ _ _ _ h hP hD hS (lv_sub hl [0, 1, 2, 3, 4, 5] rfl)
    · rw [if_neg c9] at h
      refine lv_iconst (v := 0) hx hb dX3_askCases_66 (by decide) ?_
      refine lv_goto (tgt := 72) hx hb dX3_askCases_67 (by decide) ?_
      exact WX3_askCases_s32_s20_c0_72 C0 hk36 hk48 _ _ _ _ _ _ _ _ h hP hD hS (lv_sub hl [0, 1, 2, 3, 4, 5] rfl)
set_option maxHeartbeats 4000000 in
set_option maxRecDepth 100000 in
theorem WX3_askCases_s32_s20_c0_48 {p : Program} {l : Launch} {e : Env} {s : State} {m : MethodId} {args : Array Value} {below : List Frame} {meth : Method} {c : Code} {D : va_G} {ty : Nat → ClassId} {eo : Nat → Nat} {A : Nat → Prop} {ad : Nat → Nat} {o2 : dK} (C : dc_C p s m args meth c cX3_askCases none 13 RX3 wsX3_askCases D ty eo A) {k36 : dK → Int32 → Int32 → Option (dK)} (hk36 : ∀ (q : dK) (x3 : Int32) (x5 : Int32) (H : Heap) (locs : List Loc) (ls : Array Slot), k36 q x3 x5 = some o2 → va_P D vwCl (wF ty ad q) H → va_D A (wF ty ad q) → va_S A s.heap H locs → lv_has ls 13 [(0, .ref (ad 32)), (1, .ref (ad 20)), (3, .int x3), (4, .ref (ad 36)), (5, .int x5)] → W p l e ({ frames := 3, cells := 0, slots := 0, locals := 81 } : Room) s m args below meth c H locs 0 0 (MQ below (va_Qv (fun (u : va_W) => wF ty ad o2 = u) (kz_B D ty A) A) args s 0 0 A) (F0 m 36 ls [])) (n : Nat) (q : dK) (x3 : Int32) (x5 : Int32) (x6 : Int32) (H : Heap) (locs : List Loc) (ls : Array Slot) (h : zX3_askCases_s32_s20_c0_48 k36 n q x3 x5 x6 = some o2) (hP : va_P D vwCl (wF ty ad q) H) (hD : va_D A (wF ty ad q)) (hS : va_S A s.heap H locs) (hl : lv_has ls 13 [(0, .ref (ad 32)), (1, .ref (ad 20)), (3, .int x3), (4, .ref (ad 36)), (5, .int x5), (6, .int x6)]) : W p l e ({ frames := 3, cells := 0, slots := 0, locals := 81 } : Room) s m args below meth c H locs 0 0 (MQ below (va_Qv (fun (u : va_W) => wF ty ad o2 = u) (kz_B D ty A) A) args s 0 0 A) (F0 m 48 ls []) := by
  exact dFix_W (F := fun k (a : dK × Int32 × Int32 × Int32) => zX3_askCases_s32_s20_c0_48b k36 (fun q x3 x5 x6 => k (q, x3, x5, x6)) a.1 a.2.1 a.2.2.1 a.2.2.2) (o := o2) (P := fun (a : dK × Int32 × Int32 × Int32) H locs ls => va_P D vwCl (wF ty ad a.1) H ∧ va_D A (wF ty ad a.1) ∧ va_S A s.heap H locs ∧ lv_has ls 13 [(0, .ref (ad 32)), (1, .ref (ad 20)), (3, .int a.2.1), (4, .ref (ad 36)), (5, .int a.2.2.1), (6, .int a.2.2.2)]) (G := fun H locs ls => W p l e ({ frames := 3, cells := 0, slots := 0, locals := 81 } : Room) s m args below meth c H locs 0 0 (MQ below (va_Qv (fun (u : va_W) => wF ty ad o2 = u) (kz_B D ty A) A) args s 0 0 A) (F0 m 48 ls []))
    (fun k hk a H locs ls h hp => WX3_askCases_s32_s20_c0_48b C hk36 (fun q x3 x5 x6 H locs ls h h1 h2 h3 h4 => hk (q, x3, x5, x6) H locs ls h ⟨h1, h2, h3, h4⟩) a.1 a.2.1 a.2.2.1 a.2.2.2 H locs ls h hp.1 hp.2.1 hp.2.2.1 hp.2.2.2) n (q, x3, x5, x6) H locs ls h ⟨hP, hD, hS, hl⟩
set_option maxHeartbeats 4000000 in
set_option maxRecDepth 100000 in
theorem WX3_askCases_s32_s20_c0_36b {p : Program} {l : Launch} {e : Env} {s : State} {m : MethodId} {args : Array Value} {below : List Frame} {meth : Method} {c : Code} {D : va_G} {ty : Nat → ClassId} {eo : Nat → Nat} {A : Nat → Prop} {ad : Nat → Nat} {o2 : dK} (C : dc_C p s m args meth c cX3_askCases none 13 RX3 wsX3_askCases D ty eo A) {k36 : dK → Int32 → Int32 → Option (dK)} (hk36 : ∀ (q : dK) (x3 : Int32) (x5 : Int32) (H : Heap) (locs : List Loc) (ls : Array Slot), k36 q x3 x5 = some o2 → va_P D vwCl (wF ty ad q) H → va_D A (wF ty ad q) → va_S A s.heap H locs → lv_has ls 13 [(0, .ref (ad 32)), (1, .ref (ad 20)), (3, .int x3), (4, .ref (ad 36)), (5, .int x5)] → W p l e ({ frames := 3, cells := 0, slots := 0, locals := 81 } : Room) s m args below meth c H locs 0 0 (MQ below (va_Qv (fun (u : va_W) => wF ty ad o2 = u) (kz_B D ty A) A) args s 0 0 A) (F0 m 36 ls [])) (q : dK) (x3 : Int32) (x5 : Int32) (H : Heap) (locs : List Loc) (ls : Array Slot) (h : zX3_askCases_s32_s20_c0_36b k36 q x3 x5 = some o2) (hP : va_P D vwCl (wF ty ad q) H) (hD : va_D A (wF ty ad q)) (hS : va_S A s.heap H locs) (hl : lv_has ls 13 [(0, .ref (ad 32)), (1, .ref (ad 20)), (3, .int x3), (4, .ref (ad 36)), (5, .int x5)]) : W p l e ({ frames := 3, cells := 0, slots := 0, locals := 81 } : Room) s m args below meth c H locs 0 0 (MQ below (va_Qv (fun (u : va_W) => wF ty ad o2 = u) (kz_B D ty A) A) args s 0 0 A) (F0 m 36 ls []) := by
  have C0 := C
  obtain ⟨hx, hb, hr, hts, hown, hlocks, hml, hK, hN, hE, hA⟩ := C
  unfold zX3_askCases_s32_s20_c0_36b at h
  refine lv_iload hx hb dX3_askCases_36 (lv_at hl 4 rfl) ?_
  refine lv_aload_n hx hb dX3_askCases_38 rfl (lv_at hl 0 rfl) ?_
  refine va_get (D := D) (ci := 3) (v := .int (q.1 32 13)) (C := RX3) (T := TX3) (N := 20) hx hb hts u9_wsX3_askCases_X3 hown hK hP 32 rfl rfl 13 (by decide) (hts (.fieldLink RX3 51 "TurnedFloors$Paper" "floors" "I") f9_wsX3_askCases_743) (fun _ h9 => h9) rfl dX3_askCases_39 ?_
  refine lv_icmp_gt (tgt := 215) hx hb dX3_askCases_42 (by decide) (fun c9 => ?_) (fun c9 => ?_)
  · rw [if_pos c9] at h
    cases h
    exact kz_vret hx hb hr hlocks hP hK hD hS dX3_askCases_215 rfl
  · rw [if_neg c9] at h
    refine lv_iconst (v := 0) hx hb dX3_askCases_45 (by decide) ?_
    refine lv_istore (lv' := [(6, .int 0), (0, .ref (ad 32)), (1, .ref (ad 20)), (3, .int x3), (4, .ref (ad 36)), (5, .int x5)]) hx hb dX3_askCases_46 hl (by decide) rfl (fun ls hl => ?_)
    exact WX3_askCases_s32_s20_c0_48 C0 hk36 _ _ _ _ _ _ _ _ h hP hD hS (lv_sub hl [1, 2, 3, 4, 5, 0] rfl)
set_option maxHeartbeats 4000000 in
set_option maxRecDepth 100000 in
theorem WX3_askCases_s32_s20_c0_36 {p : Program} {l : Launch} {e : Env} {s : State} {m : MethodId} {args : Array Value} {below : List Frame} {meth : Method} {c : Code} {D : va_G} {ty : Nat → ClassId} {eo : Nat → Nat} {A : Nat → Prop} {ad : Nat → Nat} {o2 : dK} (C : dc_C p s m args meth c cX3_askCases none 13 RX3 wsX3_askCases D ty eo A)   (n : Nat) (q : dK) (x3 : Int32) (x5 : Int32) (H : Heap) (locs : List Loc) (ls : Array Slot) (h : zX3_askCases_s32_s20_c0_36  n q x3 x5 = some o2) (hP : va_P D vwCl (wF ty ad q) H) (hD : va_D A (wF ty ad q)) (hS : va_S A s.heap H locs) (hl : lv_has ls 13 [(0, .ref (ad 32)), (1, .ref (ad 20)), (3, .int x3), (4, .ref (ad 36)), (5, .int x5)]) : W p l e ({ frames := 3, cells := 0, slots := 0, locals := 81 } : Room) s m args below meth c H locs 0 0 (MQ below (va_Qv (fun (u : va_W) => wF ty ad o2 = u) (kz_B D ty A) A) args s 0 0 A) (F0 m 36 ls []) := by
  exact dFix_W (F := fun k (a : dK × Int32 × Int32) => zX3_askCases_s32_s20_c0_36b  (fun q x3 x5 => k (q, x3, x5)) a.1 a.2.1 a.2.2) (o := o2) (P := fun (a : dK × Int32 × Int32) H locs ls => va_P D vwCl (wF ty ad a.1) H ∧ va_D A (wF ty ad a.1) ∧ va_S A s.heap H locs ∧ lv_has ls 13 [(0, .ref (ad 32)), (1, .ref (ad 20)), (3, .int a.2.1), (4, .ref (ad 36)), (5, .int a.2.2)]) (G := fun H locs ls => W p l e ({ frames := 3, cells := 0, slots := 0, locals := 81 } : Room) s m args below meth c H locs 0 0 (MQ below (va_Qv (fun (u : va_W) => wF ty ad o2 = u) (kz_B D ty A) A) args s 0 0 A) (F0 m 36 ls []))
    (fun k hk a H locs ls h hp => WX3_askCases_s32_s20_c0_36b C  (fun q x3 x5 H locs ls h h1 h2 h3 h4 => hk (q, x3, x5) H locs ls h ⟨h1, h2, h3, h4⟩) a.1 a.2.1 a.2.2 H locs ls h hp.1 hp.2.1 hp.2.2.1 hp.2.2.2) n (q, x3, x5) H locs ls h ⟨hP, hD, hS, hl⟩
set_option maxHeartbeats 4000000 in
set_option maxRecDepth 100000 in
theorem WX3_askCases_s32_s20_c0_16 {p : Program} {l : Launch} {e : Env} {s : State} {m : MethodId} {args : Array Value} {below : List Frame} {meth : Method} {c : Code} {D : va_G} {ty : Nat → ClassId} {eo : Nat → Nat} {A : Nat → Prop} {ad : Nat → Nat} {o2 : dK} (C : dc_C p s m args meth c cX3_askCases none 13 RX3 wsX3_askCases D ty eo A)   (q : dK) (x2 : Int32) (x3 : Int32) (H : Heap) (locs : List Loc) (ls : Array Slot) (h : zX3_askCases_s32_s20_c0_16  q x2 x3 = some o2) (hP : va_P D vwCl (wF ty ad q) H) (hD : va_D A (wF ty ad q)) (hS : va_S A s.heap H locs) (hl : lv_has ls 13 [(0, .ref (ad 32)), (1, .ref (ad 20)), (2, .int x2), (3, .int x3)]) : W p l e ({ frames := 3, cells := 0, slots := 0, locals := 81 } : Room) s m args below meth c H locs 0 0 (MQ below (va_Qv (fun (u : va_W) => wF ty ad o2 = u) (kz_B D ty A) A) args s 0 0 A) (F0 m 16 ls [.ref (ad 36)]) := by
  have C0 := C
  obtain ⟨hx, hb, hr, hts, hown, hlocks, hml, hK, hN, hE, hA⟩ := C
  unfold zX3_askCases_s32_s20_c0_16 at h
  refine lv_astore (lv' := [(4, .ref (ad 36)), (0, .ref (ad 32)), (1, .ref (ad 20)), (2, .int x2), (3, .int x3)]) hx hb dX3_askCases_16 hl (by decide) rfl (fun ls hl => ?_)
  refine lv_aload hx hb dX3_askCases_18 (lv_at hl 0 rfl) ?_
  refine lv_iconst (v := 0) hx hb dX3_askCases_20 (by decide) ?_
  refine dw_kv1 (j := 36) rfl (va_runS (As := [.ref (ad 36), .int 0]) (rest := []) ⟨hx, hb, hml, hown, hts⟩ (cJ7_fillI l D ty eo _ (ad 36) 504 _ 0 (by decide)) (va_cwS 2 hts gX3_askCases_J7_fill_53178 rfl rfl rfl (by decide +kernel) ⟨Nat.le_of_ble_eq_true rfl, Nat.le_of_ble_eq_true rfl⟩) (kz_preS hK hN hE hP hD hS hA [36] (by decide) rfl) rfl rfl hl.1 rfl (lv_room (Nat.le_of_ble_eq_true rfl)) dX3_askCases_21 ⟨Nat.le_of_ble_eq_true rfl, Nat.le_of_ble_eq_true rfl⟩) hP hD hS hA (fun u9 h9 => h9.symm) (fun H locs hp hd hs => ?_)
  obtain ⟨q1, eq1, h⟩ := dL_some h
  refine kz_re (w2 := wF ty ad q1) hp hd hs (by rw [← eq1]; exact rfl) ?_
  clear hp hd hs hP hD hS
  intro hP hD hS
  refine lv_aload_n hx hb dX3_askCases_24 rfl (lv_at hl 2 rfl) ?_
  refine lv_aload_n hx hb dX3_askCases_25 rfl (lv_at hl 1 rfl) ?_
  refine va_get (D := D) (ci := 3) (v := .int (q1.1 32 13)) (C := RX3) (T := TX3) (N := 20) hx hb hts u9_wsX3_askCases_X3 hown hK hP 32 rfl rfl 13 (by decide) (hts (.fieldLink RX3 51 "TurnedFloors$Paper" "floors" "I") f9_wsX3_askCases_743) (fun _ h9 => h9) rfl dX3_askCases_26 ?_
  refine lv_iload_n hx hb dX3_askCases_29 rfl (lv_at hl 3 rfl) ?_
  obtain ⟨q4, h3, h⟩ := dV_some h
  refine dw_kv (va_runV (As := [.int (q1.1 32 13), .int x2]) (rest := []) ⟨hx, hb, hml, hown, hts⟩ (qX1_setCommon_s20 l D ty eo _ ad q1 (q1.1 32 13) x2 q4 h3) (cwV 2 hts gX3_askCases_X1_setCommon rfl rfl rfl (by decide +kernel) ⟨Nat.le_of_ble_eq_true rfl, Nat.le_of_ble_eq_true rfl⟩) (dw_preV (ci := 1) (q0 := 20) hK hN hE hP hD hS hA rfl rfl) rfl rfl hl.1 rfl (lv_room (Nat.le_of_ble_eq_true rfl)) dX3_askCases_30 ⟨Nat.le_of_ble_eq_true rfl, Nat.le_of_ble_eq_true rfl⟩) hD hS hA (fun u9 H locs hw hp hd hs => ?_)
  clear hP hD hS
  obtain rfl := hw
  have hP := hp; have hD := hd; have hS := hs; clear hp hd hs
  refine lv_iconst (v := 1) hx hb dX3_askCases_33 (by decide) ?_
  refine lv_istore (lv' := [(5, .int 1), (4, .ref (ad 36)), (0, .ref (ad 32)), (1, .ref (ad 20)), (2, .int x2), (3, .int x3)]) hx hb dX3_askCases_34 hl (by decide) rfl (fun ls hl => ?_)
  exact WX3_askCases_s32_s20_c0_36 C0  _ _ _ _ _ _ _ h hP hD hS (lv_sub hl [2, 3, 5, 1, 0] rfl)
set_option maxHeartbeats 4000000 in
set_option maxRecDepth 100000 in
theorem qX3_askCases_s32_s20_c0 (l : Launch) (D : va_G) (ty : Nat → ClassId) (eo : Nat → Nat) (sz : Nat) (ad : Nat → Nat) (q : dK) (p2 : Int32) (o2 : dK) (h : zX3_askCases_s32_s20_c0 q p2 = some o2) : Met l yX3_askCases wsX3_askCases ({ frames := 3, cells := 0, slots := 0, locals := 81 } : Room) (va_Pc [.ref (ad 32), .ref (ad 20), .int p2, .int 0] (kz_pre D ty eo (wF ty ad q) sz)) (va_Qv (fun (u : va_W) => wF ty ad o2 = u) (kz_B D ty (va_A (wF ty ad q) sz)) (va_A (wF ty ad q) sz)) 0 0 (va_A (wF ty ad q) sz) := by
  refine Met.ofW (cc := cX3_askCases) (maxL := 13) (ret := none) (by decide) rfl ?_
  intro p e s m args below meth c s₁ B hml hv
  obtain ⟨rfl, hsz, hP, hK, hD0, hN, hE⟩ := hv
  have hx := B.exec
  have hb := B.bytes
  have hr := B.returns
  have hts := atoms_spec (ws := wsX3_askCases) B.pre
  have hown : s.vm.findClass RX3 = some m.cls := findClass_of_methodNamed B.named
  have hlocks := B.notSynchronized
  subst hsz
  have hD := hD0.self (sz := s.heap.size)
  generalize hAe : va_A (wF ty ad q) s.heap.size = A at hD hE ⊢
  have hA : ∀ q : Nat, s.heap.size ≤ q → A q := fun q h => by rw [← hAe]; exact Or.inr h
  clear hAe
  have hS : va_S A s.heap s.heap [] := va_S.rf
  have hl := lv_entry ([.ref (ad 32), .ref (ad 20), .int p2, .int 0]) (n := 13) (Nat.le_of_ble_eq_true rfl)
  rw [lg_entry_eq]
  generalize (lg_sl ([.ref (ad 32), .ref (ad 20), .int p2, .int 0]) ++ List.replicate (13 - (lg_sl ([.ref (ad 32), .ref (ad 20), .int p2, .int 0])).length) Slot.unset).toArray = ls at hl ⊢
  have hl : lv_has ls 13 [(0, .ref (ad 32)), (1, .ref (ad 20)), (2, .int p2), (3, .int 0)] := hl
  have C : dc_C p s m _ meth c cX3_askCases none 13 RX3 wsX3_askCases D ty eo A := ⟨hx, hb, hr, hts, hown, hlocks, hml, hK, hN, hE, hA⟩
  unfold zX3_askCases_s32_s20_c0 at h
  refine lv_iload_n hx hb dX3_askCases_0 rfl (lv_at hl 3 rfl) ?_
  refine lv_iconst (v := 1) hx hb dX3_askCases_1 (by decide) ?_
  refine lv_icmp_ne (tgt := 12) hx hb dX3_askCases_2 (by decide) (fun _ => ?_) (fun h9 => absurd h9 (by decide))
  refine lv_aload_n hx hb dX3_askCases_12 rfl (lv_at hl 0 rfl) ?_
  refine va_get (D := D) (ci := 3) (v := .ref (ad 36)) (C := RX3) (T := TX3) (N := 20) hx hb hts u9_wsX3_askCases_X3 hown hK hP 32 rfl rfl 3 (by decide) (hts (.fieldLink RX3 21 "TurnedFloors$Paper" "pays" "[I") f9_wsX3_askCases_821) (fun _ h9 => h9) rfl dX3_askCases_13 ?_
  exact WX3_askCases_s32_s20_c0_16 C  _ _ _ _ _ _ h hP hD hS (lv_sub hl [0, 1, 2, 3] rfl)

set_option maxHeartbeats 4000000 in
set_option maxRecDepth 100000 in
theorem WX3_putInBucket_s32_51 {p : Program} {l : Launch} {e : Env} {s : State} {m : MethodId} {args : Array Value} {below : List Frame} {meth : Method} {c : Code} {D : va_G} {ty : Nat → ClassId} {eo : Nat → Nat} {A : Nat → Prop} {ad : Nat → Nat} {o2 : dK} (C : dc_C p s m args meth c cX3_putInBucket none 3 RX3 wsX3_putInBucket D ty eo A)   (q : dK) (x1 : Int32) (x2 : Int32) (H : Heap) (locs : List Loc) (ls : Array Slot) (h : zX3_putInBucket_s32_51  q x1 x2 = some o2) (hP : va_P D vwCl (wF ty ad q) H) (hD : va_D A (wF ty ad q)) (hS : va_S A s.heap H locs) (hl : lv_has ls 3 [(0, .ref (ad 32)), (1, .int x1), (2, .int x2)]) : W p l e ({ frames := 0, cells := 0, slots := 0, locals := 0 } : Room) s m args below meth c H locs 0 0 (MQ below (va_Qv (fun (u : va_W) => wF ty ad o2 = u) (kz_B D ty A) A) args s 0 0 A) (F0 m 51 ls []) := by
  have C0 := C
  obtain ⟨hx, hb, hr, hts, hown, hlocks, hml, hK, hN, hE, hA⟩ := C
  unfold zX3_putInBucket_s32_51 at h
  refine lv_aload_n hx hb dX3_putInBucket_51 rfl (lv_at hl 0 rfl) ?_
  refine va_get (D := D) (ci := 3) (v := .ref (ad 38)) (C := RX3) (T := TX3) (N := 20) hx hb hts u9_wsX3_putInBucket_X3 hown hK hP 32 rfl rfl 5 (by decide) (hts (.fieldLink RX3 27 "TurnedFloors$Paper" "buckets" "[I") f9_wsX3_putInBucket_823) (fun _ h9 => h9) rfl dX3_putInBucket_52 ?_
  refine lv_iload_n hx hb dX3_putInBucket_55 rfl (lv_at hl 2 rfl) ?_
  refine lv_iload_n hx hb dX3_putInBucket_56 rfl (lv_at hl 1 rfl) ?_
  obtain ⟨g1, h⟩ := dG_some h
  refine va_iast hx hb hK hP hD hS 38 0 rfl rfl (dg_in g1) dX3_putInBucket_57 (fun H locs hp hd hs => ?_)
  obtain ⟨q2, eq2, h⟩ := dL_some h
  refine kz_re (w2 := wF ty ad q2) hp hd hs (by rw [← eq2]; exact wF_a38 ty ad q (Int32.toNatClampNeg x2) x1) ?_
  clear hp hd hs hP hD hS
  intro hP hD hS
  cases h
  exact kz_vret hx hb hr hlocks hP hK hD hS dX3_putInBucket_58 rfl
set_option maxHeartbeats 4000000 in
set_option maxRecDepth 100000 in
theorem qX3_putInBucket_s32 (l : Launch) (D : va_G) (ty : Nat → ClassId) (eo : Nat → Nat) (sz : Nat) (ad : Nat → Nat) (q : dK) (p1 : Int32) (o2 : dK) (h : zX3_putInBucket_s32 q p1 = some o2) : Met l yX3_putInBucket wsX3_putInBucket ({ frames := 0, cells := 0, slots := 0, locals := 0 } : Room) (va_Pc [.ref (ad 32), .int p1] (kz_pre D ty eo (wF ty ad q) sz)) (va_Qv (fun (u : va_W) => wF ty ad o2 = u) (kz_B D ty (va_A (wF ty ad q) sz)) (va_A (wF ty ad q) sz)) 0 0 (va_A (wF ty ad q) sz) := by
  refine Met.ofW (cc := cX3_putInBucket) (maxL := 3) (ret := none) (by decide) rfl ?_
  intro p e s m args below meth c s₁ B hml hv
  obtain ⟨rfl, hsz, hP, hK, hD0, hN, hE⟩ := hv
  have hx := B.exec
  have hb := B.bytes
  have hr := B.returns
  have hts := atoms_spec (ws := wsX3_putInBucket) B.pre
  have hown : s.vm.findClass RX3 = some m.cls := findClass_of_methodNamed B.named
  have hlocks := B.notSynchronized
  subst hsz
  have hD := hD0.self (sz := s.heap.size)
  generalize hAe : va_A (wF ty ad q) s.heap.size = A at hD hE ⊢
  have hA : ∀ q : Nat, s.heap.size ≤ q → A q := fun q h => by rw [← hAe]; exact Or.inr h
  clear hAe
  have hS : va_S A s.heap s.heap [] := va_S.rf
  have hl := lv_entry ([.ref (ad 32), .int p1]) (n := 3) (Nat.le_of_ble_eq_true rfl)
  rw [lg_entry_eq]
  generalize (lg_sl ([.ref (ad 32), .int p1]) ++ List.replicate (3 - (lg_sl ([.ref (ad 32), .int p1])).length) Slot.unset).toArray = ls at hl ⊢
  have hl : lv_has ls 3 [(0, .ref (ad 32)), (1, .int p1)] := hl
  have C : dc_C p s m _ meth c cX3_putInBucket none 3 RX3 wsX3_putInBucket D ty eo A := ⟨hx, hb, hr, hts, hown, hlocks, hml, hK, hN, hE, hA⟩
  unfold zX3_putInBucket_s32 at h
  refine lv_aload_n hx hb dX3_putInBucket_0 rfl (lv_at hl 0 rfl) ?_
  refine va_get (D := D) (ci := 3) (v := .ref (ad 43)) (C := RX3) (T := TX3) (N := 20) hx hb hts u9_wsX3_putInBucket_X3 hown hK hP 32 rfl rfl 10 (by decide) (hts (.fieldLink RX3 42 "TurnedFloors$Paper" "marks" "[I") f9_wsX3_putInBucket_824) (fun _ h9 => h9) rfl dX3_putInBucket_1 ?_
  refine lv_iload_n hx hb dX3_putInBucket_4 rfl (lv_at hl 1 rfl) ?_
  obtain ⟨g1, h⟩ := dG_some h
  refine va_iald hx hb hK hP 43 0 rfl rfl (dg_in g1) dX3_putInBucket_5 ?_
  obtain ⟨v2, ev2, h⟩ := dL_some h
  refine kz_topi v2 ev2 ?_
  refine lv_bipush (v := 100) hx hb dX3_putInBucket_6 (by decide) ?_
  refine lv_irem hx hb dX3_putInBucket_8 (by decide) ?_
  refine lv_istore_n (lv' := [(2, .int (v2 - v2 / 100 * 100 : Int32)), (0, .ref (ad 32)), (1, .int p1)]) hx hb dX3_putInBucket_9 rfl hl (by decide) rfl (fun ls hl => ?_)
  refine lv_aload_n hx hb dX3_putInBucket_10 rfl (lv_at hl 1 rfl) ?_
  refine va_get (D := D) (ci := 3) (v := .ref (ad 44)) (C := RX3) (T := TX3) (N := 20) hx hb hts u9_wsX3_putInBucket_X3 hown hK hP 32 rfl rfl 11 (by decide) (hts (.fieldLink RX3 45 "TurnedFloors$Paper" "line" "[I") f9_wsX3_putInBucket_825) (fun _ h9 => h9) rfl dX3_putInBucket_11 ?_
  refine lv_iload_n hx hb dX3_putInBucket_14 rfl (lv_at hl 2 rfl) ?_
  refine lv_aload_n hx hb dX3_putInBucket_15 rfl (lv_at hl 1 rfl) ?_
  refine va_get (D := D) (ci := 3) (v := .ref (ad 38)) (C := RX3) (T := TX3) (N := 20) hx hb hts u9_wsX3_putInBucket_X3 hown hK hP 32 rfl rfl 5 (by decide) (hts (.fieldLink RX3 27 "TurnedFloors$Paper" "buckets" "[I") f9_wsX3_putInBucket_823) (fun _ h9 => h9) rfl dX3_putInBucket_16 ?_
  refine lv_iload_n hx hb dX3_putInBucket_19 rfl (lv_at hl 0 rfl) ?_
  obtain ⟨g3, h⟩ := dG_some h
  refine va_iald hx hb hK hP 38 0 rfl rfl (dg_in g3) dX3_putInBucket_20 ?_
  obtain ⟨v4, ev4, h⟩ := dL_some h
  refine kz_topi v4 ev4 ?_
  obtain ⟨g5, h⟩ := dG_some h
  refine va_iast hx hb hK hP hD hS 44 0 rfl rfl (dg_in g5) dX3_putInBucket_21 (fun H locs hp hd hs => ?_)
  obtain ⟨q6, eq6, h⟩ := dL_some h
  refine kz_re (w2 := wF ty ad q6) hp hd hs (by rw [← eq6]; exact wF_a44 ty ad q (Int32.toNatClampNeg p1) v4) ?_
  clear hp hd hs hP hD hS
  intro hP hD hS
  refine lv_aload_n hx hb dX3_putInBucket_22 rfl (lv_at hl 1 rfl) ?_
  refine va_get (D := D) (ci := 3) (v := .ref (ad 45)) (C := RX3) (T := TX3) (N := 20) hx hb hts u9_wsX3_putInBucket_X3 hown hK hP 32 rfl rfl 12 (by decide) (hts (.fieldLink RX3 48 "TurnedFloors$Paper" "links" "[I") f9_wsX3_putInBucket_826) (fun _ h9 => h9) rfl dX3_putInBucket_23 ?_
  refine lv_iload_n hx hb dX3_putInBucket_26 rfl (lv_at hl 2 rfl) ?_
  refine lv_iconst (v := (-1)) hx hb dX3_putInBucket_27 (by decide) ?_
  obtain ⟨g7, h⟩ := dG_some h
  refine va_iast hx hb hK hP hD hS 45 0 rfl rfl (dg_in g7) dX3_putInBucket_28 (fun H locs hp hd hs => ?_)
  obtain ⟨q8, eq8, h⟩ := dL_some h
  refine kz_re (w2 := wF ty ad q8) hp hd hs (by rw [← eq8]; exact wF_a45 ty ad q6 (Int32.toNatClampNeg p1) (-1)) ?_
  clear hp hd hs hP hD hS
  intro hP hD hS
  refine lv_aload_n hx hb dX3_putInBucket_29 rfl (lv_at hl 1 rfl) ?_
  refine va_get (D := D) (ci := 3) (v := .ref (ad 44)) (C := RX3) (T := TX3) (N := 20) hx hb hts u9_wsX3_putInBucket_X3 hown hK hP 32 rfl rfl 11 (by decide) (hts (.fieldLink RX3 45 "TurnedFloors$Paper" "line" "[I") f9_wsX3_putInBucket_825) (fun _ h9 => h9) rfl dX3_putInBucket_30 ?_
  refine lv_iload_n hx hb dX3_putInBucket_33 rfl (lv_at hl 2 rfl) ?_
  obtain ⟨g9, h⟩ := dG_some h
  refine va_iald hx hb hK hP 44 0 rfl rfl (dg_in g9) dX3_putInBucket_34 ?_
  obtain ⟨v10, ev10, h⟩ := dL_some h
  refine kz_topi v10 ev10 ?_
  refine lv_iconst (v := (-1)) hx hb dX3_putInBucket_35 (by decide) ?_
  refine lv_icmp_eq (tgt := 51) hx hb dX3_putInBucket_36 (by decide) (fun c9 => ?_) (fun c9 => ?_)
  · rw [if_pos c9] at h
    exact WX3_putInBucket_s32_51 C  _ _ _ _ _ _ h hP hD hS (lv_sub hl [1, 2, 0] rfl)
  · rw [if_neg c9] at h
    refine lv_aload_n hx hb dX3_putInBucket_39 rfl (lv_at hl 1 rfl) ?_
    refine va_get (D := D) (ci := 3) (v := .ref (ad 45)) (C := RX3) (T := TX3) (N := 20) hx hb hts u9_wsX3_putInBucket_X3 hown hK hP 32 rfl rfl 12 (by decide) (hts (.fieldLink RX3 48 "TurnedFloors$Paper" "links" "[I") f9_wsX3_putInBucket_826) (fun _ h9 => h9) rfl dX3_putInBucket_40 ?_
    refine lv_aload_n hx hb dX3_putInBucket_43 rfl (lv_at hl 1 rfl) ?_
    refine va_get (D := D) (ci := 3) (v := .ref (ad 44)) (C := RX3) (T := TX3) (N := 20) hx hb hts u9_wsX3_putInBucket_X3 hown hK hP 32 rfl rfl 11 (by decide) (hts (.fieldLink RX3 45 "TurnedFloors$Paper" "line" "[I") f9_wsX3_putInBucket_825) (fun _ h9 => h9) rfl dX3_putInBucket_44 ?_
    refine lv_iload_n hx hb dX3_putInBucket_47 rfl (lv_at hl 2 rfl) ?_
    obtain ⟨g11, h⟩ := dG_some h
    refine va_iald hx hb hK hP 44 0 rfl rfl (dg_in g11) dX3_putInBucket_48 ?_
    obtain ⟨v12, ev12, h⟩ := dL_some h
    refine kz_topi v12 ev12 ?_
    refine lv_iload_n hx hb dX3_putInBucket_49 rfl (lv_at hl 2 rfl) ?_
    obtain ⟨g13, h⟩ := dG_some h
    refine va_iast hx hb hK hP hD hS 45 0 rfl rfl (dg_in g13) dX3_putInBucket_50 (fun H locs hp hd hs => ?_)
    obtain ⟨q14, eq14, h⟩ := dL_some h
    refine kz_re (w2 := wF ty ad q14) hp hd hs (by rw [← eq14]; exact wF_a45 ty ad q8 (Int32.toNatClampNeg v12) p1) ?_
    clear hp hd hs hP hD hS
    intro hP hD hS
    exact WX3_putInBucket_s32_51 C  _ _ _ _ _ _ h hP hD hS (lv_sub hl [1, 2, 0] rfl)

set_option maxHeartbeats 4000000 in
set_option maxRecDepth 100000 in
theorem WX3_takeFromBucket_s32_77 {p : Program} {l : Launch} {e : Env} {s : State} {m : MethodId} {args : Array Value} {below : List Frame} {meth : Method} {c : Code} {D : va_G} {ty : Nat → ClassId} {eo : Nat → Nat} {A : Nat → Prop} {ad : Nat → Nat} {o2 : dK} (C : dc_C p s m args meth c cX3_takeFromBucket none 2 RX3 wsX3_takeFromBucket D ty eo A)   (q : dK)  (H : Heap) (locs : List Loc) (ls : Array Slot) (h : zX3_takeFromBucket_s32_77  q = some o2) (hP : va_P D vwCl (wF ty ad q) H) (hD : va_D A (wF ty ad q)) (hS : va_S A s.heap H locs) (hl : lv_has ls 2 []) : W p l e ({ frames := 0, cells := 0, slots := 0, locals := 0 } : Room) s m args below meth c H locs 0 0 (MQ below (va_Qv (fun (u : va_W) => wF ty ad o2 = u) (kz_B D ty A) A) args s 0 0 A) (F0 m 77 ls []) := by
  have C0 := C
  obtain ⟨hx, hb, hr, hts, hown, hlocks, hml, hK, hN, hE, hA⟩ := C
  unfold zX3_takeFromBucket_s32_77 at h
  cases h
  exact kz_vret hx hb hr hlocks hP hK hD hS dX3_takeFromBucket_77 rfl
set_option maxHeartbeats 4000000 in
set_option maxRecDepth 100000 in
theorem WX3_takeFromBucket_s32_50 {p : Program} {l : Launch} {e : Env} {s : State} {m : MethodId} {args : Array Value} {below : List Frame} {meth : Method} {c : Code} {D : va_G} {ty : Nat → ClassId} {eo : Nat → Nat} {A : Nat → Prop} {ad : Nat → Nat} {o2 : dK} (C : dc_C p s m args meth c cX3_takeFromBucket none 2 RX3 wsX3_takeFromBucket D ty eo A)   (q : dK) (x1 : Int32) (H : Heap) (locs : List Loc) (ls : Array Slot) (h : zX3_takeFromBucket_s32_50  q x1 = some o2) (hP : va_P D vwCl (wF ty ad q) H) (hD : va_D A (wF ty ad q)) (hS : va_S A s.heap H locs) (hl : lv_has ls 2 [(0, .ref (ad 32)), (1, .int x1)]) : W p l e ({ frames := 0, cells := 0, slots := 0, locals := 0 } : Room) s m args below meth c H locs 0 0 (MQ below (va_Qv (fun (u : va_W) => wF ty ad o2 = u) (kz_B D ty A) A) args s 0 0 A) (F0 m 50 ls []) := by
  have C0 := C
  obtain ⟨hx, hb, hr, hts, hown, hlocks, hml, hK, hN, hE, hA⟩ := C
  unfold zX3_takeFromBucket_s32_50 at h
  refine lv_aload_n hx hb dX3_takeFromBucket_50 rfl (lv_at hl 0 rfl) ?_
  refine va_get (D := D) (ci := 3) (v := .ref (ad 44)) (C := RX3) (T := TX3) (N := 20) hx hb hts u9_wsX3_takeFromBucket_X3 hown hK hP 32 rfl rfl 11 (by decide) (hts (.fieldLink RX3 45 "TurnedFloors$Paper" "line" "[I") f9_wsX3_takeFromBucket_828) (fun _ h9 => h9) rfl dX3_takeFromBucket_51 ?_
  refine lv_iload_n hx hb dX3_takeFromBucket_54 rfl (lv_at hl 1 rfl) ?_
  obtain ⟨g1, h⟩ := dG_some h
  refine va_iald hx hb hK hP 44 0 rfl rfl (dg_in g1) dX3_takeFromBucket_55 ?_
  obtain ⟨v2, ev2, h⟩ := dL_some h
  refine kz_topi v2 ev2 ?_
  refine lv_iconst (v := (-1)) hx hb dX3_takeFromBucket_56 (by decide) ?_
  refine lv_icmp_eq (tgt := 77) hx hb dX3_takeFromBucket_57 (by decide) (fun c9 => ?_) (fun c9 => ?_)
  · rw [if_pos c9] at h
    exact WX3_takeFromBucket_s32_77 C0  _ _ _ _ h hP hD hS (lv_sub hl [] rfl)
  · rw [if_neg c9] at h
    refine lv_aload_n hx hb dX3_takeFromBucket_60 rfl (lv_at hl 0 rfl) ?_
    refine va_get (D := D) (ci := 3) (v := .ref (ad 45)) (C := RX3) (T := TX3) (N := 20) hx hb hts u9_wsX3_takeFromBucket_X3 hown hK hP 32 rfl rfl 12 (by decide) (hts (.fieldLink RX3 48 "TurnedFloors$Paper" "links" "[I") f9_wsX3_takeFromBucket_829) (fun _ h9 => h9) rfl dX3_takeFromBucket_61 ?_
    refine lv_aload_n hx hb dX3_takeFromBucket_64 rfl (lv_at hl 0 rfl) ?_
    refine va_get (D := D) (ci := 3) (v := .ref (ad 44)) (C := RX3) (T := TX3) (N := 20) hx hb hts u9_wsX3_takeFromBucket_X3 hown hK hP 32 rfl rfl 11 (by decide) (hts (.fieldLink RX3 45 "TurnedFloors$Paper" "line" "[I") f9_wsX3_takeFromBucket_828) (fun _ h9 => h9) rfl dX3_takeFromBucket_65 ?_
    refine lv_iload_n hx hb dX3_takeFromBucket_68 rfl (lv_at hl 1 rfl) ?_
    obtain ⟨g3, h⟩ := dG_some h
    refine va_iald hx hb hK hP 44 0 rfl rfl (dg_in g3) dX3_takeFromBucket_69 ?_
    obtain ⟨v4, ev4, h⟩ := dL_some h
    refine kz_topi v4 ev4 ?_
    refine lv_aload_n hx hb dX3_takeFromBucket_70 rfl (lv_at hl 0 rfl) ?_
    refine va_get (D := D) (ci := 3) (v := .ref (ad 45)) (C := RX3) (T := TX3) (N := 20) hx hb hts u9_wsX3_takeFromBucket_X3 hown hK hP 32 rfl rfl 12 (by decide) (hts (.fieldLink RX3 48 "TurnedFloors$Paper" "links" "[I") f9_wsX3_takeFromBucket_829) (fun _ h9 => h9) rfl dX3_takeFromBucket_71 ?_
    refine lv_iload_n hx hb dX3_takeFromBucket_74 rfl (lv_at hl 1 rfl) ?_
    obtain ⟨g5, h⟩ := dG_some h
    refine va_iald hx hb hK hP 45 0 rfl rfl (dg_in g5) dX3_takeFromBucket_75 ?_
    obtain ⟨v6, ev6, h⟩ := dL_some h
    refine kz_topi v6 ev6 ?_
    obtain ⟨g7, h⟩ := dG_some h
    refine va_iast hx hb hK hP hD hS 45 0 rfl rfl (dg_in g7) dX3_takeFromBucket_76 (fun H locs hp hd hs => ?_)
    obtain ⟨q8, eq8, h⟩ := dL_some h
    refine kz_re (w2 := wF ty ad q8) hp hd hs (by rw [← eq8]; exact wF_a45 ty ad q (Int32.toNatClampNeg v4) v6) ?_
    clear hp hd hs hP hD hS
    intro hP hD hS
    exact WX3_takeFromBucket_s32_77 C0  _ _ _ _ h hP hD hS (lv_sub hl [] rfl)
set_option maxHeartbeats 4000000 in
set_option maxRecDepth 100000 in
theorem qX3_takeFromBucket_s32 (l : Launch) (D : va_G) (ty : Nat → ClassId) (eo : Nat → Nat) (sz : Nat) (ad : Nat → Nat) (q : dK) (p1 : Int32) (o2 : dK) (h : zX3_takeFromBucket_s32 q p1 = some o2) : Met l yX3_takeFromBucket wsX3_takeFromBucket ({ frames := 0, cells := 0, slots := 0, locals := 0 } : Room) (va_Pc [.ref (ad 32), .int p1] (kz_pre D ty eo (wF ty ad q) sz)) (va_Qv (fun (u : va_W) => wF ty ad o2 = u) (kz_B D ty (va_A (wF ty ad q) sz)) (va_A (wF ty ad q) sz)) 0 0 (va_A (wF ty ad q) sz) := by
  refine Met.ofW (cc := cX3_takeFromBucket) (maxL := 2) (ret := none) (by decide) rfl ?_
  intro p e s m args below meth c s₁ B hml hv
  obtain ⟨rfl, hsz, hP, hK, hD0, hN, hE⟩ := hv
  have hx := B.exec
  have hb := B.bytes
  have hr := B.returns
  have hts := atoms_spec (ws := wsX3_takeFromBucket) B.pre
  have hown : s.vm.findClass RX3 = some m.cls := findClass_of_methodNamed B.named
  have hlocks := B.notSynchronized
  subst hsz
  have hD := hD0.self (sz := s.heap.size)
  generalize hAe : va_A (wF ty ad q) s.heap.size = A at hD hE ⊢
  have hA : ∀ q : Nat, s.heap.size ≤ q → A q := fun q h => by rw [← hAe]; exact Or.inr h
  clear hAe
  have hS : va_S A s.heap s.heap [] := va_S.rf
  have hl := lv_entry ([.ref (ad 32), .int p1]) (n := 2) (Nat.le_of_ble_eq_true rfl)
  rw [lg_entry_eq]
  generalize (lg_sl ([.ref (ad 32), .int p1]) ++ List.replicate (2 - (lg_sl ([.ref (ad 32), .int p1])).length) Slot.unset).toArray = ls at hl ⊢
  have hl : lv_has ls 2 [(0, .ref (ad 32)), (1, .int p1)] := hl
  have C : dc_C p s m _ meth c cX3_takeFromBucket none 2 RX3 wsX3_takeFromBucket D ty eo A := ⟨hx, hb, hr, hts, hown, hlocks, hml, hK, hN, hE, hA⟩
  unfold zX3_takeFromBucket_s32 at h
  refine lv_aload_n hx hb dX3_takeFromBucket_0 rfl (lv_at hl 0 rfl) ?_
  refine va_get (D := D) (ci := 3) (v := .ref (ad 45)) (C := RX3) (T := TX3) (N := 20) hx hb hts u9_wsX3_takeFromBucket_X3 hown hK hP 32 rfl rfl 12 (by decide) (hts (.fieldLink RX3 48 "TurnedFloors$Paper" "links" "[I") f9_wsX3_takeFromBucket_829) (fun _ h9 => h9) rfl dX3_takeFromBucket_1 ?_
  refine lv_iload_n hx hb dX3_takeFromBucket_4 rfl (lv_at hl 1 rfl) ?_
  obtain ⟨g1, h⟩ := dG_some h
  refine va_iald hx hb hK hP 45 0 rfl rfl (dg_in g1) dX3_takeFromBucket_5 ?_
  obtain ⟨v2, ev2, h⟩ := dL_some h
  refine kz_topi v2 ev2 ?_
  refine lv_iconst (v := (-1)) hx hb dX3_takeFromBucket_6 (by decide) ?_
  refine lv_icmp_ne (tgt := 33) hx hb dX3_takeFromBucket_7 (by decide) (fun c9 => ?_) (fun c9 => ?_)
  · rw [if_neg c9] at h
    refine lv_aload_n hx hb dX3_takeFromBucket_33 rfl (lv_at hl 0 rfl) ?_
    refine va_get (D := D) (ci := 3) (v := .ref (ad 44)) (C := RX3) (T := TX3) (N := 20) hx hb hts u9_wsX3_takeFromBucket_X3 hown hK hP 32 rfl rfl 11 (by decide) (hts (.fieldLink RX3 45 "TurnedFloors$Paper" "line" "[I") f9_wsX3_takeFromBucket_828) (fun _ h9 => h9) rfl dX3_takeFromBucket_34 ?_
    refine lv_aload_n hx hb dX3_takeFromBucket_37 rfl (lv_at hl 0 rfl) ?_
    refine va_get (D := D) (ci := 3) (v := .ref (ad 45)) (C := RX3) (T := TX3) (N := 20) hx hb hts u9_wsX3_takeFromBucket_X3 hown hK hP 32 rfl rfl 12 (by decide) (hts (.fieldLink RX3 48 "TurnedFloors$Paper" "links" "[I") f9_wsX3_takeFromBucket_829) (fun _ h9 => h9) rfl dX3_takeFromBucket_38 ?_
    refine lv_iload_n hx hb dX3_takeFromBucket_41 rfl (lv_at hl 1 rfl) ?_
    obtain ⟨g3, h⟩ := dG_some h
    refine va_iald hx hb hK hP 45 0 rfl rfl (dg_in g3) dX3_takeFromBucket_42 ?_
    obtain ⟨v4, ev4, h⟩ := dL_some h
    refine kz_topi v4 ev4 ?_
    refine lv_aload_n hx hb dX3_takeFromBucket_43 rfl (lv_at hl 0 rfl) ?_
    refine va_get (D := D) (ci := 3) (v := .ref (ad 44)) (C := RX3) (T := TX3) (N := 20) hx hb hts u9_wsX3_takeFromBucket_X3 hown hK hP 32 rfl rfl 11 (by decide) (hts (.fieldLink RX3 45 "TurnedFloors$Paper" "line" "[I") f9_wsX3_takeFromBucket_828) (fun _ h9 => h9) rfl dX3_takeFromBucket_44 ?_
    refine lv_iload_n hx hb dX3_takeFromBucket_47 rfl (lv_at hl 1 rfl) ?_
    obtain ⟨g5, h⟩ := dG_some h
    refine va_iald hx hb hK hP 44 0 rfl rfl (dg_in g5) dX3_takeFromBucket_48 ?_
    obtain ⟨v6, ev6, h⟩ := dL_some h
    refine kz_topi v6 ev6 ?_
    obtain ⟨g7, h⟩ := dG_some h
    refine va_iast hx hb hK hP hD hS 44 0 rfl rfl (dg_in g7) dX3_takeFromBucket_49 (fun H locs hp hd hs => ?_)
    obtain ⟨q8, eq8, h⟩ := dL_some h
    refine kz_re (w2 := wF ty ad q8) hp hd hs (by rw [← eq8]; exact wF_a44 ty ad q (Int32.toNatClampNeg v4) v6) ?_
    clear hp hd hs hP hD hS
    intro hP hD hS
    exact WX3_takeFromBucket_s32_50 C  _ _ _ _ _ h hP hD hS (lv_sub hl [0, 1] rfl)
  · rw [if_pos c9] at h
    refine lv_aload_n hx hb dX3_takeFromBucket_10 rfl (lv_at hl 0 rfl) ?_
    refine va_get (D := D) (ci := 3) (v := .ref (ad 38)) (C := RX3) (T := TX3) (N := 20) hx hb hts u9_wsX3_takeFromBucket_X3 hown hK hP 32 rfl rfl 5 (by decide) (hts (.fieldLink RX3 27 "TurnedFloors$Paper" "buckets" "[I") f9_wsX3_takeFromBucket_830) (fun _ h9 => h9) rfl dX3_takeFromBucket_11 ?_
    refine lv_aload_n hx hb dX3_takeFromBucket_14 rfl (lv_at hl 0 rfl) ?_
    refine va_get (D := D) (ci := 3) (v := .ref (ad 43)) (C := RX3) (T := TX3) (N := 20) hx hb hts u9_wsX3_takeFromBucket_X3 hown hK hP 32 rfl rfl 10 (by decide) (hts (.fieldLink RX3 42 "TurnedFloors$Paper" "marks" "[I") f9_wsX3_takeFromBucket_831) (fun _ h9 => h9) rfl dX3_takeFromBucket_15 ?_
    refine lv_iload_n hx hb dX3_takeFromBucket_18 rfl (lv_at hl 1 rfl) ?_
    obtain ⟨g9, h⟩ := dG_some h
    refine va_iald hx hb hK hP 43 0 rfl rfl (dg_in g9) dX3_takeFromBucket_19 ?_
    obtain ⟨v10, ev10, h⟩ := dL_some h
    refine kz_topi v10 ev10 ?_
    refine lv_bipush (v := 100) hx hb dX3_takeFromBucket_20 (by decide) ?_
    refine lv_irem hx hb dX3_takeFromBucket_22 (by decide) ?_
    refine lv_aload_n hx hb dX3_takeFromBucket_23 rfl (lv_at hl 0 rfl) ?_
    refine va_get (D := D) (ci := 3) (v := .ref (ad 44)) (C := RX3) (T := TX3) (N := 20) hx hb hts u9_wsX3_takeFromBucket_X3 hown hK hP 32 rfl rfl 11 (by decide) (hts (.fieldLink RX3 45 "TurnedFloors$Paper" "line" "[I") f9_wsX3_takeFromBucket_828) (fun _ h9 => h9) rfl dX3_takeFromBucket_24 ?_
    refine lv_iload_n hx hb dX3_takeFromBucket_27 rfl (lv_at hl 1 rfl) ?_
    obtain ⟨g11, h⟩ := dG_some h
    refine va_iald hx hb hK hP 44 0 rfl rfl (dg_in g11) dX3_takeFromBucket_28 ?_
    obtain ⟨v12, ev12, h⟩ := dL_some h
    refine kz_topi v12 ev12 ?_
    obtain ⟨g13, h⟩ := dG_some h
    refine va_iast hx hb hK hP hD hS 38 0 rfl rfl (dg_in g13) dX3_takeFromBucket_29 (fun H locs hp hd hs => ?_)
    obtain ⟨q14, eq14, h⟩ := dL_some h
    refine kz_re (w2 := wF ty ad q14) hp hd hs (by rw [← eq14]; exact wF_a38 ty ad q (Int32.toNatClampNeg (v10 - v10 / 100 * 100 : Int32)) v12) ?_
    clear hp hd hs hP hD hS
    intro hP hD hS
    refine lv_goto (tgt := 50) hx hb dX3_takeFromBucket_30 (by decide) ?_
    exact WX3_takeFromBucket_s32_50 C  _ _ _ _ _ h hP hD hS (lv_sub hl [0, 1] rfl)
