section
theorem f9_wsX3_askCases_821 : (Cond.fieldLink RX3 21 "TurnedFloors$Paper" "pays" "[I") ∈ wsX3_askCases := List.mem_cons_of_mem _ mvW9_508
theorem u9_wsX3_putInBucket_X3 : ∀ w ∈ u_ws RX3 TX3 20, w ∈ wsX3_putInBucket := fun w h => List.mem_cons_of_mem _ (vW9_wsX30 w h)
theorem f9_wsX3_putInBucket_823 : (Cond.fieldLink RX3 27 "TurnedFloors$Paper" "buckets" "[I") ∈ wsX3_putInBucket := List.mem_cons_of_mem _ mvW9_569
theorem f9_wsX3_putInBucket_824 : (Cond.fieldLink RX3 42 "TurnedFloors$Paper" "marks" "[I") ∈ wsX3_putInBucket := List.mem_cons_of_mem _ mvW9_476
theorem f9_wsX3_putInBucket_825 : (Cond.fieldLink RX3 45 "TurnedFloors$Paper" "line" "[I") ∈ wsX3_putInBucket := List.mem_cons_of_mem _ mvW9_477
theorem f9_wsX3_putInBucket_826 : (Cond.fieldLink RX3 48 "TurnedFloors$Paper" "links" "[I") ∈ wsX3_putInBucket := List.mem_cons_of_mem _ mvW9_478
theorem u9_wsX3_takeFromBucket_X3 : ∀ w ∈ u_ws RX3 TX3 20, w ∈ wsX3_takeFromBucket := fun w h => List.mem_cons_of_mem _ (vW9_wsX30 w h)
theorem f9_wsX3_takeFromBucket_828 : (Cond.fieldLink RX3 45 "TurnedFloors$Paper" "line" "[I") ∈ wsX3_takeFromBucket := List.mem_cons_of_mem _ mvW9_477
theorem f9_wsX3_takeFromBucket_829 : (Cond.fieldLink RX3 48 "TurnedFloors$Paper" "links" "[I") ∈ wsX3_takeFromBucket := List.mem_cons_of_mem _ mvW9_478
theorem f9_wsX3_takeFromBucket_830 : (Cond.fieldLink RX3 27 "TurnedFloors$Paper" "buckets" "[I") ∈ wsX3_takeFromBucket := List.mem_cons_of_mem _ mvW9_569
theorem f9_wsX3_takeFromBucket_831 : (Cond.fieldLink RX3 42 "TurnedFloors$Paper" "marks" "[I") ∈ wsX3_takeFromBucket := List.mem_cons_of_mem _ mvW9_476
set_option maxHeartbeats 4000000 in
set_option maxRecDepth 100000 in
theorem WX3_askCases_s32_s20_c0_173 {p : Program} {l : Launch} {e : Env} {s : State} {m : MethodId} {args : Array Value} {below : List Frame} {meth : Method} {c : Code} {D : va_G} {ty : Nat → ClassId} {eo : Nat → Nat} {A : Nat → Prop} {ad : Nat → Nat} {o2 : dK} (C : dc_C p s m args meth c cX3_askCases none 13 RX3 wsX3_askCases D ty eo A) {k36 : dK → Int32 → Int32 → Option (dK)} {k48 : dK → Int32 → Int32 → Int32 → Option (dK)} {k100 : dK → Int32 → Int32 → Int32 → Int32 → Int32 → Option (dK)} {k130 : dK → Int32 → Int32 → Int32 → Int32 → Int32 → Int32 → Int32 → Option (dK)} (hk36 : ∀ (q : dK) (x3 : Int32) (x5 : Int32) (H : Heap) (locs : List Loc) (ls : Array Slot), k36 q x3 x5 = some o2 → va_P D vwCl (wF ty ad q) H → va_D A (wF ty ad q) → va_S A s.heap H locs → lv_has ls 13 [(0, .ref (ad 32)), (1, .ref (ad 20)), (3, .int x3), (4, .ref (ad 36)), (5, .int x5)] → W p l e ({ frames := 3, cells := 0, slots := 0, locals := 81 } : Room) s m args below meth c H locs 0 0 (MQ below (va_Qv (fun (u : va_W) => wF ty ad o2 = u) (kz_B D ty A) A) args s 0 0 A) (F0 m 36 ls [])) (hk48 : ∀ (q : dK) (x3 : Int32) (x5 : Int32) (x6 : Int32) (H : Heap) (locs : List Loc) (ls : Array Slot), k48 q x3 x5 x6 = some o2 → va_P D vwCl (wF ty ad q) H → va_D A (wF ty ad q) → va_S A s.heap H locs → lv_has ls 13 [(0, .ref (ad 32)), (1, .ref (ad 20)), (3, .int x3), (4, .ref (ad 36)), (5, .int x5), (6, .int x6)] → W p l e ({ frames := 3, cells := 0, slots := 0, locals := 81 } : Room) s m args below meth c H locs 0 0 (MQ below (va_Qv (fun (u : va_W) => wF ty ad o2 = u) (kz_B D ty A) A) args s 0 0 A) (F0 m 48 ls [])) (hk100 : ∀ (q : dK) (x3 : Int32) (x5 : Int32) (x6 : Int32) (x8 : Int32) (x9 : Int32) (H : Heap) (locs : List Loc) (ls : Array Slot), k100 q x3 x5 x6 x8 x9 = some o2 → va_P D vwCl (wF ty ad q) H → va_D A (wF ty ad q) → va_S A s.heap H locs → lv_has ls 13 [(0, .ref (ad 32)), (1, .ref (ad 20)), (3, .int x3), (4, .ref (ad 36)), (5, .int x5), (6, .int x6), (8, .int x8), (9, .int x9)] → W p l e ({ frames := 3, cells := 0, slots := 0, locals := 81 } : Room) s m args below meth c H locs 0 0 (MQ below (va_Qv (fun (u : va_W) => wF ty ad o2 = u) (kz_B D ty A) A) args s 0 0 A) (F0 m 100 ls [])) (hk130 : ∀ (q : dK) (x3 : Int32) (x5 : Int32) (x6 : Int32) (x8 : Int32) (x9 : Int32) (x10 : Int32) (x11 : Int32) (H : Heap) (locs : List Loc) (ls : Array Slot), k130 q x3 x5 x6 x8 x9 x10 x11 = some o2 → va_P D vwCl (wF ty ad q) H → va_D A (wF ty ad q) → va_S A s.heap H locs → lv_has ls 13 [(0, .ref (ad 32)), (1, .ref (ad 20)), (3, .int x3), (4, .ref (ad 36)), (5, .int x5), (6, .int x6), (8, .int x8), (9, .int x9), (10, .int x10), (11, .int x11)] → W p l e ({ frames := 3, cells := 0, slots := 0, locals := 81 } : Room) s m args below meth c H locs 0 0 (MQ below (va_Qv (fun (u : va_W) => wF ty ad o2 = u) (kz_B D ty A) A) args s 0 0 A) (F0 m 130 ls [])) (q : dK) (x3 : Int32) (x5 : Int32) (x6 : Int32) (x8 : Int32) (x9 : Int32) (x10 : Int32) (x11 : Int32) (y0 : Int32) (H : Heap) (locs : List Loc) (ls : Array Slot) (h : zX3_askCases_s32_s20_c0_173 k36 k48 k100 k130 q x3 x5 x6 x8 x9 x10 x11 y0 = some o2) (hP : va_P D vwCl (wF ty ad q) H) (hD : va_D A (wF ty ad q)) (hS : va_S A s.heap H locs) (hl : lv_has ls 13 [(0, .ref (ad 32)), (1, .ref (ad 20)), (3, .int x3), (4, .ref (ad 36)), (5, .int x5), (6, .int x6), (8, .int x8), (9, .int x9), (10, .int x10), (11, .int x11)]) : W p l e ({ frames := 3, cells := 0, slots := 0, locals := 81 } : Room) s m args below meth c H locs 0 0 (MQ below (va_Qv (fun (u : va_W) => wF ty ad o2 = u) (kz_B D ty A) A) args s 0 0 A) (F0 m 173 ls [.int y0]) := by
  have C0 := C
  obtain ⟨hx, hb, hr, hts, hown, hlocks, hml, hK, hN, hE, hA⟩ := C
  unfold zX3_askCases_s32_s20_c0_173 at h
  refine lv_istore (lv' := [(12, .int y0), (0, .ref (ad 32)), (1, .ref (ad 20)), (3, .int x3), (4, .ref (ad 36)), (5, .int x5), (6, .int x6), (8, .int x8), (9, .int x9), (10, .int x10), (11, .int x11)]) hx hb dX3_askCases_173 hl (by decide) rfl (fun ls hl => ?_)
  refine lv_aload hx hb dX3_askCases_175 (lv_at hl 4 rfl) ?_
  refine lv_iload hx hb dX3_askCases_177 (lv_at hl 5 rfl) ?_
  refine lv_iload hx hb dX3_askCases_179 (lv_at hl 6 rfl) ?_
  refine lv_iload hx hb dX3_askCases_181 (lv_at hl 8 rfl) ?_
  refine lv_iload hx hb dX3_askCases_183 (lv_at hl 10 rfl) ?_
  obtain ⟨r1, h2, h⟩ := dV_some h
  refine dw_ks (va_runS (As := [.int x5, .int x6, .int x9, .int x11]) (rest := [.ref (ad 36)]) ⟨hx, hb, hml, hown, hts⟩ (qX3_caseNumber l D ty eo _ x5 x6 x9 x11 _ h2) (va_cwS 4 hts gX3_askCases_X3_caseNumber rfl rfl rfl hd_X3_caseNumber ⟨Nat.le_of_ble_eq_true rfl, Nat.le_of_ble_eq_true rfl⟩) (pvS_0 hK hN hE hP hD hS hA) rfl rfl hl.1 rfl (lv_room (Nat.le_of_ble_eq_true rfl)) dX3_askCases_185 ⟨Nat.le_of_ble_eq_true rfl, Nat.le_of_ble_eq_true rfl⟩) hP hD hS hA (fun _ _ h9 => h9.2.symm) (fun r9 u9 H locs hw hp hd hs => ?_)
  obtain ⟨rfl, -⟩ := hw
  clear hP hD hS
  have hP := hp; have hD := hd; have hS := hs; clear hp hd hs
  refine lv_iload hx hb dX3_askCases_188 (lv_at hl 0 rfl) ?_
  obtain ⟨g3, h⟩ := dG_some h
  refine va_iast hx hb hK hP hD hS 36 0 rfl rfl (dg_in g3) dX3_askCases_190 (fun H locs hp hd hs => ?_)
  obtain ⟨q4, eq4, h⟩ := dL_some h
  refine kz_re (w2 := wF ty ad q4) hp hd hs (by rw [← eq4]; exact wF_a36 ty ad q (Int32.toNatClampNeg r1) y0) ?_
  clear hp hd hs hP hD hS
  intro hP hD hS
  refine lv_iinc (v := x11 + 1) (lv' := [(11, .int (x11 + 1)), (12, .int y0), (0, .ref (ad 32)), (1, .ref (ad 20)), (3, .int x3), (4, .ref (ad 36)), (5, .int x5), (6, .int x6), (8, .int x8), (9, .int x9), (10, .int x10)]) hx hb dX3_askCases_191 hl (k := 10) rfl rfl (by decide) rfl (fun ls hl => ?_)
  refine lv_goto (tgt := 130) hx hb dX3_askCases_194 (by decide) ?_
  exact hk130 _ _ _ _ _ _ _ _ _ _ _ h hP hD hS (lv_sub hl [2, 3, 4, 5, 6, 7, 8, 9, 10, 0] rfl)
set_option maxHeartbeats 4000000 in
set_option maxRecDepth 100000 in
theorem WX3_askCases_s32_s20_c0_130b {p : Program} {l : Launch} {e : Env} {s : State} {m : MethodId} {args : Array Value} {below : List Frame} {meth : Method} {c : Code} {D : va_G} {ty : Nat → ClassId} {eo : Nat → Nat} {A : Nat → Prop} {ad : Nat → Nat} {o2 : dK} (C : dc_C p s m args meth c cX3_askCases none 13 RX3 wsX3_askCases D ty eo A) {k36 : dK → Int32 → Int32 → Option (dK)} {k48 : dK → Int32 → Int32 → Int32 → Option (dK)} {k100 : dK → Int32 → Int32 → Int32 → Int32 → Int32 → Option (dK)} {k130 : dK → Int32 → Int32 → Int32 → Int32 → Int32 → Int32 → Int32 → Option (dK)} (hk36 : ∀ (q : dK) (x3 : Int32) (x5 : Int32) (H : Heap) (locs : List Loc) (ls : Array Slot), k36 q x3 x5 = some o2 → va_P D vwCl (wF ty ad q) H → va_D A (wF ty ad q) → va_S A s.heap H locs → lv_has ls 13 [(0, .ref (ad 32)), (1, .ref (ad 20)), (3, .int x3), (4, .ref (ad 36)), (5, .int x5)] → W p l e ({ frames := 3, cells := 0, slots := 0, locals := 81 } : Room) s m args below meth c H locs 0 0 (MQ below (va_Qv (fun (u : va_W) => wF ty ad o2 = u) (kz_B D ty A) A) args s 0 0 A) (F0 m 36 ls [])) (hk48 : ∀ (q : dK) (x3 : Int32) (x5 : Int32) (x6 : Int32) (H : Heap) (locs : List Loc) (ls : Array Slot), k48 q x3 x5 x6 = some o2 → va_P D vwCl (wF ty ad q) H → va_D A (wF ty ad q) → va_S A s.heap H locs → lv_has ls 13 [(0, .ref (ad 32)), (1, .ref (ad 20)), (3, .int x3), (4, .ref (ad 36)), (5, .int x5), (6, .int x6)] → W p l e ({ frames := 3, cells := 0, slots := 0, locals := 81 } : Room) s m args below meth c H locs 0 0 (MQ below (va_Qv (fun (u : va_W) => wF ty ad o2 = u) (kz_B D ty A) A) args s 0 0 A) (F0 m 48 ls [])) (hk100 : ∀ (q : dK) (x3 : Int32) (x5 : Int32) (x6 : Int32) (x8 : Int32) (x9 : Int32) (H : Heap) (locs : List Loc) (ls : Array Slot), k100 q x3 x5 x6 x8 x9 = some o2 → va_P D vwCl (wF ty ad q) H → va_D A (wF ty ad q) → va_S A s.heap H locs → lv_has ls 13 [(0, .ref (ad 32)), (1, .ref (ad 20)), (3, .int x3), (4, .ref (ad 36)), (5, .int x5), (6, .int x6), (8, .int x8), (9, .int x9)] → W p l e ({ frames := 3, cells := 0, slots := 0, locals := 81 } : Room) s m args below meth c H locs 0 0 (MQ below (va_Qv (fun (u : va_W) => wF ty ad o2 = u) (kz_B D ty A) A) args s 0 0 A) (F0 m 100 ls [])) (hk130 : ∀ (q : dK) (x3 : Int32) (x5 : Int32) (x6 : Int32) (x8 : Int32) (x9 : Int32) (x10 : Int32) (x11 : Int32) (H : Heap) (locs : List Loc) (ls : Array Slot), k130 q x3 x5 x6 x8 x9 x10 x11 = some o2 → va_P D vwCl (wF ty ad q) H → va_D A (wF ty ad q) → va_S A s.heap H locs → lv_has ls 13 [(0, .ref (ad 32)), (1, .ref (ad 20)), (3, .int x3), (4, .ref (ad 36)), (5, .int x5), (6, .int x6), (8, .int x8), (9, .int x9), (10, .int x10), (11, .int x11)] → W p l e ({ frames := 3, cells := 0, slots := 0, locals := 81 } : Room) s m args below meth c H locs 0 0 (MQ below (va_Qv (fun (u : va_W) => wF ty ad o2 = u) (kz_B D ty A) A) args s 0 0 A) (F0 m 130 ls [])) (q : dK) (x3 : Int32) (x5 : Int32) (x6 : Int32) (x8 : Int32) (x9 : Int32) (x10 : Int32) (x11 : Int32) (H : Heap) (locs : List Loc) (ls : Array Slot) (h : zX3_askCases_s32_s20_c0_130b k36 k48 k100 k130 q x3 x5 x6 x8 x9 x10 x11 = some o2) (hP : va_P D vwCl (wF ty ad q) H) (hD : va_D A (wF ty ad q)) (hS : va_S A s.heap H locs) (hl : lv_has ls 13 [(0, .ref (ad 32)), (1, .ref (ad 20)), (3, .int x3), (4, .ref (ad 36)), (5, .int x5), (6, .int x6), (8, .int x8), (9, .int x9), (10, .int x10), (11, .int x11)]) : W p l e ({ frames := 3, cells := 0, slots := 0, locals := 81 } : Room) s m args below meth c H locs 0 0 (MQ below (va_Qv (fun (u : va_W) => wF ty ad o2 = u) (kz_B D ty A) A) args s 0 0 A) (F0 m 130 ls []) := by
  have C0 := C
  obtain ⟨hx, hb, hr, hts, hown, hlocks, hml, hK, hN, hE, hA⟩ := C
  unfold zX3_askCases_s32_s20_c0_130b at h
  refine lv_iload hx hb dX3_askCases_130 (lv_at hl 9 rfl) ?_
  refine lv_iconst (v := 2) hx hb dX3_askCases_132 (by decide) ?_
  refine lv_icmp_ge (tgt := 197) hx hb dX3_askCases_133 (by decide) (fun c9 => ?_) (fun c9 => ?_)
  · rw [if_pos c9] at h
    refine lv_iinc (v := x9 + 1) (lv' := [(9, .int (x9 + 1)), (0, .ref (ad 32)), (1, .ref (ad 20)), (3, .int x3), (4, .ref (ad 36)), (5, .int x5), (6, .int x6), (8, .int x8), (10, .int x10), (11, .int x11)]) hx hb dX3_askCases_197 hl (k := 7) rfl rfl (by decide) rfl (fun ls hl => ?_)
    refine lv_goto (tgt := 100) hx hb dX3_askCases_200 (by decide) ?_
    exact hk100 _ _ _ _ _ _ _ _ _ h hP hD hS (lv_sub hl [1, 2, 3, 4, 5, 6, 7, 0] rfl)
  · rw [if_neg c9] at h
    refine lv_aload_n hx hb dX3_askCases_136 rfl (lv_at hl 1 rfl) ?_
    refine lv_iload hx hb dX3_askCases_137 (lv_at hl 4 rfl) ?_
    refine lv_aload_n hx hb dX3_askCases_139 rfl (lv_at hl 0 rfl) ?_
    refine va_get (D := D) (ci := 3) (v := .ref (ad 33)) (C := RX3) (T := TX3) (N := 20) hx hb hts u9_wsX3_askCases_X3 hown hK hP 32 rfl rfl 0 (by decide) (hts (.fieldLink RX3 9 "TurnedFloors$Paper" "ranks" "[I") f9_wsX3_askCases_741) (fun _ h9 => h9) rfl dX3_askCases_140 ?_
    refine lv_iload hx hb dX3_askCases_143 (lv_at hl 5 rfl) ?_
    obtain ⟨g1, h⟩ := dG_some h
    refine va_iald hx hb hK hP 33 0 rfl rfl (dg_in g1) dX3_askCases_145 ?_
    obtain ⟨v2, ev2, h⟩ := dL_some h
    refine kz_topi v2 ev2 ?_
    refine lv_iload hx hb dX3_askCases_146 (lv_at hl 8 rfl) ?_
    refine lv_iload hx hb dX3_askCases_148 (lv_at hl 9 rfl) ?_
    obtain ⟨q5, h4, h⟩ := dV_some h
    refine dw_kv (va_runV (As := [.int x5, .int v2, .int x10, .int x11]) (rest := []) ⟨hx, hb, hml, hown, hts⟩ (qX1_setGrip_s20 l D ty eo _ ad q x5 v2 x10 x11 q5 h4) (cwV 4 hts gX3_askCases_X1_setGrip rfl rfl rfl hd_X1_setGrip_v ⟨Nat.le_of_ble_eq_true rfl, Nat.le_of_ble_eq_true rfl⟩) (pvF_1_20 hK hN hE hP hD hS hA) rfl rfl hl.1 rfl (lv_room (Nat.le_of_ble_eq_true rfl)) dX3_askCases_150 ⟨Nat.le_of_ble_eq_true rfl, Nat.le_of_ble_eq_true rfl⟩) hD hS hA (fun u9 H locs hw hp hd hs => ?_)
    clear hP hD hS
    obtain rfl := hw
    have hP := hp; have hD := hd; have hS := hs; clear hp hd hs
    refine lv_iload_n hx hb dX3_askCases_153 rfl (lv_at hl 2 rfl) ?_
    refine lv_iconst (v := 1) hx hb dX3_askCases_154 (by decide) ?_
    refine lv_icmp_ne (tgt := 169) hx hb dX3_askCases_155 (by decide) (fun c9 => ?_) (fun c9 => ?_)
    · rw [if_neg c9] at h
      refine lv_aload_n hx hb dX3_askCases_169 rfl (lv_at hl 1 rfl) ?_
      obtain ⟨r6, q8, h7, h⟩ := dB_some h
      refine dw_ki (va_runV (As := []) (rest := []) ⟨hx, hb, hml, hown, hts⟩ (qX1_pay_s20 l D ty eo _ ad q5  r6 q8 h7) (cwV 0 hts gX3_askCases_X1_pay rfl rfl rfl hd_X1_pay_v ⟨Nat.le_of_ble_eq_true rfl, Nat.le_of_ble_eq_true rfl⟩) (pvF_1_20 hK hN hE hP hD hS hA) rfl rfl hl.1 rfl (lv_room (Nat.le_of_ble_eq_true rfl)) dX3_askCases_170 ⟨Nat.le_of_ble_eq_true rfl, Nat.le_of_ble_eq_true rfl⟩) hD hS hA (fun r9 u9 H locs hw hp hd hs => ?_)
      clear hP hD hS
      obtain ⟨rfl, rfl⟩ := hw
      have hP := hp; have hD := hd; have hS := hs; clear hp hd hs
      exact WX3_askCases_s32_s20_c0_173 C0 hk36 hk48 hk100 hk130 _ _ _ _ _ _ _ _ _ _ _ _ h hP hD hS (lv_sub hl [0, 1, 2, 3, 4, 5, 6, 7, 8, 9] rfl)
    · rw [if_pos c9] at h
      refine lv_aload_n hx hb dX3_askCases_158 rfl (lv_at hl 1 rfl) ?_
      refine lv_iconst (v := 1) hx hb dX3_askCases_159 (by decide) ?_
      obtain ⟨r9, q11, h10, h⟩ := dB_some h
      refine dw_ki (va_runV (As := [.int 1]) (rest := []) ⟨hx, hb, hml, hown, hts⟩ (qX1_anyHolds_s20 l D ty eo _ ad q5 1 r9 q11 h10) (cwV 1 hts gX3_askCases_X1_anyHolds rfl rfl rfl hd_X1_anyHolds_v ⟨Nat.le_of_ble_eq_true rfl, Nat.le_of_ble_eq_true rfl⟩) (pvF_1_20 hK hN hE hP hD hS hA) rfl rfl hl.1 rfl (lv_room (Nat.le_of_ble_eq_true rfl)) dX3_askCases_160 ⟨Nat.le_of_ble_eq_true rfl, Nat.le_of_ble_eq_true rfl⟩) hD hS hA (fun r9 u9 H locs hw hp hd hs => ?_)
      clear hP hD hS
      obtain ⟨rfl, rfl⟩ := hw
      have hP := hp; have hD := hd; have hS := hs; clear hp hd hs
      obtain ⟨r12, h13, h⟩ := dV_some h
      refine dw_ks (va_runSN (As := [.int r9]) (rest := []) ⟨hx, hb, hml, hown, hts⟩ (qX9_bit l D ty eo _ r9 _ h13) ⟨va_cnB 1 hts gX3_askCases_X9_bit_n133 rfl rfl rfl (hN.1 _ (by decide +kernel : (.methodLinkNest "TurnedFloors$Paper" 133 yX9_bit "TurnedFloors" : Cond) ∈ kzN1)) (hts (.initialized RX9) f9_wsX3_askCases_742) (by decide +kernel) ⟨Nat.le_of_ble_eq_true rfl, Nat.le_of_ble_eq_true rfl⟩, hts (.static yX9_bit) (by decide +kernel), trivial⟩ (pvS_0 hK hN hE hP hD hS hA) rfl rfl hl.1 rfl (lv_room (Nat.le_of_ble_eq_true rfl)) dX3_askCases_163 ⟨Nat.le_of_ble_eq_true rfl, Nat.le_of_ble_eq_true rfl⟩) hP hD hS hA (fun _ _ h9 => h9.2.symm) (fun r9 u9 H locs hw hp hd hs => ?_)
      obtain ⟨rfl, -⟩ := hw
      clear hP hD hS
      have hP := hp; have hD := hd; have hS := hs; clear hp hd hs
      refine lv_goto (tgt := 173) hx hb dX3_askCases_166 (by decide) ?_
      exact WX3_askCases_s32_s20_c0_173 C0 hk36 hk48 hk100 hk130 _ _ _ _ _ _ _ _ _ _ _ _ h hP hD hS (lv_sub hl [0, 1, 2, 3, 4, 5, 6, 7, 8, 9] rfl)
set_option maxHeartbeats 4000000 in
set_option maxRecDepth 100000 in
theorem WX3_askCases_s32_s20_c0_130 {p : Program} {l : Launch} {e : Env} {s : State} {m : MethodId} {args : Array Value} {below : List Frame} {meth : Method} {c : Code} {D : va_G} {ty : Nat → ClassId} {eo : Nat → Nat} {A : Nat → Prop} {ad : Nat → Nat} {o2 : dK} (C : dc_C p s m args meth c cX3_askCases none 13 RX3 wsX3_askCases D ty eo A) {k36 : dK → Int32 → Int32 → Option (dK)} {k48 : dK → Int32 → Int32 → Int32 → Option (dK)} {k100 : dK → Int32 → Int32 → Int32 → Int32 → Int32 → Option (dK)} (hk36 : ∀ (q : dK) (x3 : Int32) (x5 : Int32) (H : Heap) (locs : List Loc) (ls : Array Slot), k36 q x3 x5 = some o2 → va_P D vwCl (wF ty ad q) H → va_D A (wF ty ad q) → va_S A s.heap H locs → lv_has ls 13 [(0, .ref (ad 32)), (1, .ref (ad 20)), (3, .int x3), (4, .ref (ad 36)), (5, .int x5)] → W p l e ({ frames := 3, cells := 0, slots := 0, locals := 81 } : Room) s m args below meth c H locs 0 0 (MQ below (va_Qv (fun (u : va_W) => wF ty ad o2 = u) (kz_B D ty A) A) args s 0 0 A) (F0 m 36 ls [])) (hk48 : ∀ (q : dK) (x3 : Int32) (x5 : Int32) (x6 : Int32) (H : Heap) (locs : List Loc) (ls : Array Slot), k48 q x3 x5 x6 = some o2 → va_P D vwCl (wF ty ad q) H → va_D A (wF ty ad q) → va_S A s.heap H locs → lv_has ls 13 [(0, .ref (ad 32)), (1, .ref (ad 20)), (3, .int x3), (4, .ref (ad 36)), (5, .int x5), (6, .int x6)] → W p l e ({ frames := 3, cells := 0, slots := 0, locals := 81 } : Room) s m args below meth c H locs 0 0 (MQ below (va_Qv (fun (u : va_W) => wF ty ad o2 = u) (kz_B D ty A) A) args s 0 0 A) (F0 m 48 ls [])) (hk100 : ∀ (q : dK) (x3 : Int32) (x5 : Int32) (x6 : Int32) (x8 : Int32) (x9 : Int32) (H : Heap) (locs : List Loc) (ls : Array Slot), k100 q x3 x5 x6 x8 x9 = some o2 → va_P D vwCl (wF ty ad q) H → va_D A (wF ty ad q) → va_S A s.heap H locs → lv_has ls 13 [(0, .ref (ad 32)), (1, .ref (ad 20)), (3, .int x3), (4, .ref (ad 36)), (5, .int x5), (6, .int x6), (8, .int x8), (9, .int x9)] → W p l e ({ frames := 3, cells := 0, slots := 0, locals := 81 } : Room) s m args below meth c H locs 0 0 (MQ below (va_Qv (fun (u : va_W) => wF ty ad o2 = u) (kz_B D ty A) A) args s 0 0 A) (F0 m 100 ls [])) (n : Nat) (q : dK) (x3 : Int32) (x5 : Int32) (x6 : Int32) (x8 : Int32) (x9 : Int32) (x10 : Int32) (x11 : Int32) (H : Heap) (locs : List Loc) (ls : Array Slot) (h : zX3_askCases_s32_s20_c0_130 k36 k48 k100 n q x3 x5 x6 x8 x9 x10 x11 = some o2) (hP : va_P D vwCl (wF ty ad q) H) (hD : va_D A (wF ty ad q)) (hS : va_S A s.heap H locs) (hl : lv_has ls 13 [(0, .ref (ad 32)), (1, .ref (ad 20)), (3, .int x3), (4, .ref (ad 36)), (5, .int x5), (6, .int x6), (8, .int x8), (9, .int x9), (10, .int x10), (11, .int x11)]) : W p l e ({ frames := 3, cells := 0, slots := 0, locals := 81 } : Room) s m args below meth c H locs 0 0 (MQ below (va_Qv (fun (u : va_W) => wF ty ad o2 = u) (kz_B D ty A) A) args s 0 0 A) (F0 m 130 ls []) := by
  exact dFix_W (F := fun k (a : dK × Int32 × Int32 × Int32 × Int32 × Int32 × Int32 × Int32) => zX3_askCases_s32_s20_c0_130b k36 k48 k100 (fun q x3 x5 x6 x8 x9 x10 x11 => k (q, x3, x5, x6, x8, x9, x10, x11)) a.1 a.2.1 a.2.2.1 a.2.2.2.1 a.2.2.2.2.1 a.2.2.2.2.2.1 a.2.2.2.2.2.2.1 a.2.2.2.2.2.2.2) (o := o2) (P := fun (a : dK × Int32 × Int32 × Int32 × Int32 × Int32 × Int32 × Int32) H locs ls => va_P D vwCl (wF ty ad a.1) H ∧ va_D A (wF ty ad a.1) ∧ va_S A s.heap H locs ∧ lv_has ls 13 [(0, .ref (ad 32)), (1, .ref (ad 20)), (3, .int a.2.1), (4, .ref (ad 36)), (5, .int a.2.2.1), (6, .int a.2.2.2.1), (8, .int a.2.2.2.2.1), (9, .int a.2.2.2.2.2.1), (10, .int a.2.2.2.2.2.2.1), (11, .int a.2.2.2.2.2.2.2)]) (G := fun H locs ls => W p l e ({ frames := 3, cells := 0, slots := 0, locals := 81 } : Room) s m args below meth c H locs 0 0 (MQ below (va_Qv (fun (u : va_W) => wF ty ad o2 = u) (kz_B D ty A) A) args s 0 0 A) (F0 m 130 ls []))
    (fun k hk a H locs ls h hp => WX3_askCases_s32_s20_c0_130b C hk36 hk48 hk100 (fun q x3 x5 x6 x8 x9 x10 x11 H locs ls h h1 h2 h3 h4 => hk (q, x3, x5, x6, x8, x9, x10, x11) H locs ls h ⟨h1, h2, h3, h4⟩) a.1 a.2.1 a.2.2.1 a.2.2.2.1 a.2.2.2.2.1 a.2.2.2.2.2.1 a.2.2.2.2.2.2.1 a.2.2.2.2.2.2.2 H locs ls h hp.1 hp.2.1 hp.2.2.1 hp.2.2.2) n (q, x3, x5, x6, x8, x9, x10, x11) H locs ls h ⟨hP, hD, hS, hl⟩
set_option maxHeartbeats 4000000 in
set_option maxRecDepth 100000 in
theorem WX3_askCases_s32_s20_c0_125 {p : Program} {l : Launch} {e : Env} {s : State} {m : MethodId} {args : Array Value} {below : List Frame} {meth : Method} {c : Code} {D : va_G} {ty : Nat → ClassId} {eo : Nat → Nat} {A : Nat → Prop} {ad : Nat → Nat} {o2 : dK} (C : dc_C p s m args meth c cX3_askCases none 13 RX3 wsX3_askCases D ty eo A) {k36 : dK → Int32 → Int32 → Option (dK)} {k48 : dK → Int32 → Int32 → Int32 → Option (dK)} {k100 : dK → Int32 → Int32 → Int32 → Int32 → Int32 → Option (dK)} (hk36 : ∀ (q : dK) (x3 : Int32) (x5 : Int32) (H : Heap) (locs : List Loc) (ls : Array Slot), k36 q x3 x5 = some o2 → va_P D vwCl (wF ty ad q) H → va_D A (wF ty ad q) → va_S A s.heap H locs → lv_has ls 13 [(0, .ref (ad 32)), (1, .ref (ad 20)), (3, .int x3), (4, .ref (ad 36)), (5, .int x5)] → W p l e ({ frames := 3, cells := 0, slots := 0, locals := 81 } : Room) s m args below meth c H locs 0 0 (MQ below (va_Qv (fun (u : va_W) => wF ty ad o2 = u) (kz_B D ty A) A) args s 0 0 A) (F0 m 36 ls [])) (hk48 : ∀ (q : dK) (x3 : Int32) (x5 : Int32) (x6 : Int32) (H : Heap) (locs : List Loc) (ls : Array Slot), k48 q x3 x5 x6 = some o2 → va_P D vwCl (wF ty ad q) H → va_D A (wF ty ad q) → va_S A s.heap H locs → lv_has ls 13 [(0, .ref (ad 32)), (1, .ref (ad 20)), (3, .int x3), (4, .ref (ad 36)), (5, .int x5), (6, .int x6)] → W p l e ({ frames := 3, cells := 0, slots := 0, locals := 81 } : Room) s m args below meth c H locs 0 0 (MQ below (va_Qv (fun (u : va_W) => wF ty ad o2 = u) (kz_B D ty A) A) args s 0 0 A) (F0 m 48 ls [])) (hk100 : ∀ (q : dK) (x3 : Int32) (x5 : Int32) (x6 : Int32) (x8 : Int32) (x9 : Int32) (H : Heap) (locs : List Loc) (ls : Array Slot), k100 q x3 x5 x6 x8 x9 = some o2 → va_P D vwCl (wF ty ad q) H → va_D A (wF ty ad q) → va_S A s.heap H locs → lv_has ls 13 [(0, .ref (ad 32)), (1, .ref (ad 20)), (3, .int x3), (4, .ref (ad 36)), (5, .int x5), (6, .int x6), (8, .int x8), (9, .int x9)] → W p l e ({ frames := 3, cells := 0, slots := 0, locals := 81 } : Room) s m args below meth c H locs 0 0 (MQ below (va_Qv (fun (u : va_W) => wF ty ad o2 = u) (kz_B D ty A) A) args s 0 0 A) (F0 m 100 ls [])) (q : dK) (x3 : Int32) (x5 : Int32) (x6 : Int32) (x8 : Int32) (x9 : Int32) (y0 : Int32) (H : Heap) (locs : List Loc) (ls : Array Slot) (h : zX3_askCases_s32_s20_c0_125 k36 k48 k100 q x3 x5 x6 x8 x9 y0 = some o2) (hP : va_P D vwCl (wF ty ad q) H) (hD : va_D A (wF ty ad q)) (hS : va_S A s.heap H locs) (hl : lv_has ls 13 [(0, .ref (ad 32)), (1, .ref (ad 20)), (3, .int x3), (4, .ref (ad 36)), (5, .int x5), (6, .int x6), (8, .int x8), (9, .int x9)]) : W p l e ({ frames := 3, cells := 0, slots := 0, locals := 81 } : Room) s m args below meth c H locs 0 0 (MQ below (va_Qv (fun (u : va_W) => wF ty ad o2 = u) (kz_B D ty A) A) args s 0 0 A) (F0 m 125 ls [.int y0]) := by
  have C0 := C
  obtain ⟨hx, hb, hr, hts, hown, hlocks, hml, hK, hN, hE, hA⟩ := C
  unfold zX3_askCases_s32_s20_c0_125 at h
  refine lv_istore (lv' := [(10, .int y0), (0, .ref (ad 32)), (1, .ref (ad 20)), (3, .int x3), (4, .ref (ad 36)), (5, .int x5), (6, .int x6), (8, .int x8), (9, .int x9)]) hx hb dX3_askCases_125 hl (by decide) rfl (fun ls hl => ?_)
  refine lv_iconst (v := 0) hx hb dX3_askCases_127 (by decide) ?_
  refine lv_istore (lv' := [(11, .int 0), (10, .int y0), (0, .ref (ad 32)), (1, .ref (ad 20)), (3, .int x3), (4, .ref (ad 36)), (5, .int x5), (6, .int x6), (8, .int x8), (9, .int x9)]) hx hb dX3_askCases_128 hl (by decide) rfl (fun ls hl => ?_)
  exact WX3_askCases_s32_s20_c0_130 C0 hk36 hk48 hk100 _ _ _ _ _ _ _ _ _ _ _ _ h hP hD hS (lv_sub hl [2, 3, 4, 5, 6, 7, 8, 9, 1, 0] rfl)
set_option maxHeartbeats 4000000 in
set_option maxRecDepth 100000 in
theorem WX3_askCases_s32_s20_c0_100b {p : Program} {l : Launch} {e : Env} {s : State} {m : MethodId} {args : Array Value} {below : List Frame} {meth : Method} {c : Code} {D : va_G} {ty : Nat → ClassId} {eo : Nat → Nat} {A : Nat → Prop} {ad : Nat → Nat} {o2 : dK} (C : dc_C p s m args meth c cX3_askCases none 13 RX3 wsX3_askCases D ty eo A) {k36 : dK → Int32 → Int32 → Option (dK)} {k48 : dK → Int32 → Int32 → Int32 → Option (dK)} {k100 : dK → Int32 → Int32 → Int32 → Int32 → Int32 → Option (dK)} (hk36 : ∀ (q : dK) (x3 : Int32) (x5 : Int32) (H : Heap) (locs : List Loc) (ls : Array Slot), k36 q x3 x5 = some o2 → va_P D vwCl (wF ty ad q) H → va_D A (wF ty ad q) → va_S A s.heap H locs → lv_has ls 13 [(0, .ref (ad 32)), (1, .ref (ad 20)), (3, .int x3), (4, .ref (ad 36)), (5, .int x5)] → W p l e ({ frames := 3, cells := 0, slots := 0, locals := 81 } : Room) s m args below meth c H locs 0 0 (MQ below (va_Qv (fun (u : va_W) => wF ty ad o2 = u) (kz_B D ty A) A) args s 0 0 A) (F0 m 36 ls [])) (hk48 : ∀ (q : dK) (x3 : Int32) (x5 : Int32) (x6 : Int32) (H : Heap) (locs : List Loc) (ls : Array Slot), k48 q x3 x5 x6 = some o2 → va_P D vwCl (wF ty ad q) H → va_D A (wF ty ad q) → va_S A s.heap H locs → lv_has ls 13 [(0, .ref (ad 32)), (1, .ref (ad 20)), (3, .int x3), (4, .ref (ad 36)), (5, .int x5), (6, .int x6)] → W p l e ({ frames := 3, cells := 0, slots := 0, locals := 81 } : Room) s m args below meth c H locs 0 0 (MQ below (va_Qv (fun (u : va_W) => wF ty ad o2 = u) (kz_B D ty A) A) args s 0 0 A) (F0 m 48 ls [])) (hk100 : ∀ (q : dK) (x3 : Int32) (x5 : Int32) (x6 : Int32) (x8 : Int32) (x9 : Int32) (H : Heap) (locs : List Loc) (ls : Array Slot), k100 q x3 x5 x6 x8 x9 = some o2 → va_P D vwCl (wF ty ad q) H → va_D A (wF ty ad q) → va_S A s.heap H locs → lv_has ls 13 [(0, .ref (ad 32)), (1, .ref (ad 20)), (3, .int x3), (4, .ref (ad 36)), (5, .int x5), (6, .int x6), (8, .int x8), (9, .int x9)] → W p l e ({ frames := 3, cells := 0, slots := 0, locals := 81 } : Room) s m args below meth c H locs 0 0 (MQ below (va_Qv (fun (u : va_W) => wF ty ad o2 = u) (kz_B D ty A) A) args s 0 0 A) (F0 m 100 ls [])) (q : dK) (x3 : Int32) (x5 : Int32) (x6 : Int32) (x8 : Int32) (x9 : Int32) (H : Heap) (locs : List Loc) (ls : Array Slot) (h : zX3_askCases_s32_s20_c0_100b k36 k48 k100 q x3 x5 x6 x8 x9 = some o2) (hP : va_P D vwCl (wF ty ad q) H) (hD : va_D A (wF ty ad q)) (hS : va_S A s.heap H locs) (hl : lv_has ls 13 [(0, .ref (ad 32)), (1, .ref (ad 20)), (3, .int x3), (4, .ref (ad 36)), (5, .int x5), (6, .int x6), (8, .int x8), (9, .int x9)]) : W p l e ({ frames := 3, cells := 0, slots := 0, locals := 81 } : Room) s m args below meth c H locs 0 0 (MQ below (va_Qv (fun (u : va_W) => wF ty ad o2 = u) (kz_B D ty A) A) args s 0 0 A) (F0 m 100 ls []) := by
  have C0 := C
  obtain ⟨hx, hb, hr, hts, hown, hlocks, hml, hK, hN, hE, hA⟩ := C
  unfold zX3_askCases_s32_s20_c0_100b at h
  refine lv_iload hx hb dX3_askCases_100 (lv_at hl 7 rfl) ?_
  refine lv_iload hx hb dX3_askCases_102 (lv_at hl 6 rfl) ?_
  refine lv_icmp_gt (tgt := 203) hx hb dX3_askCases_104 (by decide) (fun c9 => ?_) (fun c9 => ?_)
  · rw [if_pos c9] at h
    refine lv_iinc (v := x6 + 1) (lv' := [(6, .int (x6 + 1)), (0, .ref (ad 32)), (1, .ref (ad 20)), (3, .int x3), (4, .ref (ad 36)), (5, .int x5), (8, .int x8), (9, .int x9)]) hx hb dX3_askCases_203 hl (k := 5) rfl rfl (by decide) rfl (fun ls hl => ?_)
    refine lv_goto (tgt := 48) hx hb dX3_askCases_206 (by decide) ?_
    exact hk48 _ _ _ _ _ _ _ h hP hD hS (lv_sub hl [1, 2, 3, 4, 5, 0] rfl)
  · rw [if_neg c9] at h
    refine lv_iload hx hb dX3_askCases_107 (lv_at hl 7 rfl) ?_
    refine lv_bipush (v := 6) hx hb dX3_askCases_109 (by decide) ?_
    refine lv_icmp_ne (tgt := 118) hx hb dX3_askCases_111 (by decide) (fun c9 => ?_) (fun c9 => ?_)
    · rw [if_neg c9] at h
      refine lv_aload_n hx hb dX3_askCases_118 rfl (lv_at hl 0 rfl) ?_
      refine va_get (D := D) (ci := 3) (v := .ref (ad 33)) (C := RX3) (T := TX3) (N := 20) hx hb hts u9_wsX3_askCases_X3 hown hK hP 32 rfl rfl 0 (by decide) (hts (.fieldLink RX3 9 "TurnedFloors$Paper" "ranks" "[I") f9_wsX3_askCases_741) (fun _ h9 => h9) rfl dX3_askCases_119 ?_
      refine lv_iload hx hb dX3_askCases_122 (lv_at hl 7 rfl) ?_
      obtain ⟨g1, h⟩ := dG_some h
      refine va_iald hx hb hK hP 33 0 rfl rfl (dg_in g1) dX3_askCases_124 ?_
      obtain ⟨v2, ev2, h⟩ := dL_some h
      refine kz_topi v2 ev2 ?_
      exact WX3_askCases_s32_s20_c0_125 C0 hk36 hk48 hk100 _ _ _ _ _ _ _ _ _ _ h hP hD hS (lv_sub hl [0, 1, 2, 3, 4, 5, 6, 7] rfl)
    · rw [if_pos c9] at h
      refine lv_iconst (v := (-1)) hx hb dX3_askCases_114 (by decide) ?_
      refine lv_goto (tgt := 125) hx hb dX3_askCases_115 (by decide) ?_
      exact WX3_askCases_s32_s20_c0_125 C0 hk36 hk48 hk100 _ _ _ _ _ _ _ _ _ _ h hP hD hS (lv_sub hl [0, 1, 2, 3, 4, 5, 6, 7] rfl)
set_option maxHeartbeats 4000000 in
set_option maxRecDepth 100000 in
theorem WX3_askCases_s32_s20_c0_100 {p : Program} {l : Launch} {e : Env} {s : State} {m : MethodId} {args : Array Value} {below : List Frame} {meth : Method} {c : Code} {D : va_G} {ty : Nat → ClassId} {eo : Nat → Nat} {A : Nat → Prop} {ad : Nat → Nat} {o2 : dK} (C : dc_C p s m args meth c cX3_askCases none 13 RX3 wsX3_askCases D ty eo A) {k36 : dK → Int32 → Int32 → Option (dK)} {k48 : dK → Int32 → Int32 → Int32 → Option (dK)} (hk36 : ∀ (q : dK) (x3 : Int32) (x5 : Int32) (H : Heap) (locs : List Loc) (ls : Array Slot), k36 q x3 x5 = some o2 → va_P D vwCl (wF ty ad q) H → va_D A (wF ty ad q) → va_S A s.heap H locs → lv_has ls 13 [(0, .ref (ad 32)), (1, .ref (ad 20)), (3, .int x3), (4, .ref (ad 36)), (5, .int x5)] → W p l e ({ frames := 3, cells := 0, slots := 0, locals := 81 } : Room) s m args below meth c H locs 0 0 (MQ below (va_Qv (fun (u : va_W) => wF ty ad o2 = u) (kz_B D ty A) A) args s 0 0 A) (F0 m 36 ls [])) (hk48 : ∀ (q : dK) (x3 : Int32) (x5 : Int32) (x6 : Int32) (H : Heap) (locs : List Loc) (ls : Array Slot), k48 q x3 x5 x6 = some o2 → va_P D vwCl (wF ty ad q) H → va_D A (wF ty ad q) → va_S A s.heap H locs → lv_has ls 13 [(0, .ref (ad 32)), (1, .ref (ad 20)), (3, .int x3), (4, .ref (ad 36)), (5, .int x5), (6, .int x6)] → W p l e ({ frames := 3, cells := 0, slots := 0, locals := 81 } : Room) s m args below meth c H locs 0 0 (MQ below (va_Qv (fun (u : va_W) => wF ty ad o2 = u) (kz_B D ty A) A) args s 0 0 A) (F0 m 48 ls [])) (n : Nat) (q : dK) (x3 : Int32) (x5 : Int32) (x6 : Int32) (x8 : Int32) (x9 : Int32) (H : Heap) (locs : List Loc) (ls : Array Slot) (h : zX3_askCases_s32_s20_c0_100 k36 k48 n q x3 x5 x6 x8 x9 = some o2) (hP : va_P D vwCl (wF ty ad q) H) (hD : va_D A (wF ty ad q)) (hS : va_S A s.heap H locs) (hl : lv_has ls 13 [(0, .ref (ad 32)), (1, .ref (ad 20)), (3, .int x3), (4, .ref (ad 36)), (5, .int x5), (6, .int x6), (8, .int x8), (9, .int x9)]) : W p l e ({ frames := 3, cells := 0, slots := 0, locals := 81 } : Room) s m args below meth c H locs 0 0 (MQ below (va_Qv (fun (u : va_W) => wF ty ad o2 = u) (kz_B D ty A) A) args s 0 0 A) (F0 m 100 ls []) := by
  exact dFix_W (F := fun k (a : dK × Int32 × Int32 × Int32 × Int32 × Int32) => zX3_askCases_s32_s20_c0_100b k36 k48 (fun q x3 x5 x6 x8 x9 => k (q, x3, x5, x6, x8, x9)) a.1 a.2.1 a.2.2.1 a.2.2.2.1 a.2.2.2.2.1 a.2.2.2.2.2) (o := o2) (P := fun (a : dK × Int32 × Int32 × Int32 × Int32 × Int32) H locs ls => va_P D vwCl (wF ty ad a.1) H ∧ va_D A (wF ty ad a.1) ∧ va_S A s.heap H locs ∧ lv_has ls 13 [(0, .ref (ad 32)), (1, .ref (ad 20)), (3, .int a.2.1), (4, .ref (ad 36)), (5, .int a.2.2.1), (6, .int a.2.2.2.1), (8, .int a.2.2.2.2.1), (9, .int a.2.2.2.2.2)]) (G := fun H locs ls => W p l e ({ frames := 3, cells := 0, slots := 0, locals := 81 } : Room) s m args below meth c H locs 0 0 (MQ below (va_Qv (fun (u : va_W) => wF ty ad o2 = u) (kz_B D ty A) A) args s 0 0 A) (F0 m 100 ls []))
    (fun k hk a H locs ls h hp => WX3_askCases_s32_s20_c0_100b C hk36 hk48 (fun q x3 x5 x6 x8 x9 H locs ls h h1 h2 h3 h4 => hk (q, x3, x5, x6, x8, x9) H locs ls h ⟨h1, h2, h3, h4⟩) a.1 a.2.1 a.2.2.1 a.2.2.2.1 a.2.2.2.2.1 a.2.2.2.2.2 H locs ls h hp.1 hp.2.1 hp.2.2.1 hp.2.2.2) n (q, x3, x5, x6, x8, x9) H locs ls h ⟨hP, hD, hS, hl⟩
set_option maxHeartbeats 4000000 in
set_option maxRecDepth 100000 in
theorem WX3_askCases_s32_s20_c0_94 {p : Program} {l : Launch} {e : Env} {s : State} {m : MethodId} {args : Array Value} {below : List Frame} {meth : Method} {c : Code} {D : va_G} {ty : Nat → ClassId} {eo : Nat → Nat} {A : Nat → Prop} {ad : Nat → Nat} {o2 : dK} (C : dc_C p s m args meth c cX3_askCases none 13 RX3 wsX3_askCases D ty eo A) {k36 : dK → Int32 → Int32 → Option (dK)} {k48 : dK → Int32 → Int32 → Int32 → Option (dK)} (hk36 : ∀ (q : dK) (x3 : Int32) (x5 : Int32) (H : Heap) (locs : List Loc) (ls : Array Slot), k36 q x3 x5 = some o2 → va_P D vwCl (wF ty ad q) H → va_D A (wF ty ad q) → va_S A s.heap H locs → lv_has ls 13 [(0, .ref (ad 32)), (1, .ref (ad 20)), (3, .int x3), (4, .ref (ad 36)), (5, .int x5)] → W p l e ({ frames := 3, cells := 0, slots := 0, locals := 81 } : Room) s m args below meth c H locs 0 0 (MQ below (va_Qv (fun (u : va_W) => wF ty ad o2 = u) (kz_B D ty A) A) args s 0 0 A) (F0 m 36 ls [])) (hk48 : ∀ (q : dK) (x3 : Int32) (x5 : Int32) (x6 : Int32) (H : Heap) (locs : List Loc) (ls : Array Slot), k48 q x3 x5 x6 = some o2 → va_P D vwCl (wF ty ad q) H → va_D A (wF ty ad q) → va_S A s.heap H locs → lv_has ls 13 [(0, .ref (ad 32)), (1, .ref (ad 20)), (3, .int x3), (4, .ref (ad 36)), (5, .int x5), (6, .int x6)] → W p l e ({ frames := 3, cells := 0, slots := 0, locals := 81 } : Room) s m args below meth c H locs 0 0 (MQ below (va_Qv (fun (u : va_W) => wF ty ad o2 = u) (kz_B D ty A) A) args s 0 0 A) (F0 m 48 ls [])) (q : dK) (x3 : Int32) (x5 : Int32) (x6 : Int32) (x7 : Int32) (y0 : Int32) (H : Heap) (locs : List Loc) (ls : Array Slot) (h : zX3_askCases_s32_s20_c0_94 k36 k48 q x3 x5 x6 x7 y0 = some o2) (hP : va_P D vwCl (wF ty ad q) H) (hD : va_D A (wF ty ad q)) (hS : va_S A s.heap H locs) (hl : lv_has ls 13 [(0, .ref (ad 32)), (1, .ref (ad 20)), (3, .int x3), (4, .ref (ad 36)), (5, .int x5), (6, .int x6), (7, .int x7)]) : W p l e ({ frames := 3, cells := 0, slots := 0, locals := 81 } : Room) s m args below meth c H locs 0 0 (MQ below (va_Qv (fun (u : va_W) => wF ty ad o2 = u) (kz_B D ty A) A) args s 0 0 A) (F0 m 94 ls [.int y0]) := by
  have C0 := C
  obtain ⟨hx, hb, hr, hts, hown, hlocks, hml, hK, hN, hE, hA⟩ := C
  unfold zX3_askCases_s32_s20_c0_94 at h
  refine lv_istore (lv' := [(8, .int y0), (0, .ref (ad 32)), (1, .ref (ad 20)), (3, .int x3), (4, .ref (ad 36)), (5, .int x5), (6, .int x6), (7, .int x7)]) hx hb dX3_askCases_94 hl (by decide) rfl (fun ls hl => ?_)
  refine lv_iload hx hb dX3_askCases_96 (lv_at hl 7 rfl) ?_
  refine lv_istore (lv' := [(9, .int x7), (8, .int y0), (0, .ref (ad 32)), (1, .ref (ad 20)), (3, .int x3), (4, .ref (ad 36)), (5, .int x5), (6, .int x6), (7, .int x7)]) hx hb dX3_askCases_98 hl (by decide) rfl (fun ls hl => ?_)
  exact WX3_askCases_s32_s20_c0_100 C0 hk36 hk48 _ _ _ _ _ _ _ _ _ _ h hP hD hS (lv_sub hl [2, 3, 4, 5, 6, 7, 1, 0] rfl)
set_option maxHeartbeats 4000000 in
set_option maxRecDepth 100000 in
theorem WX3_askCases_s32_s20_c0_72 {p : Program} {l : Launch} {e : Env} {s : State} {m : MethodId} {args : Array Value} {below : List Frame} {meth : Method} {c : Code} {D : va_G} {ty : Nat → ClassId} {eo : Nat → Nat} {A : Nat → Prop} {ad : Nat → Nat} {o2 : dK} (C : dc_C p s m args meth c cX3_askCases none 13 RX3 wsX3_askCases D ty eo A) {k36 : dK → Int32 → Int32 → Option (dK)} {k48 : dK → Int32 → Int32 → Int32 → Option (dK)} (hk36 : ∀ (q : dK) (x3 : Int32) (x5 : Int32) (H : Heap) (locs : List Loc) (ls : Array Slot), k36 q x3 x5 = some o2 → va_P D vwCl (wF ty ad q) H → va_D A (wF ty ad q) → va_S A s.heap H locs → lv_has ls 13 [(0, .ref (ad 32)), (1, .ref (ad 20)), (3, .int x3), (4, .ref (ad 36)), (5, .int x5)] → W p l e ({ frames := 3, cells := 0, slots := 0, locals := 81 } : Room) s m args below meth c H locs 0 0 (MQ below (va_Qv (fun (u : va_W) => wF ty ad o2 = u) (kz_B D ty A) A) args s 0 0 A) (F0 m 36 ls [])) (hk48 : ∀ (q : dK) (x3 : Int32) (x5 : Int32) (x6 : Int32) (H : Heap) (locs : List Loc) (ls : Array Slot), k48 q x3 x5 x6 = some o2 → va_P D vwCl (wF ty ad q) H → va_D A (wF ty ad q) → va_S A s.heap H locs → lv_has ls 13 [(0, .ref (ad 32)), (1, .ref (ad 20)), (3, .int x3), (4, .ref (ad 36)), (5, .int x5), (6, .int x6)] → W p l e ({ frames := 3, cells := 0, slots := 0, locals := 81 } : Room) s m args below meth c H locs 0 0 (MQ below (va_Qv (fun (u : va_W) => wF ty ad o2 = u) (kz_B D ty A) A) args s 0 0 A) (F0 m 48 ls [])) (q : dK) (x3 : Int32) (x5 : Int32) (x6 : Int32) (y0 : Int32) (H : Heap) (locs : List Loc) (ls : Array Slot) (h : zX3_askCases_s32_s20_c0_72 k36 k48 q x3 x5 x6 y0 = some o2) (hP : va_P D vwCl (wF ty ad q) H) (hD : va_D A (wF ty ad q)) (hS : va_S A s.heap H locs) (hl : lv_has ls 13 [(0, .ref (ad 32)), (1, .ref (ad 20)), (3, .int x3), (4, .ref (ad 36)), (5, .int x5), (6, .int x6)]) : W p l e ({ frames := 3, cells := 0, slots := 0, locals := 81 } : Room) s m args below meth c H locs 0 0 (MQ below (va_Qv (fun (u : va_W) => wF ty ad o2 = u) (kz_B D ty A) A) args s 0 0 A) (F0 m 72 ls [.int y0]) := by
  have C0 := C
  obtain ⟨hx, hb, hr, hts, hown, hlocks, hml, hK, hN, hE, hA⟩ := C
  unfold zX3_askCases_s32_s20_c0_72 at h
  refine lv_istore (lv' := [(7, .int y0), (0, .ref (ad 32)), (1, .ref (ad 20)), (3, .int x3), (4, .ref (ad 36)), (5, .int x5), (6, .int x6)]) hx hb dX3_askCases_72 hl (by decide) rfl (fun ls hl => ?_)
  refine lv_iload hx hb dX3_askCases_74 (lv_at hl 5 rfl) ?_
  refine lv_aload_n hx hb dX3_askCases_76 rfl (lv_at hl 1 rfl) ?_
  refine va_get (D := D) (ci := 3) (v := .int (q.1 32 13)) (C := RX3) (T := TX3) (N := 20) hx hb hts u9_wsX3_askCases_X3 hown hK hP 32 rfl rfl 13 (by decide) (hts (.fieldLink RX3 51 "TurnedFloors$Paper" "floors" "I") f9_wsX3_askCases_743) (fun _ h9 => h9) rfl dX3_askCases_77 ?_
  refine lv_icmp_ge (tgt := 92) hx hb dX3_askCases_80 (by decide) (fun c9 => ?_) (fun c9 => ?_)
  · rw [if_pos c9] at h
    refine lv_bipush (v := 6) hx hb dX3_askCases_92 (by decide) ?_
    exact WX3_askCases_s32_s20_c0_94 C0 hk36 hk48 _ _ _ _ _ _ _ _ _ h hP hD hS (lv_sub hl [1, 2, 3, 4, 5, 6, 0] rfl)
  · rw [if_neg c9] at h
    refine lv_aload_n hx hb dX3_askCases_83 rfl (lv_at hl 1 rfl) ?_
    refine va_get (D := D) (ci := 3) (v := .int (q.1 32 13)) (C := RX3) (T := TX3) (N := 20) hx hb hts u9_wsX3_askCases_X3 hown hK hP 32 rfl rfl 13 (by decide) (hts (.fieldLink RX3 51 "TurnedFloors$Paper" "floors" "I") f9_wsX3_askCases_743) (fun _ h9 => h9) rfl dX3_askCases_84 ?_
    refine lv_iconst (v := 1) hx hb dX3_askCases_87 (by decide) ?_
    refine lv_isub hx hb dX3_askCases_88 ?_
    refine lv_goto (tgt := 94) hx hb dX3_askCases_89 (by decide) ?_
    exact WX3_askCases_s32_s20_c0_94 C0 hk36 hk48 _ _ _ _ _ _ _ _ _ h hP hD hS (lv_sub hl [1, 2, 3, 4, 5, 6, 0] rfl)
set_option maxHeartbeats 4000000 in
set_option maxRecDepth 100000 in
theorem WX3_askCases_s32_s20_c0_48b {p : Program} {l : Launch} {e : Env} {s : State} {m : MethodId} {args : Array Value} {below : List Frame} {meth : Method} {c : Code} {D : va_G} {ty : Nat → ClassId} {eo : Nat → Nat} {A : Nat → Prop} {ad : Nat → Nat} {o2 : dK} (C : dc_C p s m args meth c cX3_askCases none 13 RX3 wsX3_askCases D ty eo A) {k36 : dK → Int32 → Int32 → Option (dK)} {k48 : dK → Int32 → Int32 → Int32 → Option (dK)} (hk36 : ∀ (q : dK) (x3 : Int32) (x5 : Int32) (H : Heap) (locs : List Loc) (ls : Array Slot), k36 q x3 x5 = some o2 → va_P D vwCl (wF ty ad q) H → va_D A (wF ty ad q) → va_S A s.heap H locs → lv_has ls 13 [(0, .ref (ad 32)), (1, .ref (ad 20)), (3, .int x3), (4, .ref (ad 36)), (5, .int x5)] → W p l e ({ frames := 3, cells := 0, slots := 0, locals := 81 } : Room) s m args below meth c H locs 0 0 (MQ below (va_Qv (fun (u : va_W) => wF ty ad o2 = u) (kz_B D ty A) A) args s 0 0 A) (F0 m 36 ls [])) (hk48 : ∀ (q : dK) (x3 : Int32) (x5 : Int32) (x6 : Int32) (H : Heap) (locs : List Loc) (ls : Array Slot), k48 q x3 x5 x6 = some o2 → va_P D vwCl (wF ty ad q) H → va_D A (wF ty ad q) → va_S A s.heap H locs → lv_has ls 13 [(0, .ref (ad 32)), (1, .ref (ad 20)), (3, .int x3), (4, .ref (ad 36)), (5, .int x5), (6, .int x6)] → W p l e ({ frames := 3, cells := 0, slots := 0, locals := 81 } : Room) s m args below meth c H locs 0 0 (MQ below (va_Qv (fun (u : va_W) => wF ty ad o2 = u) (kz_B D ty A) A) args s 0 0 A) (F0 m 48 ls [])) (q : dK) (x3 : Int32) (x5 : Int32) (x6 : Int32) (H : Heap) (locs : List Loc) (ls : Array Slot) (h : zX3_askCases_s32_s20_c0_48b k36 k48 q x3 x5 x6 = some o2) (hP : va_P D vwCl (wF ty ad q) H) (hD : va_D A (wF ty ad q)) (hS : va_S A s.heap H locs) (hl : lv_has ls 13 [(0, .ref (ad 32)), (1, .ref (ad 20)), (3, .int x3), (4, .ref (ad 36)), (5, .int x5), (6, .int x6)]) : W p l e ({ frames := 3, cells := 0, slots := 0, locals := 81 } : Room) s m args below meth c H locs 0 0 (MQ below (va_Qv (fun (u : va_W) => wF ty ad o2 = u) (kz_B D ty A) A) args s 0 0 A) (F0 m 48 ls []) := by
  have C0 := C
  obtain ⟨hx, hb, hr, hts, hown, hlocks, hml, hK, hN, hE, hA⟩ := C
  unfold zX3_askCases_s32_s20_c0_48b at h
  refine lv_iload hx hb dX3_askCases_48 (lv_at hl 5 rfl) ?_
  refine lv_aload_n hx hb dX3_askCases_50 rfl (lv_at hl 0 rfl) ?_
  refine va_get (D := D) (ci := 3) (v := .int (q.1 32 13)) (C := RX3) (T := TX3) (N := 20) hx hb hts u9_wsX3_askCases_X3 hown hK hP 32 rfl rfl 13 (by decide) (hts (.fieldLink RX3 51 "TurnedFloors$Paper" "floors" "I") f9_wsX3_askCases_743) (fun _ h9 => h9) rfl dX3_askCases_51 ?_
  refine lv_icmp_ge (tgt := 209) hx hb dX3_askCases_54 (by decide) (fun c9 => ?_) (fun c9 => ?_)
  · rw [if_pos c9] at h
    refine lv_iinc (v := x5 + 1) (lv' := [(5, .int (x5 + 1)), (0, .ref (ad 32)), (1, .ref (ad 20)), (3, .int x3), (4, .ref (ad 36)), (6, .int x6)]) hx hb dX3_askCases_209 hl (k := 4) rfl rfl (by decide) rfl (fun ls hl => ?_)
    refine lv_goto (tgt := 36) hx hb dX3_askCases_212 (by decide) ?_
    exact hk36 _ _ _ _ _ _ h hP hD hS (lv_sub hl [1, 2, 3, 4, 0] rfl)
  · rw [if_neg c9] at h
    refine lv_iload hx hb dX3_askCases_57 (lv_at hl 4 rfl) ?_
    refine lv_aload_n hx hb dX3_askCases_59 rfl (lv_at hl 0 rfl) ?_
    refine va_get (D := D) (ci := 3) (v := .int (q.1 32 13)) (C := RX3) (T := TX3) (N := 20) hx hb hts u9_wsX3_askCases_X3 hown hK hP 32 rfl rfl 13 (by decide) (hts (.fieldLink RX3 51 "TurnedFloors$Paper" "floors" "I") f9_wsX3_askCases_743) (fun _ h9 => h9) rfl dX3_askCases_60 ?_
    refine lv_icmp_ge (tgt := 70) hx hb dX3_askCases_63 (by decide) (fun c9 => ?_) (fun c9 => ?_)
    · rw [if_pos c9] at h
      refine lv_bipush (v := 6) hx hb dX3_askCases_70 (by decide) ?_
      exact WX3_askCases_s32_s20_c0_72 C0 hk36 hk48 _ _ _ _ _ _ _ _ h hP hD hS (lv_sub hl [0, 1, 2, 3, 4, 5] rfl)
    · rw [if_neg c9] at h
      refine lv_iconst (v := 0) hx hb dX3_askCases_66 (by decide) ?_
      refine lv_goto (tgt := 72) hx hb dX3_askCases_67 (by decide) ?_
      exact WX3_askCases_s32_s20_c0_72 C0 hk36 hk48 _ _ _ _ _ _ _ _ h hP hD hS (lv_sub hl [0, 1, 2, 3, 4, 5] rfl)
set_option maxHeartbeats 4000000 in
set_option maxRecDepth 100000 in
theorem WX3_askCases_s32_s20_c0_48 {p : Program} {l : Launch} {e : Env} {s : State} {m : MethodId} {args : Array Value} {below : List Frame} {meth : Method} {c : Code} {D : va_G} {ty : Nat → ClassId} {eo : Nat → Nat} {A : Nat → Prop} {ad : Nat → Nat} {o2 : dK} (C : dc_C p s m args meth c cX3_askCases none 13 RX3 wsX3_askCases D ty eo A) {k36 : dK → Int32 → Int32 → Option (dK)} (hk36 : ∀ (q : dK) (x3 : Int32) (x5 : Int32) (H : Heap) (locs : List Loc) (ls : Array Slot), k36 q x3 x5 = some o2 → va_P D vwCl (wF ty ad q) H → va_D A (wF ty ad q) → va_S A s.heap H locs → lv_has ls 13 [(0, .ref (ad 32)), (1, .ref (ad 20)), (3, .int x3), (4, .ref (ad 36)), (5, .int x5)] → W p l e ({ frames := 3, cells := 0, slots := 0, locals := 81 } : Room) s m args below meth c H locs 0 0 (MQ below (va_Qv (fun (u : va_W) => wF ty ad o2 = u) (kz_B D ty A) A) args s 0 0 A) (F0 m 36 ls [])) (n : Nat) (q : dK) (x3 : Int32) (x5 : Int32) (x6 : Int32) (H : Heap) (locs : List Loc) (ls : Array Slot) (h : zX3_askCases_s32_s20_c0_48 k36 n q x3 x5 x6 = some o2) (hP : va_P D vwCl (wF ty ad q) H) (hD : va_D A (wF ty ad q)) (hS : va_S A s.heap H locs) (hl : lv_has ls 13 [(0, .ref (ad 32)), (1, .ref (ad 20)), (3, .int x3), (4, .ref (ad 36)), (5, .int x5), (6, .int x6)]) : W p l e ({ frames := 3, cells := 0, slots := 0, locals := 81 } : Room) s m args below meth c H locs 0 0 (MQ below (va_Qv (fun (u : va_W) => wF ty ad o2 = u) (kz_B D ty A) A) args s 0 0 A) (F0 m 48 ls []) := by
  exact dFix_W (F := fun k (a : dK × Int32 × Int32 × Int32) => zX3_askCases_s32_s20_c0_48b k36 (fun q x3 x5 x6 => k (q, x3, x5, x6)) a.1 a.2.1 a.2.2.1 a.2.2.2) (o := o2) (P := fun (a : dK × Int32 × Int32 × Int32) H locs ls => va_P D vwCl (wF ty ad a.1) H ∧ va_D A (wF ty ad a.1) ∧ va_S A s.heap H locs ∧ lv_has ls 13 [(0, .ref (ad 32)), (1, .ref (ad 20)), (3, .int a.2.1), (4, .ref (ad 36)), (5, .int a.2.2.1), (6, .int a.2.2.2)]) (G := fun H locs ls => W p l e ({ frames := 3, cells := 0, slots := 0, locals := 81 } : Room) s m args below meth c H locs 0 0 (MQ below (va_Qv (fun (u : va_W) => wF ty ad o2 = u) (kz_B D ty A) A) args s 0 0 A) (F0 m 48 ls []))
    (fun k hk a H locs ls h hp => WX3_askCases_s32_s20_c0_48b C hk36 (fun q x3 x5 x6 H locs ls h h1 h2 h3 h4 => hk (q, x3, x5, x6) H locs ls h ⟨h1, h2, h3, h4⟩) a.1 a.2.1 a.2.2.1 a.2.2.2 H locs ls h hp.1 hp.2.1 hp.2.2.1 hp.2.2.2) n (q, x3, x5, x6) H locs ls h ⟨hP, hD, hS, hl⟩
set_option maxHeartbeats 4000000 in
set_option maxRecDepth 100000 in
theorem WX3_askCases_s32_s20_c0_36b {p : Program} {l : Launch} {e : Env} {s : State} {m : MethodId} {args : Array Value} {below : List Frame} {meth : Method} {c : Code} {D : va_G} {ty : Nat → ClassId} {eo : Nat → Nat} {A : Nat → Prop} {ad : Nat → Nat} {o2 : dK} (C : dc_C p s m args meth c cX3_askCases none 13 RX3 wsX3_askCases D ty eo A) {k36 : dK → Int32 → Int32 → Option (dK)} (hk36 : ∀ (q : dK) (x3 : Int32) (x5 : Int32) (H : Heap) (locs : List Loc) (ls : Array Slot), k36 q x3 x5 = some o2 → va_P D vwCl (wF ty ad q) H → va_D A (wF ty ad q) → va_S A s.heap H locs → lv_has ls 13 [(0, .ref (ad 32)), (1, .ref (ad 20)), (3, .int x3), (4, .ref (ad 36)), (5, .int x5)] → W p l e ({ frames := 3, cells := 0, slots := 0, locals := 81 } : Room) s m args below meth c H locs 0 0 (MQ below (va_Qv (fun (u : va_W) => wF ty ad o2 = u) (kz_B D ty A) A) args s 0 0 A) (F0 m 36 ls [])) (q : dK) (x3 : Int32) (x5 : Int32) (H : Heap) (locs : List Loc) (ls : Array Slot) (h : zX3_askCases_s32_s20_c0_36b k36 q x3 x5 = some o2) (hP : va_P D vwCl (wF ty ad q) H) (hD : va_D A (wF ty ad q)) (hS : va_S A s.heap H locs) (hl : lv_has ls 13 [(0, .ref (ad 32)), (1, .ref (ad 20)), (3, .int x3), (4, .ref (ad 36)), (5, .int x5)]) : W p l e ({ frames := 3, cells := 0, slots := 0, locals := 81 } : Room) s m args below meth c H locs 0 0 (MQ below (va_Qv (fun (u : va_W) => wF ty ad o2 = u) (kz_B D ty A) A) args s 0 0 A) (F0 m 36 ls []) := by
  have C0 := C
  obtain ⟨hx, hb, hr, hts, hown, hlocks, hml, hK, hN, hE, hA⟩ := C
  unfold zX3_askCases_s32_s20_c0_36b at h
  refine lv_iload hx hb dX3_askCases_36 (lv_at hl 4 rfl) ?_
  refine lv_aload_n hx hb dX3_askCases_38 rfl (lv_at hl 0 rfl) ?_
  refine va_get (D := D) (ci := 3) (v := .int (q.1 32 13)) (C := RX3) (T := TX3) (N := 20) hx hb hts u9_wsX3_askCases_X3 hown hK hP 32 rfl rfl 13 (by decide) (hts (.fieldLink RX3 51 "TurnedFloors$Paper" "floors" "I") f9_wsX3_askCases_743) (fun _ h9 => h9) rfl dX3_askCases_39 ?_
  refine lv_icmp_gt (tgt := 215) hx hb dX3_askCases_42 (by decide) (fun c9 => ?_) (fun c9 => ?_)
  · rw [if_pos c9] at h
    cases h
    exact kz_vret hx hb hr hlocks hP hK hD hS dX3_askCases_215 rfl
  · rw [if_neg c9] at h
    refine lv_iconst (v := 0) hx hb dX3_askCases_45 (by decide) ?_
    refine lv_istore (lv' := [(6, .int 0), (0, .ref (ad 32)), (1, .ref (ad 20)), (3, .int x3), (4, .ref (ad 36)), (5, .int x5)]) hx hb dX3_askCases_46 hl (by decide) rfl (fun ls hl => ?_)
    exact WX3_askCases_s32_s20_c0_48 C0 hk36 _ _ _ _ _ _ _ _ h hP hD hS (lv_sub hl [1, 2, 3, 4, 5, 0] rfl)
set_option maxHeartbeats 4000000 in
set_option maxRecDepth 100000 in
theorem WX3_askCases_s32_s20_c0_36 {p : Program} {l : Launch} {e : Env} {s : State} {m : MethodId} {args : Array Value} {below : List Frame} {meth : Method} {c : Code} {D : va_G} {ty : Nat → ClassId} {eo : Nat → Nat} {A : Nat → Prop} {ad : Nat → Nat} {o2 : dK} (C : dc_C p s m args meth c cX3_askCases none 13 RX3 wsX3_askCases D ty eo A)   (n : Nat) (q : dK) (x3 : Int32) (x5 : Int32) (H : Heap) (locs : List Loc) (ls : Array Slot) (h : zX3_askCases_s32_s20_c0_36  n q x3 x5 = some o2) (hP : va_P D vwCl (wF ty ad q) H) (hD : va_D A (wF ty ad q)) (hS : va_S A s.heap H locs) (hl : lv_has ls 13 [(0, .ref (ad 32)), (1, .ref (ad 20)), (3, .int x3), (4, .ref (ad 36)), (5, .int x5)]) : W p l e ({ frames := 3, cells := 0, slots := 0, locals := 81 } : Room) s m args below meth c H locs 0 0 (MQ below (va_Qv (fun (u : va_W) => wF ty ad o2 = u) (kz_B D ty A) A) args s 0 0 A) (F0 m 36 ls []) := by
  exact dFix_W (F := fun k (a : dK × Int32 × Int32) => zX3_askCases_s32_s20_c0_36b  (fun q x3 x5 => k (q, x3, x5)) a.1 a.2.1 a.2.2) (o := o2) (P := fun (a : dK × Int32 × Int32) H locs ls => va_P D vwCl (wF ty ad a.1) H ∧ va_D A (wF ty ad a.1) ∧ va_S A s.heap H locs ∧ lv_has ls 13 [(0, .ref (ad 32)), (1, .ref (ad 20)), (3, .int a.2.1), (4, .ref (ad 36)), (5, .int a.2.2)]) (G := fun H locs ls => W p l e ({ frames := 3, cells := 0, slots := 0, locals := 81 } : Room) s m args below meth c H locs 0 0 (MQ below (va_Qv (fun (u : va_W) => wF ty ad o2 = u) (kz_B D ty A) A) args s 0 0 A) (F0 m 36 ls []))
    (fun k hk a H locs ls h hp => WX3_askCases_s32_s20_c0_36b C  (fun q x3 x5 H locs ls h h1 h2 h3 h4 => hk (q, x3, x5) H locs ls h ⟨h1, h2, h3, h4⟩) a.1 a.2.1 a.2.2 H locs ls h hp.1 hp.2.1 hp.2.2.1 hp.2.2.2) n (q, x3, x5) H locs ls h ⟨hP, hD, hS, hl⟩
set_option maxHeartbeats 4000000 in
set_option maxRecDepth 100000 in
theorem WX3_askCases_s32_s20_c0_16 {p : Program} {l : Launch} {e : Env} {s : State} {m : MethodId} {args : Array Value} {below : List Frame} {meth : Method} {c : Code} {D : va_G} {ty : Nat → ClassId} {eo : Nat → Nat} {A : Nat → Prop} {ad : Nat → Nat} {o2 : dK} (C : dc_C p s m args meth c cX3_askCases none 13 RX3 wsX3_askCases D ty eo A)   (q : dK) (x2 : Int32) (x3 : Int32) (H : Heap) (locs : List Loc) (ls : Array Slot) (h : zX3_askCases_s32_s20_c0_16  q x2 x3 = some o2) (hP : va_P D vwCl (wF ty ad q) H) (hD : va_D A (wF ty ad q)) (hS : va_S A s.heap H locs) (hl : lv_has ls 13 [(0, .ref (ad 32)), (1, .ref (ad 20)), (2, .int x2), (3, .int x3)]) : W p l e ({ frames := 3, cells := 0, slots := 0, locals := 81 } : Room) s m args below meth c H locs 0 0 (MQ below (va_Qv (fun (u : va_W) => wF ty ad o2 = u) (kz_B D ty A) A) args s 0 0 A) (F0 m 16 ls [.ref (ad 36)]) := by
  have C0 := C
  obtain ⟨hx, hb, hr, hts, hown, hlocks, hml, hK, hN, hE, hA⟩ := C
  unfold zX3_askCases_s32_s20_c0_16 at h
  refine lv_astore (lv' := [(4, .ref (ad 36)), (0, .ref (ad 32)), (1, .ref (ad 20)), (2, .int x2), (3, .int x3)]) hx hb dX3_askCases_16 hl (by decide) rfl (fun ls hl => ?_)
  refine lv_aload hx hb dX3_askCases_18 (lv_at hl 0 rfl) ?_
  refine lv_iconst (v := 0) hx hb dX3_askCases_20 (by decide) ?_
  refine dw_kv1 (j := 36) rfl (va_runS (As := [.ref (ad 36), .int 0]) (rest := []) ⟨hx, hb, hml, hown, hts⟩ (cJ7_fillI l D ty eo _ (ad 36) 504 _ 0 (by decide)) (va_cwS 2 hts gX3_askCases_J7_fill_53178 rfl rfl rfl hd_J7_fill_53178 ⟨Nat.le_of_ble_eq_true rfl, Nat.le_of_ble_eq_true rfl⟩) (kz_preS hK hN hE hP hD hS hA [36] (by decide) rfl) rfl rfl hl.1 rfl (lv_room (Nat.le_of_ble_eq_true rfl)) dX3_askCases_21 ⟨Nat.le_of_ble_eq_true rfl, Nat.le_of_ble_eq_true rfl⟩) hP hD hS hA (fun u9 h9 => h9.symm) (fun H locs hp hd hs => ?_)
  obtain ⟨q1, eq1, h⟩ := dL_some h
  refine kz_re (w2 := wF ty ad q1) hp hd hs (by rw [← eq1]; exact rfl) ?_
  clear hp hd hs hP hD hS
  intro hP hD hS
  refine lv_aload_n hx hb dX3_askCases_24 rfl (lv_at hl 2 rfl) ?_
  refine lv_aload_n hx hb dX3_askCases_25 rfl (lv_at hl 1 rfl) ?_
  refine va_get (D := D) (ci := 3) (v := .int (q1.1 32 13)) (C := RX3) (T := TX3) (N := 20) hx hb hts u9_wsX3_askCases_X3 hown hK hP 32 rfl rfl 13 (by decide) (hts (.fieldLink RX3 51 "TurnedFloors$Paper" "floors" "I") f9_wsX3_askCases_743) (fun _ h9 => h9) rfl dX3_askCases_26 ?_
  refine lv_iload_n hx hb dX3_askCases_29 rfl (lv_at hl 3 rfl) ?_
  obtain ⟨q4, h3, h⟩ := dV_some h
  refine dw_kv (va_runV (As := [.int (q1.1 32 13), .int x2]) (rest := []) ⟨hx, hb, hml, hown, hts⟩ (qX1_setCommon_s20 l D ty eo _ ad q1 (q1.1 32 13) x2 q4 h3) (cwV 2 hts gX3_askCases_X1_setCommon rfl rfl rfl hd_X1_setCommon_v ⟨Nat.le_of_ble_eq_true rfl, Nat.le_of_ble_eq_true rfl⟩) (pvF_1_20 hK hN hE hP hD hS hA) rfl rfl hl.1 rfl (lv_room (Nat.le_of_ble_eq_true rfl)) dX3_askCases_30 ⟨Nat.le_of_ble_eq_true rfl, Nat.le_of_ble_eq_true rfl⟩) hD hS hA (fun u9 H locs hw hp hd hs => ?_)
  clear hP hD hS
  obtain rfl := hw
  have hP := hp; have hD := hd; have hS := hs; clear hp hd hs
  refine lv_iconst (v := 1) hx hb dX3_askCases_33 (by decide) ?_
  refine lv_istore (lv' := [(5, .int 1), (4, .ref (ad 36)), (0, .ref (ad 32)), (1, .ref (ad 20)), (2, .int x2), (3, .int x3)]) hx hb dX3_askCases_34 hl (by decide) rfl (fun ls hl => ?_)
  exact WX3_askCases_s32_s20_c0_36 C0  _ _ _ _ _ _ _ h hP hD hS (lv_sub hl [2, 3, 5, 1, 0] rfl)
set_option maxHeartbeats 4000000 in
set_option maxRecDepth 100000 in
theorem qX3_askCases_s32_s20_c0 (l : Launch) (D : va_G) (ty : Nat → ClassId) (eo : Nat → Nat) (sz : Nat) (ad : Nat → Nat) (q : dK) (p2 : Int32) (o2 : dK) (h : zX3_askCases_s32_s20_c0 q p2 = some o2) : Met l yX3_askCases wsX3_askCases ({ frames := 3, cells := 0, slots := 0, locals := 81 } : Room) (va_Pc [.ref (ad 32), .ref (ad 20), .int p2, .int 0] (kz_pre D ty eo (wF ty ad q) sz)) (va_Qv (fun (u : va_W) => wF ty ad o2 = u) (kz_B D ty (va_A (wF ty ad q) sz)) (va_A (wF ty ad q) sz)) 0 0 (va_A (wF ty ad q) sz) := by
  refine Met.ofW (cc := cX3_askCases) (maxL := 13) (ret := none) (by decide) rfl ?_
  intro p e s m args below meth c s₁ B hml hv
  obtain ⟨rfl, hsz, hP, hK, hD0, hN, hE⟩ := hv
  have hx := B.exec
  have hb := B.bytes
  have hr := B.returns
  have hts := atoms_spec (ws := wsX3_askCases) B.pre
  have hown : s.vm.findClass RX3 = some m.cls := findClass_of_methodNamed B.named
  have hlocks := B.notSynchronized
  subst hsz
  have hD := hD0.self (sz := s.heap.size)
  generalize hAe : va_A (wF ty ad q) s.heap.size = A at hD hE ⊢
  have hA : ∀ q : Nat, s.heap.size ≤ q → A q := fun q h => by rw [← hAe]; exact Or.inr h
  clear hAe
  have hS : va_S A s.heap s.heap [] := va_S.rf
  have hl := lv_entry ([.ref (ad 32), .ref (ad 20), .int p2, .int 0]) (n := 13) (Nat.le_of_ble_eq_true rfl)
  rw [lg_entry_eq]
  generalize (lg_sl ([.ref (ad 32), .ref (ad 20), .int p2, .int 0]) ++ List.replicate (13 - (lg_sl ([.ref (ad 32), .ref (ad 20), .int p2, .int 0])).length) Slot.unset).toArray = ls at hl ⊢
  have hl : lv_has ls 13 [(0, .ref (ad 32)), (1, .ref (ad 20)), (2, .int p2), (3, .int 0)] := hl
  have C : dc_C p s m _ meth c cX3_askCases none 13 RX3 wsX3_askCases D ty eo A := ⟨hx, hb, hr, hts, hown, hlocks, hml, hK, hN, hE, hA⟩
  unfold zX3_askCases_s32_s20_c0 at h
  refine lv_iload_n hx hb dX3_askCases_0 rfl (lv_at hl 3 rfl) ?_
  refine lv_iconst (v := 1) hx hb dX3_askCases_1 (by decide) ?_
  refine lv_icmp_ne (tgt := 12) hx hb dX3_askCases_2 (by decide) (fun _ => ?_) (fun h9 => absurd h9 (by decide))
  refine lv_aload_n hx hb dX3_askCases_12 rfl (lv_at hl 0 rfl) ?_
  refine va_get (D := D) (ci := 3) (v := .ref (ad 36)) (C := RX3) (T := TX3) (N := 20) hx hb hts u9_wsX3_askCases_X3 hown hK hP 32 rfl rfl 3 (by decide) (hts (.fieldLink RX3 21 "TurnedFloors$Paper" "pays" "[I") f9_wsX3_askCases_821) (fun _ h9 => h9) rfl dX3_askCases_13 ?_
  exact WX3_askCases_s32_s20_c0_16 C  _ _ _ _ _ _ h hP hD hS (lv_sub hl [0, 1, 2, 3] rfl)

set_option maxHeartbeats 4000000 in
set_option maxRecDepth 100000 in
theorem WX3_putInBucket_s32_51 {p : Program} {l : Launch} {e : Env} {s : State} {m : MethodId} {args : Array Value} {below : List Frame} {meth : Method} {c : Code} {D : va_G} {ty : Nat → ClassId} {eo : Nat → Nat} {A : Nat → Prop} {ad : Nat → Nat} {o2 : dK} (C : dc_C p s m args meth c cX3_putInBucket none 3 RX3 wsX3_putInBucket D ty eo A)   (q : dK) (x1 : Int32) (x2 : Int32) (H : Heap) (locs : List Loc) (ls : Array Slot) (h : zX3_putInBucket_s32_51  q x1 x2 = some o2) (hP : va_P D vwCl (wF ty ad q) H) (hD : va_D A (wF ty ad q)) (hS : va_S A s.heap H locs) (hl : lv_has ls 3 [(0, .ref (ad 32)), (1, .int x1), (2, .int x2)]) : W p l e ({ frames := 0, cells := 0, slots := 0, locals := 0 } : Room) s m args below meth c H locs 0 0 (MQ below (va_Qv (fun (u : va_W) => wF ty ad o2 = u) (kz_B D ty A) A) args s 0 0 A) (F0 m 51 ls []) := by
  have C0 := C
  obtain ⟨hx, hb, hr, hts, hown, hlocks, hml, hK, hN, hE, hA⟩ := C
  unfold zX3_putInBucket_s32_51 at h
  refine lv_aload_n hx hb dX3_putInBucket_51 rfl (lv_at hl 0 rfl) ?_
  refine va_get (D := D) (ci := 3) (v := .ref (ad 38)) (C := RX3) (T := TX3) (N := 20) hx hb hts u9_wsX3_putInBucket_X3 hown hK hP 32 rfl rfl 5 (by decide) (hts (.fieldLink RX3 27 "TurnedFloors$Paper" "buckets" "[I") f9_wsX3_putInBucket_823) (fun _ h9 => h9) rfl dX3_putInBucket_52 ?_
  refine lv_iload_n hx hb dX3_putInBucket_55 rfl (lv_at hl 2 rfl) ?_
  refine lv_iload_n hx hb dX3_putInBucket_56 rfl (lv_at hl 1 rfl) ?_
  obtain ⟨g1, h⟩ := dG_some h
  refine va_iast hx hb hK hP hD hS 38 0 rfl rfl (dg_in g1) dX3_putInBucket_57 (fun H locs hp hd hs => ?_)
  obtain ⟨q2, eq2, h⟩ := dL_some h
  refine kz_re (w2 := wF ty ad q2) hp hd hs (by rw [← eq2]; exact wF_a38 ty ad q (Int32.toNatClampNeg x2) x1) ?_
  clear hp hd hs hP hD hS
  intro hP hD hS
  cases h
  exact kz_vret hx hb hr hlocks hP hK hD hS dX3_putInBucket_58 rfl
set_option maxHeartbeats 4000000 in
set_option maxRecDepth 100000 in
theorem qX3_putInBucket_s32 (l : Launch) (D : va_G) (ty : Nat → ClassId) (eo : Nat → Nat) (sz : Nat) (ad : Nat → Nat) (q : dK) (p1 : Int32) (o2 : dK) (h : zX3_putInBucket_s32 q p1 = some o2) : Met l yX3_putInBucket wsX3_putInBucket ({ frames := 0, cells := 0, slots := 0, locals := 0 } : Room) (va_Pc [.ref (ad 32), .int p1] (kz_pre D ty eo (wF ty ad q) sz)) (va_Qv (fun (u : va_W) => wF ty ad o2 = u) (kz_B D ty (va_A (wF ty ad q) sz)) (va_A (wF ty ad q) sz)) 0 0 (va_A (wF ty ad q) sz) := by
  refine Met.ofW (cc := cX3_putInBucket) (maxL := 3) (ret := none) (by decide) rfl ?_
  intro p e s m args below meth c s₁ B hml hv
  obtain ⟨rfl, hsz, hP, hK, hD0, hN, hE⟩ := hv
  have hx := B.exec
  have hb := B.bytes
  have hr := B.returns
  have hts := atoms_spec (ws := wsX3_putInBucket) B.pre
  have hown : s.vm.findClass RX3 = some m.cls := findClass_of_methodNamed B.named
  have hlocks := B.notSynchronized
  subst hsz
  have hD := hD0.self (sz := s.heap.size)
  generalize hAe : va_A (wF ty ad q) s.heap.size = A at hD hE ⊢
  have hA : ∀ q : Nat, s.heap.size ≤ q → A q := fun q h => by rw [← hAe]; exact Or.inr h
  clear hAe
  have hS : va_S A s.heap s.heap [] := va_S.rf
  have hl := lv_entry ([.ref (ad 32), .int p1]) (n := 3) (Nat.le_of_ble_eq_true rfl)
  rw [lg_entry_eq]
  generalize (lg_sl ([.ref (ad 32), .int p1]) ++ List.replicate (3 - (lg_sl ([.ref (ad 32), .int p1])).length) Slot.unset).toArray = ls at hl ⊢
  have hl : lv_has ls 3 [(0, .ref (ad 32)), (1, .int p1)] := hl
  have C : dc_C p s m _ meth c cX3_putInBucket none 3 RX3 wsX3_putInBucket D ty eo A := ⟨hx, hb, hr, hts, hown, hlocks, hml, hK, hN, hE, hA⟩
  unfold zX3_putInBucket_s32 at h
  refine lv_aload_n hx hb dX3_putInBucket_0 rfl (lv_at hl 0 rfl) ?_
  refine va_get (D := D) (ci := 3) (v := .ref (ad 43)) (C := RX3) (T := TX3) (N := 20) hx hb hts u9_wsX3_putInBucket_X3 hown hK hP 32 rfl rfl 10 (by decide) (hts (.fieldLink RX3 42 "TurnedFloors$Paper" "marks" "[I") f9_wsX3_putInBucket_824) (fun _ h9 => h9) rfl dX3_putInBucket_1 ?_
  refine lv_iload_n hx hb dX3_putInBucket_4 rfl (lv_at hl 1 rfl) ?_
  obtain ⟨g1, h⟩ := dG_some h
  refine va_iald hx hb hK hP 43 0 rfl rfl (dg_in g1) dX3_putInBucket_5 ?_
  obtain ⟨v2, ev2, h⟩ := dL_some h
  refine kz_topi v2 ev2 ?_
  refine lv_bipush (v := 100) hx hb dX3_putInBucket_6 (by decide) ?_
  refine lv_irem hx hb dX3_putInBucket_8 (by decide) ?_
  refine lv_istore_n (lv' := [(2, .int (v2 - v2 / 100 * 100 : Int32)), (0, .ref (ad 32)), (1, .int p1)]) hx hb dX3_putInBucket_9 rfl hl (by decide) rfl (fun ls hl => ?_)
  refine lv_aload_n hx hb dX3_putInBucket_10 rfl (lv_at hl 1 rfl) ?_
  refine va_get (D := D) (ci := 3) (v := .ref (ad 44)) (C := RX3) (T := TX3) (N := 20) hx hb hts u9_wsX3_putInBucket_X3 hown hK hP 32 rfl rfl 11 (by decide) (hts (.fieldLink RX3 45 "TurnedFloors$Paper" "line" "[I") f9_wsX3_putInBucket_825) (fun _ h9 => h9) rfl dX3_putInBucket_11 ?_
  refine lv_iload_n hx hb dX3_putInBucket_14 rfl (lv_at hl 2 rfl) ?_
  refine lv_aload_n hx hb dX3_putInBucket_15 rfl (lv_at hl 1 rfl) ?_
  refine va_get (D := D) (ci := 3) (v := .ref (ad 38)) (C := RX3) (T := TX3) (N := 20) hx hb hts u9_wsX3_putInBucket_X3 hown hK hP 32 rfl rfl 5 (by decide) (hts (.fieldLink RX3 27 "TurnedFloors$Paper" "buckets" "[I") f9_wsX3_putInBucket_823) (fun _ h9 => h9) rfl dX3_putInBucket_16 ?_
  refine lv_iload_n hx hb dX3_putInBucket_19 rfl (lv_at hl 0 rfl) ?_
  obtain ⟨g3, h⟩ := dG_some h
  refine va_iald hx hb hK hP 38 0 rfl rfl (dg_in g3) dX3_putInBucket_20 ?_
  obtain ⟨v4, ev4, h⟩ := dL_some h
  refine kz_topi v4 ev4 ?_
  obtain ⟨g5, h⟩ := dG_some h
  refine va_iast hx hb hK hP hD hS 44 0 rfl rfl (dg_in g5) dX3_putInBucket_21 (fun H locs hp hd hs => ?_)
  obtain ⟨q6, eq6, h⟩ := dL_some h
  refine kz_re (w2 := wF ty ad q6) hp hd hs (by rw [← eq6]; exact wF_a44 ty ad q (Int32.toNatClampNeg p1) v4) ?_
  clear hp hd hs hP hD hS
  intro hP hD hS
  refine lv_aload_n hx hb dX3_putInBucket_22 rfl (lv_at hl 1 rfl) ?_
  refine va_get (D := D) (ci := 3) (v := .ref (ad 45)) (C := RX3) (T := TX3) (N := 20) hx hb hts u9_wsX3_putInBucket_X3 hown hK hP 32 rfl rfl 12 (by decide) (hts (.fieldLink RX3 48 "TurnedFloors$Paper" "links" "[I") f9_wsX3_putInBucket_826) (fun _ h9 => h9) rfl dX3_putInBucket_23 ?_
  refine lv_iload_n hx hb dX3_putInBucket_26 rfl (lv_at hl 2 rfl) ?_
  refine lv_iconst (v := (-1)) hx hb dX3_putInBucket_27 (by decide) ?_
  obtain ⟨g7, h⟩ := dG_some h
  refine va_iast hx hb hK hP hD hS 45 0 rfl rfl (dg_in g7) dX3_putInBucket_28 (fun H locs hp hd hs => ?_)
  obtain ⟨q8, eq8, h⟩ := dL_some h
  refine kz_re (w2 := wF ty ad q8) hp hd hs (by rw [← eq8]; exact wF_a45 ty ad q6 (Int32.toNatClampNeg p1) (-1)) ?_
  clear hp hd hs hP hD hS
  intro hP hD hS
  refine lv_aload_n hx hb dX3_putInBucket_29 rfl (lv_at hl 1 rfl) ?_
  refine va_get (D := D) (ci := 3) (v := .ref (ad 44)) (C := RX3) (T := TX3) (N := 20) hx hb hts u9_wsX3_putInBucket_X3 hown hK hP 32 rfl rfl 11 (by decide) (hts (.fieldLink RX3 45 "TurnedFloors$Paper" "line" "[I") f9_wsX3_putInBucket_825) (fun _ h9 => h9) rfl dX3_putInBucket_30 ?_
  refine lv_iload_n hx hb dX3_putInBucket_33 rfl (lv_at hl 2 rfl) ?_
  obtain ⟨g9, h⟩ := dG_some h
  refine va_iald hx hb hK hP 44 0 rfl rfl (dg_in g9) dX3_putInBucket_34 ?_
  obtain ⟨v10, ev10, h⟩ := dL_some h
  refine kz_topi v10 ev10 ?_
  refine lv_iconst (v := (-1)) hx hb dX3_putInBucket_35 (by decide) ?_
  refine lv_icmp_eq (tgt := 51) hx hb dX3_putInBucket_36 (by decide) (fun c9 => ?_) (fun c9 => ?_)
  · rw [if_pos c9] at h
    exact WX3_putInBucket_s32_51 C  _ _ _ _ _ _ h hP hD hS (lv_sub hl [1, 2, 0] rfl)
  · rw [if_neg c9] at h
    refine lv_aload_n hx hb dX3_putInBucket_39 rfl (lv_at hl 1 rfl) ?_
    refine va_get (D := D) (ci := 3) (v := .ref (ad 45)) (C := RX3) (T := TX3) (N := 20) hx hb hts u9_wsX3_putInBucket_X3 hown hK hP 32 rfl rfl 12 (by decide) (hts (.fieldLink RX3 48 "TurnedFloors$Paper" "links" "[I") f9_wsX3_putInBucket_826) (fun _ h9 => h9) rfl dX3_putInBucket_40 ?_
    refine lv_aload_n hx hb dX3_putInBucket_43 rfl (lv_at hl 1 rfl) ?_
    refine va_get (D := D) (ci := 3) (v := .ref (ad 44)) (C := RX3) (T := TX3) (N := 20) hx hb hts u9_wsX3_putInBucket_X3 hown hK hP 32 rfl rfl 11 (by decide) (hts (.fieldLink RX3 45 "TurnedFloors$Paper" "line" "[I") f9_wsX3_putInBucket_825) (fun _ h9 => h9) rfl dX3_putInBucket_44 ?_
    refine lv_iload_n hx hb dX3_putInBucket_47 rfl (lv_at hl 2 rfl) ?_
    obtain ⟨g11, h⟩ := dG_some h
    refine va_iald hx hb hK hP 44 0 rfl rfl (dg_in g11) dX3_putInBucket_48 ?_
    obtain ⟨v12, ev12, h⟩ := dL_some h
    refine kz_topi v12 ev12 ?_
    refine lv_iload_n hx hb dX3_putInBucket_49 rfl (lv_at hl 2 rfl) ?_
    obtain ⟨g13, h⟩ := dG_some h
    refine va_iast hx hb hK hP hD hS 45 0 rfl rfl (dg_in g13) dX3_putInBucket_50 (fun H locs hp hd hs => ?_)
    obtain ⟨q14, eq14, h⟩ := dL_some h
    refine kz_re (w2 := wF ty ad q14) hp hd hs (by rw [← eq14]; exact wF_a45 ty ad q8 (Int32.toNatClampNeg v12) p1) ?_
    clear hp hd hs hP hD hS
    intro hP hD hS
    exact WX3_putInBucket_s32_51 C  _ _ _ _ _ _ h hP hD hS (lv_sub hl [1, 2, 0] rfl)

set_option maxHeartbeats 4000000 in
set_option maxRecDepth 100000 in
theorem WX3_takeFromBucket_s32_77 {p : Program} {l : Launch} {e : Env} {s : State} {m : MethodId} {args : Array Value} {below : List Frame} {meth : Method} {c : Code} {D : va_G} {ty : Nat → ClassId} {eo : Nat → Nat} {A : Nat → Prop} {ad : Nat → Nat} {o2 : dK} (C : dc_C p s m args meth c cX3_takeFromBucket none 2 RX3 wsX3_takeFromBucket D ty eo A)   (q : dK)  (H : Heap) (locs : List Loc) (ls : Array Slot) (h : zX3_takeFromBucket_s32_77  q = some o2) (hP : va_P D vwCl (wF ty ad q) H) (hD : va_D A (wF ty ad q)) (hS : va_S A s.heap H locs) (hl : lv_has ls 2 []) : W p l e ({ frames := 0, cells := 0, slots := 0, locals := 0 } : Room) s m args below meth c H locs 0 0 (MQ below (va_Qv (fun (u : va_W) => wF ty ad o2 = u) (kz_B D ty A) A) args s 0 0 A) (F0 m 77 ls []) := by
  have C0 := C
  obtain ⟨hx, hb, hr, hts, hown, hlocks, hml, hK, hN, hE, hA⟩ := C
  unfold zX3_takeFromBucket_s32_77 at h
  cases h
  exact kz_vret hx hb hr hlocks hP hK hD hS dX3_takeFromBucket_77 rfl
set_option maxHeartbeats 4000000 in
set_option maxRecDepth 100000 in
theorem WX3_takeFromBucket_s32_50 {p : Program} {l : Launch} {e : Env} {s : State} {m : MethodId} {args : Array Value} {below : List Frame} {meth : Method} {c : Code} {D : va_G} {ty : Nat → ClassId} {eo : Nat → Nat} {A : Nat → Prop} {ad : Nat → Nat} {o2 : dK} (C : dc_C p s m args meth c cX3_takeFromBucket none 2 RX3 wsX3_takeFromBucket D ty eo A)   (q : dK) (x1 : Int32) (H : Heap) (locs : List Loc) (ls : Array Slot) (h : zX3_takeFromBucket_s32_50  q x1 = some o2) (hP : va_P D vwCl (wF ty ad q) H) (hD : va_D A (wF ty ad q)) (hS : va_S A s.heap H locs) (hl : lv_has ls 2 [(0, .ref (ad 32)), (1, .int x1)]) : W p l e ({ frames := 0, cells := 0, slots := 0, locals := 0 } : Room) s m args below meth c H locs 0 0 (MQ below (va_Qv (fun (u : va_W) => wF ty ad o2 = u) (kz_B D ty A) A) args s 0 0 A) (F0 m 50 ls []) := by
  have C0 := C
  obtain ⟨hx, hb, hr, hts, hown, hlocks, hml, hK, hN, hE, hA⟩ := C
  unfold zX3_takeFromBucket_s32_50 at h
  refine lv_aload_n hx hb dX3_takeFromBucket_50 rfl (lv_at hl 0 rfl) ?_
  refine va_get (D := D) (ci := 3) (v := .ref (ad 44)) (C := RX3) (T := TX3) (N := 20) hx hb hts u9_wsX3_takeFromBucket_X3 hown hK hP 32 rfl rfl 11 (by decide) (hts (.fieldLink RX3 45 "TurnedFloors$Paper" "line" "[I") f9_wsX3_takeFromBucket_828) (fun _ h9 => h9) rfl dX3_takeFromBucket_51 ?_
  refine lv_iload_n hx hb dX3_takeFromBucket_54 rfl (lv_at hl 1 rfl) ?_
  obtain ⟨g1, h⟩ := dG_some h
  refine va_iald hx hb hK hP 44 0 rfl rfl (dg_in g1) dX3_takeFromBucket_55 ?_
  obtain ⟨v2, ev2, h⟩ := dL_some h
  refine kz_topi v2 ev2 ?_
  refine lv_iconst (v := (-1)) hx hb dX3_takeFromBucket_56 (by decide) ?_
  refine lv_icmp_eq (tgt := 77) hx hb dX3_takeFromBucket_57 (by decide) (fun c9 => ?_) (fun c9 => ?_)
  · rw [if_pos c9] at h
    exact WX3_takeFromBucket_s32_77 C0  _ _ _ _ h hP hD hS (lv_sub hl [] rfl)
  · rw [if_neg c9] at h
    refine lv_aload_n hx hb dX3_takeFromBucket_60 rfl (lv_at hl 0 rfl) ?_
    refine va_get (D := D) (ci := 3) (v := .ref (ad 45)) (C := RX3) (T := TX3) (N := 20) hx hb hts u9_wsX3_takeFromBucket_X3 hown hK hP 32 rfl rfl 12 (by decide) (hts (.fieldLink RX3 48 "TurnedFloors$Paper" "links" "[I") f9_wsX3_takeFromBucket_829) (fun _ h9 => h9) rfl dX3_takeFromBucket_61 ?_
    refine lv_aload_n hx hb dX3_takeFromBucket_64 rfl (lv_at hl 0 rfl) ?_
    refine va_get (D := D) (ci := 3) (v := .ref (ad 44)) (C := RX3) (T := TX3) (N := 20) hx hb hts u9_wsX3_takeFromBucket_X3 hown hK hP 32 rfl rfl 11 (by decide) (hts (.fieldLink RX3 45 "TurnedFloors$Paper" "line" "[I") f9_wsX3_takeFromBucket_828) (fun _ h9 => h9) rfl dX3_takeFromBucket_65 ?_
    refine lv_iload_n hx hb dX3_takeFromBucket_68 rfl (lv_at hl 1 rfl) ?_
    obtain ⟨g3, h⟩ := dG_some h
    refine va_iald hx hb hK hP 44 0 rfl rfl (dg_in g3) dX3_takeFromBucket_69 ?_
    obtain ⟨v4, ev4, h⟩ := dL_some h
    refine kz_topi v4 ev4 ?_
    refine lv_aload_n hx hb dX3_takeFromBucket_70 rfl (lv_at hl 0 rfl) ?_
    refine va_get (D := D) (ci := 3) (v := .ref (ad 45)) (C := RX3) (T := TX3) (N := 20) hx hb hts u9_wsX3_takeFromBucket_X3 hown hK hP 32 rfl rfl 12 (by decide) (hts (.fieldLink RX3 48 "TurnedFloors$Paper" "links" "[I") f9_wsX3_takeFromBucket_829) (fun _ h9 => h9) rfl dX3_takeFromBucket_71 ?_
    refine lv_iload_n hx hb dX3_takeFromBucket_74 rfl (lv_at hl 1 rfl) ?_
    obtain ⟨g5, h⟩ := dG_some h
    refine va_iald hx hb hK hP 45 0 rfl rfl (dg_in g5) dX3_takeFromBucket_75 ?_
    obtain ⟨v6, ev6, h⟩ := dL_some h
    refine kz_topi v6 ev6 ?_
    obtain ⟨g7, h⟩ := dG_some h
    refine va_iast hx hb hK hP hD hS 45 0 rfl rfl (dg_in g7) dX3_takeFromBucket_76 (fun H locs hp hd hs => ?_)
    obtain ⟨q8, eq8, h⟩ := dL_some h
    refine kz_re (w2 := wF ty ad q8) hp hd hs (by rw [← eq8]; exact wF_a45 ty ad q (Int32.toNatClampNeg v4) v6) ?_
    clear hp hd hs hP hD hS
    intro hP hD hS
    exact WX3_takeFromBucket_s32_77 C0  _ _ _ _ h hP hD hS (lv_sub hl [] rfl)
set_option maxHeartbeats 4000000 in
set_option maxRecDepth 100000 in
theorem qX3_takeFromBucket_s32 (l : Launch) (D : va_G) (ty : Nat → ClassId) (eo : Nat → Nat) (sz : Nat) (ad : Nat → Nat) (q : dK) (p1 : Int32) (o2 : dK) (h : zX3_takeFromBucket_s32 q p1 = some o2) : Met l yX3_takeFromBucket wsX3_takeFromBucket ({ frames := 0, cells := 0, slots := 0, locals := 0 } : Room) (va_Pc [.ref (ad 32), .int p1] (kz_pre D ty eo (wF ty ad q) sz)) (va_Qv (fun (u : va_W) => wF ty ad o2 = u) (kz_B D ty (va_A (wF ty ad q) sz)) (va_A (wF ty ad q) sz)) 0 0 (va_A (wF ty ad q) sz) := by
  refine Met.ofW (cc := cX3_takeFromBucket) (maxL := 2) (ret := none) (by decide) rfl ?_
  intro p e s m args below meth c s₁ B hml hv
  obtain ⟨rfl, hsz, hP, hK, hD0, hN, hE⟩ := hv
  have hx := B.exec
  have hb := B.bytes
  have hr := B.returns
  have hts := atoms_spec (ws := wsX3_takeFromBucket) B.pre
  have hown : s.vm.findClass RX3 = some m.cls := findClass_of_methodNamed B.named
  have hlocks := B.notSynchronized
  subst hsz
  have hD := hD0.self (sz := s.heap.size)
  generalize hAe : va_A (wF ty ad q) s.heap.size = A at hD hE ⊢
  have hA : ∀ q : Nat, s.heap.size ≤ q → A q := fun q h => by rw [← hAe]; exact Or.inr h
  clear hAe
  have hS : va_S A s.heap s.heap [] := va_S.rf
  have hl := lv_entry ([.ref (ad 32), .int p1]) (n := 2) (Nat.le_of_ble_eq_true rfl)
  rw [lg_entry_eq]
  generalize (lg_sl ([.ref (ad 32), .int p1]) ++ List.replicate (2 - (lg_sl ([.ref (ad 32), .int p1])).length) Slot.unset).toArray = ls at hl ⊢
  have hl : lv_has ls 2 [(0, .ref (ad 32)), (1, .int p1)] := hl
  have C : dc_C p s m _ meth c cX3_takeFromBucket none 2 RX3 wsX3_takeFromBucket D ty eo A := ⟨hx, hb, hr, hts, hown, hlocks, hml, hK, hN, hE, hA⟩
  unfold zX3_takeFromBucket_s32 at h
  refine lv_aload_n hx hb dX3_takeFromBucket_0 rfl (lv_at hl 0 rfl) ?_
  refine va_get (D := D) (ci := 3) (v := .ref (ad 45)) (C := RX3) (T := TX3) (N := 20) hx hb hts u9_wsX3_takeFromBucket_X3 hown hK hP 32 rfl rfl 12 (by decide) (hts (.fieldLink RX3 48 "TurnedFloors$Paper" "links" "[I") f9_wsX3_takeFromBucket_829) (fun _ h9 => h9) rfl dX3_takeFromBucket_1 ?_
  refine lv_iload_n hx hb dX3_takeFromBucket_4 rfl (lv_at hl 1 rfl) ?_
  obtain ⟨g1, h⟩ := dG_some h
  refine va_iald hx hb hK hP 45 0 rfl rfl (dg_in g1) dX3_takeFromBucket_5 ?_
  obtain ⟨v2, ev2, h⟩ := dL_some h
  refine kz_topi v2 ev2 ?_
  refine lv_iconst (v := (-1)) hx hb dX3_takeFromBucket_6 (by decide) ?_
  refine lv_icmp_ne (tgt := 33) hx hb dX3_takeFromBucket_7 (by decide) (fun c9 => ?_) (fun c9 => ?_)
  · rw [if_neg c9] at h
    refine lv_aload_n hx hb dX3_takeFromBucket_33 rfl (lv_at hl 0 rfl) ?_
    refine va_get (D := D) (ci := 3) (v := .ref (ad 44)) (C := RX3) (T := TX3) (N := 20) hx hb hts u9_wsX3_takeFromBucket_X3 hown hK hP 32 rfl rfl 11 (by decide) (hts (.fieldLink RX3 45 "TurnedFloors$Paper" "line" "[I") f9_wsX3_takeFromBucket_828) (fun _ h9 => h9) rfl dX3_takeFromBucket_34 ?_
    refine lv_aload_n hx hb dX3_takeFromBucket_37 rfl (lv_at hl 0 rfl) ?_
    refine va_get (D := D) (ci := 3) (v := .ref (ad 45)) (C := RX3) (T := TX3) (N := 20) hx hb hts u9_wsX3_takeFromBucket_X3 hown hK hP 32 rfl rfl 12 (by decide) (hts (.fieldLink RX3 48 "TurnedFloors$Paper" "links" "[I") f9_wsX3_takeFromBucket_829) (fun _ h9 => h9) rfl dX3_takeFromBucket_38 ?_
    refine lv_iload_n hx hb dX3_takeFromBucket_41 rfl (lv_at hl 1 rfl) ?_
    obtain ⟨g3, h⟩ := dG_some h
    refine va_iald hx hb hK hP 45 0 rfl rfl (dg_in g3) dX3_takeFromBucket_42 ?_
    obtain ⟨v4, ev4, h⟩ := dL_some h
    refine kz_topi v4 ev4 ?_
    refine lv_aload_n hx hb dX3_takeFromBucket_43 rfl (lv_at hl 0 rfl) ?_
    refine va_get (D := D) (ci := 3) (v := .ref (ad 44)) (C := RX3) (T := TX3) (N := 20) hx hb hts u9_wsX3_takeFromBucket_X3 hown hK hP 32 rfl rfl 11 (by decide) (hts (.fieldLink RX3 45 "TurnedFloors$Paper" "line" "[I") f9_wsX3_takeFromBucket_828) (fun _ h9 => h9) rfl dX3_takeFromBucket_44 ?_
    refine lv_iload_n hx hb dX3_takeFromBucket_47 rfl (lv_at hl 1 rfl) ?_
    obtain ⟨g5, h⟩ := dG_some h
    refine va_iald hx hb hK hP 44 0 rfl rfl (dg_in g5) dX3_takeFromBucket_48 ?_
    obtain ⟨v6, ev6, h⟩ := dL_some h
    refine kz_topi v6 ev6 ?_
    obtain ⟨g7, h⟩ := dG_some h
    refine va_iast hx hb hK hP hD hS 44 0 rfl rfl (dg_in g7) dX3_takeFromBucket_49 (fun H locs hp hd hs => ?_)
    obtain ⟨q8, eq8, h⟩ := dL_some h
    refine kz_re (w2 := wF ty ad q8) hp hd hs (by rw [← eq8]; exact wF_a44 ty ad q (Int32.toNatClampNeg v4) v6) ?_
    clear hp hd hs hP hD hS
    intro hP hD hS
    exact WX3_takeFromBucket_s32_50 C  _ _ _ _ _ h hP hD hS (lv_sub hl [0, 1] rfl)
  · rw [if_pos c9] at h
    refine lv_aload_n hx hb dX3_takeFromBucket_10 rfl (lv_at hl 0 rfl) ?_
    refine va_get (D := D) (ci := 3) (v := .ref (ad 38)) (C := RX3) (T := TX3) (N := 20) hx hb hts u9_wsX3_takeFromBucket_X3 hown hK hP 32 rfl rfl 5 (by decide) (hts (.fieldLink RX3 27 "TurnedFloors$Paper" "buckets" "[I") f9_wsX3_takeFromBucket_830) (fun _ h9 => h9) rfl dX3_takeFromBucket_11 ?_
    refine lv_aload_n hx hb dX3_takeFromBucket_14 rfl (lv_at hl 0 rfl) ?_
    refine va_get (D := D) (ci := 3) (v := .ref (ad 43)) (C := RX3) (T := TX3) (N := 20) hx hb hts u9_wsX3_takeFromBucket_X3 hown hK hP 32 rfl rfl 10 (by decide) (hts (.fieldLink RX3 42 "TurnedFloors$Paper" "marks" "[I") f9_wsX3_takeFromBucket_831) (fun _ h9 => h9) rfl dX3_takeFromBucket_15 ?_
    refine lv_iload_n hx hb dX3_takeFromBucket_18 rfl (lv_at hl 1 rfl) ?_
    obtain ⟨g9, h⟩ := dG_some h
    refine va_iald hx hb hK hP 43 0 rfl rfl (dg_in g9) dX3_takeFromBucket_19 ?_
    obtain ⟨v10, ev10, h⟩ := dL_some h
    refine kz_topi v10 ev10 ?_
    refine lv_bipush (v := 100) hx hb dX3_takeFromBucket_20 (by decide) ?_
    refine lv_irem hx hb dX3_takeFromBucket_22 (by decide) ?_
    refine lv_aload_n hx hb dX3_takeFromBucket_23 rfl (lv_at hl 0 rfl) ?_
    refine va_get (D := D) (ci := 3) (v := .ref (ad 44)) (C := RX3) (T := TX3) (N := 20) hx hb hts u9_wsX3_takeFromBucket_X3 hown hK hP 32 rfl rfl 11 (by decide) (hts (.fieldLink RX3 45 "TurnedFloors$Paper" "line" "[I") f9_wsX3_takeFromBucket_828) (fun _ h9 => h9) rfl dX3_takeFromBucket_24 ?_
    refine lv_iload_n hx hb dX3_takeFromBucket_27 rfl (lv_at hl 1 rfl) ?_
    obtain ⟨g11, h⟩ := dG_some h
    refine va_iald hx hb hK hP 44 0 rfl rfl (dg_in g11) dX3_takeFromBucket_28 ?_
    obtain ⟨v12, ev12, h⟩ := dL_some h
    refine kz_topi v12 ev12 ?_
    obtain ⟨g13, h⟩ := dG_some h
    refine va_iast hx hb hK hP hD hS 38 0 rfl rfl (dg_in g13) dX3_takeFromBucket_29 (fun H locs hp hd hs => ?_)
    obtain ⟨q14, eq14, h⟩ := dL_some h
    refine kz_re (w2 := wF ty ad q14) hp hd hs (by rw [← eq14]; exact wF_a38 ty ad q (Int32.toNatClampNeg (v10 - v10 / 100 * 100 : Int32)) v12) ?_
    clear hp hd hs hP hD hS
    intro hP hD hS
    refine lv_goto (tgt := 50) hx hb dX3_takeFromBucket_30 (by decide) ?_
    exact WX3_takeFromBucket_s32_50 C  _ _ _ _ _ h hP hD hS (lv_sub hl [0, 1] rfl)
end
section
set_option maxRecDepth 20000 in
theorem ggX3_worstTowers_X3_measure : GoodIn wsX3_worstTowers wsX3_measure := wd_c vW9_ok mvW9_527
set_option maxRecDepth 20000 in
theorem gX3_worstTowers_X3_measure : GoodIn wsX3_worstTowers (wsV RX3 113 RX3 yX3_measure wsX3_measure) := goodIn_app (wd_l vW9_ok _ pvW9_14) ggX3_worstTowers_X3_measure
set_option maxRecDepth 20000 in
theorem ggX3_worstTowers_X9_bit : GoodIn wsX3_worstTowers wsX9_bit := wd_c vW9_ok mvW9_97
set_option maxRecDepth 20000 in
theorem gX3_worstTowers_X9_bit_n133 : GoodIn wsX3_worstTowers (wsX9_bit) := ggX3_worstTowers_X9_bit
theorem da9_dX3_worstTowers_0 : (decode cX3_worstTowers 0 = .ok (.aload_n 0, 1)) ∧ (decode cX3_worstTowers 1 = .ok (.invokevirtual 113, 3)) ∧ (decode cX3_worstTowers 4 = .ok (.iconst 0, 1)) ∧ (decode cX3_worstTowers 5 = .ok (.istore_n 2, 1)) ∧ (decode cX3_worstTowers 6 = .ok (.iconst 0, 1)) ∧ (decode cX3_worstTowers 7 = .ok (.istore_n 3, 1)) ∧ (decode cX3_worstTowers 8 = .ok (.iconst 0, 1)) ∧ (decode cX3_worstTowers 9 = .ok (.istore 4, 2)) ∧ (decode cX3_worstTowers 11 = .ok (.iconst 0, 1)) ∧ (decode cX3_worstTowers 12 = .ok (.istore 5, 2)) ∧ (decode cX3_worstTowers 14 = .ok (.iload 5, 2)) ∧ (decode cX3_worstTowers 16 = .ok (.aload_n 0, 1)) ∧ (decode cX3_worstTowers 17 = .ok (.getfield 55, 3)) ∧ (decode cX3_worstTowers 20 = .ok (.if_icmp .ge 65, 3)) ∧ (decode cX3_worstTowers 23 = .ok (.aload_n 0, 1)) ∧ (decode cX3_worstTowers 24 = .ok (.getfield 39, 3)) := by decide +kernel
theorem dX3_worstTowers_0 : decode cX3_worstTowers 0 = .ok (.aload_n 0, 1) := da9_dX3_worstTowers_0.1
theorem dX3_worstTowers_1 : decode cX3_worstTowers 1 = .ok (.invokevirtual 113, 3) := da9_dX3_worstTowers_0.2.1
theorem dX3_worstTowers_4 : decode cX3_worstTowers 4 = .ok (.iconst 0, 1) := da9_dX3_worstTowers_0.2.2.1
theorem dX3_worstTowers_5 : decode cX3_worstTowers 5 = .ok (.istore_n 2, 1) := da9_dX3_worstTowers_0.2.2.2.1
theorem dX3_worstTowers_6 : decode cX3_worstTowers 6 = .ok (.iconst 0, 1) := da9_dX3_worstTowers_0.2.2.2.2.1
theorem dX3_worstTowers_7 : decode cX3_worstTowers 7 = .ok (.istore_n 3, 1) := da9_dX3_worstTowers_0.2.2.2.2.2.1
theorem dX3_worstTowers_8 : decode cX3_worstTowers 8 = .ok (.iconst 0, 1) := da9_dX3_worstTowers_0.2.2.2.2.2.2.1
theorem dX3_worstTowers_9 : decode cX3_worstTowers 9 = .ok (.istore 4, 2) := da9_dX3_worstTowers_0.2.2.2.2.2.2.2.1
theorem dX3_worstTowers_11 : decode cX3_worstTowers 11 = .ok (.iconst 0, 1) := da9_dX3_worstTowers_0.2.2.2.2.2.2.2.2.1
theorem dX3_worstTowers_12 : decode cX3_worstTowers 12 = .ok (.istore 5, 2) := da9_dX3_worstTowers_0.2.2.2.2.2.2.2.2.2.1
theorem dX3_worstTowers_14 : decode cX3_worstTowers 14 = .ok (.iload 5, 2) := da9_dX3_worstTowers_0.2.2.2.2.2.2.2.2.2.2.1
theorem dX3_worstTowers_16 : decode cX3_worstTowers 16 = .ok (.aload_n 0, 1) := da9_dX3_worstTowers_0.2.2.2.2.2.2.2.2.2.2.2.1
theorem dX3_worstTowers_17 : decode cX3_worstTowers 17 = .ok (.getfield 55, 3) := da9_dX3_worstTowers_0.2.2.2.2.2.2.2.2.2.2.2.2.1
theorem dX3_worstTowers_20 : decode cX3_worstTowers 20 = .ok (.if_icmp .ge 65, 3) := da9_dX3_worstTowers_0.2.2.2.2.2.2.2.2.2.2.2.2.2.1
theorem dX3_worstTowers_23 : decode cX3_worstTowers 23 = .ok (.aload_n 0, 1) := da9_dX3_worstTowers_0.2.2.2.2.2.2.2.2.2.2.2.2.2.2.1
theorem dX3_worstTowers_24 : decode cX3_worstTowers 24 = .ok (.getfield 39, 3) := da9_dX3_worstTowers_0.2.2.2.2.2.2.2.2.2.2.2.2.2.2.2
theorem da9_dX3_worstTowers_27 : (decode cX3_worstTowers 27 = .ok (.iload 5, 2)) ∧ (decode cX3_worstTowers 29 = .ok (.iaload, 1)) ∧ (decode cX3_worstTowers 30 = .ok (.istore 6, 2)) ∧ (decode cX3_worstTowers 32 = .ok (.iload 6, 2)) ∧ (decode cX3_worstTowers 34 = .ok (.iload_n 2, 1)) ∧ (decode cX3_worstTowers 35 = .ok (.if_icmp .le 8, 3)) ∧ (decode cX3_worstTowers 38 = .ok (.iload 6, 2)) ∧ (decode cX3_worstTowers 40 = .ok (.istore_n 2, 1)) ∧ (decode cX3_worstTowers 41 = .ok (.iconst 0, 1)) ∧ (decode cX3_worstTowers 42 = .ok (.istore_n 3, 1)) ∧ (decode cX3_worstTowers 43 = .ok (.iload_n 3, 1)) ∧ (decode cX3_worstTowers 44 = .ok (.iload 6, 2)) ∧ (decode cX3_worstTowers 46 = .ok (.iload_n 2, 1)) ∧ (decode cX3_worstTowers 47 = .ok (.if_icmp .ne 7, 3)) ∧ (decode cX3_worstTowers 50 = .ok (.iconst 1, 1)) ∧ (decode cX3_worstTowers 51 = .ok (.goto 4, 3)) := by decide +kernel
theorem dX3_worstTowers_27 : decode cX3_worstTowers 27 = .ok (.iload 5, 2) := da9_dX3_worstTowers_27.1
theorem dX3_worstTowers_29 : decode cX3_worstTowers 29 = .ok (.iaload, 1) := da9_dX3_worstTowers_27.2.1
theorem dX3_worstTowers_30 : decode cX3_worstTowers 30 = .ok (.istore 6, 2) := da9_dX3_worstTowers_27.2.2.1
theorem dX3_worstTowers_32 : decode cX3_worstTowers 32 = .ok (.iload 6, 2) := da9_dX3_worstTowers_27.2.2.2.1
theorem dX3_worstTowers_34 : decode cX3_worstTowers 34 = .ok (.iload_n 2, 1) := da9_dX3_worstTowers_27.2.2.2.2.1
theorem dX3_worstTowers_35 : decode cX3_worstTowers 35 = .ok (.if_icmp .le 8, 3) := da9_dX3_worstTowers_27.2.2.2.2.2.1
theorem dX3_worstTowers_38 : decode cX3_worstTowers 38 = .ok (.iload 6, 2) := da9_dX3_worstTowers_27.2.2.2.2.2.2.1
theorem dX3_worstTowers_40 : decode cX3_worstTowers 40 = .ok (.istore_n 2, 1) := da9_dX3_worstTowers_27.2.2.2.2.2.2.2.1
theorem dX3_worstTowers_41 : decode cX3_worstTowers 41 = .ok (.iconst 0, 1) := da9_dX3_worstTowers_27.2.2.2.2.2.2.2.2.1
theorem dX3_worstTowers_42 : decode cX3_worstTowers 42 = .ok (.istore_n 3, 1) := da9_dX3_worstTowers_27.2.2.2.2.2.2.2.2.2.1
theorem dX3_worstTowers_43 : decode cX3_worstTowers 43 = .ok (.iload_n 3, 1) := da9_dX3_worstTowers_27.2.2.2.2.2.2.2.2.2.2.1
theorem dX3_worstTowers_44 : decode cX3_worstTowers 44 = .ok (.iload 6, 2) := da9_dX3_worstTowers_27.2.2.2.2.2.2.2.2.2.2.2.1
theorem dX3_worstTowers_46 : decode cX3_worstTowers 46 = .ok (.iload_n 2, 1) := da9_dX3_worstTowers_27.2.2.2.2.2.2.2.2.2.2.2.2.1
theorem dX3_worstTowers_47 : decode cX3_worstTowers 47 = .ok (.if_icmp .ne 7, 3) := da9_dX3_worstTowers_27.2.2.2.2.2.2.2.2.2.2.2.2.2.1
theorem dX3_worstTowers_50 : decode cX3_worstTowers 50 = .ok (.iconst 1, 1) := da9_dX3_worstTowers_27.2.2.2.2.2.2.2.2.2.2.2.2.2.2.1
theorem dX3_worstTowers_51 : decode cX3_worstTowers 51 = .ok (.goto 4, 3) := da9_dX3_worstTowers_27.2.2.2.2.2.2.2.2.2.2.2.2.2.2.2
theorem da9_dX3_worstTowers_54 : (decode cX3_worstTowers 54 = .ok (.iconst 0, 1)) ∧ (decode cX3_worstTowers 55 = .ok (.invokestatic 133, 3)) ∧ (decode cX3_worstTowers 58 = .ok (.iadd, 1)) ∧ (decode cX3_worstTowers 59 = .ok (.istore_n 3, 1)) ∧ (decode cX3_worstTowers 60 = .ok (.iload 4, 2)) ∧ (decode cX3_worstTowers 62 = .ok (.iload 6, 2)) ∧ (decode cX3_worstTowers 64 = .ok (.iconst (-1), 1)) ∧ (decode cX3_worstTowers 65 = .ok (.if_icmp .eq 7, 3)) ∧ (decode cX3_worstTowers 68 = .ok (.iconst 1, 1)) ∧ (decode cX3_worstTowers 69 = .ok (.goto 4, 3)) ∧ (decode cX3_worstTowers 72 = .ok (.iconst 0, 1)) ∧ (decode cX3_worstTowers 73 = .ok (.invokestatic 133, 3)) ∧ (decode cX3_worstTowers 76 = .ok (.iadd, 1)) ∧ (decode cX3_worstTowers 77 = .ok (.istore 4, 2)) ∧ (decode cX3_worstTowers 79 = .ok (.iinc 5 1, 3)) ∧ (decode cX3_worstTowers 82 = .ok (.goto (-68), 3)) := by decide +kernel
theorem dX3_worstTowers_54 : decode cX3_worstTowers 54 = .ok (.iconst 0, 1) := da9_dX3_worstTowers_54.1
theorem dX3_worstTowers_55 : decode cX3_worstTowers 55 = .ok (.invokestatic 133, 3) := da9_dX3_worstTowers_54.2.1
theorem dX3_worstTowers_58 : decode cX3_worstTowers 58 = .ok (.iadd, 1) := da9_dX3_worstTowers_54.2.2.1
theorem dX3_worstTowers_59 : decode cX3_worstTowers 59 = .ok (.istore_n 3, 1) := da9_dX3_worstTowers_54.2.2.2.1
theorem dX3_worstTowers_60 : decode cX3_worstTowers 60 = .ok (.iload 4, 2) := da9_dX3_worstTowers_54.2.2.2.2.1
theorem dX3_worstTowers_62 : decode cX3_worstTowers 62 = .ok (.iload 6, 2) := da9_dX3_worstTowers_54.2.2.2.2.2.1
theorem dX3_worstTowers_64 : decode cX3_worstTowers 64 = .ok (.iconst (-1), 1) := da9_dX3_worstTowers_54.2.2.2.2.2.2.1
theorem dX3_worstTowers_65 : decode cX3_worstTowers 65 = .ok (.if_icmp .eq 7, 3) := da9_dX3_worstTowers_54.2.2.2.2.2.2.2.1
theorem dX3_worstTowers_68 : decode cX3_worstTowers 68 = .ok (.iconst 1, 1) := da9_dX3_worstTowers_54.2.2.2.2.2.2.2.2.1
theorem dX3_worstTowers_69 : decode cX3_worstTowers 69 = .ok (.goto 4, 3) := da9_dX3_worstTowers_54.2.2.2.2.2.2.2.2.2.1
theorem dX3_worstTowers_72 : decode cX3_worstTowers 72 = .ok (.iconst 0, 1) := da9_dX3_worstTowers_54.2.2.2.2.2.2.2.2.2.2.1
theorem dX3_worstTowers_73 : decode cX3_worstTowers 73 = .ok (.invokestatic 133, 3) := da9_dX3_worstTowers_54.2.2.2.2.2.2.2.2.2.2.2.1
theorem dX3_worstTowers_76 : decode cX3_worstTowers 76 = .ok (.iadd, 1) := da9_dX3_worstTowers_54.2.2.2.2.2.2.2.2.2.2.2.2.1
theorem dX3_worstTowers_77 : decode cX3_worstTowers 77 = .ok (.istore 4, 2) := da9_dX3_worstTowers_54.2.2.2.2.2.2.2.2.2.2.2.2.2.1
theorem dX3_worstTowers_79 : decode cX3_worstTowers 79 = .ok (.iinc 5 1, 3) := da9_dX3_worstTowers_54.2.2.2.2.2.2.2.2.2.2.2.2.2.2.1
theorem dX3_worstTowers_82 : decode cX3_worstTowers 82 = .ok (.goto (-68), 3) := da9_dX3_worstTowers_54.2.2.2.2.2.2.2.2.2.2.2.2.2.2.2
theorem da9_dX3_worstTowers_85 : (decode cX3_worstTowers 85 = .ok (.iload_n 1, 1)) ∧ (decode cX3_worstTowers 86 = .ok (.ifCond .ne 5, 3)) ∧ (decode cX3_worstTowers 89 = .ok (.iload_n 2, 1)) ∧ (decode cX3_worstTowers 90 = .ok (.ireturn, 1)) ∧ (decode cX3_worstTowers 91 = .ok (.iload_n 1, 1)) ∧ (decode cX3_worstTowers 92 = .ok (.iconst 1, 1)) ∧ (decode cX3_worstTowers 93 = .ok (.if_icmp .ne 7, 3)) ∧ (decode cX3_worstTowers 96 = .ok (.iload_n 3, 1)) ∧ (decode cX3_worstTowers 97 = .ok (.goto 5, 3)) ∧ (decode cX3_worstTowers 100 = .ok (.iload 4, 2)) ∧ (decode cX3_worstTowers 102 = .ok (.ireturn, 1)) := by decide +kernel
theorem dX3_worstTowers_85 : decode cX3_worstTowers 85 = .ok (.iload_n 1, 1) := da9_dX3_worstTowers_85.1
theorem dX3_worstTowers_86 : decode cX3_worstTowers 86 = .ok (.ifCond .ne 5, 3) := da9_dX3_worstTowers_85.2.1
theorem dX3_worstTowers_89 : decode cX3_worstTowers 89 = .ok (.iload_n 2, 1) := da9_dX3_worstTowers_85.2.2.1
theorem dX3_worstTowers_90 : decode cX3_worstTowers 90 = .ok (.ireturn, 1) := da9_dX3_worstTowers_85.2.2.2.1
theorem dX3_worstTowers_91 : decode cX3_worstTowers 91 = .ok (.iload_n 1, 1) := da9_dX3_worstTowers_85.2.2.2.2.1
theorem dX3_worstTowers_92 : decode cX3_worstTowers 92 = .ok (.iconst 1, 1) := da9_dX3_worstTowers_85.2.2.2.2.2.1
theorem dX3_worstTowers_93 : decode cX3_worstTowers 93 = .ok (.if_icmp .ne 7, 3) := da9_dX3_worstTowers_85.2.2.2.2.2.2.1
theorem dX3_worstTowers_96 : decode cX3_worstTowers 96 = .ok (.iload_n 3, 1) := da9_dX3_worstTowers_85.2.2.2.2.2.2.2.1
theorem dX3_worstTowers_97 : decode cX3_worstTowers 97 = .ok (.goto 5, 3) := da9_dX3_worstTowers_85.2.2.2.2.2.2.2.2.1
theorem dX3_worstTowers_100 : decode cX3_worstTowers 100 = .ok (.iload 4, 2) := da9_dX3_worstTowers_85.2.2.2.2.2.2.2.2.2.1
theorem dX3_worstTowers_102 : decode cX3_worstTowers 102 = .ok (.ireturn, 1) := da9_dX3_worstTowers_85.2.2.2.2.2.2.2.2.2.2
set_option maxRecDepth 20000 in
theorem ggX3_leastPaid_X3_askCases : GoodIn wsX3_leastPaid wsX3_askCases := wd_c vW9_ok mvW9_506
set_option maxRecDepth 20000 in
theorem gX3_leastPaid_X3_askCases : GoodIn wsX3_leastPaid (wsV RX3 109 RX3 yX3_askCases wsX3_askCases) := goodIn_app (wd_l vW9_ok _ pvW9_13) ggX3_leastPaid_X3_askCases
set_option maxRecDepth 20000 in
theorem ggX3_leastPaid_J7_fill_53178 : GoodIn wsX3_leastPaid wsJ7_fill_53178 := wd_l vW9_ok _ (List.forall_mem_cons.mpr ⟨mvW9_512, (fun _ h => absurd h List.not_mem_nil)⟩)
set_option maxRecDepth 20000 in
theorem gX3_leastPaid_J7_fill_53178 : GoodIn wsX3_leastPaid (va_wsS RX3 122 yJ7_fill_53178 wsJ7_fill_53178) := goodIn_app (wd_l vW9_ok _ pvW9_17) ggX3_leastPaid_J7_fill_53178
set_option maxRecDepth 20000 in
theorem ggX3_leastPaid_X3_putInBucket : GoodIn wsX3_leastPaid wsX3_putInBucket := wd_c vW9_ok mvW9_573
set_option maxRecDepth 20000 in
theorem gX3_leastPaid_X3_putInBucket : GoodIn wsX3_leastPaid (wsV RX3 141 RX3 yX3_putInBucket wsX3_putInBucket) := goodIn_app (wd_l vW9_ok _ pvW9_20) ggX3_leastPaid_X3_putInBucket
set_option maxRecDepth 20000 in
theorem ggX3_leastPaid_X3_takeFromBucket : GoodIn wsX3_leastPaid wsX3_takeFromBucket := wd_c vW9_ok mvW9_577
set_option maxRecDepth 20000 in
theorem gX3_leastPaid_X3_takeFromBucket : GoodIn wsX3_leastPaid (wsV RX3 145 RX3 yX3_takeFromBucket wsX3_takeFromBucket) := goodIn_app (wd_l vW9_ok _ pvW9_21) ggX3_leastPaid_X3_takeFromBucket
set_option maxRecDepth 20000 in
theorem ggX3_leastPaid_X3_isOrdered : GoodIn wsX3_leastPaid wsX3_isOrdered := wd_c vW9_ok mvW9_538
set_option maxRecDepth 20000 in
theorem gX3_leastPaid_X3_isOrdered : GoodIn wsX3_leastPaid (wsV RX3 148 RX3 yX3_isOrdered wsX3_isOrdered) := goodIn_app (wd_l vW9_ok _ pvW9_22) ggX3_leastPaid_X3_isOrdered
set_option maxRecDepth 20000 in
theorem ggX3_leastPaid_X3_offerTurns : GoodIn wsX3_leastPaid wsX3_offerTurns := wd_c vW9_ok mvW9_581
set_option maxRecDepth 20000 in
theorem gX3_leastPaid_X3_offerTurns : GoodIn wsX3_leastPaid (wsV RX3 151 RX3 yX3_offerTurns wsX3_offerTurns) := goodIn_app (wd_l vW9_ok _ pvW9_23) ggX3_leastPaid_X3_offerTurns
theorem da9_dX3_leastPaid_0 : (decode cX3_leastPaid 0 = .ok (.aload_n 0, 1)) ∧ (decode cX3_leastPaid 1 = .ok (.aload_n 1, 1)) ∧ (decode cX3_leastPaid 2 = .ok (.iload_n 2, 1)) ∧ (decode cX3_leastPaid 3 = .ok (.iconst 0, 1)) ∧ (decode cX3_leastPaid 4 = .ok (.invokevirtual 109, 3)) ∧ (decode cX3_leastPaid 7 = .ok (.aload_n 0, 1)) ∧ (decode cX3_leastPaid 8 = .ok (.getfield 42, 3)) ∧ (decode cX3_leastPaid 11 = .ok (.ldc 140, 2)) ∧ (decode cX3_leastPaid 13 = .ok (.invokestatic 122, 3)) ∧ (decode cX3_leastPaid 16 = .ok (.aload_n 0, 1)) ∧ (decode cX3_leastPaid 17 = .ok (.getfield 27, 3)) ∧ (decode cX3_leastPaid 20 = .ok (.iconst (-1), 1)) ∧ (decode cX3_leastPaid 21 = .ok (.invokestatic 122, 3)) ∧ (decode cX3_leastPaid 24 = .ok (.aload_n 0, 1)) ∧ (decode cX3_leastPaid 25 = .ok (.getfield 42, 3)) ∧ (decode cX3_leastPaid 28 = .ok (.aload_n 0, 1)) := by decide +kernel
theorem dX3_leastPaid_0 : decode cX3_leastPaid 0 = .ok (.aload_n 0, 1) := da9_dX3_leastPaid_0.1
theorem dX3_leastPaid_1 : decode cX3_leastPaid 1 = .ok (.aload_n 1, 1) := da9_dX3_leastPaid_0.2.1
theorem dX3_leastPaid_2 : decode cX3_leastPaid 2 = .ok (.iload_n 2, 1) := da9_dX3_leastPaid_0.2.2.1
theorem dX3_leastPaid_3 : decode cX3_leastPaid 3 = .ok (.iconst 0, 1) := da9_dX3_leastPaid_0.2.2.2.1
theorem dX3_leastPaid_4 : decode cX3_leastPaid 4 = .ok (.invokevirtual 109, 3) := da9_dX3_leastPaid_0.2.2.2.2.1
theorem dX3_leastPaid_7 : decode cX3_leastPaid 7 = .ok (.aload_n 0, 1) := da9_dX3_leastPaid_0.2.2.2.2.2.1
theorem dX3_leastPaid_8 : decode cX3_leastPaid 8 = .ok (.getfield 42, 3) := da9_dX3_leastPaid_0.2.2.2.2.2.2.1
theorem dX3_leastPaid_11 : decode cX3_leastPaid 11 = .ok (.ldc 140, 2) := da9_dX3_leastPaid_0.2.2.2.2.2.2.2.1
theorem dX3_leastPaid_13 : decode cX3_leastPaid 13 = .ok (.invokestatic 122, 3) := da9_dX3_leastPaid_0.2.2.2.2.2.2.2.2.1
theorem dX3_leastPaid_16 : decode cX3_leastPaid 16 = .ok (.aload_n 0, 1) := da9_dX3_leastPaid_0.2.2.2.2.2.2.2.2.2.1
theorem dX3_leastPaid_17 : decode cX3_leastPaid 17 = .ok (.getfield 27, 3) := da9_dX3_leastPaid_0.2.2.2.2.2.2.2.2.2.2.1
theorem dX3_leastPaid_20 : decode cX3_leastPaid 20 = .ok (.iconst (-1), 1) := da9_dX3_leastPaid_0.2.2.2.2.2.2.2.2.2.2.2.1
theorem dX3_leastPaid_21 : decode cX3_leastPaid 21 = .ok (.invokestatic 122, 3) := da9_dX3_leastPaid_0.2.2.2.2.2.2.2.2.2.2.2.2.1
theorem dX3_leastPaid_24 : decode cX3_leastPaid 24 = .ok (.aload_n 0, 1) := da9_dX3_leastPaid_0.2.2.2.2.2.2.2.2.2.2.2.2.2.1
theorem dX3_leastPaid_25 : decode cX3_leastPaid 25 = .ok (.getfield 42, 3) := da9_dX3_leastPaid_0.2.2.2.2.2.2.2.2.2.2.2.2.2.2.1
theorem dX3_leastPaid_28 : decode cX3_leastPaid 28 = .ok (.aload_n 0, 1) := da9_dX3_leastPaid_0.2.2.2.2.2.2.2.2.2.2.2.2.2.2.2
theorem da9_dX3_leastPaid_29 : (decode cX3_leastPaid 29 = .ok (.getfield 58, 3)) ∧ (decode cX3_leastPaid 32 = .ok (.iconst 0, 1)) ∧ (decode cX3_leastPaid 33 = .ok (.iastore, 1)) ∧ (decode cX3_leastPaid 34 = .ok (.aload_n 0, 1)) ∧ (decode cX3_leastPaid 35 = .ok (.aload_n 0, 1)) ∧ (decode cX3_leastPaid 36 = .ok (.getfield 58, 3)) ∧ (decode cX3_leastPaid 39 = .ok (.invokevirtual 141, 3)) ∧ (decode cX3_leastPaid 42 = .ok (.iconst 1, 1)) ∧ (decode cX3_leastPaid 43 = .ok (.istore_n 3, 1)) ∧ (decode cX3_leastPaid 44 = .ok (.iconst 0, 1)) ∧ (decode cX3_leastPaid 45 = .ok (.istore 4, 2)) ∧ (decode cX3_leastPaid 47 = .ok (.iload 4, 2)) ∧ (decode cX3_leastPaid 49 = .ok (.bipush 99, 2)) ∧ (decode cX3_leastPaid 51 = .ok (.aload_n 0, 1)) ∧ (decode cX3_leastPaid 52 = .ok (.getfield 55, 3)) ∧ (decode cX3_leastPaid 55 = .ok (.imul, 1)) := by decide +kernel
theorem dX3_leastPaid_29 : decode cX3_leastPaid 29 = .ok (.getfield 58, 3) := da9_dX3_leastPaid_29.1
theorem dX3_leastPaid_32 : decode cX3_leastPaid 32 = .ok (.iconst 0, 1) := da9_dX3_leastPaid_29.2.1
theorem dX3_leastPaid_33 : decode cX3_leastPaid 33 = .ok (.iastore, 1) := da9_dX3_leastPaid_29.2.2.1
theorem dX3_leastPaid_34 : decode cX3_leastPaid 34 = .ok (.aload_n 0, 1) := da9_dX3_leastPaid_29.2.2.2.1
theorem dX3_leastPaid_35 : decode cX3_leastPaid 35 = .ok (.aload_n 0, 1) := da9_dX3_leastPaid_29.2.2.2.2.1
theorem dX3_leastPaid_36 : decode cX3_leastPaid 36 = .ok (.getfield 58, 3) := da9_dX3_leastPaid_29.2.2.2.2.2.1
theorem dX3_leastPaid_39 : decode cX3_leastPaid 39 = .ok (.invokevirtual 141, 3) := da9_dX3_leastPaid_29.2.2.2.2.2.2.1
theorem dX3_leastPaid_42 : decode cX3_leastPaid 42 = .ok (.iconst 1, 1) := da9_dX3_leastPaid_29.2.2.2.2.2.2.2.1
theorem dX3_leastPaid_43 : decode cX3_leastPaid 43 = .ok (.istore_n 3, 1) := da9_dX3_leastPaid_29.2.2.2.2.2.2.2.2.1
theorem dX3_leastPaid_44 : decode cX3_leastPaid 44 = .ok (.iconst 0, 1) := da9_dX3_leastPaid_29.2.2.2.2.2.2.2.2.2.1
theorem dX3_leastPaid_45 : decode cX3_leastPaid 45 = .ok (.istore 4, 2) := da9_dX3_leastPaid_29.2.2.2.2.2.2.2.2.2.2.1
theorem dX3_leastPaid_47 : decode cX3_leastPaid 47 = .ok (.iload 4, 2) := da9_dX3_leastPaid_29.2.2.2.2.2.2.2.2.2.2.2.1
theorem dX3_leastPaid_49 : decode cX3_leastPaid 49 = .ok (.bipush 99, 2) := da9_dX3_leastPaid_29.2.2.2.2.2.2.2.2.2.2.2.2.1
theorem dX3_leastPaid_51 : decode cX3_leastPaid 51 = .ok (.aload_n 0, 1) := da9_dX3_leastPaid_29.2.2.2.2.2.2.2.2.2.2.2.2.2.1
theorem dX3_leastPaid_52 : decode cX3_leastPaid 52 = .ok (.getfield 55, 3) := da9_dX3_leastPaid_29.2.2.2.2.2.2.2.2.2.2.2.2.2.2.1
theorem dX3_leastPaid_55 : decode cX3_leastPaid 55 = .ok (.imul, 1) := da9_dX3_leastPaid_29.2.2.2.2.2.2.2.2.2.2.2.2.2.2.2
theorem da9_dX3_leastPaid_56 : (decode cX3_leastPaid 56 = .ok (.if_icmp .gt 87, 3)) ∧ (decode cX3_leastPaid 59 = .ok (.iload_n 3, 1)) ∧ (decode cX3_leastPaid 60 = .ok (.ifCond .le 83, 3)) ∧ (decode cX3_leastPaid 63 = .ok (.iload 4, 2)) ∧ (decode cX3_leastPaid 65 = .ok (.bipush 100, 2)) ∧ (decode cX3_leastPaid 67 = .ok (.irem, 1)) ∧ (decode cX3_leastPaid 68 = .ok (.istore 5, 2)) ∧ (decode cX3_leastPaid 70 = .ok (.iconst 0, 1)) ∧ (decode cX3_leastPaid 71 = .ok (.istore 6, 2)) ∧ (decode cX3_leastPaid 73 = .ok (.iload 6, 2)) ∧ (decode cX3_leastPaid 75 = .ok (.aload_n 0, 1)) ∧ (decode cX3_leastPaid 76 = .ok (.getfield 55, 3)) ∧ (decode cX3_leastPaid 79 = .ok (.if_icmp .ge 58, 3)) ∧ (decode cX3_leastPaid 82 = .ok (.aload_n 0, 1)) ∧ (decode cX3_leastPaid 83 = .ok (.getfield 27, 3)) ∧ (decode cX3_leastPaid 86 = .ok (.iload 5, 2)) := by decide +kernel
theorem dX3_leastPaid_56 : decode cX3_leastPaid 56 = .ok (.if_icmp .gt 87, 3) := da9_dX3_leastPaid_56.1
theorem dX3_leastPaid_59 : decode cX3_leastPaid 59 = .ok (.iload_n 3, 1) := da9_dX3_leastPaid_56.2.1
theorem dX3_leastPaid_60 : decode cX3_leastPaid 60 = .ok (.ifCond .le 83, 3) := da9_dX3_leastPaid_56.2.2.1
theorem dX3_leastPaid_63 : decode cX3_leastPaid 63 = .ok (.iload 4, 2) := da9_dX3_leastPaid_56.2.2.2.1
theorem dX3_leastPaid_65 : decode cX3_leastPaid 65 = .ok (.bipush 100, 2) := da9_dX3_leastPaid_56.2.2.2.2.1
theorem dX3_leastPaid_67 : decode cX3_leastPaid 67 = .ok (.irem, 1) := da9_dX3_leastPaid_56.2.2.2.2.2.1
theorem dX3_leastPaid_68 : decode cX3_leastPaid 68 = .ok (.istore 5, 2) := da9_dX3_leastPaid_56.2.2.2.2.2.2.1
theorem dX3_leastPaid_70 : decode cX3_leastPaid 70 = .ok (.iconst 0, 1) := da9_dX3_leastPaid_56.2.2.2.2.2.2.2.1
theorem dX3_leastPaid_71 : decode cX3_leastPaid 71 = .ok (.istore 6, 2) := da9_dX3_leastPaid_56.2.2.2.2.2.2.2.2.1
theorem dX3_leastPaid_73 : decode cX3_leastPaid 73 = .ok (.iload 6, 2) := da9_dX3_leastPaid_56.2.2.2.2.2.2.2.2.2.1
theorem dX3_leastPaid_75 : decode cX3_leastPaid 75 = .ok (.aload_n 0, 1) := da9_dX3_leastPaid_56.2.2.2.2.2.2.2.2.2.2.1
theorem dX3_leastPaid_76 : decode cX3_leastPaid 76 = .ok (.getfield 55, 3) := da9_dX3_leastPaid_56.2.2.2.2.2.2.2.2.2.2.2.1
theorem dX3_leastPaid_79 : decode cX3_leastPaid 79 = .ok (.if_icmp .ge 58, 3) := da9_dX3_leastPaid_56.2.2.2.2.2.2.2.2.2.2.2.2.1
theorem dX3_leastPaid_82 : decode cX3_leastPaid 82 = .ok (.aload_n 0, 1) := da9_dX3_leastPaid_56.2.2.2.2.2.2.2.2.2.2.2.2.2.1
theorem dX3_leastPaid_83 : decode cX3_leastPaid 83 = .ok (.getfield 27, 3) := da9_dX3_leastPaid_56.2.2.2.2.2.2.2.2.2.2.2.2.2.2.1
theorem dX3_leastPaid_86 : decode cX3_leastPaid 86 = .ok (.iload 5, 2) := da9_dX3_leastPaid_56.2.2.2.2.2.2.2.2.2.2.2.2.2.2.2
theorem da9_dX3_leastPaid_88 : (decode cX3_leastPaid 88 = .ok (.iaload, 1)) ∧ (decode cX3_leastPaid 89 = .ok (.iconst (-1), 1)) ∧ (decode cX3_leastPaid 90 = .ok (.if_icmp .eq 47, 3)) ∧ (decode cX3_leastPaid 93 = .ok (.aload_n 0, 1)) ∧ (decode cX3_leastPaid 94 = .ok (.getfield 27, 3)) ∧ (decode cX3_leastPaid 97 = .ok (.iload 5, 2)) ∧ (decode cX3_leastPaid 99 = .ok (.iaload, 1)) ∧ (decode cX3_leastPaid 100 = .ok (.istore 7, 2)) ∧ (decode cX3_leastPaid 102 = .ok (.aload_n 0, 1)) ∧ (decode cX3_leastPaid 103 = .ok (.iload 7, 2)) ∧ (decode cX3_leastPaid 105 = .ok (.invokevirtual 145, 3)) ∧ (decode cX3_leastPaid 108 = .ok (.aload_n 0, 1)) ∧ (decode cX3_leastPaid 109 = .ok (.iload 7, 2)) ∧ (decode cX3_leastPaid 111 = .ok (.invokevirtual 148, 3)) ∧ (decode cX3_leastPaid 114 = .ok (.ifCond .eq 6, 3)) ∧ (decode cX3_leastPaid 117 = .ok (.iload 4, 2)) := by decide +kernel
theorem dX3_leastPaid_88 : decode cX3_leastPaid 88 = .ok (.iaload, 1) := da9_dX3_leastPaid_88.1
theorem dX3_leastPaid_89 : decode cX3_leastPaid 89 = .ok (.iconst (-1), 1) := da9_dX3_leastPaid_88.2.1
theorem dX3_leastPaid_90 : decode cX3_leastPaid 90 = .ok (.if_icmp .eq 47, 3) := da9_dX3_leastPaid_88.2.2.1
theorem dX3_leastPaid_93 : decode cX3_leastPaid 93 = .ok (.aload_n 0, 1) := da9_dX3_leastPaid_88.2.2.2.1
theorem dX3_leastPaid_94 : decode cX3_leastPaid 94 = .ok (.getfield 27, 3) := da9_dX3_leastPaid_88.2.2.2.2.1
theorem dX3_leastPaid_97 : decode cX3_leastPaid 97 = .ok (.iload 5, 2) := da9_dX3_leastPaid_88.2.2.2.2.2.1
theorem dX3_leastPaid_99 : decode cX3_leastPaid 99 = .ok (.iaload, 1) := da9_dX3_leastPaid_88.2.2.2.2.2.2.1
theorem dX3_leastPaid_100 : decode cX3_leastPaid 100 = .ok (.istore 7, 2) := da9_dX3_leastPaid_88.2.2.2.2.2.2.2.1
theorem dX3_leastPaid_102 : decode cX3_leastPaid 102 = .ok (.aload_n 0, 1) := da9_dX3_leastPaid_88.2.2.2.2.2.2.2.2.1
theorem dX3_leastPaid_103 : decode cX3_leastPaid 103 = .ok (.iload 7, 2) := da9_dX3_leastPaid_88.2.2.2.2.2.2.2.2.2.1
theorem dX3_leastPaid_105 : decode cX3_leastPaid 105 = .ok (.invokevirtual 145, 3) := da9_dX3_leastPaid_88.2.2.2.2.2.2.2.2.2.2.1
theorem dX3_leastPaid_108 : decode cX3_leastPaid 108 = .ok (.aload_n 0, 1) := da9_dX3_leastPaid_88.2.2.2.2.2.2.2.2.2.2.2.1
theorem dX3_leastPaid_109 : decode cX3_leastPaid 109 = .ok (.iload 7, 2) := da9_dX3_leastPaid_88.2.2.2.2.2.2.2.2.2.2.2.2.1
theorem dX3_leastPaid_111 : decode cX3_leastPaid 111 = .ok (.invokevirtual 148, 3) := da9_dX3_leastPaid_88.2.2.2.2.2.2.2.2.2.2.2.2.2.1
theorem dX3_leastPaid_114 : decode cX3_leastPaid 114 = .ok (.ifCond .eq 6, 3) := da9_dX3_leastPaid_88.2.2.2.2.2.2.2.2.2.2.2.2.2.2.1
theorem dX3_leastPaid_117 : decode cX3_leastPaid 117 = .ok (.iload 4, 2) := da9_dX3_leastPaid_88.2.2.2.2.2.2.2.2.2.2.2.2.2.2.2
theorem da9_dX3_leastPaid_119 : (decode cX3_leastPaid 119 = .ok (.ireturn, 1)) ∧ (decode cX3_leastPaid 120 = .ok (.iload_n 3, 1)) ∧ (decode cX3_leastPaid 121 = .ok (.aload_n 0, 1)) ∧ (decode cX3_leastPaid 122 = .ok (.iload 7, 2)) ∧ (decode cX3_leastPaid 124 = .ok (.invokevirtual 151, 3)) ∧ (decode cX3_leastPaid 127 = .ok (.iconst 1, 1)) ∧ (decode cX3_leastPaid 128 = .ok (.isub, 1)) ∧ (decode cX3_leastPaid 129 = .ok (.iadd, 1)) ∧ (decode cX3_leastPaid 130 = .ok (.istore_n 3, 1)) ∧ (decode cX3_leastPaid 131 = .ok (.iinc 6 1, 3)) ∧ (decode cX3_leastPaid 134 = .ok (.goto (-61), 3)) ∧ (decode cX3_leastPaid 137 = .ok (.iinc 4 1, 3)) ∧ (decode cX3_leastPaid 140 = .ok (.goto (-93), 3)) ∧ (decode cX3_leastPaid 143 = .ok (.iconst (-1), 1)) ∧ (decode cX3_leastPaid 144 = .ok (.ireturn, 1)) := by decide +kernel
theorem dX3_leastPaid_119 : decode cX3_leastPaid 119 = .ok (.ireturn, 1) := da9_dX3_leastPaid_119.1
theorem dX3_leastPaid_120 : decode cX3_leastPaid 120 = .ok (.iload_n 3, 1) := da9_dX3_leastPaid_119.2.1
theorem dX3_leastPaid_121 : decode cX3_leastPaid 121 = .ok (.aload_n 0, 1) := da9_dX3_leastPaid_119.2.2.1
theorem dX3_leastPaid_122 : decode cX3_leastPaid 122 = .ok (.iload 7, 2) := da9_dX3_leastPaid_119.2.2.2.1
theorem dX3_leastPaid_124 : decode cX3_leastPaid 124 = .ok (.invokevirtual 151, 3) := da9_dX3_leastPaid_119.2.2.2.2.1
theorem dX3_leastPaid_127 : decode cX3_leastPaid 127 = .ok (.iconst 1, 1) := da9_dX3_leastPaid_119.2.2.2.2.2.1
theorem dX3_leastPaid_128 : decode cX3_leastPaid 128 = .ok (.isub, 1) := da9_dX3_leastPaid_119.2.2.2.2.2.2.1
theorem dX3_leastPaid_129 : decode cX3_leastPaid 129 = .ok (.iadd, 1) := da9_dX3_leastPaid_119.2.2.2.2.2.2.2.1
theorem dX3_leastPaid_130 : decode cX3_leastPaid 130 = .ok (.istore_n 3, 1) := da9_dX3_leastPaid_119.2.2.2.2.2.2.2.2.1
theorem dX3_leastPaid_131 : decode cX3_leastPaid 131 = .ok (.iinc 6 1, 3) := da9_dX3_leastPaid_119.2.2.2.2.2.2.2.2.2.1
theorem dX3_leastPaid_134 : decode cX3_leastPaid 134 = .ok (.goto (-61), 3) := da9_dX3_leastPaid_119.2.2.2.2.2.2.2.2.2.2.1
theorem dX3_leastPaid_137 : decode cX3_leastPaid 137 = .ok (.iinc 4 1, 3) := da9_dX3_leastPaid_119.2.2.2.2.2.2.2.2.2.2.2.1
theorem dX3_leastPaid_140 : decode cX3_leastPaid 140 = .ok (.goto (-93), 3) := da9_dX3_leastPaid_119.2.2.2.2.2.2.2.2.2.2.2.2.1
theorem dX3_leastPaid_143 : decode cX3_leastPaid 143 = .ok (.iconst (-1), 1) := da9_dX3_leastPaid_119.2.2.2.2.2.2.2.2.2.2.2.2.2.1
theorem dX3_leastPaid_144 : decode cX3_leastPaid 144 = .ok (.ireturn, 1) := da9_dX3_leastPaid_119.2.2.2.2.2.2.2.2.2.2.2.2.2.2
set_option maxRecDepth 20000 in
theorem ggX3_offerTurns_X3_turned : GoodIn wsX3_offerTurns wsX3_turned := wd_c vW9_ok mvW9_542
set_option maxRecDepth 20000 in
theorem gX3_offerTurns_X3_turned : GoodIn wsX3_offerTurns (wsV RX3 119 RX3 yX3_turned wsX3_turned) := goodIn_app (wd_l vW9_ok _ pvW9_16) ggX3_offerTurns_X3_turned
set_option maxRecDepth 20000 in
theorem ggX3_offerTurns_X3_caseOf : GoodIn wsX3_offerTurns wsX3_caseOf := wd_c vW9_ok mvW9_546
set_option maxRecDepth 20000 in
theorem gX3_offerTurns_X3_caseOf : GoodIn wsX3_offerTurns (wsV RX3 154 RX3 yX3_caseOf wsX3_caseOf) := goodIn_app (wd_l vW9_ok _ pvW9_24) ggX3_offerTurns_X3_caseOf
set_option maxRecDepth 20000 in
theorem ggX3_offerTurns_X3_takeFromBucket : GoodIn wsX3_offerTurns wsX3_takeFromBucket := wd_c vW9_ok mvW9_577
set_option maxRecDepth 20000 in
theorem gX3_offerTurns_X3_takeFromBucket : GoodIn wsX3_offerTurns (wsV RX3 145 RX3 yX3_takeFromBucket wsX3_takeFromBucket) := goodIn_app (wd_l vW9_ok _ pvW9_21) ggX3_offerTurns_X3_takeFromBucket
set_option maxRecDepth 20000 in
theorem ggX3_offerTurns_X3_putInBucket : GoodIn wsX3_offerTurns wsX3_putInBucket := wd_c vW9_ok mvW9_573
set_option maxRecDepth 20000 in
theorem gX3_offerTurns_X3_putInBucket : GoodIn wsX3_offerTurns (wsV RX3 141 RX3 yX3_putInBucket wsX3_putInBucket) := goodIn_app (wd_l vW9_ok _ pvW9_20) ggX3_offerTurns_X3_putInBucket
theorem da9_dX3_offerTurns_0 : (decode cX3_offerTurns 0 = .ok (.iconst 0, 1)) ∧ (decode cX3_offerTurns 1 = .ok (.istore_n 2, 1)) ∧ (decode cX3_offerTurns 2 = .ok (.iconst 1, 1)) ∧ (decode cX3_offerTurns 3 = .ok (.istore_n 3, 1)) ∧ (decode cX3_offerTurns 4 = .ok (.iload_n 3, 1)) ∧ (decode cX3_offerTurns 5 = .ok (.aload_n 0, 1)) ∧ (decode cX3_offerTurns 6 = .ok (.getfield 51, 3)) ∧ (decode cX3_offerTurns 9 = .ok (.if_icmp .gt 102, 3)) ∧ (decode cX3_offerTurns 12 = .ok (.aload_n 0, 1)) ∧ (decode cX3_offerTurns 13 = .ok (.iload_n 1, 1)) ∧ (decode cX3_offerTurns 14 = .ok (.iload_n 3, 1)) ∧ (decode cX3_offerTurns 15 = .ok (.invokevirtual 119, 3)) ∧ (decode cX3_offerTurns 18 = .ok (.istore 4, 2)) ∧ (decode cX3_offerTurns 20 = .ok (.aload_n 0, 1)) ∧ (decode cX3_offerTurns 21 = .ok (.iload_n 1, 1)) ∧ (decode cX3_offerTurns 22 = .ok (.iload_n 3, 1)) := by decide +kernel
theorem dX3_offerTurns_0 : decode cX3_offerTurns 0 = .ok (.iconst 0, 1) := da9_dX3_offerTurns_0.1
theorem dX3_offerTurns_1 : decode cX3_offerTurns 1 = .ok (.istore_n 2, 1) := da9_dX3_offerTurns_0.2.1
theorem dX3_offerTurns_2 : decode cX3_offerTurns 2 = .ok (.iconst 1, 1) := da9_dX3_offerTurns_0.2.2.1
theorem dX3_offerTurns_3 : decode cX3_offerTurns 3 = .ok (.istore_n 3, 1) := da9_dX3_offerTurns_0.2.2.2.1
theorem dX3_offerTurns_4 : decode cX3_offerTurns 4 = .ok (.iload_n 3, 1) := da9_dX3_offerTurns_0.2.2.2.2.1
theorem dX3_offerTurns_5 : decode cX3_offerTurns 5 = .ok (.aload_n 0, 1) := da9_dX3_offerTurns_0.2.2.2.2.2.1
theorem dX3_offerTurns_6 : decode cX3_offerTurns 6 = .ok (.getfield 51, 3) := da9_dX3_offerTurns_0.2.2.2.2.2.2.1
theorem dX3_offerTurns_9 : decode cX3_offerTurns 9 = .ok (.if_icmp .gt 102, 3) := da9_dX3_offerTurns_0.2.2.2.2.2.2.2.1
theorem dX3_offerTurns_12 : decode cX3_offerTurns 12 = .ok (.aload_n 0, 1) := da9_dX3_offerTurns_0.2.2.2.2.2.2.2.2.1
theorem dX3_offerTurns_13 : decode cX3_offerTurns 13 = .ok (.iload_n 1, 1) := da9_dX3_offerTurns_0.2.2.2.2.2.2.2.2.2.1
theorem dX3_offerTurns_14 : decode cX3_offerTurns 14 = .ok (.iload_n 3, 1) := da9_dX3_offerTurns_0.2.2.2.2.2.2.2.2.2.2.1
theorem dX3_offerTurns_15 : decode cX3_offerTurns 15 = .ok (.invokevirtual 119, 3) := da9_dX3_offerTurns_0.2.2.2.2.2.2.2.2.2.2.2.1
theorem dX3_offerTurns_18 : decode cX3_offerTurns 18 = .ok (.istore 4, 2) := da9_dX3_offerTurns_0.2.2.2.2.2.2.2.2.2.2.2.2.1
theorem dX3_offerTurns_20 : decode cX3_offerTurns 20 = .ok (.aload_n 0, 1) := da9_dX3_offerTurns_0.2.2.2.2.2.2.2.2.2.2.2.2.2.1
theorem dX3_offerTurns_21 : decode cX3_offerTurns 21 = .ok (.iload_n 1, 1) := da9_dX3_offerTurns_0.2.2.2.2.2.2.2.2.2.2.2.2.2.2.1
theorem dX3_offerTurns_22 : decode cX3_offerTurns 22 = .ok (.iload_n 3, 1) := da9_dX3_offerTurns_0.2.2.2.2.2.2.2.2.2.2.2.2.2.2.2
theorem da9_dX3_offerTurns_23 : (decode cX3_offerTurns 23 = .ok (.invokevirtual 154, 3)) ∧ (decode cX3_offerTurns 26 = .ok (.istore 5, 2)) ∧ (decode cX3_offerTurns 28 = .ok (.aload_n 0, 1)) ∧ (decode cX3_offerTurns 29 = .ok (.getfield 42, 3)) ∧ (decode cX3_offerTurns 32 = .ok (.iload_n 1, 1)) ∧ (decode cX3_offerTurns 33 = .ok (.iaload, 1)) ∧ (decode cX3_offerTurns 34 = .ok (.aload_n 0, 1)) ∧ (decode cX3_offerTurns 35 = .ok (.getfield 21, 3)) ∧ (decode cX3_offerTurns 38 = .ok (.iload 5, 2)) ∧ (decode cX3_offerTurns 40 = .ok (.iaload, 1)) ∧ (decode cX3_offerTurns 41 = .ok (.iadd, 1)) ∧ (decode cX3_offerTurns 42 = .ok (.istore 6, 2)) ∧ (decode cX3_offerTurns 44 = .ok (.aload_n 0, 1)) ∧ (decode cX3_offerTurns 45 = .ok (.getfield 18, 3)) ∧ (decode cX3_offerTurns 48 = .ok (.iload 5, 2)) ∧ (decode cX3_offerTurns 50 = .ok (.iaload, 1)) := by decide +kernel
theorem dX3_offerTurns_23 : decode cX3_offerTurns 23 = .ok (.invokevirtual 154, 3) := da9_dX3_offerTurns_23.1
theorem dX3_offerTurns_26 : decode cX3_offerTurns 26 = .ok (.istore 5, 2) := da9_dX3_offerTurns_23.2.1
theorem dX3_offerTurns_28 : decode cX3_offerTurns 28 = .ok (.aload_n 0, 1) := da9_dX3_offerTurns_23.2.2.1
theorem dX3_offerTurns_29 : decode cX3_offerTurns 29 = .ok (.getfield 42, 3) := da9_dX3_offerTurns_23.2.2.2.1
theorem dX3_offerTurns_32 : decode cX3_offerTurns 32 = .ok (.iload_n 1, 1) := da9_dX3_offerTurns_23.2.2.2.2.1
theorem dX3_offerTurns_33 : decode cX3_offerTurns 33 = .ok (.iaload, 1) := da9_dX3_offerTurns_23.2.2.2.2.2.1
theorem dX3_offerTurns_34 : decode cX3_offerTurns 34 = .ok (.aload_n 0, 1) := da9_dX3_offerTurns_23.2.2.2.2.2.2.1
theorem dX3_offerTurns_35 : decode cX3_offerTurns 35 = .ok (.getfield 21, 3) := da9_dX3_offerTurns_23.2.2.2.2.2.2.2.1
theorem dX3_offerTurns_38 : decode cX3_offerTurns 38 = .ok (.iload 5, 2) := da9_dX3_offerTurns_23.2.2.2.2.2.2.2.2.1
theorem dX3_offerTurns_40 : decode cX3_offerTurns 40 = .ok (.iaload, 1) := da9_dX3_offerTurns_23.2.2.2.2.2.2.2.2.2.1
theorem dX3_offerTurns_41 : decode cX3_offerTurns 41 = .ok (.iadd, 1) := da9_dX3_offerTurns_23.2.2.2.2.2.2.2.2.2.2.1
theorem dX3_offerTurns_42 : decode cX3_offerTurns 42 = .ok (.istore 6, 2) := da9_dX3_offerTurns_23.2.2.2.2.2.2.2.2.2.2.2.1
theorem dX3_offerTurns_44 : decode cX3_offerTurns 44 = .ok (.aload_n 0, 1) := da9_dX3_offerTurns_23.2.2.2.2.2.2.2.2.2.2.2.2.1
theorem dX3_offerTurns_45 : decode cX3_offerTurns 45 = .ok (.getfield 18, 3) := da9_dX3_offerTurns_23.2.2.2.2.2.2.2.2.2.2.2.2.2.1
theorem dX3_offerTurns_48 : decode cX3_offerTurns 48 = .ok (.iload 5, 2) := da9_dX3_offerTurns_23.2.2.2.2.2.2.2.2.2.2.2.2.2.2.1
theorem dX3_offerTurns_50 : decode cX3_offerTurns 50 = .ok (.iaload, 1) := da9_dX3_offerTurns_23.2.2.2.2.2.2.2.2.2.2.2.2.2.2.2
theorem da9_dX3_offerTurns_51 : (decode cX3_offerTurns 51 = .ok (.ifCond .ne 54, 3)) ∧ (decode cX3_offerTurns 54 = .ok (.iload 6, 2)) ∧ (decode cX3_offerTurns 56 = .ok (.aload_n 0, 1)) ∧ (decode cX3_offerTurns 57 = .ok (.getfield 42, 3)) ∧ (decode cX3_offerTurns 60 = .ok (.iload 4, 2)) ∧ (decode cX3_offerTurns 62 = .ok (.iaload, 1)) ∧ (decode cX3_offerTurns 63 = .ok (.if_icmp .ge 42, 3)) ∧ (decode cX3_offerTurns 66 = .ok (.aload_n 0, 1)) ∧ (decode cX3_offerTurns 67 = .ok (.getfield 42, 3)) ∧ (decode cX3_offerTurns 70 = .ok (.iload 4, 2)) ∧ (decode cX3_offerTurns 72 = .ok (.iaload, 1)) ∧ (decode cX3_offerTurns 73 = .ok (.ldc 140, 2)) ∧ (decode cX3_offerTurns 75 = .ok (.if_icmp .ne 9, 3)) ∧ (decode cX3_offerTurns 78 = .ok (.iinc 2 1, 3)) ∧ (decode cX3_offerTurns 81 = .ok (.goto 9, 3)) ∧ (decode cX3_offerTurns 84 = .ok (.aload_n 0, 1)) := by decide +kernel
theorem dX3_offerTurns_51 : decode cX3_offerTurns 51 = .ok (.ifCond .ne 54, 3) := da9_dX3_offerTurns_51.1
theorem dX3_offerTurns_54 : decode cX3_offerTurns 54 = .ok (.iload 6, 2) := da9_dX3_offerTurns_51.2.1
theorem dX3_offerTurns_56 : decode cX3_offerTurns 56 = .ok (.aload_n 0, 1) := da9_dX3_offerTurns_51.2.2.1
theorem dX3_offerTurns_57 : decode cX3_offerTurns 57 = .ok (.getfield 42, 3) := da9_dX3_offerTurns_51.2.2.2.1
theorem dX3_offerTurns_60 : decode cX3_offerTurns 60 = .ok (.iload 4, 2) := da9_dX3_offerTurns_51.2.2.2.2.1
theorem dX3_offerTurns_62 : decode cX3_offerTurns 62 = .ok (.iaload, 1) := da9_dX3_offerTurns_51.2.2.2.2.2.1
theorem dX3_offerTurns_63 : decode cX3_offerTurns 63 = .ok (.if_icmp .ge 42, 3) := da9_dX3_offerTurns_51.2.2.2.2.2.2.1
theorem dX3_offerTurns_66 : decode cX3_offerTurns 66 = .ok (.aload_n 0, 1) := da9_dX3_offerTurns_51.2.2.2.2.2.2.2.1
theorem dX3_offerTurns_67 : decode cX3_offerTurns 67 = .ok (.getfield 42, 3) := da9_dX3_offerTurns_51.2.2.2.2.2.2.2.2.1
theorem dX3_offerTurns_70 : decode cX3_offerTurns 70 = .ok (.iload 4, 2) := da9_dX3_offerTurns_51.2.2.2.2.2.2.2.2.2.1
theorem dX3_offerTurns_72 : decode cX3_offerTurns 72 = .ok (.iaload, 1) := da9_dX3_offerTurns_51.2.2.2.2.2.2.2.2.2.2.1
theorem dX3_offerTurns_73 : decode cX3_offerTurns 73 = .ok (.ldc 140, 2) := da9_dX3_offerTurns_51.2.2.2.2.2.2.2.2.2.2.2.1
theorem dX3_offerTurns_75 : decode cX3_offerTurns 75 = .ok (.if_icmp .ne 9, 3) := da9_dX3_offerTurns_51.2.2.2.2.2.2.2.2.2.2.2.2.1
theorem dX3_offerTurns_78 : decode cX3_offerTurns 78 = .ok (.iinc 2 1, 3) := da9_dX3_offerTurns_51.2.2.2.2.2.2.2.2.2.2.2.2.2.1
theorem dX3_offerTurns_81 : decode cX3_offerTurns 81 = .ok (.goto 9, 3) := da9_dX3_offerTurns_51.2.2.2.2.2.2.2.2.2.2.2.2.2.2.1
theorem dX3_offerTurns_84 : decode cX3_offerTurns 84 = .ok (.aload_n 0, 1) := da9_dX3_offerTurns_51.2.2.2.2.2.2.2.2.2.2.2.2.2.2.2
theorem da9_dX3_offerTurns_85 : (decode cX3_offerTurns 85 = .ok (.iload 4, 2)) ∧ (decode cX3_offerTurns 87 = .ok (.invokevirtual 145, 3)) ∧ (decode cX3_offerTurns 90 = .ok (.aload_n 0, 1)) ∧ (decode cX3_offerTurns 91 = .ok (.getfield 42, 3)) ∧ (decode cX3_offerTurns 94 = .ok (.iload 4, 2)) ∧ (decode cX3_offerTurns 96 = .ok (.iload 6, 2)) ∧ (decode cX3_offerTurns 98 = .ok (.iastore, 1)) ∧ (decode cX3_offerTurns 99 = .ok (.aload_n 0, 1)) ∧ (decode cX3_offerTurns 100 = .ok (.iload 4, 2)) ∧ (decode cX3_offerTurns 102 = .ok (.invokevirtual 141, 3)) ∧ (decode cX3_offerTurns 105 = .ok (.iinc 3 1, 3)) ∧ (decode cX3_offerTurns 108 = .ok (.goto (-104), 3)) ∧ (decode cX3_offerTurns 111 = .ok (.iload_n 2, 1)) ∧ (decode cX3_offerTurns 112 = .ok (.ireturn, 1)) := by decide +kernel
theorem dX3_offerTurns_85 : decode cX3_offerTurns 85 = .ok (.iload 4, 2) := da9_dX3_offerTurns_85.1
theorem dX3_offerTurns_87 : decode cX3_offerTurns 87 = .ok (.invokevirtual 145, 3) := da9_dX3_offerTurns_85.2.1
theorem dX3_offerTurns_90 : decode cX3_offerTurns 90 = .ok (.aload_n 0, 1) := da9_dX3_offerTurns_85.2.2.1
theorem dX3_offerTurns_91 : decode cX3_offerTurns 91 = .ok (.getfield 42, 3) := da9_dX3_offerTurns_85.2.2.2.1
theorem dX3_offerTurns_94 : decode cX3_offerTurns 94 = .ok (.iload 4, 2) := da9_dX3_offerTurns_85.2.2.2.2.1
theorem dX3_offerTurns_96 : decode cX3_offerTurns 96 = .ok (.iload 6, 2) := da9_dX3_offerTurns_85.2.2.2.2.2.1
theorem dX3_offerTurns_98 : decode cX3_offerTurns 98 = .ok (.iastore, 1) := da9_dX3_offerTurns_85.2.2.2.2.2.2.1
theorem dX3_offerTurns_99 : decode cX3_offerTurns 99 = .ok (.aload_n 0, 1) := da9_dX3_offerTurns_85.2.2.2.2.2.2.2.1
theorem dX3_offerTurns_100 : decode cX3_offerTurns 100 = .ok (.iload 4, 2) := da9_dX3_offerTurns_85.2.2.2.2.2.2.2.2.1
theorem dX3_offerTurns_102 : decode cX3_offerTurns 102 = .ok (.invokevirtual 141, 3) := da9_dX3_offerTurns_85.2.2.2.2.2.2.2.2.2.1
theorem dX3_offerTurns_105 : decode cX3_offerTurns 105 = .ok (.iinc 3 1, 3) := da9_dX3_offerTurns_85.2.2.2.2.2.2.2.2.2.2.1
theorem dX3_offerTurns_108 : decode cX3_offerTurns 108 = .ok (.goto (-104), 3) := da9_dX3_offerTurns_85.2.2.2.2.2.2.2.2.2.2.2.1
theorem dX3_offerTurns_111 : decode cX3_offerTurns 111 = .ok (.iload_n 2, 1) := da9_dX3_offerTurns_85.2.2.2.2.2.2.2.2.2.2.2.2.1
theorem dX3_offerTurns_112 : decode cX3_offerTurns 112 = .ok (.ireturn, 1) := da9_dX3_offerTurns_85.2.2.2.2.2.2.2.2.2.2.2.2.2
theorem da9_dX3_fits_0 : (decode cX3_fits 0 = .ok (.iload_n 1, 1)) ∧ (decode cX3_fits 1 = .ok (.aload_n 0, 1)) ∧ (decode cX3_fits 2 = .ok (.getfield 51, 3)) ∧ (decode cX3_fits 5 = .ok (.ishr, 1)) ∧ (decode cX3_fits 6 = .ok (.istore 4, 2)) ∧ (decode cX3_fits 8 = .ok (.iload_n 2, 1)) ∧ (decode cX3_fits 9 = .ok (.iconst 1, 1)) ∧ (decode cX3_fits 10 = .ok (.if_icmp .ne 15, 3)) ∧ (decode cX3_fits 13 = .ok (.iload 4, 2)) ∧ (decode cX3_fits 15 = .ok (.iload_n 3, 1)) ∧ (decode cX3_fits 16 = .ok (.if_icmp .ne 7, 3)) ∧ (decode cX3_fits 19 = .ok (.iconst 1, 1)) ∧ (decode cX3_fits 20 = .ok (.goto 4, 3)) ∧ (decode cX3_fits 23 = .ok (.iconst 0, 1)) ∧ (decode cX3_fits 24 = .ok (.ireturn, 1)) ∧ (decode cX3_fits 25 = .ok (.iload_n 2, 1)) := by decide +kernel
theorem dX3_fits_0 : decode cX3_fits 0 = .ok (.iload_n 1, 1) := da9_dX3_fits_0.1
theorem dX3_fits_1 : decode cX3_fits 1 = .ok (.aload_n 0, 1) := da9_dX3_fits_0.2.1
theorem dX3_fits_2 : decode cX3_fits 2 = .ok (.getfield 51, 3) := da9_dX3_fits_0.2.2.1
theorem dX3_fits_5 : decode cX3_fits 5 = .ok (.ishr, 1) := da9_dX3_fits_0.2.2.2.1
theorem dX3_fits_6 : decode cX3_fits 6 = .ok (.istore 4, 2) := da9_dX3_fits_0.2.2.2.2.1
theorem dX3_fits_8 : decode cX3_fits 8 = .ok (.iload_n 2, 1) := da9_dX3_fits_0.2.2.2.2.2.1
theorem dX3_fits_9 : decode cX3_fits 9 = .ok (.iconst 1, 1) := da9_dX3_fits_0.2.2.2.2.2.2.1
theorem dX3_fits_10 : decode cX3_fits 10 = .ok (.if_icmp .ne 15, 3) := da9_dX3_fits_0.2.2.2.2.2.2.2.1
theorem dX3_fits_13 : decode cX3_fits 13 = .ok (.iload 4, 2) := da9_dX3_fits_0.2.2.2.2.2.2.2.2.1
theorem dX3_fits_15 : decode cX3_fits 15 = .ok (.iload_n 3, 1) := da9_dX3_fits_0.2.2.2.2.2.2.2.2.2.1
theorem dX3_fits_16 : decode cX3_fits 16 = .ok (.if_icmp .ne 7, 3) := da9_dX3_fits_0.2.2.2.2.2.2.2.2.2.2.1
theorem dX3_fits_19 : decode cX3_fits 19 = .ok (.iconst 1, 1) := da9_dX3_fits_0.2.2.2.2.2.2.2.2.2.2.2.1
theorem dX3_fits_20 : decode cX3_fits 20 = .ok (.goto 4, 3) := da9_dX3_fits_0.2.2.2.2.2.2.2.2.2.2.2.2.1
theorem dX3_fits_23 : decode cX3_fits 23 = .ok (.iconst 0, 1) := da9_dX3_fits_0.2.2.2.2.2.2.2.2.2.2.2.2.2.1
theorem dX3_fits_24 : decode cX3_fits 24 = .ok (.ireturn, 1) := da9_dX3_fits_0.2.2.2.2.2.2.2.2.2.2.2.2.2.2.1
theorem dX3_fits_25 : decode cX3_fits 25 = .ok (.iload_n 2, 1) := da9_dX3_fits_0.2.2.2.2.2.2.2.2.2.2.2.2.2.2.2
theorem da9_dX3_fits_26 : (decode cX3_fits 26 = .ok (.iconst 2, 1)) ∧ (decode cX3_fits 27 = .ok (.if_icmp .ne 21, 3)) ∧ (decode cX3_fits 30 = .ok (.aload_n 0, 1)) ∧ (decode cX3_fits 31 = .ok (.getfield 30, 3)) ∧ (decode cX3_fits 34 = .ok (.iload 4, 2)) ∧ (decode cX3_fits 36 = .ok (.iaload, 1)) ∧ (decode cX3_fits 37 = .ok (.bipush 7, 2)) ∧ (decode cX3_fits 39 = .ok (.iand, 1)) ∧ (decode cX3_fits 40 = .ok (.iload_n 3, 1)) ∧ (decode cX3_fits 41 = .ok (.if_icmp .ne 7, 3)) ∧ (decode cX3_fits 44 = .ok (.iconst 1, 1)) ∧ (decode cX3_fits 45 = .ok (.goto 4, 3)) ∧ (decode cX3_fits 48 = .ok (.iconst 0, 1)) ∧ (decode cX3_fits 49 = .ok (.ireturn, 1)) := by decide +kernel
theorem dX3_fits_26 : decode cX3_fits 26 = .ok (.iconst 2, 1) := da9_dX3_fits_26.1
theorem dX3_fits_27 : decode cX3_fits 27 = .ok (.if_icmp .ne 21, 3) := da9_dX3_fits_26.2.1
theorem dX3_fits_30 : decode cX3_fits 30 = .ok (.aload_n 0, 1) := da9_dX3_fits_26.2.2.1
theorem dX3_fits_31 : decode cX3_fits 31 = .ok (.getfield 30, 3) := da9_dX3_fits_26.2.2.2.1
theorem dX3_fits_34 : decode cX3_fits 34 = .ok (.iload 4, 2) := da9_dX3_fits_26.2.2.2.2.1
theorem dX3_fits_36 : decode cX3_fits 36 = .ok (.iaload, 1) := da9_dX3_fits_26.2.2.2.2.2.1
theorem dX3_fits_37 : decode cX3_fits 37 = .ok (.bipush 7, 2) := da9_dX3_fits_26.2.2.2.2.2.2.1
theorem dX3_fits_39 : decode cX3_fits 39 = .ok (.iand, 1) := da9_dX3_fits_26.2.2.2.2.2.2.2.1
theorem dX3_fits_40 : decode cX3_fits 40 = .ok (.iload_n 3, 1) := da9_dX3_fits_26.2.2.2.2.2.2.2.2.1
theorem dX3_fits_41 : decode cX3_fits 41 = .ok (.if_icmp .ne 7, 3) := da9_dX3_fits_26.2.2.2.2.2.2.2.2.2.1
theorem dX3_fits_44 : decode cX3_fits 44 = .ok (.iconst 1, 1) := da9_dX3_fits_26.2.2.2.2.2.2.2.2.2.2.1
theorem dX3_fits_45 : decode cX3_fits 45 = .ok (.goto 4, 3) := da9_dX3_fits_26.2.2.2.2.2.2.2.2.2.2.2.1
theorem dX3_fits_48 : decode cX3_fits 48 = .ok (.iconst 0, 1) := da9_dX3_fits_26.2.2.2.2.2.2.2.2.2.2.2.2.1
theorem dX3_fits_49 : decode cX3_fits 49 = .ok (.ireturn, 1) := da9_dX3_fits_26.2.2.2.2.2.2.2.2.2.2.2.2.2
set_option maxRecDepth 20000 in
theorem ggX9_cheapest_X9_seated : GoodIn wsX9_cheapest wsX9_seated := wd_c vW9_ok mvW9_44
set_option maxRecDepth 20000 in
theorem gX9_cheapest_X9_seated : GoodIn wsX9_cheapest (wsV RX9 144 RX9 yX9_seated wsX9_seated) := goodIn_app (wd_l vW9_ok _ pvW9_97) ggX9_cheapest_X9_seated
set_option maxRecDepth 20000 in
theorem ggX9_cheapest_X9_spread : GoodIn wsX9_cheapest wsX9_spread := wd_c vW9_ok mvW9_457
set_option maxRecDepth 20000 in
theorem gX9_cheapest_X9_spread : GoodIn wsX9_cheapest (wsV RX9 226 RX9 yX9_spread wsX9_spread) := goodIn_app (wd_l vW9_ok _ pvW9_114) ggX9_cheapest_X9_spread
set_option maxRecDepth 20000 in
theorem ggX9_cheapest_X3_leastPaid : GoodIn wsX9_cheapest wsX3_leastPaid := wd_c vW9_ok mvW9_567
set_option maxRecDepth 20000 in
theorem gX9_cheapest_X3_leastPaid : GoodIn wsX9_cheapest (wsV RX9 243 RX3 yX3_leastPaid wsX3_leastPaid) := goodIn_app (wd_l vW9_ok _ pvW9_118) ggX9_cheapest_X3_leastPaid
theorem da9_dX9_cheapest_0 : (decode cX9_cheapest 0 = .ok (.aload_n 0, 1)) ∧ (decode cX9_cheapest 1 = .ok (.aload_n 0, 1)) ∧ (decode cX9_cheapest 2 = .ok (.invokevirtual 144, 3)) ∧ (decode cX9_cheapest 5 = .ok (.invokevirtual 226, 3)) ∧ (decode cX9_cheapest 8 = .ok (.aload_n 0, 1)) ∧ (decode cX9_cheapest 9 = .ok (.getfield 80, 3)) ∧ (decode cX9_cheapest 12 = .ok (.aload_n 0, 1)) ∧ (decode cX9_cheapest 13 = .ok (.getfield 50, 3)) ∧ (decode cX9_cheapest 16 = .ok (.aload_n 0, 1)) ∧ (decode cX9_cheapest 17 = .ok (.getfield 10, 3)) ∧ (decode cX9_cheapest 20 = .ok (.getfield 122, 3)) ∧ (decode cX9_cheapest 23 = .ok (.getfield 240, 3)) ∧ (decode cX9_cheapest 26 = .ok (.invokevirtual 243, 3)) ∧ (decode cX9_cheapest 29 = .ok (.ireturn, 1)) := by decide +kernel
theorem dX9_cheapest_0 : decode cX9_cheapest 0 = .ok (.aload_n 0, 1) := da9_dX9_cheapest_0.1
theorem dX9_cheapest_1 : decode cX9_cheapest 1 = .ok (.aload_n 0, 1) := da9_dX9_cheapest_0.2.1
theorem dX9_cheapest_2 : decode cX9_cheapest 2 = .ok (.invokevirtual 144, 3) := da9_dX9_cheapest_0.2.2.1
theorem dX9_cheapest_5 : decode cX9_cheapest 5 = .ok (.invokevirtual 226, 3) := da9_dX9_cheapest_0.2.2.2.1
theorem dX9_cheapest_8 : decode cX9_cheapest 8 = .ok (.aload_n 0, 1) := da9_dX9_cheapest_0.2.2.2.2.1
theorem dX9_cheapest_9 : decode cX9_cheapest 9 = .ok (.getfield 80, 3) := da9_dX9_cheapest_0.2.2.2.2.2.1
theorem dX9_cheapest_12 : decode cX9_cheapest 12 = .ok (.aload_n 0, 1) := da9_dX9_cheapest_0.2.2.2.2.2.2.1
theorem dX9_cheapest_13 : decode cX9_cheapest 13 = .ok (.getfield 50, 3) := da9_dX9_cheapest_0.2.2.2.2.2.2.2.1
theorem dX9_cheapest_16 : decode cX9_cheapest 16 = .ok (.aload_n 0, 1) := da9_dX9_cheapest_0.2.2.2.2.2.2.2.2.1
theorem dX9_cheapest_17 : decode cX9_cheapest 17 = .ok (.getfield 10, 3) := da9_dX9_cheapest_0.2.2.2.2.2.2.2.2.2.1
theorem dX9_cheapest_20 : decode cX9_cheapest 20 = .ok (.getfield 122, 3) := da9_dX9_cheapest_0.2.2.2.2.2.2.2.2.2.2.1
theorem dX9_cheapest_23 : decode cX9_cheapest 23 = .ok (.getfield 240, 3) := da9_dX9_cheapest_0.2.2.2.2.2.2.2.2.2.2.2.1
theorem dX9_cheapest_26 : decode cX9_cheapest 26 = .ok (.invokevirtual 243, 3) := da9_dX9_cheapest_0.2.2.2.2.2.2.2.2.2.2.2.2.1
theorem dX9_cheapest_29 : decode cX9_cheapest 29 = .ok (.ireturn, 1) := da9_dX9_cheapest_0.2.2.2.2.2.2.2.2.2.2.2.2.2
set_option maxRecDepth 20000 in
theorem ggX9_worst_X9_seated : GoodIn wsX9_worst wsX9_seated := wd_c vW9_ok mvW9_44
set_option maxRecDepth 20000 in
theorem gX9_worst_X9_seated : GoodIn wsX9_worst (wsV RX9 144 RX9 yX9_seated wsX9_seated) := goodIn_app (wd_l vW9_ok _ pvW9_97) ggX9_worst_X9_seated
set_option maxRecDepth 20000 in
theorem ggX9_worst_X9_spread : GoodIn wsX9_worst wsX9_spread := wd_c vW9_ok mvW9_457
set_option maxRecDepth 20000 in
theorem gX9_worst_X9_spread : GoodIn wsX9_worst (wsV RX9 226 RX9 yX9_spread wsX9_spread) := goodIn_app (wd_l vW9_ok _ pvW9_114) ggX9_worst_X9_spread
set_option maxRecDepth 20000 in
theorem ggX9_worst_X3_worstTowers : GoodIn wsX9_worst wsX3_worstTowers := wd_c vW9_ok mvW9_585
set_option maxRecDepth 20000 in
theorem gX9_worst_X3_worstTowers : GoodIn wsX9_worst (wsV RX9 247 RX3 yX3_worstTowers wsX3_worstTowers) := goodIn_app (wd_l vW9_ok _ pvW9_119) ggX9_worst_X3_worstTowers
theorem da9_dX9_worst_0 : (decode cX9_worst 0 = .ok (.iload_n 1, 1)) ∧ (decode cX9_worst 1 = .ok (.ifCond .lt 8, 3)) ∧ (decode cX9_worst 4 = .ok (.iload_n 1, 1)) ∧ (decode cX9_worst 5 = .ok (.iconst 2, 1)) ∧ (decode cX9_worst 6 = .ok (.if_icmp .le 5, 3)) ∧ (decode cX9_worst 9 = .ok (.iconst (-1), 1)) ∧ (decode cX9_worst 10 = .ok (.ireturn, 1)) ∧ (decode cX9_worst 11 = .ok (.aload_n 0, 1)) ∧ (decode cX9_worst 12 = .ok (.aload_n 0, 1)) ∧ (decode cX9_worst 13 = .ok (.invokevirtual 144, 3)) ∧ (decode cX9_worst 16 = .ok (.invokevirtual 226, 3)) ∧ (decode cX9_worst 19 = .ok (.aload_n 0, 1)) ∧ (decode cX9_worst 20 = .ok (.getfield 80, 3)) ∧ (decode cX9_worst 23 = .ok (.iload_n 1, 1)) ∧ (decode cX9_worst 24 = .ok (.invokevirtual 247, 3)) ∧ (decode cX9_worst 27 = .ok (.ireturn, 1)) := by decide +kernel
theorem dX9_worst_0 : decode cX9_worst 0 = .ok (.iload_n 1, 1) := da9_dX9_worst_0.1
theorem dX9_worst_1 : decode cX9_worst 1 = .ok (.ifCond .lt 8, 3) := da9_dX9_worst_0.2.1
theorem dX9_worst_4 : decode cX9_worst 4 = .ok (.iload_n 1, 1) := da9_dX9_worst_0.2.2.1
theorem dX9_worst_5 : decode cX9_worst 5 = .ok (.iconst 2, 1) := da9_dX9_worst_0.2.2.2.1
theorem dX9_worst_6 : decode cX9_worst 6 = .ok (.if_icmp .le 5, 3) := da9_dX9_worst_0.2.2.2.2.1
theorem dX9_worst_9 : decode cX9_worst 9 = .ok (.iconst (-1), 1) := da9_dX9_worst_0.2.2.2.2.2.1
theorem dX9_worst_10 : decode cX9_worst 10 = .ok (.ireturn, 1) := da9_dX9_worst_0.2.2.2.2.2.2.1
theorem dX9_worst_11 : decode cX9_worst 11 = .ok (.aload_n 0, 1) := da9_dX9_worst_0.2.2.2.2.2.2.2.1
theorem dX9_worst_12 : decode cX9_worst 12 = .ok (.aload_n 0, 1) := da9_dX9_worst_0.2.2.2.2.2.2.2.2.1
theorem dX9_worst_13 : decode cX9_worst 13 = .ok (.invokevirtual 144, 3) := da9_dX9_worst_0.2.2.2.2.2.2.2.2.2.1
theorem dX9_worst_16 : decode cX9_worst 16 = .ok (.invokevirtual 226, 3) := da9_dX9_worst_0.2.2.2.2.2.2.2.2.2.2.1
theorem dX9_worst_19 : decode cX9_worst 19 = .ok (.aload_n 0, 1) := da9_dX9_worst_0.2.2.2.2.2.2.2.2.2.2.2.1
theorem dX9_worst_20 : decode cX9_worst 20 = .ok (.getfield 80, 3) := da9_dX9_worst_0.2.2.2.2.2.2.2.2.2.2.2.2.1
theorem dX9_worst_23 : decode cX9_worst 23 = .ok (.iload_n 1, 1) := da9_dX9_worst_0.2.2.2.2.2.2.2.2.2.2.2.2.2.1
theorem dX9_worst_24 : decode cX9_worst 24 = .ok (.invokevirtual 247, 3) := da9_dX9_worst_0.2.2.2.2.2.2.2.2.2.2.2.2.2.2.1
theorem dX9_worst_27 : decode cX9_worst 27 = .ok (.ireturn, 1) := da9_dX9_worst_0.2.2.2.2.2.2.2.2.2.2.2.2.2.2.2
end
section
theorem u9_wsX3_offerTurns_X3 : ∀ w ∈ u_ws RX3 TX3 20, w ∈ wsX3_offerTurns := fun w h => List.mem_cons_of_mem _ (vW9_wsX30 w h)
theorem f9_wsX3_offerTurns_833 : (Cond.fieldLink RX3 42 "TurnedFloors$Paper" "marks" "[I") ∈ wsX3_offerTurns := List.mem_cons_of_mem _ mvW9_476
theorem f9_wsX3_offerTurns_834 : (Cond.fieldLink RX3 51 "TurnedFloors$Paper" "floors" "I") ∈ wsX3_offerTurns := List.mem_cons_of_mem _ mvW9_463
theorem f9_wsX3_offerTurns_835 : (Cond.fieldLink RX3 21 "TurnedFloors$Paper" "pays" "[I") ∈ wsX3_offerTurns := List.mem_cons_of_mem _ mvW9_508
theorem f9_wsX3_offerTurns_836 : (Cond.fieldLink RX3 18 "TurnedFloors$Paper" "barred" "[I") ∈ wsX3_offerTurns := List.mem_cons_of_mem _ mvW9_507
theorem f9_wsX3_offerTurns_837 : (Cond.constant RX3 140 2000000000) ∈ wsX3_offerTurns := List.mem_cons_of_mem _ mvW9_568
theorem u9_wsX3_leastPaid_X3 : ∀ w ∈ u_ws RX3 TX3 20, w ∈ wsX3_leastPaid := fun w h => List.mem_cons_of_mem _ (vW9_wsX30 w h)
theorem f9_wsX3_leastPaid_839 : (Cond.fieldLink RX3 55 "TurnedFloors$Paper" "size" "I") ∈ wsX3_leastPaid := List.mem_cons_of_mem _ mvW9_466
theorem f9_wsX3_leastPaid_840 : (Cond.fieldLink RX3 27 "TurnedFloors$Paper" "buckets" "[I") ∈ wsX3_leastPaid := List.mem_cons_of_mem _ mvW9_569
theorem f9_wsX3_leastPaid_841 : (Cond.fieldLink RX3 42 "TurnedFloors$Paper" "marks" "[I") ∈ wsX3_leastPaid := List.mem_cons_of_mem _ mvW9_476
theorem f9_wsX3_leastPaid_842 : (Cond.constant RX3 140 2000000000) ∈ wsX3_leastPaid := List.mem_cons_of_mem _ mvW9_568
theorem f9_wsX3_leastPaid_843 : (Cond.fieldLink RX3 58 "TurnedFloors$Paper" "start" "I") ∈ wsX3_leastPaid := List.mem_cons_of_mem _ mvW9_471
theorem u9_wsX9_cheapest_X9 : ∀ w ∈ u_ws RX9 TX9 19, w ∈ wsX9_cheapest := fun w h => List.mem_cons_of_mem _ (vW9_wsX90 w h)
theorem u9_wsX9_cheapest_X6 : ∀ w ∈ u_ws RX6 TX6 10, w ∈ wsX9_cheapest := fun w h => List.mem_cons_of_mem _ (vW9_wsX60 w h)
theorem u9_wsX9_cheapest_X8 : ∀ w ∈ u_ws RX8 TX8 5, w ∈ wsX9_cheapest := fun w h => List.mem_cons_of_mem _ (vW9_wsX80 w h)
theorem f9_wsX9_cheapest_847 : (Cond.fieldLink RX9 80 "TurnedFloors" "paper" "LTurnedFloors$Paper;") ∈ wsX9_cheapest := List.mem_cons_of_mem _ mvW9_453
theorem f9_wsX9_cheapest_848 : (Cond.fieldLink RX9 50 "TurnedFloors" "judge" "LTurnedFloors$Judge;") ∈ wsX9_cheapest := List.mem_cons_of_mem _ mvW9_45
theorem f9_wsX9_cheapest_849 : (Cond.fieldLink RX9 10 "TurnedFloors" "state" "LTurnedFloors$State;") ∈ wsX9_cheapest := List.mem_cons_of_mem _ mvW9_0
theorem f9_wsX3_worstTowers_850 : (Cond.initialized RX9) ∈ wsX3_worstTowers := List.mem_cons_of_mem _ mvW9_4
theorem u9_wsX3_worstTowers_X3 : ∀ w ∈ u_ws RX3 TX3 20, w ∈ wsX3_worstTowers := fun w h => List.mem_cons_of_mem _ (vW9_wsX30 w h)
theorem f9_wsX3_worstTowers_852 : (Cond.fieldLink RX3 55 "TurnedFloors$Paper" "size" "I") ∈ wsX3_worstTowers := List.mem_cons_of_mem _ mvW9_466
theorem f9_wsX3_worstTowers_853 : (Cond.fieldLink RX3 39 "TurnedFloors$Paper" "toOrder" "[I") ∈ wsX3_worstTowers := List.mem_cons_of_mem _ mvW9_467
theorem u9_wsX9_worst_X9 : ∀ w ∈ u_ws RX9 TX9 19, w ∈ wsX9_worst := fun w h => List.mem_cons_of_mem _ (vW9_wsX90 w h)
theorem f9_wsX9_worst_855 : (Cond.fieldLink RX9 80 "TurnedFloors" "paper" "LTurnedFloors$Paper;") ∈ wsX9_worst := List.mem_cons_of_mem _ mvW9_453
theorem u9_wsX3_fits_X3 : ∀ w ∈ u_ws RX3 TX3 20, w ∈ wsX3_fits := fun w h => List.mem_cons_of_mem _ (vW9_wsX30 w h)
theorem f9_wsX3_fits_857 : (Cond.fieldLink RX3 51 "TurnedFloors$Paper" "floors" "I") ∈ wsX3_fits := List.mem_cons_of_mem _ mvW9_463
theorem f9_wsX3_fits_858 : (Cond.fieldLink RX3 30 "TurnedFloors$Paper" "orders" "[I") ∈ wsX3_fits := List.mem_cons_of_mem _ mvW9_479
set_option maxHeartbeats 4000000 in
set_option maxRecDepth 100000 in
theorem WX3_offerTurns_s32_105 {p : Program} {l : Launch} {e : Env} {s : State} {m : MethodId} {args : Array Value} {below : List Frame} {meth : Method} {c : Code} {D : va_G} {ty : Nat → ClassId} {eo : Nat → Nat} {A : Nat → Prop} {ad : Nat → Nat} {o1 : Int32} {o2 : dK} (C : dc_C p s m args meth c cX3_offerTurns (some .int) 7 RX3 wsX3_offerTurns D ty eo A) {k4 : dK → Int32 → Int32 → Int32 → Option (Int32 × dK)} (hk4 : ∀ (q : dK) (x1 : Int32) (x2 : Int32) (x3 : Int32) (H : Heap) (locs : List Loc) (ls : Array Slot), k4 q x1 x2 x3 = some (o1, o2) → va_P D vwCl (wF ty ad q) H → va_D A (wF ty ad q) → va_S A s.heap H locs → lv_has ls 7 [(0, .ref (ad 32)), (1, .int x1), (2, .int x2), (3, .int x3)] → W p l e ({ frames := 2, cells := 0, slots := 0, locals := 47 } : Room) s m args below meth c H locs 0 0 (MQ below (va_Qi (fun (r : Int32) (u : va_W) => o1 = r ∧ wF ty ad o2 = u) (kz_B D ty A) A) args s 0 0 A) (F0 m 4 ls [])) (q : dK) (x1 : Int32) (x2 : Int32) (x3 : Int32) (H : Heap) (locs : List Loc) (ls : Array Slot) (h : zX3_offerTurns_s32_105 k4 q x1 x2 x3 = some (o1, o2)) (hP : va_P D vwCl (wF ty ad q) H) (hD : va_D A (wF ty ad q)) (hS : va_S A s.heap H locs) (hl : lv_has ls 7 [(0, .ref (ad 32)), (1, .int x1), (2, .int x2), (3, .int x3)]) : W p l e ({ frames := 2, cells := 0, slots := 0, locals := 47 } : Room) s m args below meth c H locs 0 0 (MQ below (va_Qi (fun (r : Int32) (u : va_W) => o1 = r ∧ wF ty ad o2 = u) (kz_B D ty A) A) args s 0 0 A) (F0 m 105 ls []) := by
  have C0 := C
  obtain ⟨hx, hb, hr, hts, hown, hlocks, hml, hK, hN, hE, hA⟩ := C
  unfold zX3_offerTurns_s32_105 at h
  refine lv_iinc (v := x3 + 1) (lv' := [(3, .int (x3 + 1)), (0, .ref (ad 32)), (1, .int x1), (2, .int x2)]) hx hb dX3_offerTurns_105 hl (k := 3) rfl rfl (by decide) rfl (fun ls hl => ?_)
  refine lv_goto (tgt := 4) hx hb dX3_offerTurns_108 (by decide) ?_
  exact hk4 _ _ _ _ _ _ _ h hP hD hS (lv_sub hl [1, 2, 3, 0] rfl)
set_option maxHeartbeats 4000000 in
set_option maxRecDepth 100000 in
theorem WX3_offerTurns_s32_90 {p : Program} {l : Launch} {e : Env} {s : State} {m : MethodId} {args : Array Value} {below : List Frame} {meth : Method} {c : Code} {D : va_G} {ty : Nat → ClassId} {eo : Nat → Nat} {A : Nat → Prop} {ad : Nat → Nat} {o1 : Int32} {o2 : dK} (C : dc_C p s m args meth c cX3_offerTurns (some .int) 7 RX3 wsX3_offerTurns D ty eo A) {k4 : dK → Int32 → Int32 → Int32 → Option (Int32 × dK)} (hk4 : ∀ (q : dK) (x1 : Int32) (x2 : Int32) (x3 : Int32) (H : Heap) (locs : List Loc) (ls : Array Slot), k4 q x1 x2 x3 = some (o1, o2) → va_P D vwCl (wF ty ad q) H → va_D A (wF ty ad q) → va_S A s.heap H locs → lv_has ls 7 [(0, .ref (ad 32)), (1, .int x1), (2, .int x2), (3, .int x3)] → W p l e ({ frames := 2, cells := 0, slots := 0, locals := 47 } : Room) s m args below meth c H locs 0 0 (MQ below (va_Qi (fun (r : Int32) (u : va_W) => o1 = r ∧ wF ty ad o2 = u) (kz_B D ty A) A) args s 0 0 A) (F0 m 4 ls [])) (q : dK) (x1 : Int32) (x2 : Int32) (x3 : Int32) (x4 : Int32) (x6 : Int32) (H : Heap) (locs : List Loc) (ls : Array Slot) (h : zX3_offerTurns_s32_90 k4 q x1 x2 x3 x4 x6 = some (o1, o2)) (hP : va_P D vwCl (wF ty ad q) H) (hD : va_D A (wF ty ad q)) (hS : va_S A s.heap H locs) (hl : lv_has ls 7 [(0, .ref (ad 32)), (1, .int x1), (2, .int x2), (3, .int x3), (4, .int x4), (6, .int x6)]) : W p l e ({ frames := 2, cells := 0, slots := 0, locals := 47 } : Room) s m args below meth c H locs 0 0 (MQ below (va_Qi (fun (r : Int32) (u : va_W) => o1 = r ∧ wF ty ad o2 = u) (kz_B D ty A) A) args s 0 0 A) (F0 m 90 ls []) := by
  have C0 := C
  obtain ⟨hx, hb, hr, hts, hown, hlocks, hml, hK, hN, hE, hA⟩ := C
  unfold zX3_offerTurns_s32_90 at h
  refine lv_aload_n hx hb dX3_offerTurns_90 rfl (lv_at hl 0 rfl) ?_
  refine va_get (D := D) (ci := 3) (v := .ref (ad 43)) (C := RX3) (T := TX3) (N := 20) hx hb hts u9_wsX3_offerTurns_X3 hown hK hP 32 rfl rfl 10 (by decide) (hts (.fieldLink RX3 42 "TurnedFloors$Paper" "marks" "[I") f9_wsX3_offerTurns_833) (fun _ h9 => h9) rfl dX3_offerTurns_91 ?_
  refine lv_iload hx hb dX3_offerTurns_94 (lv_at hl 4 rfl) ?_
  refine lv_iload hx hb dX3_offerTurns_96 (lv_at hl 5 rfl) ?_
  obtain ⟨g1, h⟩ := dG_some h
  refine va_iast hx hb hK hP hD hS 43 0 rfl rfl (dg_in g1) dX3_offerTurns_98 (fun H locs hp hd hs => ?_)
  obtain ⟨q2, eq2, h⟩ := dL_some h
  refine kz_re (w2 := wF ty ad q2) hp hd hs (by rw [← eq2]; exact wF_a43 ty ad q (Int32.toNatClampNeg x4) x6) ?_
  clear hp hd hs hP hD hS
  intro hP hD hS
  refine lv_aload_n hx hb dX3_offerTurns_99 rfl (lv_at hl 0 rfl) ?_
  refine lv_iload hx hb dX3_offerTurns_100 (lv_at hl 4 rfl) ?_
  obtain ⟨q5, h4, h⟩ := dV_some h
  refine dw_kv (va_runV (As := [.int x4]) (rest := []) ⟨hx, hb, hml, hown, hts⟩ (qX3_putInBucket_s32 l D ty eo _ ad q2 x4 q5 h4) (cwV 1 hts gX3_offerTurns_X3_putInBucket rfl rfl rfl hd_X3_putInBucket_v ⟨Nat.le_of_ble_eq_true rfl, Nat.le_of_ble_eq_true rfl⟩) (pvF_3_32 hK hN hE hP hD hS hA) rfl rfl hl.1 rfl (lv_room (Nat.le_of_ble_eq_true rfl)) dX3_offerTurns_102 ⟨Nat.le_of_ble_eq_true rfl, Nat.le_of_ble_eq_true rfl⟩) hD hS hA (fun u9 H locs hw hp hd hs => ?_)
  clear hP hD hS
  obtain rfl := hw
  have hP := hp; have hD := hd; have hS := hs; clear hp hd hs
  exact WX3_offerTurns_s32_105 C0 hk4 _ _ _ _ _ _ _ h hP hD hS (lv_sub hl [0, 1, 2, 3] rfl)
set_option maxHeartbeats 4000000 in
set_option maxRecDepth 100000 in
theorem WX3_offerTurns_s32_4b {p : Program} {l : Launch} {e : Env} {s : State} {m : MethodId} {args : Array Value} {below : List Frame} {meth : Method} {c : Code} {D : va_G} {ty : Nat → ClassId} {eo : Nat → Nat} {A : Nat → Prop} {ad : Nat → Nat} {o1 : Int32} {o2 : dK} (C : dc_C p s m args meth c cX3_offerTurns (some .int) 7 RX3 wsX3_offerTurns D ty eo A) {k4 : dK → Int32 → Int32 → Int32 → Option (Int32 × dK)} (hk4 : ∀ (q : dK) (x1 : Int32) (x2 : Int32) (x3 : Int32) (H : Heap) (locs : List Loc) (ls : Array Slot), k4 q x1 x2 x3 = some (o1, o2) → va_P D vwCl (wF ty ad q) H → va_D A (wF ty ad q) → va_S A s.heap H locs → lv_has ls 7 [(0, .ref (ad 32)), (1, .int x1), (2, .int x2), (3, .int x3)] → W p l e ({ frames := 2, cells := 0, slots := 0, locals := 47 } : Room) s m args below meth c H locs 0 0 (MQ below (va_Qi (fun (r : Int32) (u : va_W) => o1 = r ∧ wF ty ad o2 = u) (kz_B D ty A) A) args s 0 0 A) (F0 m 4 ls [])) (q : dK) (x1 : Int32) (x2 : Int32) (x3 : Int32) (H : Heap) (locs : List Loc) (ls : Array Slot) (h : zX3_offerTurns_s32_4b k4 q x1 x2 x3 = some (o1, o2)) (hP : va_P D vwCl (wF ty ad q) H) (hD : va_D A (wF ty ad q)) (hS : va_S A s.heap H locs) (hl : lv_has ls 7 [(0, .ref (ad 32)), (1, .int x1), (2, .int x2), (3, .int x3)]) : W p l e ({ frames := 2, cells := 0, slots := 0, locals := 47 } : Room) s m args below meth c H locs 0 0 (MQ below (va_Qi (fun (r : Int32) (u : va_W) => o1 = r ∧ wF ty ad o2 = u) (kz_B D ty A) A) args s 0 0 A) (F0 m 4 ls []) := by
  have C0 := C
  obtain ⟨hx, hb, hr, hts, hown, hlocks, hml, hK, hN, hE, hA⟩ := C
  unfold zX3_offerTurns_s32_4b at h
  refine lv_iload_n hx hb dX3_offerTurns_4 rfl (lv_at hl 3 rfl) ?_
  refine lv_aload_n hx hb dX3_offerTurns_5 rfl (lv_at hl 0 rfl) ?_
  refine va_get (D := D) (ci := 3) (v := .int (q.1 32 13)) (C := RX3) (T := TX3) (N := 20) hx hb hts u9_wsX3_offerTurns_X3 hown hK hP 32 rfl rfl 13 (by decide) (hts (.fieldLink RX3 51 "TurnedFloors$Paper" "floors" "I") f9_wsX3_offerTurns_834) (fun _ h9 => h9) rfl dX3_offerTurns_6 ?_
  refine lv_icmp_gt (tgt := 111) hx hb dX3_offerTurns_9 (by decide) (fun c9 => ?_) (fun c9 => ?_)
  · rw [if_pos c9] at h
    refine lv_iload_n hx hb dX3_offerTurns_111 rfl (lv_at hl 2 rfl) ?_
    cases h
    exact kz_iret hx hb hr hlocks hP hK hD hS dX3_offerTurns_112 ⟨rfl, rfl⟩
  · rw [if_neg c9] at h
    refine lv_aload_n hx hb dX3_offerTurns_12 rfl (lv_at hl 0 rfl) ?_
    refine lv_iload_n hx hb dX3_offerTurns_13 rfl (lv_at hl 1 rfl) ?_
    refine lv_iload_n hx hb dX3_offerTurns_14 rfl (lv_at hl 3 rfl) ?_
    obtain ⟨r1, q3, h2, h⟩ := dB_some h
    refine dw_ki (va_runV (As := [.int x1, .int x3]) (rest := []) ⟨hx, hb, hml, hown, hts⟩ (qX3_turned_s32 l D ty eo _ ad q x1 x3 r1 q3 h2) (cwV 2 hts gX3_offerTurns_X3_turned rfl rfl rfl hd_X3_turned_v ⟨Nat.le_of_ble_eq_true rfl, Nat.le_of_ble_eq_true rfl⟩) (pvF_3_32 hK hN hE hP hD hS hA) rfl rfl hl.1 rfl (lv_room (Nat.le_of_ble_eq_true rfl)) dX3_offerTurns_15 ⟨Nat.le_of_ble_eq_true rfl, Nat.le_of_ble_eq_true rfl⟩) hD hS hA (fun r9 u9 H locs hw hp hd hs => ?_)
    clear hP hD hS
    obtain ⟨rfl, rfl⟩ := hw
    have hP := hp; have hD := hd; have hS := hs; clear hp hd hs
    refine lv_istore (lv' := [(4, .int r1), (0, .ref (ad 32)), (1, .int x1), (2, .int x2), (3, .int x3)]) hx hb dX3_offerTurns_18 hl (by decide) rfl (fun ls hl => ?_)
    refine lv_aload_n hx hb dX3_offerTurns_20 rfl (lv_at hl 1 rfl) ?_
    refine lv_iload_n hx hb dX3_offerTurns_21 rfl (lv_at hl 2 rfl) ?_
    refine lv_iload_n hx hb dX3_offerTurns_22 rfl (lv_at hl 4 rfl) ?_
    obtain ⟨r4, q6, h5, h⟩ := dB_some h
    refine dw_ki (va_runV (As := [.int x1, .int x3]) (rest := []) ⟨hx, hb, hml, hown, hts⟩ (qX3_caseOf_s32 l D ty eo _ ad q3 x1 x3 r4 q6 h5) (cwV 2 hts gX3_offerTurns_X3_caseOf rfl rfl rfl hd_X3_caseOf_v ⟨Nat.le_of_ble_eq_true rfl, Nat.le_of_ble_eq_true rfl⟩) (pvF_3_32 hK hN hE hP hD hS hA) rfl rfl hl.1 rfl (lv_room (Nat.le_of_ble_eq_true rfl)) dX3_offerTurns_23 ⟨Nat.le_of_ble_eq_true rfl, Nat.le_of_ble_eq_true rfl⟩) hD hS hA (fun r9 u9 H locs hw hp hd hs => ?_)
    clear hP hD hS
    obtain ⟨rfl, rfl⟩ := hw
    have hP := hp; have hD := hd; have hS := hs; clear hp hd hs
    refine lv_istore (lv' := [(5, .int r4), (4, .int r1), (0, .ref (ad 32)), (1, .int x1), (2, .int x2), (3, .int x3)]) hx hb dX3_offerTurns_26 hl (by decide) rfl (fun ls hl => ?_)
    refine lv_aload_n hx hb dX3_offerTurns_28 rfl (lv_at hl 2 rfl) ?_
    refine va_get (D := D) (ci := 3) (v := .ref (ad 43)) (C := RX3) (T := TX3) (N := 20) hx hb hts u9_wsX3_offerTurns_X3 hown hK hP 32 rfl rfl 10 (by decide) (hts (.fieldLink RX3 42 "TurnedFloors$Paper" "marks" "[I") f9_wsX3_offerTurns_833) (fun _ h9 => h9) rfl dX3_offerTurns_29 ?_
    refine lv_iload_n hx hb dX3_offerTurns_32 rfl (lv_at hl 3 rfl) ?_
    obtain ⟨g7, h⟩ := dG_some h
    refine va_iald hx hb hK hP 43 0 rfl rfl (dg_in g7) dX3_offerTurns_33 ?_
    obtain ⟨v8, ev8, h⟩ := dL_some h
    refine kz_topi v8 ev8 ?_
    refine lv_aload_n hx hb dX3_offerTurns_34 rfl (lv_at hl 2 rfl) ?_
    refine va_get (D := D) (ci := 3) (v := .ref (ad 36)) (C := RX3) (T := TX3) (N := 20) hx hb hts u9_wsX3_offerTurns_X3 hown hK hP 32 rfl rfl 3 (by decide) (hts (.fieldLink RX3 21 "TurnedFloors$Paper" "pays" "[I") f9_wsX3_offerTurns_835) (fun _ h9 => h9) rfl dX3_offerTurns_35 ?_
    refine lv_iload hx hb dX3_offerTurns_38 (lv_at hl 0 rfl) ?_
    obtain ⟨g9, h⟩ := dG_some h
    refine va_iald hx hb hK hP 36 0 rfl rfl (dg_in g9) dX3_offerTurns_40 ?_
    obtain ⟨v10, ev10, h⟩ := dL_some h
    refine kz_topi v10 ev10 ?_
    refine lv_iadd hx hb dX3_offerTurns_41 ?_
    refine lv_istore (lv' := [(6, .int (v8 + v10)), (5, .int r4), (4, .int r1), (0, .ref (ad 32)), (1, .int x1), (2, .int x2), (3, .int x3)]) hx hb dX3_offerTurns_42 hl (by decide) rfl (fun ls hl => ?_)
    refine lv_aload_n hx hb dX3_offerTurns_44 rfl (lv_at hl 3 rfl) ?_
    refine va_get (D := D) (ci := 3) (v := .ref (ad 35)) (C := RX3) (T := TX3) (N := 20) hx hb hts u9_wsX3_offerTurns_X3 hown hK hP 32 rfl rfl 2 (by decide) (hts (.fieldLink RX3 18 "TurnedFloors$Paper" "barred" "[I") f9_wsX3_offerTurns_836) (fun _ h9 => h9) rfl dX3_offerTurns_45 ?_
    refine lv_iload hx hb dX3_offerTurns_48 (lv_at hl 1 rfl) ?_
    obtain ⟨g11, h⟩ := dG_some h
    refine va_iald hx hb hK hP 35 0 rfl rfl (dg_in g11) dX3_offerTurns_50 ?_
    obtain ⟨v12, ev12, h⟩ := dL_some h
    refine kz_topi v12 ev12 ?_
    refine lv_if_ne (tgt := 105) hx hb dX3_offerTurns_51 (by decide) (fun c9 => ?_) (fun c9 => ?_)
    · rw [if_neg c9] at h
      exact WX3_offerTurns_s32_105 C0 hk4 _ _ _ _ _ _ _ h hP hD hS (lv_sub hl [3, 4, 5, 6] rfl)
    · rw [if_pos c9] at h
      refine lv_iload hx hb dX3_offerTurns_54 (lv_at hl 0 rfl) ?_
      refine lv_aload_n hx hb dX3_offerTurns_56 rfl (lv_at hl 3 rfl) ?_
      refine va_get (D := D) (ci := 3) (v := .ref (ad 43)) (C := RX3) (T := TX3) (N := 20) hx hb hts u9_wsX3_offerTurns_X3 hown hK hP 32 rfl rfl 10 (by decide) (hts (.fieldLink RX3 42 "TurnedFloors$Paper" "marks" "[I") f9_wsX3_offerTurns_833) (fun _ h9 => h9) rfl dX3_offerTurns_57 ?_
      refine lv_iload hx hb dX3_offerTurns_60 (lv_at hl 2 rfl) ?_
      obtain ⟨g13, h⟩ := dG_some h
      refine va_iald hx hb hK hP 43 0 rfl rfl (dg_in g13) dX3_offerTurns_62 ?_
      obtain ⟨v14, ev14, h⟩ := dL_some h
      refine kz_topi v14 ev14 ?_
      refine lv_icmp_ge (tgt := 105) hx hb dX3_offerTurns_63 (by decide) (fun c9 => ?_) (fun c9 => ?_)
      · rw [if_pos c9] at h
        exact WX3_offerTurns_s32_105 C0 hk4 _ _ _ _ _ _ _ h hP hD hS (lv_sub hl [3, 4, 5, 6] rfl)
      · rw [if_neg c9] at h
        refine lv_aload_n hx hb dX3_offerTurns_66 rfl (lv_at hl 3 rfl) ?_
        refine va_get (D := D) (ci := 3) (v := .ref (ad 43)) (C := RX3) (T := TX3) (N := 20) hx hb hts u9_wsX3_offerTurns_X3 hown hK hP 32 rfl rfl 10 (by decide) (hts (.fieldLink RX3 42 "TurnedFloors$Paper" "marks" "[I") f9_wsX3_offerTurns_833) (fun _ h9 => h9) rfl dX3_offerTurns_67 ?_
        refine lv_iload hx hb dX3_offerTurns_70 (lv_at hl 2 rfl) ?_
        obtain ⟨g15, h⟩ := dG_some h
        refine va_iald hx hb hK hP 43 0 rfl rfl (dg_in g15) dX3_offerTurns_72 ?_
        obtain ⟨v16, ev16, h⟩ := dL_some h
        refine kz_topi v16 ev16 ?_
        refine lv_ldc (v := 2000000000) hx hb hown (hts (.constant RX3 140 2000000000) f9_wsX3_offerTurns_837) dX3_offerTurns_73 ?_
        refine lv_icmp_ne (tgt := 84) hx hb dX3_offerTurns_75 (by decide) (fun c9 => ?_) (fun c9 => ?_)
        · rw [if_neg c9] at h
          refine lv_aload_n hx hb dX3_offerTurns_84 rfl (lv_at hl 3 rfl) ?_
          refine lv_iload hx hb dX3_offerTurns_85 (lv_at hl 2 rfl) ?_
          obtain ⟨q19, h18, h⟩ := dV_some h
          refine dw_kv (va_runV (As := [.int r1]) (rest := []) ⟨hx, hb, hml, hown, hts⟩ (qX3_takeFromBucket_s32 l D ty eo _ ad q6 r1 q19 h18) (cwV 1 hts gX3_offerTurns_X3_takeFromBucket rfl rfl rfl hd_X3_takeFromBucket_v ⟨Nat.le_of_ble_eq_true rfl, Nat.le_of_ble_eq_true rfl⟩) (pvF_3_32 hK hN hE hP hD hS hA) rfl rfl hl.1 rfl (lv_room (Nat.le_of_ble_eq_true rfl)) dX3_offerTurns_87 ⟨Nat.le_of_ble_eq_true rfl, Nat.le_of_ble_eq_true rfl⟩) hD hS hA (fun u9 H locs hw hp hd hs => ?_)
          clear hP hD hS
          obtain rfl := hw
          have hP := hp; have hD := hd; have hS := hs; clear hp hd hs
          exact WX3_offerTurns_s32_90 C0 hk4 _ _ _ _ _ _ _ _ _ h hP hD hS (lv_sub hl [3, 4, 5, 6, 2, 0] rfl)
        · rw [if_pos c9] at h
          refine lv_iinc (v := x2 + 1) (lv' := [(2, .int (x2 + 1)), (6, .int (v8 + v10)), (5, .int r4), (4, .int r1), (0, .ref (ad 32)), (1, .int x1), (3, .int x3)]) hx hb dX3_offerTurns_78 hl (k := 5) rfl rfl (by decide) rfl (fun ls hl => ?_)
          refine lv_goto (tgt := 90) hx hb dX3_offerTurns_81 (by decide) ?_
          exact WX3_offerTurns_s32_90 C0 hk4 _ _ _ _ _ _ _ _ _ h hP hD hS (lv_sub hl [4, 5, 0, 6, 3, 1] rfl)
set_option maxHeartbeats 4000000 in
set_option maxRecDepth 100000 in
theorem WX3_offerTurns_s32_4 {p : Program} {l : Launch} {e : Env} {s : State} {m : MethodId} {args : Array Value} {below : List Frame} {meth : Method} {c : Code} {D : va_G} {ty : Nat → ClassId} {eo : Nat → Nat} {A : Nat → Prop} {ad : Nat → Nat} {o1 : Int32} {o2 : dK} (C : dc_C p s m args meth c cX3_offerTurns (some .int) 7 RX3 wsX3_offerTurns D ty eo A)   (n : Nat) (q : dK) (x1 : Int32) (x2 : Int32) (x3 : Int32) (H : Heap) (locs : List Loc) (ls : Array Slot) (h : zX3_offerTurns_s32_4  n q x1 x2 x3 = some (o1, o2)) (hP : va_P D vwCl (wF ty ad q) H) (hD : va_D A (wF ty ad q)) (hS : va_S A s.heap H locs) (hl : lv_has ls 7 [(0, .ref (ad 32)), (1, .int x1), (2, .int x2), (3, .int x3)]) : W p l e ({ frames := 2, cells := 0, slots := 0, locals := 47 } : Room) s m args below meth c H locs 0 0 (MQ below (va_Qi (fun (r : Int32) (u : va_W) => o1 = r ∧ wF ty ad o2 = u) (kz_B D ty A) A) args s 0 0 A) (F0 m 4 ls []) := by
  exact dFix_W (F := fun k (a : dK × Int32 × Int32 × Int32) => zX3_offerTurns_s32_4b  (fun q x1 x2 x3 => k (q, x1, x2, x3)) a.1 a.2.1 a.2.2.1 a.2.2.2) (o := (o1, o2)) (P := fun (a : dK × Int32 × Int32 × Int32) H locs ls => va_P D vwCl (wF ty ad a.1) H ∧ va_D A (wF ty ad a.1) ∧ va_S A s.heap H locs ∧ lv_has ls 7 [(0, .ref (ad 32)), (1, .int a.2.1), (2, .int a.2.2.1), (3, .int a.2.2.2)]) (G := fun H locs ls => W p l e ({ frames := 2, cells := 0, slots := 0, locals := 47 } : Room) s m args below meth c H locs 0 0 (MQ below (va_Qi (fun (r : Int32) (u : va_W) => o1 = r ∧ wF ty ad o2 = u) (kz_B D ty A) A) args s 0 0 A) (F0 m 4 ls []))
    (fun k hk a H locs ls h hp => WX3_offerTurns_s32_4b C  (fun q x1 x2 x3 H locs ls h h1 h2 h3 h4 => hk (q, x1, x2, x3) H locs ls h ⟨h1, h2, h3, h4⟩) a.1 a.2.1 a.2.2.1 a.2.2.2 H locs ls h hp.1 hp.2.1 hp.2.2.1 hp.2.2.2) n (q, x1, x2, x3) H locs ls h ⟨hP, hD, hS, hl⟩
set_option maxHeartbeats 4000000 in
set_option maxRecDepth 100000 in
theorem qX3_offerTurns_s32 (l : Launch) (D : va_G) (ty : Nat → ClassId) (eo : Nat → Nat) (sz : Nat) (ad : Nat → Nat) (q : dK) (p1 : Int32) (o1 : Int32) (o2 : dK) (h : zX3_offerTurns_s32 q p1 = some (o1, o2)) : Met l yX3_offerTurns wsX3_offerTurns ({ frames := 2, cells := 0, slots := 0, locals := 47 } : Room) (va_Pc [.ref (ad 32), .int p1] (kz_pre D ty eo (wF ty ad q) sz)) (va_Qi (fun (r : Int32) (u : va_W) => o1 = r ∧ wF ty ad o2 = u) (kz_B D ty (va_A (wF ty ad q) sz)) (va_A (wF ty ad q) sz)) 0 0 (va_A (wF ty ad q) sz) := by
  refine Met.ofW (cc := cX3_offerTurns) (maxL := 7) (ret := (some .int)) (by decide) rfl ?_
  intro p e s m args below meth c s₁ B hml hv
  obtain ⟨rfl, hsz, hP, hK, hD0, hN, hE⟩ := hv
  have hx := B.exec
  have hb := B.bytes
  have hr := B.returns
  have hts := atoms_spec (ws := wsX3_offerTurns) B.pre
  have hown : s.vm.findClass RX3 = some m.cls := findClass_of_methodNamed B.named
  have hlocks := B.notSynchronized
  subst hsz
  have hD := hD0.self (sz := s.heap.size)
  generalize hAe : va_A (wF ty ad q) s.heap.size = A at hD hE ⊢
  have hA : ∀ q : Nat, s.heap.size ≤ q → A q := fun q h => by rw [← hAe]; exact Or.inr h
  clear hAe
  have hS : va_S A s.heap s.heap [] := va_S.rf
  have hl := lv_entry ([.ref (ad 32), .int p1]) (n := 7) (Nat.le_of_ble_eq_true rfl)
  rw [lg_entry_eq]
  generalize (lg_sl ([.ref (ad 32), .int p1]) ++ List.replicate (7 - (lg_sl ([.ref (ad 32), .int p1])).length) Slot.unset).toArray = ls at hl ⊢
  have hl : lv_has ls 7 [(0, .ref (ad 32)), (1, .int p1)] := hl
  have C : dc_C p s m _ meth c cX3_offerTurns (some .int) 7 RX3 wsX3_offerTurns D ty eo A := ⟨hx, hb, hr, hts, hown, hlocks, hml, hK, hN, hE, hA⟩
  unfold zX3_offerTurns_s32 at h
  refine lv_iconst (v := 0) hx hb dX3_offerTurns_0 (by decide) ?_
  refine lv_istore_n (lv' := [(2, .int 0), (0, .ref (ad 32)), (1, .int p1)]) hx hb dX3_offerTurns_1 rfl hl (by decide) rfl (fun ls hl => ?_)
  refine lv_iconst (v := 1) hx hb dX3_offerTurns_2 (by decide) ?_
  refine lv_istore_n (lv' := [(3, .int 1), (2, .int 0), (0, .ref (ad 32)), (1, .int p1)]) hx hb dX3_offerTurns_3 rfl hl (by decide) rfl (fun ls hl => ?_)
  exact WX3_offerTurns_s32_4 C  _ _ _ _ _ _ _ _ h hP hD hS (lv_sub hl [2, 3, 1, 0] rfl)

set_option maxHeartbeats 4000000 in
set_option maxRecDepth 100000 in
theorem WX3_leastPaid_s32_s20_143 {p : Program} {l : Launch} {e : Env} {s : State} {m : MethodId} {args : Array Value} {below : List Frame} {meth : Method} {c : Code} {D : va_G} {ty : Nat → ClassId} {eo : Nat → Nat} {A : Nat → Prop} {ad : Nat → Nat} {o1 : Int32} {o2 : dK} (C : dc_C p s m args meth c cX3_leastPaid (some .int) 8 RX3 wsX3_leastPaid D ty eo A)   (q : dK)  (H : Heap) (locs : List Loc) (ls : Array Slot) (h : zX3_leastPaid_s32_s20_143  q = some (o1, o2)) (hP : va_P D vwCl (wF ty ad q) H) (hD : va_D A (wF ty ad q)) (hS : va_S A s.heap H locs) (hl : lv_has ls 8 []) : W p l e ({ frames := 4, cells := 0, slots := 0, locals := 113 } : Room) s m args below meth c H locs 0 0 (MQ below (va_Qi (fun (r : Int32) (u : va_W) => o1 = r ∧ wF ty ad o2 = u) (kz_B D ty A) A) args s 0 0 A) (F0 m 143 ls []) := by
  have C0 := C
  obtain ⟨hx, hb, hr, hts, hown, hlocks, hml, hK, hN, hE, hA⟩ := C
  unfold zX3_leastPaid_s32_s20_143 at h
  refine lv_iconst (v := (-1)) hx hb dX3_leastPaid_143 (by decide) ?_
  cases h
  exact kz_iret hx hb hr hlocks hP hK hD hS dX3_leastPaid_144 ⟨rfl, rfl⟩
set_option maxHeartbeats 4000000 in
set_option maxRecDepth 100000 in
theorem WX3_leastPaid_s32_s20_137 {p : Program} {l : Launch} {e : Env} {s : State} {m : MethodId} {args : Array Value} {below : List Frame} {meth : Method} {c : Code} {D : va_G} {ty : Nat → ClassId} {eo : Nat → Nat} {A : Nat → Prop} {ad : Nat → Nat} {o1 : Int32} {o2 : dK} (C : dc_C p s m args meth c cX3_leastPaid (some .int) 8 RX3 wsX3_leastPaid D ty eo A) {k47 : dK → Int32 → Int32 → Option (Int32 × dK)} (hk47 : ∀ (q : dK) (x3 : Int32) (x4 : Int32) (H : Heap) (locs : List Loc) (ls : Array Slot), k47 q x3 x4 = some (o1, o2) → va_P D vwCl (wF ty ad q) H → va_D A (wF ty ad q) → va_S A s.heap H locs → lv_has ls 8 [(0, .ref (ad 32)), (3, .int x3), (4, .int x4)] → W p l e ({ frames := 4, cells := 0, slots := 0, locals := 113 } : Room) s m args below meth c H locs 0 0 (MQ below (va_Qi (fun (r : Int32) (u : va_W) => o1 = r ∧ wF ty ad o2 = u) (kz_B D ty A) A) args s 0 0 A) (F0 m 47 ls [])) (q : dK) (x3 : Int32) (x4 : Int32) (H : Heap) (locs : List Loc) (ls : Array Slot) (h : zX3_leastPaid_s32_s20_137 k47 q x3 x4 = some (o1, o2)) (hP : va_P D vwCl (wF ty ad q) H) (hD : va_D A (wF ty ad q)) (hS : va_S A s.heap H locs) (hl : lv_has ls 8 [(0, .ref (ad 32)), (3, .int x3), (4, .int x4)]) : W p l e ({ frames := 4, cells := 0, slots := 0, locals := 113 } : Room) s m args below meth c H locs 0 0 (MQ below (va_Qi (fun (r : Int32) (u : va_W) => o1 = r ∧ wF ty ad o2 = u) (kz_B D ty A) A) args s 0 0 A) (F0 m 137 ls []) := by
  have C0 := C
  obtain ⟨hx, hb, hr, hts, hown, hlocks, hml, hK, hN, hE, hA⟩ := C
  unfold zX3_leastPaid_s32_s20_137 at h
  refine lv_iinc (v := x4 + 1) (lv' := [(4, .int (x4 + 1)), (0, .ref (ad 32)), (3, .int x3)]) hx hb dX3_leastPaid_137 hl (k := 2) rfl rfl (by decide) rfl (fun ls hl => ?_)
  refine lv_goto (tgt := 47) hx hb dX3_leastPaid_140 (by decide) ?_
  exact hk47 _ _ _ _ _ _ h hP hD hS (lv_sub hl [1, 2, 0] rfl)
set_option maxHeartbeats 4000000 in
set_option maxRecDepth 100000 in
theorem WX3_leastPaid_s32_s20_73b {p : Program} {l : Launch} {e : Env} {s : State} {m : MethodId} {args : Array Value} {below : List Frame} {meth : Method} {c : Code} {D : va_G} {ty : Nat → ClassId} {eo : Nat → Nat} {A : Nat → Prop} {ad : Nat → Nat} {o1 : Int32} {o2 : dK} (C : dc_C p s m args meth c cX3_leastPaid (some .int) 8 RX3 wsX3_leastPaid D ty eo A) {k47 : dK → Int32 → Int32 → Option (Int32 × dK)} {k73 : dK → Int32 → Int32 → Int32 → Int32 → Option (Int32 × dK)} (hk47 : ∀ (q : dK) (x3 : Int32) (x4 : Int32) (H : Heap) (locs : List Loc) (ls : Array Slot), k47 q x3 x4 = some (o1, o2) → va_P D vwCl (wF ty ad q) H → va_D A (wF ty ad q) → va_S A s.heap H locs → lv_has ls 8 [(0, .ref (ad 32)), (3, .int x3), (4, .int x4)] → W p l e ({ frames := 4, cells := 0, slots := 0, locals := 113 } : Room) s m args below meth c H locs 0 0 (MQ below (va_Qi (fun (r : Int32) (u : va_W) => o1 = r ∧ wF ty ad o2 = u) (kz_B D ty A) A) args s 0 0 A) (F0 m 47 ls [])) (hk73 : ∀ (q : dK) (x3 : Int32) (x4 : Int32) (x5 : Int32) (x6 : Int32) (H : Heap) (locs : List Loc) (ls : Array Slot), k73 q x3 x4 x5 x6 = some (o1, o2) → va_P D vwCl (wF ty ad q) H → va_D A (wF ty ad q) → va_S A s.heap H locs → lv_has ls 8 [(0, .ref (ad 32)), (3, .int x3), (4, .int x4), (5, .int x5), (6, .int x6)] → W p l e ({ frames := 4, cells := 0, slots := 0, locals := 113 } : Room) s m args below meth c H locs 0 0 (MQ below (va_Qi (fun (r : Int32) (u : va_W) => o1 = r ∧ wF ty ad o2 = u) (kz_B D ty A) A) args s 0 0 A) (F0 m 73 ls [])) (q : dK) (x3 : Int32) (x4 : Int32) (x5 : Int32) (x6 : Int32) (H : Heap) (locs : List Loc) (ls : Array Slot) (h : zX3_leastPaid_s32_s20_73b k47 k73 q x3 x4 x5 x6 = some (o1, o2)) (hP : va_P D vwCl (wF ty ad q) H) (hD : va_D A (wF ty ad q)) (hS : va_S A s.heap H locs) (hl : lv_has ls 8 [(0, .ref (ad 32)), (3, .int x3), (4, .int x4), (5, .int x5), (6, .int x6)]) : W p l e ({ frames := 4, cells := 0, slots := 0, locals := 113 } : Room) s m args below meth c H locs 0 0 (MQ below (va_Qi (fun (r : Int32) (u : va_W) => o1 = r ∧ wF ty ad o2 = u) (kz_B D ty A) A) args s 0 0 A) (F0 m 73 ls []) := by
  have C0 := C
  obtain ⟨hx, hb, hr, hts, hown, hlocks, hml, hK, hN, hE, hA⟩ := C
  unfold zX3_leastPaid_s32_s20_73b at h
  refine lv_iload hx hb dX3_leastPaid_73 (lv_at hl 4 rfl) ?_
  refine lv_aload_n hx hb dX3_leastPaid_75 rfl (lv_at hl 0 rfl) ?_
  refine va_get (D := D) (ci := 3) (v := .int (q.1 32 14)) (C := RX3) (T := TX3) (N := 20) hx hb hts u9_wsX3_leastPaid_X3 hown hK hP 32 rfl rfl 14 (by decide) (hts (.fieldLink RX3 55 "TurnedFloors$Paper" "size" "I") f9_wsX3_leastPaid_839) (fun _ h9 => h9) rfl dX3_leastPaid_76 ?_
  refine lv_icmp_ge (tgt := 137) hx hb dX3_leastPaid_79 (by decide) (fun c9 => ?_) (fun c9 => ?_)
  · rw [if_pos c9] at h
    exact WX3_leastPaid_s32_s20_137 C0 hk47 _ _ _ _ _ _ h hP hD hS (lv_sub hl [0, 1, 2] rfl)
  · rw [if_neg c9] at h
    refine lv_aload_n hx hb dX3_leastPaid_82 rfl (lv_at hl 0 rfl) ?_
    refine va_get (D := D) (ci := 3) (v := .ref (ad 38)) (C := RX3) (T := TX3) (N := 20) hx hb hts u9_wsX3_leastPaid_X3 hown hK hP 32 rfl rfl 5 (by decide) (hts (.fieldLink RX3 27 "TurnedFloors$Paper" "buckets" "[I") f9_wsX3_leastPaid_840) (fun _ h9 => h9) rfl dX3_leastPaid_83 ?_
    refine lv_iload hx hb dX3_leastPaid_86 (lv_at hl 3 rfl) ?_
    obtain ⟨g1, h⟩ := dG_some h
    refine va_iald hx hb hK hP 38 0 rfl rfl (dg_in g1) dX3_leastPaid_88 ?_
    obtain ⟨v2, ev2, h⟩ := dL_some h
    refine kz_topi v2 ev2 ?_
    refine lv_iconst (v := (-1)) hx hb dX3_leastPaid_89 (by decide) ?_
    refine lv_icmp_eq (tgt := 137) hx hb dX3_leastPaid_90 (by decide) (fun c9 => ?_) (fun c9 => ?_)
    · rw [if_pos c9] at h
      exact WX3_leastPaid_s32_s20_137 C0 hk47 _ _ _ _ _ _ h hP hD hS (lv_sub hl [0, 1, 2] rfl)
    · rw [if_neg c9] at h
      refine lv_aload_n hx hb dX3_leastPaid_93 rfl (lv_at hl 0 rfl) ?_
      refine va_get (D := D) (ci := 3) (v := .ref (ad 38)) (C := RX3) (T := TX3) (N := 20) hx hb hts u9_wsX3_leastPaid_X3 hown hK hP 32 rfl rfl 5 (by decide) (hts (.fieldLink RX3 27 "TurnedFloors$Paper" "buckets" "[I") f9_wsX3_leastPaid_840) (fun _ h9 => h9) rfl dX3_leastPaid_94 ?_
      refine lv_iload hx hb dX3_leastPaid_97 (lv_at hl 3 rfl) ?_
      obtain ⟨g3, h⟩ := dG_some h
      refine va_iald hx hb hK hP 38 0 rfl rfl (dg_in g3) dX3_leastPaid_99 ?_
      obtain ⟨v4, ev4, h⟩ := dL_some h
      refine kz_topi v4 ev4 ?_
      refine lv_istore (lv' := [(7, .int v4), (0, .ref (ad 32)), (3, .int x3), (4, .int x4), (5, .int x5), (6, .int x6)]) hx hb dX3_leastPaid_100 hl (by decide) rfl (fun ls hl => ?_)
      refine lv_aload_n hx hb dX3_leastPaid_102 rfl (lv_at hl 1 rfl) ?_
      refine lv_iload hx hb dX3_leastPaid_103 (lv_at hl 0 rfl) ?_
      obtain ⟨q7, h6, h⟩ := dV_some h
      refine dw_kv (va_runV (As := [.int v4]) (rest := []) ⟨hx, hb, hml, hown, hts⟩ (qX3_takeFromBucket_s32 l D ty eo _ ad q v4 q7 h6) (cwV 1 hts gX3_leastPaid_X3_takeFromBucket rfl rfl rfl hd_X3_takeFromBucket_v ⟨Nat.le_of_ble_eq_true rfl, Nat.le_of_ble_eq_true rfl⟩) (pvF_3_32 hK hN hE hP hD hS hA) rfl rfl hl.1 rfl (lv_room (Nat.le_of_ble_eq_true rfl)) dX3_leastPaid_105 ⟨Nat.le_of_ble_eq_true rfl, Nat.le_of_ble_eq_true rfl⟩) hD hS hA (fun u9 H locs hw hp hd hs => ?_)
      clear hP hD hS
      obtain rfl := hw
      have hP := hp; have hD := hd; have hS := hs; clear hp hd hs
      refine lv_aload_n hx hb dX3_leastPaid_108 rfl (lv_at hl 1 rfl) ?_
      refine lv_iload hx hb dX3_leastPaid_109 (lv_at hl 0 rfl) ?_
      obtain ⟨r8, q10, h9, h⟩ := dB_some h
      refine dw_ki (va_runV (As := [.int v4]) (rest := []) ⟨hx, hb, hml, hown, hts⟩ (qX3_isOrdered_s32 l D ty eo _ ad q7 v4 r8 q10 h9) (cwV 1 hts gX3_leastPaid_X3_isOrdered rfl rfl rfl hd_X3_isOrdered_v ⟨Nat.le_of_ble_eq_true rfl, Nat.le_of_ble_eq_true rfl⟩) (pvF_3_32 hK hN hE hP hD hS hA) rfl rfl hl.1 rfl (lv_room (Nat.le_of_ble_eq_true rfl)) dX3_leastPaid_111 ⟨Nat.le_of_ble_eq_true rfl, Nat.le_of_ble_eq_true rfl⟩) hD hS hA (fun r9 u9 H locs hw hp hd hs => ?_)
      clear hP hD hS
      obtain ⟨rfl, rfl⟩ := hw
      have hP := hp; have hD := hd; have hS := hs; clear hp hd hs
      refine lv_if_eq (tgt := 120) hx hb dX3_leastPaid_114 (by decide) (fun c9 => ?_) (fun c9 => ?_)
      · rw [if_pos c9] at h
        refine lv_iload_n hx hb dX3_leastPaid_120 rfl (lv_at hl 2 rfl) ?_
        refine lv_aload_n hx hb dX3_leastPaid_121 rfl (lv_at hl 1 rfl) ?_
        refine lv_iload hx hb dX3_leastPaid_122 (lv_at hl 0 rfl) ?_
        obtain ⟨r11, q13, h12, h⟩ := dB_some h
        refine dw_ki (va_runV (As := [.int v4]) (rest := [.int x3]) ⟨hx, hb, hml, hown, hts⟩ (qX3_offerTurns_s32 l D ty eo _ ad q10 v4 r11 q13 h12) (cwV 1 hts gX3_leastPaid_X3_offerTurns rfl rfl rfl hd_X3_offerTurns_v ⟨Nat.le_of_ble_eq_true rfl, Nat.le_of_ble_eq_true rfl⟩) (pvF_3_32 hK hN hE hP hD hS hA) rfl rfl hl.1 rfl (lv_room (Nat.le_of_ble_eq_true rfl)) dX3_leastPaid_124 ⟨Nat.le_of_ble_eq_true rfl, Nat.le_of_ble_eq_true rfl⟩) hD hS hA (fun r9 u9 H locs hw hp hd hs => ?_)
        clear hP hD hS
        obtain ⟨rfl, rfl⟩ := hw
        have hP := hp; have hD := hd; have hS := hs; clear hp hd hs
        refine lv_iconst (v := 1) hx hb dX3_leastPaid_127 (by decide) ?_
        refine lv_isub hx hb dX3_leastPaid_128 ?_
        refine lv_iadd hx hb dX3_leastPaid_129 ?_
        refine lv_istore_n (lv' := [(3, .int (x3 + (r11 - 1 : Int32))), (7, .int v4), (0, .ref (ad 32)), (4, .int x4), (5, .int x5), (6, .int x6)]) hx hb dX3_leastPaid_130 rfl hl (by decide) rfl (fun ls hl => ?_)
        refine lv_iinc (v := x6 + 1) (lv' := [(6, .int (x6 + 1)), (3, .int (x3 + (r11 - 1 : Int32))), (7, .int v4), (0, .ref (ad 32)), (4, .int x4), (5, .int x5)]) hx hb dX3_leastPaid_131 hl (k := 5) rfl rfl (by decide) rfl (fun ls hl => ?_)
        refine lv_goto (tgt := 73) hx hb dX3_leastPaid_134 (by decide) ?_
        exact hk73 _ _ _ _ _ _ _ _ h hP hD hS (lv_sub hl [3, 1, 4, 5, 0] rfl)
      · rw [if_neg c9] at h
        refine lv_iload hx hb dX3_leastPaid_117 (lv_at hl 3 rfl) ?_
        cases h
        exact kz_iret hx hb hr hlocks hP hK hD hS dX3_leastPaid_119 ⟨rfl, rfl⟩
set_option maxHeartbeats 4000000 in
set_option maxRecDepth 100000 in
theorem WX3_leastPaid_s32_s20_73 {p : Program} {l : Launch} {e : Env} {s : State} {m : MethodId} {args : Array Value} {below : List Frame} {meth : Method} {c : Code} {D : va_G} {ty : Nat → ClassId} {eo : Nat → Nat} {A : Nat → Prop} {ad : Nat → Nat} {o1 : Int32} {o2 : dK} (C : dc_C p s m args meth c cX3_leastPaid (some .int) 8 RX3 wsX3_leastPaid D ty eo A) {k47 : dK → Int32 → Int32 → Option (Int32 × dK)} (hk47 : ∀ (q : dK) (x3 : Int32) (x4 : Int32) (H : Heap) (locs : List Loc) (ls : Array Slot), k47 q x3 x4 = some (o1, o2) → va_P D vwCl (wF ty ad q) H → va_D A (wF ty ad q) → va_S A s.heap H locs → lv_has ls 8 [(0, .ref (ad 32)), (3, .int x3), (4, .int x4)] → W p l e ({ frames := 4, cells := 0, slots := 0, locals := 113 } : Room) s m args below meth c H locs 0 0 (MQ below (va_Qi (fun (r : Int32) (u : va_W) => o1 = r ∧ wF ty ad o2 = u) (kz_B D ty A) A) args s 0 0 A) (F0 m 47 ls [])) (n : Nat) (q : dK) (x3 : Int32) (x4 : Int32) (x5 : Int32) (x6 : Int32) (H : Heap) (locs : List Loc) (ls : Array Slot) (h : zX3_leastPaid_s32_s20_73 k47 n q x3 x4 x5 x6 = some (o1, o2)) (hP : va_P D vwCl (wF ty ad q) H) (hD : va_D A (wF ty ad q)) (hS : va_S A s.heap H locs) (hl : lv_has ls 8 [(0, .ref (ad 32)), (3, .int x3), (4, .int x4), (5, .int x5), (6, .int x6)]) : W p l e ({ frames := 4, cells := 0, slots := 0, locals := 113 } : Room) s m args below meth c H locs 0 0 (MQ below (va_Qi (fun (r : Int32) (u : va_W) => o1 = r ∧ wF ty ad o2 = u) (kz_B D ty A) A) args s 0 0 A) (F0 m 73 ls []) := by
  exact dFix_W (F := fun k (a : dK × Int32 × Int32 × Int32 × Int32) => zX3_leastPaid_s32_s20_73b k47 (fun q x3 x4 x5 x6 => k (q, x3, x4, x5, x6)) a.1 a.2.1 a.2.2.1 a.2.2.2.1 a.2.2.2.2) (o := (o1, o2)) (P := fun (a : dK × Int32 × Int32 × Int32 × Int32) H locs ls => va_P D vwCl (wF ty ad a.1) H ∧ va_D A (wF ty ad a.1) ∧ va_S A s.heap H locs ∧ lv_has ls 8 [(0, .ref (ad 32)), (3, .int a.2.1), (4, .int a.2.2.1), (5, .int a.2.2.2.1), (6, .int a.2.2.2.2)]) (G := fun H locs ls => W p l e ({ frames := 4, cells := 0, slots := 0, locals := 113 } : Room) s m args below meth c H locs 0 0 (MQ below (va_Qi (fun (r : Int32) (u : va_W) => o1 = r ∧ wF ty ad o2 = u) (kz_B D ty A) A) args s 0 0 A) (F0 m 73 ls []))
    (fun k hk a H locs ls h hp => WX3_leastPaid_s32_s20_73b C hk47 (fun q x3 x4 x5 x6 H locs ls h h1 h2 h3 h4 => hk (q, x3, x4, x5, x6) H locs ls h ⟨h1, h2, h3, h4⟩) a.1 a.2.1 a.2.2.1 a.2.2.2.1 a.2.2.2.2 H locs ls h hp.1 hp.2.1 hp.2.2.1 hp.2.2.2) n (q, x3, x4, x5, x6) H locs ls h ⟨hP, hD, hS, hl⟩
set_option maxHeartbeats 4000000 in
set_option maxRecDepth 100000 in
theorem WX3_leastPaid_s32_s20_47b {p : Program} {l : Launch} {e : Env} {s : State} {m : MethodId} {args : Array Value} {below : List Frame} {meth : Method} {c : Code} {D : va_G} {ty : Nat → ClassId} {eo : Nat → Nat} {A : Nat → Prop} {ad : Nat → Nat} {o1 : Int32} {o2 : dK} (C : dc_C p s m args meth c cX3_leastPaid (some .int) 8 RX3 wsX3_leastPaid D ty eo A) {k47 : dK → Int32 → Int32 → Option (Int32 × dK)} (hk47 : ∀ (q : dK) (x3 : Int32) (x4 : Int32) (H : Heap) (locs : List Loc) (ls : Array Slot), k47 q x3 x4 = some (o1, o2) → va_P D vwCl (wF ty ad q) H → va_D A (wF ty ad q) → va_S A s.heap H locs → lv_has ls 8 [(0, .ref (ad 32)), (3, .int x3), (4, .int x4)] → W p l e ({ frames := 4, cells := 0, slots := 0, locals := 113 } : Room) s m args below meth c H locs 0 0 (MQ below (va_Qi (fun (r : Int32) (u : va_W) => o1 = r ∧ wF ty ad o2 = u) (kz_B D ty A) A) args s 0 0 A) (F0 m 47 ls [])) (q : dK) (x3 : Int32) (x4 : Int32) (H : Heap) (locs : List Loc) (ls : Array Slot) (h : zX3_leastPaid_s32_s20_47b k47 q x3 x4 = some (o1, o2)) (hP : va_P D vwCl (wF ty ad q) H) (hD : va_D A (wF ty ad q)) (hS : va_S A s.heap H locs) (hl : lv_has ls 8 [(0, .ref (ad 32)), (3, .int x3), (4, .int x4)]) : W p l e ({ frames := 4, cells := 0, slots := 0, locals := 113 } : Room) s m args below meth c H locs 0 0 (MQ below (va_Qi (fun (r : Int32) (u : va_W) => o1 = r ∧ wF ty ad o2 = u) (kz_B D ty A) A) args s 0 0 A) (F0 m 47 ls []) := by
  have C0 := C
  obtain ⟨hx, hb, hr, hts, hown, hlocks, hml, hK, hN, hE, hA⟩ := C
  unfold zX3_leastPaid_s32_s20_47b at h
  refine lv_iload hx hb dX3_leastPaid_47 (lv_at hl 2 rfl) ?_
  refine lv_bipush (v := 99) hx hb dX3_leastPaid_49 (by decide) ?_
  refine lv_aload_n hx hb dX3_leastPaid_51 rfl (lv_at hl 0 rfl) ?_
  refine va_get (D := D) (ci := 3) (v := .int (q.1 32 14)) (C := RX3) (T := TX3) (N := 20) hx hb hts u9_wsX3_leastPaid_X3 hown hK hP 32 rfl rfl 14 (by decide) (hts (.fieldLink RX3 55 "TurnedFloors$Paper" "size" "I") f9_wsX3_leastPaid_839) (fun _ h9 => h9) rfl dX3_leastPaid_52 ?_
  refine lv_imul hx hb dX3_leastPaid_55 ?_
  refine lv_icmp_gt (tgt := 143) hx hb dX3_leastPaid_56 (by decide) (fun c9 => ?_) (fun c9 => ?_)
  · rw [if_pos c9] at h
    exact WX3_leastPaid_s32_s20_143 C0  _ _ _ _ h hP hD hS (lv_sub hl [] rfl)
  · rw [if_neg c9] at h
    refine lv_iload_n hx hb dX3_leastPaid_59 rfl (lv_at hl 1 rfl) ?_
    refine lv_if_le (tgt := 143) hx hb dX3_leastPaid_60 (by decide) (fun c9 => ?_) (fun c9 => ?_)
    · rw [if_pos c9] at h
      exact WX3_leastPaid_s32_s20_143 C0  _ _ _ _ h hP hD hS (lv_sub hl [] rfl)
    · rw [if_neg c9] at h
      refine lv_iload hx hb dX3_leastPaid_63 (lv_at hl 2 rfl) ?_
      refine lv_bipush (v := 100) hx hb dX3_leastPaid_65 (by decide) ?_
      refine lv_irem hx hb dX3_leastPaid_67 (by decide) ?_
      refine lv_istore (lv' := [(5, .int (x4 - x4 / 100 * 100 : Int32)), (0, .ref (ad 32)), (3, .int x3), (4, .int x4)]) hx hb dX3_leastPaid_68 hl (by decide) rfl (fun ls hl => ?_)
      refine lv_iconst (v := 0) hx hb dX3_leastPaid_70 (by decide) ?_
      refine lv_istore (lv' := [(6, .int 0), (5, .int (x4 - x4 / 100 * 100 : Int32)), (0, .ref (ad 32)), (3, .int x3), (4, .int x4)]) hx hb dX3_leastPaid_71 hl (by decide) rfl (fun ls hl => ?_)
      exact WX3_leastPaid_s32_s20_73 C0 hk47 _ _ _ _ _ _ _ _ _ h hP hD hS (lv_sub hl [2, 3, 4, 1, 0] rfl)
set_option maxHeartbeats 4000000 in
set_option maxRecDepth 100000 in
theorem WX3_leastPaid_s32_s20_47 {p : Program} {l : Launch} {e : Env} {s : State} {m : MethodId} {args : Array Value} {below : List Frame} {meth : Method} {c : Code} {D : va_G} {ty : Nat → ClassId} {eo : Nat → Nat} {A : Nat → Prop} {ad : Nat → Nat} {o1 : Int32} {o2 : dK} (C : dc_C p s m args meth c cX3_leastPaid (some .int) 8 RX3 wsX3_leastPaid D ty eo A)   (n : Nat) (q : dK) (x3 : Int32) (x4 : Int32) (H : Heap) (locs : List Loc) (ls : Array Slot) (h : zX3_leastPaid_s32_s20_47  n q x3 x4 = some (o1, o2)) (hP : va_P D vwCl (wF ty ad q) H) (hD : va_D A (wF ty ad q)) (hS : va_S A s.heap H locs) (hl : lv_has ls 8 [(0, .ref (ad 32)), (3, .int x3), (4, .int x4)]) : W p l e ({ frames := 4, cells := 0, slots := 0, locals := 113 } : Room) s m args below meth c H locs 0 0 (MQ below (va_Qi (fun (r : Int32) (u : va_W) => o1 = r ∧ wF ty ad o2 = u) (kz_B D ty A) A) args s 0 0 A) (F0 m 47 ls []) := by
  exact dFix_W (F := fun k (a : dK × Int32 × Int32) => zX3_leastPaid_s32_s20_47b  (fun q x3 x4 => k (q, x3, x4)) a.1 a.2.1 a.2.2) (o := (o1, o2)) (P := fun (a : dK × Int32 × Int32) H locs ls => va_P D vwCl (wF ty ad a.1) H ∧ va_D A (wF ty ad a.1) ∧ va_S A s.heap H locs ∧ lv_has ls 8 [(0, .ref (ad 32)), (3, .int a.2.1), (4, .int a.2.2)]) (G := fun H locs ls => W p l e ({ frames := 4, cells := 0, slots := 0, locals := 113 } : Room) s m args below meth c H locs 0 0 (MQ below (va_Qi (fun (r : Int32) (u : va_W) => o1 = r ∧ wF ty ad o2 = u) (kz_B D ty A) A) args s 0 0 A) (F0 m 47 ls []))
    (fun k hk a H locs ls h hp => WX3_leastPaid_s32_s20_47b C  (fun q x3 x4 H locs ls h h1 h2 h3 h4 => hk (q, x3, x4) H locs ls h ⟨h1, h2, h3, h4⟩) a.1 a.2.1 a.2.2 H locs ls h hp.1 hp.2.1 hp.2.2.1 hp.2.2.2) n (q, x3, x4) H locs ls h ⟨hP, hD, hS, hl⟩
set_option maxHeartbeats 4000000 in
set_option maxRecDepth 100000 in
theorem qX3_leastPaid_s32_s20 (l : Launch) (D : va_G) (ty : Nat → ClassId) (eo : Nat → Nat) (sz : Nat) (ad : Nat → Nat) (q : dK) (p2 : Int32) (o1 : Int32) (o2 : dK) (h : zX3_leastPaid_s32_s20 q p2 = some (o1, o2)) : Met l yX3_leastPaid wsX3_leastPaid ({ frames := 4, cells := 0, slots := 0, locals := 113 } : Room) (va_Pc [.ref (ad 32), .ref (ad 20), .int p2] (kz_pre D ty eo (wF ty ad q) sz)) (va_Qi (fun (r : Int32) (u : va_W) => o1 = r ∧ wF ty ad o2 = u) (kz_B D ty (va_A (wF ty ad q) sz)) (va_A (wF ty ad q) sz)) 0 0 (va_A (wF ty ad q) sz) := by
  refine Met.ofW (cc := cX3_leastPaid) (maxL := 8) (ret := (some .int)) (by decide) rfl ?_
  intro p e s m args below meth c s₁ B hml hv
  obtain ⟨rfl, hsz, hP, hK, hD0, hN, hE⟩ := hv
  have hx := B.exec
  have hb := B.bytes
  have hr := B.returns
  have hts := atoms_spec (ws := wsX3_leastPaid) B.pre
  have hown : s.vm.findClass RX3 = some m.cls := findClass_of_methodNamed B.named
  have hlocks := B.notSynchronized
  subst hsz
  have hD := hD0.self (sz := s.heap.size)
  generalize hAe : va_A (wF ty ad q) s.heap.size = A at hD hE ⊢
  have hA : ∀ q : Nat, s.heap.size ≤ q → A q := fun q h => by rw [← hAe]; exact Or.inr h
  clear hAe
  have hS : va_S A s.heap s.heap [] := va_S.rf
  have hl := lv_entry ([.ref (ad 32), .ref (ad 20), .int p2]) (n := 8) (Nat.le_of_ble_eq_true rfl)
  rw [lg_entry_eq]
  generalize (lg_sl ([.ref (ad 32), .ref (ad 20), .int p2]) ++ List.replicate (8 - (lg_sl ([.ref (ad 32), .ref (ad 20), .int p2])).length) Slot.unset).toArray = ls at hl ⊢
  have hl : lv_has ls 8 [(0, .ref (ad 32)), (1, .ref (ad 20)), (2, .int p2)] := hl
  have C : dc_C p s m _ meth c cX3_leastPaid (some .int) 8 RX3 wsX3_leastPaid D ty eo A := ⟨hx, hb, hr, hts, hown, hlocks, hml, hK, hN, hE, hA⟩
  unfold zX3_leastPaid_s32_s20 at h
  refine lv_aload_n hx hb dX3_leastPaid_0 rfl (lv_at hl 0 rfl) ?_
  refine lv_aload_n hx hb dX3_leastPaid_1 rfl (lv_at hl 1 rfl) ?_
  refine lv_iload_n hx hb dX3_leastPaid_2 rfl (lv_at hl 2 rfl) ?_
  refine lv_iconst (v := 0) hx hb dX3_leastPaid_3 (by decide) ?_
  obtain ⟨q3, h2, h⟩ := dV_some h
  refine dw_kv (va_runV (As := [.ref (ad 20), .int p2, .int 0]) (rest := []) ⟨hx, hb, hml, hown, hts⟩ (qX3_askCases_s32_s20_c0 l D ty eo _ ad q p2 q3 h2) (cwV 3 hts gX3_leastPaid_X3_askCases rfl rfl rfl hd_X3_askCases_v ⟨Nat.le_of_ble_eq_true rfl, Nat.le_of_ble_eq_true rfl⟩) (pvF_3_32 hK hN hE hP hD hS hA) rfl rfl hl.1 rfl (lv_room (Nat.le_of_ble_eq_true rfl)) dX3_leastPaid_4 ⟨Nat.le_of_ble_eq_true rfl, Nat.le_of_ble_eq_true rfl⟩) hD hS hA (fun u9 H locs hw hp hd hs => ?_)
  clear hP hD hS
  obtain rfl := hw
  have hP := hp; have hD := hd; have hS := hs; clear hp hd hs
  refine lv_aload_n hx hb dX3_leastPaid_7 rfl (lv_at hl 0 rfl) ?_
  refine va_get (D := D) (ci := 3) (v := .ref (ad 43)) (C := RX3) (T := TX3) (N := 20) hx hb hts u9_wsX3_leastPaid_X3 hown hK hP 32 rfl rfl 10 (by decide) (hts (.fieldLink RX3 42 "TurnedFloors$Paper" "marks" "[I") f9_wsX3_leastPaid_841) (fun _ h9 => h9) rfl dX3_leastPaid_8 ?_
  refine lv_ldc (v := 2000000000) hx hb hown (hts (.constant RX3 140 2000000000) f9_wsX3_leastPaid_842) dX3_leastPaid_11 ?_
  refine dw_kv1 (j := 43) rfl (va_runS (As := [.ref (ad 43), .int 2000000000]) (rest := []) ⟨hx, hb, hml, hown, hts⟩ (cJ7_fillI l D ty eo _ (ad 43) (Int32.toNatClampNeg (q3.1 32 104)) _ 2000000000 (cl_lt _)) (va_cwS 2 hts gX3_leastPaid_J7_fill_53178 rfl rfl rfl hd_J7_fill_53178 ⟨Nat.le_of_ble_eq_true rfl, Nat.le_of_ble_eq_true rfl⟩) (kz_preS hK hN hE hP hD hS hA [43] (by decide) rfl) rfl rfl hl.1 rfl (lv_room (Nat.le_of_ble_eq_true rfl)) dX3_leastPaid_13 ⟨Nat.le_of_ble_eq_true rfl, Nat.le_of_ble_eq_true rfl⟩) hP hD hS hA (fun u9 h9 => h9.symm) (fun H locs hp hd hs => ?_)
  obtain ⟨q4, eq4, h⟩ := dL_some h
  refine kz_re (w2 := wF ty ad q4) hp hd hs (by rw [← eq4]; exact rfl) ?_
  clear hp hd hs hP hD hS
  intro hP hD hS
  refine lv_aload_n hx hb dX3_leastPaid_16 rfl (lv_at hl 0 rfl) ?_
  refine va_get (D := D) (ci := 3) (v := .ref (ad 38)) (C := RX3) (T := TX3) (N := 20) hx hb hts u9_wsX3_leastPaid_X3 hown hK hP 32 rfl rfl 5 (by decide) (hts (.fieldLink RX3 27 "TurnedFloors$Paper" "buckets" "[I") f9_wsX3_leastPaid_840) (fun _ h9 => h9) rfl dX3_leastPaid_17 ?_
  refine lv_iconst (v := (-1)) hx hb dX3_leastPaid_20 (by decide) ?_
  refine dw_kv1 (j := 38) rfl (va_runS (As := [.ref (ad 38), .int (-1)]) (rest := []) ⟨hx, hb, hml, hown, hts⟩ (cJ7_fillI l D ty eo _ (ad 38) 100 _ (-1) (by decide)) (va_cwS 2 hts gX3_leastPaid_J7_fill_53178 rfl rfl rfl hd_J7_fill_53178 ⟨Nat.le_of_ble_eq_true rfl, Nat.le_of_ble_eq_true rfl⟩) (kz_preS hK hN hE hP hD hS hA [38] (by decide) rfl) rfl rfl hl.1 rfl (lv_room (Nat.le_of_ble_eq_true rfl)) dX3_leastPaid_21 ⟨Nat.le_of_ble_eq_true rfl, Nat.le_of_ble_eq_true rfl⟩) hP hD hS hA (fun u9 h9 => h9.symm) (fun H locs hp hd hs => ?_)
  obtain ⟨q5, eq5, h⟩ := dL_some h
  refine kz_re (w2 := wF ty ad q5) hp hd hs (by rw [← eq5]; exact rfl) ?_
  clear hp hd hs hP hD hS
  intro hP hD hS
  refine lv_aload_n hx hb dX3_leastPaid_24 rfl (lv_at hl 0 rfl) ?_
  refine va_get (D := D) (ci := 3) (v := .ref (ad 43)) (C := RX3) (T := TX3) (N := 20) hx hb hts u9_wsX3_leastPaid_X3 hown hK hP 32 rfl rfl 10 (by decide) (hts (.fieldLink RX3 42 "TurnedFloors$Paper" "marks" "[I") f9_wsX3_leastPaid_841) (fun _ h9 => h9) rfl dX3_leastPaid_25 ?_
  refine lv_aload_n hx hb dX3_leastPaid_28 rfl (lv_at hl 0 rfl) ?_
  refine va_get (D := D) (ci := 3) (v := .int (q5.1 32 15)) (C := RX3) (T := TX3) (N := 20) hx hb hts u9_wsX3_leastPaid_X3 hown hK hP 32 rfl rfl 15 (by decide) (hts (.fieldLink RX3 58 "TurnedFloors$Paper" "start" "I") f9_wsX3_leastPaid_843) (fun _ h9 => h9) rfl dX3_leastPaid_29 ?_
  refine lv_iconst (v := 0) hx hb dX3_leastPaid_32 (by decide) ?_
  obtain ⟨g6, h⟩ := dG_some h
  refine va_iast hx hb hK hP hD hS 43 0 rfl rfl (dg_in g6) dX3_leastPaid_33 (fun H locs hp hd hs => ?_)
  obtain ⟨q7, eq7, h⟩ := dL_some h
  refine kz_re (w2 := wF ty ad q7) hp hd hs (by rw [← eq7]; exact wF_a43 ty ad q5 (Int32.toNatClampNeg (q5.1 32 15)) 0) ?_
  clear hp hd hs hP hD hS
  intro hP hD hS
  refine lv_aload_n hx hb dX3_leastPaid_34 rfl (lv_at hl 0 rfl) ?_
  refine lv_aload_n hx hb dX3_leastPaid_35 rfl (lv_at hl 0 rfl) ?_
  refine va_get (D := D) (ci := 3) (v := .int (q7.1 32 15)) (C := RX3) (T := TX3) (N := 20) hx hb hts u9_wsX3_leastPaid_X3 hown hK hP 32 rfl rfl 15 (by decide) (hts (.fieldLink RX3 58 "TurnedFloors$Paper" "start" "I") f9_wsX3_leastPaid_843) (fun _ h9 => h9) rfl dX3_leastPaid_36 ?_
  obtain ⟨q10, h9, h⟩ := dV_some h
  refine dw_kv (va_runV (As := [.int (q7.1 32 15)]) (rest := []) ⟨hx, hb, hml, hown, hts⟩ (qX3_putInBucket_s32 l D ty eo _ ad q7 (q7.1 32 15) q10 h9) (cwV 1 hts gX3_leastPaid_X3_putInBucket rfl rfl rfl hd_X3_putInBucket_v ⟨Nat.le_of_ble_eq_true rfl, Nat.le_of_ble_eq_true rfl⟩) (pvF_3_32 hK hN hE hP hD hS hA) rfl rfl hl.1 rfl (lv_room (Nat.le_of_ble_eq_true rfl)) dX3_leastPaid_39 ⟨Nat.le_of_ble_eq_true rfl, Nat.le_of_ble_eq_true rfl⟩) hD hS hA (fun u9 H locs hw hp hd hs => ?_)
  clear hP hD hS
  obtain rfl := hw
  have hP := hp; have hD := hd; have hS := hs; clear hp hd hs
  refine lv_iconst (v := 1) hx hb dX3_leastPaid_42 (by decide) ?_
  refine lv_istore_n (lv' := [(3, .int 1), (0, .ref (ad 32)), (1, .ref (ad 20)), (2, .int p2)]) hx hb dX3_leastPaid_43 rfl hl (by decide) rfl (fun ls hl => ?_)
  refine lv_iconst (v := 0) hx hb dX3_leastPaid_44 (by decide) ?_
  refine lv_istore (lv' := [(4, .int 0), (3, .int 1), (0, .ref (ad 32)), (1, .ref (ad 20)), (2, .int p2)]) hx hb dX3_leastPaid_45 hl (by decide) rfl (fun ls hl => ?_)
  exact WX3_leastPaid_s32_s20_47 C  _ _ _ _ _ _ _ h hP hD hS (lv_sub hl [2, 1, 0] rfl)

set_option maxHeartbeats 4000000 in
set_option maxRecDepth 100000 in
theorem qX9_cheapest_s0 (l : Launch) (D : va_G) (ty : Nat → ClassId) (eo : Nat → Nat) (sz : Nat) (ad : Nat → Nat) (nc ns : Nat) (q : dK)  (o1 : Int32) (o2 : dK) (h : zX9_cheapest_s0 nc ns q = some (o1, o2)) : Met l yX9_cheapest wsX9_cheapest ({ frames := 6, cells := nc, slots := ns, locals := 160 } : Room) (va_Pc [.ref (ad 0)] (kz_pre D ty eo (wF ty ad q) sz)) (va_Qi (fun (r : Int32) (u : va_W) => o1 = r ∧ ∃ ad9 : Nat → Nat, dAg ad ad9 ∧ wF ty ad9 o2 = u) (kz_B D ty (va_A (wF ty ad q) sz)) (va_A (wF ty ad q) sz)) nc ns (va_A (wF ty ad q) sz) := by
  have hag : dAg ad ad := fun _ _ => rfl
  refine Met.ofW (cc := cX9_cheapest) (maxL := 1) (ret := (some .int)) (by decide) rfl ?_
  intro p e s m args below meth c s₁ B hml hv
  obtain ⟨rfl, hsz, hP, hK, hD0, hN, hE⟩ := hv
  have hx := B.exec
  have hb := B.bytes
  have hr := B.returns
  have hts := atoms_spec (ws := wsX9_cheapest) B.pre
  have hown : s.vm.findClass RX9 = some m.cls := findClass_of_methodNamed B.named
  have hlocks := B.notSynchronized
  subst hsz
  have hD := hD0.self (sz := s.heap.size)
  generalize hAe : va_A (wF ty ad q) s.heap.size = A at hD hE ⊢
  have hA : ∀ q : Nat, s.heap.size ≤ q → A q := fun q h => by rw [← hAe]; exact Or.inr h
  clear hAe
  have hS : va_S A s.heap s.heap [] := va_S.rf
  have hl := lv_entry ([.ref (ad 0)]) (n := 1) (Nat.le_of_ble_eq_true rfl)
  rw [lg_entry_eq]
  generalize (lg_sl ([.ref (ad 0)]) ++ List.replicate (1 - (lg_sl ([.ref (ad 0)])).length) Slot.unset).toArray = ls at hl ⊢
  have hl : lv_has ls 1 [(0, .ref (ad 0))] := hl
  have C : dc_C p s m _ meth c cX9_cheapest (some .int) 1 RX9 wsX9_cheapest D ty eo A := ⟨hx, hb, hr, hts, hown, hlocks, hml, hK, hN, hE, hA⟩
  unfold zX9_cheapest_s0 at h
  refine lv_aload_n hx hb dX9_cheapest_0 rfl (lv_at hl 0 rfl) ?_
  refine lv_aload_n hx hb dX9_cheapest_1 rfl (lv_at hl 0 rfl) ?_
  obtain ⟨q3, h2, h⟩ := dV_some h
  refine dw_kq (va_runV (As := []) (rest := [.ref (ad 0)]) ⟨hx, hb, hml, hown, hts⟩ (qX9_seated_s0 l D ty eo _ ad q  q3 h2) (cwV 0 hts gX9_cheapest_X9_seated rfl rfl rfl hd_X9_seated_v ⟨Nat.le_of_ble_eq_true rfl, Nat.le_of_ble_eq_true rfl⟩) (pvF_9_0 hK hN hE hP hD hS hA) rfl rfl hl.1 rfl (lv_room (Nat.le_of_ble_eq_true rfl)) dX9_cheapest_2 ⟨Nat.zero_le _, Nat.zero_le _⟩) hP hD hS hA (fun r9 u9 H locs hw hp hd hs => ?_)
  clear hP hD hS
  obtain ⟨rfl, rfl⟩ := hw
  have hP := hp; have hD := hd; have hS := hs; clear hp hd hs
  obtain ⟨q6, h5, h⟩ := dV_some h
  refine dw_kv (va_runV (As := [.ref (ad 20)]) (rest := []) ⟨hx, hb, hml, hown, hts⟩ (qX9_spread_s0_s20 l D ty eo _ ad nc ns q3  q6 h5) (cwV 1 hts gX9_cheapest_X9_spread rfl rfl rfl hd_X9_spread_v ⟨Nat.le_of_ble_eq_true rfl, Nat.le_of_ble_eq_true rfl⟩) (pvF_9_0 hK hN hE hP hD hS hA) rfl rfl hl.1 rfl (lv_room (Nat.le_of_ble_eq_true rfl)) dX9_cheapest_5 ⟨by show 0 + nc ≤ nc; omega, by show 0 + ns ≤ ns; omega⟩) hD hS hA (fun u9 H locs hw hp hd hs => ?_)
  clear hP hD hS
  obtain ⟨ad, hag1, rfl⟩ := hw
  replace hag := dAg_t hag hag1
  rw [dAg_s hag1 0 (by decide)] at hl
  clear hag1
  refine dw_up (c2 := nc) (s2 := ns) (by omega) (by omega) ?_
  have hP := hp; have hD := hd; have hS := hs; clear hp hd hs
  refine lv_aload_n hx hb dX9_cheapest_8 rfl (lv_at hl 0 rfl) ?_
  refine va_get (D := D) (ci := 9) (v := .ref (ad 32)) (C := RX9) (T := TX9) (N := 19) hx hb hts u9_wsX9_cheapest_X9 hown hK hP 0 rfl rfl 10 (by decide) (hts (.fieldLink RX9 80 "TurnedFloors" "paper" "LTurnedFloors$Paper;") f9_wsX9_cheapest_847) (fun _ h9 => h9) rfl dX9_cheapest_9 ?_
  refine lv_aload_n hx hb dX9_cheapest_12 rfl (lv_at hl 0 rfl) ?_
  refine va_get (D := D) (ci := 9) (v := .ref (ad 20)) (C := RX9) (T := TX9) (N := 19) hx hb hts u9_wsX9_cheapest_X9 hown hK hP 0 rfl rfl 6 (by decide) (hts (.fieldLink RX9 50 "TurnedFloors" "judge" "LTurnedFloors$Judge;") f9_wsX9_cheapest_848) (fun _ h9 => h9) rfl dX9_cheapest_13 ?_
  refine lv_aload_n hx hb dX9_cheapest_16 rfl (lv_at hl 0 rfl) ?_
  refine va_get (D := D) (ci := 9) (v := .ref (ad 1)) (C := RX9) (T := TX9) (N := 19) hx hb hts u9_wsX9_cheapest_X9 hown hK hP 0 rfl rfl 0 (by decide) (hts (.fieldLink RX9 10 "TurnedFloors" "state" "LTurnedFloors$State;") f9_wsX9_cheapest_849) (fun _ h9 => h9) rfl dX9_cheapest_17 ?_
  refine va_getN (D := D) (ci := 6) (v := .ref (ad 2)) (C := RX6) (T := TX6) (N := 10) hx hb hts u9_wsX9_cheapest_X6 hown hK hP 1 rfl rfl 0 (by decide) (hN.use (.fieldLinkNest "TurnedFloors" 122 "TurnedFloors$State" "tower" "LTurnedFloors$Tower;" "TurnedFloors") nn9_0) (fun _ h9 => h9) rfl dX9_cheapest_20 ?_
  refine va_getN (D := D) (ci := 8) (v := .int (q6.1 2 4)) (C := RX8) (T := TX8) (N := 5) hx hb hts u9_wsX9_cheapest_X8 hown hK hP 2 rfl rfl 4 (by decide) (hN.use (.fieldLinkNest "TurnedFloors" 240 "TurnedFloors$Tower" "year" "I" "TurnedFloors") nn9_37) (fun _ h9 => h9) rfl dX9_cheapest_23 ?_
  obtain ⟨r7, q9, h8, h⟩ := dB_some h
  refine dw_ki (va_runV (As := [.ref (ad 20), .int (q6.1 2 4)]) (rest := []) ⟨hx, hb, hml, hown, hts⟩ (qX3_leastPaid_s32_s20 l D ty eo _ ad q6 (q6.1 2 4) r7 q9 h8) (cwV 2 hts gX9_cheapest_X3_leastPaid rfl rfl rfl hd_X3_leastPaid_v ⟨Nat.le_of_ble_eq_true rfl, Nat.le_of_ble_eq_true rfl⟩) (pvF_3_32 hK hN hE hP hD hS hA) rfl rfl hl.1 rfl (lv_room (Nat.le_of_ble_eq_true rfl)) dX9_cheapest_26 ⟨Nat.le_refl _, Nat.le_refl _⟩) hD hS hA (fun r9 u9 H locs hw hp hd hs => ?_)
  clear hP hD hS
  obtain ⟨rfl, rfl⟩ := hw
  have hP := hp; have hD := hd; have hS := hs; clear hp hd hs
  cases h
  exact kz_iret hx hb hr hlocks hP hK hD hS dX9_cheapest_29 ⟨rfl, ad, hag, rfl⟩

set_option maxHeartbeats 4000000 in
set_option maxRecDepth 100000 in
theorem WX3_worstTowers_s32_102 {p : Program} {l : Launch} {e : Env} {s : State} {m : MethodId} {args : Array Value} {below : List Frame} {meth : Method} {c : Code} {D : va_G} {ty : Nat → ClassId} {eo : Nat → Nat} {A : Nat → Prop} {ad : Nat → Nat} {o1 : Int32} {o2 : dK} (C : dc_C p s m args meth c cX3_worstTowers (some .int) 7 RX3 wsX3_worstTowers D ty eo A)   (q : dK) (y0 : Int32) (H : Heap) (locs : List Loc) (ls : Array Slot) (h : zX3_worstTowers_s32_102  q y0 = some (o1, o2)) (hP : va_P D vwCl (wF ty ad q) H) (hD : va_D A (wF ty ad q)) (hS : va_S A s.heap H locs) (hl : lv_has ls 7 []) : W p l e ({ frames := 3, cells := 0, slots := 0, locals := 72 } : Room) s m args below meth c H locs 0 0 (MQ below (va_Qi (fun (r : Int32) (u : va_W) => o1 = r ∧ wF ty ad o2 = u) (kz_B D ty A) A) args s 0 0 A) (F0 m 102 ls [.int y0]) := by
  have C0 := C
  obtain ⟨hx, hb, hr, hts, hown, hlocks, hml, hK, hN, hE, hA⟩ := C
  unfold zX3_worstTowers_s32_102 at h
  cases h
  exact kz_iret hx hb hr hlocks hP hK hD hS dX3_worstTowers_102 ⟨rfl, rfl⟩
set_option maxHeartbeats 4000000 in
set_option maxRecDepth 100000 in
theorem WX3_worstTowers_s32_73 {p : Program} {l : Launch} {e : Env} {s : State} {m : MethodId} {args : Array Value} {below : List Frame} {meth : Method} {c : Code} {D : va_G} {ty : Nat → ClassId} {eo : Nat → Nat} {A : Nat → Prop} {ad : Nat → Nat} {o1 : Int32} {o2 : dK} (C : dc_C p s m args meth c cX3_worstTowers (some .int) 7 RX3 wsX3_worstTowers D ty eo A) {k14 : dK → Int32 → Int32 → Int32 → Int32 → Int32 → Option (Int32 × dK)} (hk14 : ∀ (q : dK) (x1 : Int32) (x2 : Int32) (x3 : Int32) (x4 : Int32) (x5 : Int32) (H : Heap) (locs : List Loc) (ls : Array Slot), k14 q x1 x2 x3 x4 x5 = some (o1, o2) → va_P D vwCl (wF ty ad q) H → va_D A (wF ty ad q) → va_S A s.heap H locs → lv_has ls 7 [(0, .ref (ad 32)), (1, .int x1), (2, .int x2), (3, .int x3), (4, .int x4), (5, .int x5)] → W p l e ({ frames := 3, cells := 0, slots := 0, locals := 72 } : Room) s m args below meth c H locs 0 0 (MQ below (va_Qi (fun (r : Int32) (u : va_W) => o1 = r ∧ wF ty ad o2 = u) (kz_B D ty A) A) args s 0 0 A) (F0 m 14 ls [])) (q : dK) (x1 : Int32) (x2 : Int32) (x3 : Int32) (x5 : Int32) (y0 : Int32) (y1 : Int32) (H : Heap) (locs : List Loc) (ls : Array Slot) (h : zX3_worstTowers_s32_73 k14 q x1 x2 x3 x5 y0 y1 = some (o1, o2)) (hP : va_P D vwCl (wF ty ad q) H) (hD : va_D A (wF ty ad q)) (hS : va_S A s.heap H locs) (hl : lv_has ls 7 [(0, .ref (ad 32)), (1, .int x1), (2, .int x2), (3, .int x3), (5, .int x5)]) : W p l e ({ frames := 3, cells := 0, slots := 0, locals := 72 } : Room) s m args below meth c H locs 0 0 (MQ below (va_Qi (fun (r : Int32) (u : va_W) => o1 = r ∧ wF ty ad o2 = u) (kz_B D ty A) A) args s 0 0 A) (F0 m 73 ls [.int y0, .int y1]) := by
  have C0 := C
  obtain ⟨hx, hb, hr, hts, hown, hlocks, hml, hK, hN, hE, hA⟩ := C
  unfold zX3_worstTowers_s32_73 at h
  obtain ⟨r1, h2, h⟩ := dV_some h
  refine dw_ks (va_runSN (As := [.int y0]) (rest := [.int y1]) ⟨hx, hb, hml, hown, hts⟩ (qX9_bit l D ty eo _ y0 _ h2) ⟨va_cnB 1 hts gX3_worstTowers_X9_bit_n133 rfl rfl rfl (hN.1 _ (by decide +kernel : (.methodLinkNest "TurnedFloors$Paper" 133 yX9_bit "TurnedFloors" : Cond) ∈ kzN1)) (hts (.initialized RX9) f9_wsX3_worstTowers_850) (by decide +kernel) ⟨Nat.le_of_ble_eq_true rfl, Nat.le_of_ble_eq_true rfl⟩, hts (.static yX9_bit) (by decide +kernel), trivial⟩ (pvS_0 hK hN hE hP hD hS hA) rfl rfl hl.1 rfl (lv_room (Nat.le_of_ble_eq_true rfl)) dX3_worstTowers_73 ⟨Nat.le_of_ble_eq_true rfl, Nat.le_of_ble_eq_true rfl⟩) hP hD hS hA (fun _ _ h9 => h9.2.symm) (fun r9 u9 H locs hw hp hd hs => ?_)
  obtain ⟨rfl, -⟩ := hw
  clear hP hD hS
  have hP := hp; have hD := hd; have hS := hs; clear hp hd hs
  refine lv_iadd hx hb dX3_worstTowers_76 ?_
  refine lv_istore (lv' := [(4, .int (y1 + r1)), (0, .ref (ad 32)), (1, .int x1), (2, .int x2), (3, .int x3), (5, .int x5)]) hx hb dX3_worstTowers_77 hl (by decide) rfl (fun ls hl => ?_)
  refine lv_iinc (v := x5 + 1) (lv' := [(5, .int (x5 + 1)), (4, .int (y1 + r1)), (0, .ref (ad 32)), (1, .int x1), (2, .int x2), (3, .int x3)]) hx hb dX3_worstTowers_79 hl (k := 5) rfl rfl (by decide) rfl (fun ls hl => ?_)
  refine lv_goto (tgt := 14) hx hb dX3_worstTowers_82 (by decide) ?_
  exact hk14 _ _ _ _ _ _ _ _ _ h hP hD hS (lv_sub hl [2, 3, 4, 5, 1, 0] rfl)
set_option maxHeartbeats 4000000 in
set_option maxRecDepth 100000 in
theorem WX3_worstTowers_s32_55 {p : Program} {l : Launch} {e : Env} {s : State} {m : MethodId} {args : Array Value} {below : List Frame} {meth : Method} {c : Code} {D : va_G} {ty : Nat → ClassId} {eo : Nat → Nat} {A : Nat → Prop} {ad : Nat → Nat} {o1 : Int32} {o2 : dK} (C : dc_C p s m args meth c cX3_worstTowers (some .int) 7 RX3 wsX3_worstTowers D ty eo A) {k14 : dK → Int32 → Int32 → Int32 → Int32 → Int32 → Option (Int32 × dK)} (hk14 : ∀ (q : dK) (x1 : Int32) (x2 : Int32) (x3 : Int32) (x4 : Int32) (x5 : Int32) (H : Heap) (locs : List Loc) (ls : Array Slot), k14 q x1 x2 x3 x4 x5 = some (o1, o2) → va_P D vwCl (wF ty ad q) H → va_D A (wF ty ad q) → va_S A s.heap H locs → lv_has ls 7 [(0, .ref (ad 32)), (1, .int x1), (2, .int x2), (3, .int x3), (4, .int x4), (5, .int x5)] → W p l e ({ frames := 3, cells := 0, slots := 0, locals := 72 } : Room) s m args below meth c H locs 0 0 (MQ below (va_Qi (fun (r : Int32) (u : va_W) => o1 = r ∧ wF ty ad o2 = u) (kz_B D ty A) A) args s 0 0 A) (F0 m 14 ls [])) (q : dK) (x1 : Int32) (x2 : Int32) (x4 : Int32) (x5 : Int32) (x6 : Int32) (y0 : Int32) (y1 : Int32) (H : Heap) (locs : List Loc) (ls : Array Slot) (h : zX3_worstTowers_s32_55 k14 q x1 x2 x4 x5 x6 y0 y1 = some (o1, o2)) (hP : va_P D vwCl (wF ty ad q) H) (hD : va_D A (wF ty ad q)) (hS : va_S A s.heap H locs) (hl : lv_has ls 7 [(0, .ref (ad 32)), (1, .int x1), (2, .int x2), (4, .int x4), (5, .int x5), (6, .int x6)]) : W p l e ({ frames := 3, cells := 0, slots := 0, locals := 72 } : Room) s m args below meth c H locs 0 0 (MQ below (va_Qi (fun (r : Int32) (u : va_W) => o1 = r ∧ wF ty ad o2 = u) (kz_B D ty A) A) args s 0 0 A) (F0 m 55 ls [.int y0, .int y1]) := by
  have C0 := C
  obtain ⟨hx, hb, hr, hts, hown, hlocks, hml, hK, hN, hE, hA⟩ := C
  unfold zX3_worstTowers_s32_55 at h
  obtain ⟨r1, h2, h⟩ := dV_some h
  refine dw_ks (va_runSN (As := [.int y0]) (rest := [.int y1]) ⟨hx, hb, hml, hown, hts⟩ (qX9_bit l D ty eo _ y0 _ h2) ⟨va_cnB 1 hts gX3_worstTowers_X9_bit_n133 rfl rfl rfl (hN.1 _ (by decide +kernel : (.methodLinkNest "TurnedFloors$Paper" 133 yX9_bit "TurnedFloors" : Cond) ∈ kzN1)) (hts (.initialized RX9) f9_wsX3_worstTowers_850) (by decide +kernel) ⟨Nat.le_of_ble_eq_true rfl, Nat.le_of_ble_eq_true rfl⟩, hts (.static yX9_bit) (by decide +kernel), trivial⟩ (pvS_0 hK hN hE hP hD hS hA) rfl rfl hl.1 rfl (lv_room (Nat.le_of_ble_eq_true rfl)) dX3_worstTowers_55 ⟨Nat.le_of_ble_eq_true rfl, Nat.le_of_ble_eq_true rfl⟩) hP hD hS hA (fun _ _ h9 => h9.2.symm) (fun r9 u9 H locs hw hp hd hs => ?_)
  obtain ⟨rfl, -⟩ := hw
  clear hP hD hS
  have hP := hp; have hD := hd; have hS := hs; clear hp hd hs
  refine lv_iadd hx hb dX3_worstTowers_58 ?_
  refine lv_istore_n (lv' := [(3, .int (y1 + r1)), (0, .ref (ad 32)), (1, .int x1), (2, .int x2), (4, .int x4), (5, .int x5), (6, .int x6)]) hx hb dX3_worstTowers_59 rfl hl (by decide) rfl (fun ls hl => ?_)
  refine lv_iload hx hb dX3_worstTowers_60 (lv_at hl 4 rfl) ?_
  refine lv_iload hx hb dX3_worstTowers_62 (lv_at hl 6 rfl) ?_
  refine lv_iconst (v := (-1)) hx hb dX3_worstTowers_64 (by decide) ?_
  refine lv_icmp_eq (tgt := 72) hx hb dX3_worstTowers_65 (by decide) (fun c9 => ?_) (fun c9 => ?_)
  · rw [if_pos c9] at h
    refine lv_iconst (v := 0) hx hb dX3_worstTowers_72 (by decide) ?_
    exact WX3_worstTowers_s32_73 C0 hk14 _ _ _ _ _ _ _ _ _ _ h hP hD hS (lv_sub hl [1, 2, 3, 0, 5] rfl)
  · rw [if_neg c9] at h
    refine lv_iconst (v := 1) hx hb dX3_worstTowers_68 (by decide) ?_
    refine lv_goto (tgt := 73) hx hb dX3_worstTowers_69 (by decide) ?_
    exact WX3_worstTowers_s32_73 C0 hk14 _ _ _ _ _ _ _ _ _ _ h hP hD hS (lv_sub hl [1, 2, 3, 0, 5] rfl)
set_option maxHeartbeats 4000000 in
set_option maxRecDepth 100000 in
theorem WX3_worstTowers_s32_43 {p : Program} {l : Launch} {e : Env} {s : State} {m : MethodId} {args : Array Value} {below : List Frame} {meth : Method} {c : Code} {D : va_G} {ty : Nat → ClassId} {eo : Nat → Nat} {A : Nat → Prop} {ad : Nat → Nat} {o1 : Int32} {o2 : dK} (C : dc_C p s m args meth c cX3_worstTowers (some .int) 7 RX3 wsX3_worstTowers D ty eo A) {k14 : dK → Int32 → Int32 → Int32 → Int32 → Int32 → Option (Int32 × dK)} (hk14 : ∀ (q : dK) (x1 : Int32) (x2 : Int32) (x3 : Int32) (x4 : Int32) (x5 : Int32) (H : Heap) (locs : List Loc) (ls : Array Slot), k14 q x1 x2 x3 x4 x5 = some (o1, o2) → va_P D vwCl (wF ty ad q) H → va_D A (wF ty ad q) → va_S A s.heap H locs → lv_has ls 7 [(0, .ref (ad 32)), (1, .int x1), (2, .int x2), (3, .int x3), (4, .int x4), (5, .int x5)] → W p l e ({ frames := 3, cells := 0, slots := 0, locals := 72 } : Room) s m args below meth c H locs 0 0 (MQ below (va_Qi (fun (r : Int32) (u : va_W) => o1 = r ∧ wF ty ad o2 = u) (kz_B D ty A) A) args s 0 0 A) (F0 m 14 ls [])) (q : dK) (x1 : Int32) (x2 : Int32) (x3 : Int32) (x4 : Int32) (x5 : Int32) (x6 : Int32) (H : Heap) (locs : List Loc) (ls : Array Slot) (h : zX3_worstTowers_s32_43 k14 q x1 x2 x3 x4 x5 x6 = some (o1, o2)) (hP : va_P D vwCl (wF ty ad q) H) (hD : va_D A (wF ty ad q)) (hS : va_S A s.heap H locs) (hl : lv_has ls 7 [(0, .ref (ad 32)), (1, .int x1), (2, .int x2), (3, .int x3), (4, .int x4), (5, .int x5), (6, .int x6)]) : W p l e ({ frames := 3, cells := 0, slots := 0, locals := 72 } : Room) s m args below meth c H locs 0 0 (MQ below (va_Qi (fun (r : Int32) (u : va_W) => o1 = r ∧ wF ty ad o2 = u) (kz_B D ty A) A) args s 0 0 A) (F0 m 43 ls []) := by
  have C0 := C
  obtain ⟨hx, hb, hr, hts, hown, hlocks, hml, hK, hN, hE, hA⟩ := C
  unfold zX3_worstTowers_s32_43 at h
  refine lv_iload_n hx hb dX3_worstTowers_43 rfl (lv_at hl 3 rfl) ?_
  refine lv_iload hx hb dX3_worstTowers_44 (lv_at hl 6 rfl) ?_
  refine lv_iload_n hx hb dX3_worstTowers_46 rfl (lv_at hl 2 rfl) ?_
  refine lv_icmp_ne (tgt := 54) hx hb dX3_worstTowers_47 (by decide) (fun c9 => ?_) (fun c9 => ?_)
  · rw [if_neg c9] at h
    refine lv_iconst (v := 0) hx hb dX3_worstTowers_54 (by decide) ?_
    exact WX3_worstTowers_s32_55 C0 hk14 _ _ _ _ _ _ _ _ _ _ _ h hP hD hS (lv_sub hl [0, 1, 2, 4, 5, 6] rfl)
  · rw [if_pos c9] at h
    refine lv_iconst (v := 1) hx hb dX3_worstTowers_50 (by decide) ?_
    refine lv_goto (tgt := 55) hx hb dX3_worstTowers_51 (by decide) ?_
    exact WX3_worstTowers_s32_55 C0 hk14 _ _ _ _ _ _ _ _ _ _ _ h hP hD hS (lv_sub hl [0, 1, 2, 4, 5, 6] rfl)
set_option maxHeartbeats 4000000 in
set_option maxRecDepth 100000 in
theorem WX3_worstTowers_s32_14b {p : Program} {l : Launch} {e : Env} {s : State} {m : MethodId} {args : Array Value} {below : List Frame} {meth : Method} {c : Code} {D : va_G} {ty : Nat → ClassId} {eo : Nat → Nat} {A : Nat → Prop} {ad : Nat → Nat} {o1 : Int32} {o2 : dK} (C : dc_C p s m args meth c cX3_worstTowers (some .int) 7 RX3 wsX3_worstTowers D ty eo A) {k14 : dK → Int32 → Int32 → Int32 → Int32 → Int32 → Option (Int32 × dK)} (hk14 : ∀ (q : dK) (x1 : Int32) (x2 : Int32) (x3 : Int32) (x4 : Int32) (x5 : Int32) (H : Heap) (locs : List Loc) (ls : Array Slot), k14 q x1 x2 x3 x4 x5 = some (o1, o2) → va_P D vwCl (wF ty ad q) H → va_D A (wF ty ad q) → va_S A s.heap H locs → lv_has ls 7 [(0, .ref (ad 32)), (1, .int x1), (2, .int x2), (3, .int x3), (4, .int x4), (5, .int x5)] → W p l e ({ frames := 3, cells := 0, slots := 0, locals := 72 } : Room) s m args below meth c H locs 0 0 (MQ below (va_Qi (fun (r : Int32) (u : va_W) => o1 = r ∧ wF ty ad o2 = u) (kz_B D ty A) A) args s 0 0 A) (F0 m 14 ls [])) (q : dK) (x1 : Int32) (x2 : Int32) (x3 : Int32) (x4 : Int32) (x5 : Int32) (H : Heap) (locs : List Loc) (ls : Array Slot) (h : zX3_worstTowers_s32_14b k14 q x1 x2 x3 x4 x5 = some (o1, o2)) (hP : va_P D vwCl (wF ty ad q) H) (hD : va_D A (wF ty ad q)) (hS : va_S A s.heap H locs) (hl : lv_has ls 7 [(0, .ref (ad 32)), (1, .int x1), (2, .int x2), (3, .int x3), (4, .int x4), (5, .int x5)]) : W p l e ({ frames := 3, cells := 0, slots := 0, locals := 72 } : Room) s m args below meth c H locs 0 0 (MQ below (va_Qi (fun (r : Int32) (u : va_W) => o1 = r ∧ wF ty ad o2 = u) (kz_B D ty A) A) args s 0 0 A) (F0 m 14 ls []) := by
  have C0 := C
  obtain ⟨hx, hb, hr, hts, hown, hlocks, hml, hK, hN, hE, hA⟩ := C
  unfold zX3_worstTowers_s32_14b at h
  refine lv_iload hx hb dX3_worstTowers_14 (lv_at hl 5 rfl) ?_
  refine lv_aload_n hx hb dX3_worstTowers_16 rfl (lv_at hl 0 rfl) ?_
  refine va_get (D := D) (ci := 3) (v := .int (q.1 32 14)) (C := RX3) (T := TX3) (N := 20) hx hb hts u9_wsX3_worstTowers_X3 hown hK hP 32 rfl rfl 14 (by decide) (hts (.fieldLink RX3 55 "TurnedFloors$Paper" "size" "I") f9_wsX3_worstTowers_852) (fun _ h9 => h9) rfl dX3_worstTowers_17 ?_
  refine lv_icmp_ge (tgt := 85) hx hb dX3_worstTowers_20 (by decide) (fun c9 => ?_) (fun c9 => ?_)
  · rw [if_pos c9] at h
    refine lv_iload_n hx hb dX3_worstTowers_85 rfl (lv_at hl 1 rfl) ?_
    refine lv_if_ne (tgt := 91) hx hb dX3_worstTowers_86 (by decide) (fun c9 => ?_) (fun c9 => ?_)
    · rw [if_neg c9] at h
      refine lv_iload_n hx hb dX3_worstTowers_91 rfl (lv_at hl 1 rfl) ?_
      refine lv_iconst (v := 1) hx hb dX3_worstTowers_92 (by decide) ?_
      refine lv_icmp_ne (tgt := 100) hx hb dX3_worstTowers_93 (by decide) (fun c9 => ?_) (fun c9 => ?_)
      · rw [if_neg c9] at h
        refine lv_iload hx hb dX3_worstTowers_100 (lv_at hl 4 rfl) ?_
        exact WX3_worstTowers_s32_102 C0  _ _ _ _ _ h hP hD hS (lv_sub hl [] rfl)
      · rw [if_pos c9] at h
        refine lv_iload_n hx hb dX3_worstTowers_96 rfl (lv_at hl 3 rfl) ?_
        refine lv_goto (tgt := 102) hx hb dX3_worstTowers_97 (by decide) ?_
        exact WX3_worstTowers_s32_102 C0  _ _ _ _ _ h hP hD hS (lv_sub hl [] rfl)
    · rw [if_pos c9] at h
      refine lv_iload_n hx hb dX3_worstTowers_89 rfl (lv_at hl 2 rfl) ?_
      cases h
      exact kz_iret hx hb hr hlocks hP hK hD hS dX3_worstTowers_90 ⟨rfl, rfl⟩
  · rw [if_neg c9] at h
    refine lv_aload_n hx hb dX3_worstTowers_23 rfl (lv_at hl 0 rfl) ?_
    refine va_get (D := D) (ci := 3) (v := .ref (ad 42)) (C := RX3) (T := TX3) (N := 20) hx hb hts u9_wsX3_worstTowers_X3 hown hK hP 32 rfl rfl 9 (by decide) (hts (.fieldLink RX3 39 "TurnedFloors$Paper" "toOrder" "[I") f9_wsX3_worstTowers_853) (fun _ h9 => h9) rfl dX3_worstTowers_24 ?_
    refine lv_iload hx hb dX3_worstTowers_27 (lv_at hl 5 rfl) ?_
    obtain ⟨g1, h⟩ := dG_some h
    refine va_iald hx hb hK hP 42 0 rfl rfl (dg_in g1) dX3_worstTowers_29 ?_
    obtain ⟨v2, ev2, h⟩ := dL_some h
    refine kz_topi v2 ev2 ?_
    refine lv_istore (lv' := [(6, .int v2), (0, .ref (ad 32)), (1, .int x1), (2, .int x2), (3, .int x3), (4, .int x4), (5, .int x5)]) hx hb dX3_worstTowers_30 hl (by decide) rfl (fun ls hl => ?_)
    refine lv_iload hx hb dX3_worstTowers_32 (lv_at hl 0 rfl) ?_
    refine lv_iload_n hx hb dX3_worstTowers_34 rfl (lv_at hl 3 rfl) ?_
    refine lv_icmp_le (tgt := 43) hx hb dX3_worstTowers_35 (by decide) (fun c9 => ?_) (fun c9 => ?_)
    · rw [if_pos c9] at h
      exact WX3_worstTowers_s32_43 C0 hk14 _ _ _ _ _ _ _ _ _ _ h hP hD hS (lv_sub hl [1, 2, 3, 4, 5, 6, 0] rfl)
    · rw [if_neg c9] at h
      refine lv_iload hx hb dX3_worstTowers_38 (lv_at hl 0 rfl) ?_
      refine lv_istore_n (lv' := [(2, .int v2), (6, .int v2), (0, .ref (ad 32)), (1, .int x1), (3, .int x3), (4, .int x4), (5, .int x5)]) hx hb dX3_worstTowers_40 rfl hl (by decide) rfl (fun ls hl => ?_)
      refine lv_iconst (v := 0) hx hb dX3_worstTowers_41 (by decide) ?_
      refine lv_istore_n (lv' := [(3, .int 0), (2, .int v2), (6, .int v2), (0, .ref (ad 32)), (1, .int x1), (4, .int x4), (5, .int x5)]) hx hb dX3_worstTowers_42 rfl hl (by decide) rfl (fun ls hl => ?_)
      exact WX3_worstTowers_s32_43 C0 hk14 _ _ _ _ _ _ _ _ _ _ h hP hD hS (lv_sub hl [3, 4, 1, 0, 5, 6, 2] rfl)
set_option maxHeartbeats 4000000 in
set_option maxRecDepth 100000 in
theorem WX3_worstTowers_s32_14 {p : Program} {l : Launch} {e : Env} {s : State} {m : MethodId} {args : Array Value} {below : List Frame} {meth : Method} {c : Code} {D : va_G} {ty : Nat → ClassId} {eo : Nat → Nat} {A : Nat → Prop} {ad : Nat → Nat} {o1 : Int32} {o2 : dK} (C : dc_C p s m args meth c cX3_worstTowers (some .int) 7 RX3 wsX3_worstTowers D ty eo A)   (n : Nat) (q : dK) (x1 : Int32) (x2 : Int32) (x3 : Int32) (x4 : Int32) (x5 : Int32) (H : Heap) (locs : List Loc) (ls : Array Slot) (h : zX3_worstTowers_s32_14  n q x1 x2 x3 x4 x5 = some (o1, o2)) (hP : va_P D vwCl (wF ty ad q) H) (hD : va_D A (wF ty ad q)) (hS : va_S A s.heap H locs) (hl : lv_has ls 7 [(0, .ref (ad 32)), (1, .int x1), (2, .int x2), (3, .int x3), (4, .int x4), (5, .int x5)]) : W p l e ({ frames := 3, cells := 0, slots := 0, locals := 72 } : Room) s m args below meth c H locs 0 0 (MQ below (va_Qi (fun (r : Int32) (u : va_W) => o1 = r ∧ wF ty ad o2 = u) (kz_B D ty A) A) args s 0 0 A) (F0 m 14 ls []) := by
  exact dFix_W (F := fun k (a : dK × Int32 × Int32 × Int32 × Int32 × Int32) => zX3_worstTowers_s32_14b  (fun q x1 x2 x3 x4 x5 => k (q, x1, x2, x3, x4, x5)) a.1 a.2.1 a.2.2.1 a.2.2.2.1 a.2.2.2.2.1 a.2.2.2.2.2) (o := (o1, o2)) (P := fun (a : dK × Int32 × Int32 × Int32 × Int32 × Int32) H locs ls => va_P D vwCl (wF ty ad a.1) H ∧ va_D A (wF ty ad a.1) ∧ va_S A s.heap H locs ∧ lv_has ls 7 [(0, .ref (ad 32)), (1, .int a.2.1), (2, .int a.2.2.1), (3, .int a.2.2.2.1), (4, .int a.2.2.2.2.1), (5, .int a.2.2.2.2.2)]) (G := fun H locs ls => W p l e ({ frames := 3, cells := 0, slots := 0, locals := 72 } : Room) s m args below meth c H locs 0 0 (MQ below (va_Qi (fun (r : Int32) (u : va_W) => o1 = r ∧ wF ty ad o2 = u) (kz_B D ty A) A) args s 0 0 A) (F0 m 14 ls []))
    (fun k hk a H locs ls h hp => WX3_worstTowers_s32_14b C  (fun q x1 x2 x3 x4 x5 H locs ls h h1 h2 h3 h4 => hk (q, x1, x2, x3, x4, x5) H locs ls h ⟨h1, h2, h3, h4⟩) a.1 a.2.1 a.2.2.1 a.2.2.2.1 a.2.2.2.2.1 a.2.2.2.2.2 H locs ls h hp.1 hp.2.1 hp.2.2.1 hp.2.2.2) n (q, x1, x2, x3, x4, x5) H locs ls h ⟨hP, hD, hS, hl⟩
set_option maxHeartbeats 4000000 in
set_option maxRecDepth 100000 in
theorem qX3_worstTowers_s32 (l : Launch) (D : va_G) (ty : Nat → ClassId) (eo : Nat → Nat) (sz : Nat) (ad : Nat → Nat) (q : dK) (p1 : Int32) (o1 : Int32) (o2 : dK) (h : zX3_worstTowers_s32 q p1 = some (o1, o2)) : Met l yX3_worstTowers wsX3_worstTowers ({ frames := 3, cells := 0, slots := 0, locals := 72 } : Room) (va_Pc [.ref (ad 32), .int p1] (kz_pre D ty eo (wF ty ad q) sz)) (va_Qi (fun (r : Int32) (u : va_W) => o1 = r ∧ wF ty ad o2 = u) (kz_B D ty (va_A (wF ty ad q) sz)) (va_A (wF ty ad q) sz)) 0 0 (va_A (wF ty ad q) sz) := by
  refine Met.ofW (cc := cX3_worstTowers) (maxL := 7) (ret := (some .int)) (by decide) rfl ?_
  intro p e s m args below meth c s₁ B hml hv
  obtain ⟨rfl, hsz, hP, hK, hD0, hN, hE⟩ := hv
  have hx := B.exec
  have hb := B.bytes
  have hr := B.returns
  have hts := atoms_spec (ws := wsX3_worstTowers) B.pre
  have hown : s.vm.findClass RX3 = some m.cls := findClass_of_methodNamed B.named
  have hlocks := B.notSynchronized
  subst hsz
  have hD := hD0.self (sz := s.heap.size)
  generalize hAe : va_A (wF ty ad q) s.heap.size = A at hD hE ⊢
  have hA : ∀ q : Nat, s.heap.size ≤ q → A q := fun q h => by rw [← hAe]; exact Or.inr h
  clear hAe
  have hS : va_S A s.heap s.heap [] := va_S.rf
  have hl := lv_entry ([.ref (ad 32), .int p1]) (n := 7) (Nat.le_of_ble_eq_true rfl)
  rw [lg_entry_eq]
  generalize (lg_sl ([.ref (ad 32), .int p1]) ++ List.replicate (7 - (lg_sl ([.ref (ad 32), .int p1])).length) Slot.unset).toArray = ls at hl ⊢
  have hl : lv_has ls 7 [(0, .ref (ad 32)), (1, .int p1)] := hl
  have C : dc_C p s m _ meth c cX3_worstTowers (some .int) 7 RX3 wsX3_worstTowers D ty eo A := ⟨hx, hb, hr, hts, hown, hlocks, hml, hK, hN, hE, hA⟩
  unfold zX3_worstTowers_s32 at h
  refine lv_aload_n hx hb dX3_worstTowers_0 rfl (lv_at hl 0 rfl) ?_
  obtain ⟨q3, h2, h⟩ := dV_some h
  refine dw_kv (va_runV (As := []) (rest := []) ⟨hx, hb, hml, hown, hts⟩ (qX3_measure_s32 l D ty eo _ ad q  q3 h2) (cwV 0 hts gX3_worstTowers_X3_measure rfl rfl rfl hd_X3_measure_v ⟨Nat.le_of_ble_eq_true rfl, Nat.le_of_ble_eq_true rfl⟩) (pvF_3_32 hK hN hE hP hD hS hA) rfl rfl hl.1 rfl (lv_room (Nat.le_of_ble_eq_true rfl)) dX3_worstTowers_1 ⟨Nat.le_of_ble_eq_true rfl, Nat.le_of_ble_eq_true rfl⟩) hD hS hA (fun u9 H locs hw hp hd hs => ?_)
  clear hP hD hS
  obtain rfl := hw
  have hP := hp; have hD := hd; have hS := hs; clear hp hd hs
  refine lv_iconst (v := 0) hx hb dX3_worstTowers_4 (by decide) ?_
  refine lv_istore_n (lv' := [(2, .int 0), (0, .ref (ad 32)), (1, .int p1)]) hx hb dX3_worstTowers_5 rfl hl (by decide) rfl (fun ls hl => ?_)
  refine lv_iconst (v := 0) hx hb dX3_worstTowers_6 (by decide) ?_
  refine lv_istore_n (lv' := [(3, .int 0), (2, .int 0), (0, .ref (ad 32)), (1, .int p1)]) hx hb dX3_worstTowers_7 rfl hl (by decide) rfl (fun ls hl => ?_)
  refine lv_iconst (v := 0) hx hb dX3_worstTowers_8 (by decide) ?_
  refine lv_istore (lv' := [(4, .int 0), (3, .int 0), (2, .int 0), (0, .ref (ad 32)), (1, .int p1)]) hx hb dX3_worstTowers_9 hl (by decide) rfl (fun ls hl => ?_)
  refine lv_iconst (v := 0) hx hb dX3_worstTowers_11 (by decide) ?_
  refine lv_istore (lv' := [(5, .int 0), (4, .int 0), (3, .int 0), (2, .int 0), (0, .ref (ad 32)), (1, .int p1)]) hx hb dX3_worstTowers_12 hl (by decide) rfl (fun ls hl => ?_)
  exact WX3_worstTowers_s32_14 C  _ _ _ _ _ _ _ _ _ _ h hP hD hS (lv_sub hl [4, 5, 3, 2, 1, 0] rfl)

set_option maxHeartbeats 4000000 in
set_option maxRecDepth 100000 in
theorem WX9_worst_s0_9 {p : Program} {l : Launch} {e : Env} {s : State} {m : MethodId} {args : Array Value} {below : List Frame} {meth : Method} {c : Code} {D : va_G} {ty : Nat → ClassId} {eo : Nat → Nat} {A : Nat → Prop} {ad : Nat → Nat} {o1 : Int32} {o2 : dK} {nc ns : Nat} {ad0 : Nat → Nat} (hag : dAg ad0 ad) (C : dc_C p s m args meth c cX9_worst (some .int) 2 RX9 wsX9_worst D ty eo A)   (q : dK)  (H : Heap) (locs : List Loc) (ls : Array Slot) (h : zX9_worst_s0_9 nc ns  q = some (o1, o2)) (hP : va_P D vwCl (wF ty ad q) H) (hD : va_D A (wF ty ad q)) (hS : va_S A s.heap H locs) (hl : lv_has ls 2 []) : W p l e ({ frames := 6, cells := nc, slots := ns, locals := 160 } : Room) s m args below meth c H locs 0 0 (MQ below (va_Qi (fun (r : Int32) (u : va_W) => o1 = r ∧ ∃ ad9 : Nat → Nat, dAg ad0 ad9 ∧ wF ty ad9 o2 = u) (kz_B D ty A) A) args s nc ns A) (F0 m 9 ls []) := by
  have C0 := C
  obtain ⟨hx, hb, hr, hts, hown, hlocks, hml, hK, hN, hE, hA⟩ := C
  unfold zX9_worst_s0_9 at h
  refine lv_iconst (v := (-1)) hx hb dX9_worst_9 (by decide) ?_
  refine dw_up (c2 := nc) (s2 := ns) (Nat.zero_le _) (Nat.zero_le _) ?_
  cases h
  exact kz_iret hx hb hr hlocks hP hK hD hS dX9_worst_10 ⟨rfl, ad, hag, rfl⟩
set_option maxHeartbeats 4000000 in
set_option maxRecDepth 100000 in
theorem qX9_worst_s0 (l : Launch) (D : va_G) (ty : Nat → ClassId) (eo : Nat → Nat) (sz : Nat) (ad : Nat → Nat) (nc ns : Nat) (q : dK) (p1 : Int32) (o1 : Int32) (o2 : dK) (h : zX9_worst_s0 nc ns q p1 = some (o1, o2)) : Met l yX9_worst wsX9_worst ({ frames := 6, cells := nc, slots := ns, locals := 160 } : Room) (va_Pc [.ref (ad 0), .int p1] (kz_pre D ty eo (wF ty ad q) sz)) (va_Qi (fun (r : Int32) (u : va_W) => o1 = r ∧ ∃ ad9 : Nat → Nat, dAg ad ad9 ∧ wF ty ad9 o2 = u) (kz_B D ty (va_A (wF ty ad q) sz)) (va_A (wF ty ad q) sz)) nc ns (va_A (wF ty ad q) sz) := by
  have hag : dAg ad ad := fun _ _ => rfl
  refine Met.ofW (cc := cX9_worst) (maxL := 2) (ret := (some .int)) (by decide) rfl ?_
  intro p e s m args below meth c s₁ B hml hv
  obtain ⟨rfl, hsz, hP, hK, hD0, hN, hE⟩ := hv
  have hx := B.exec
  have hb := B.bytes
  have hr := B.returns
  have hts := atoms_spec (ws := wsX9_worst) B.pre
  have hown : s.vm.findClass RX9 = some m.cls := findClass_of_methodNamed B.named
  have hlocks := B.notSynchronized
  subst hsz
  have hD := hD0.self (sz := s.heap.size)
  generalize hAe : va_A (wF ty ad q) s.heap.size = A at hD hE ⊢
  have hA : ∀ q : Nat, s.heap.size ≤ q → A q := fun q h => by rw [← hAe]; exact Or.inr h
  clear hAe
  have hS : va_S A s.heap s.heap [] := va_S.rf
  have hl := lv_entry ([.ref (ad 0), .int p1]) (n := 2) (Nat.le_of_ble_eq_true rfl)
  rw [lg_entry_eq]
  generalize (lg_sl ([.ref (ad 0), .int p1]) ++ List.replicate (2 - (lg_sl ([.ref (ad 0), .int p1])).length) Slot.unset).toArray = ls at hl ⊢
  have hl : lv_has ls 2 [(0, .ref (ad 0)), (1, .int p1)] := hl
  have C : dc_C p s m _ meth c cX9_worst (some .int) 2 RX9 wsX9_worst D ty eo A := ⟨hx, hb, hr, hts, hown, hlocks, hml, hK, hN, hE, hA⟩
  unfold zX9_worst_s0 at h
  refine lv_iload_n hx hb dX9_worst_0 rfl (lv_at hl 1 rfl) ?_
  refine lv_if_lt (tgt := 9) hx hb dX9_worst_1 (by decide) (fun c9 => ?_) (fun c9 => ?_)
  · rw [if_pos c9] at h
    exact WX9_worst_s0_9 hag C  _ _ _ _ h hP hD hS (lv_sub hl [] rfl)
  · rw [if_neg c9] at h
    refine lv_iload_n hx hb dX9_worst_4 rfl (lv_at hl 1 rfl) ?_
    refine lv_iconst (v := 2) hx hb dX9_worst_5 (by decide) ?_
    refine lv_icmp_le (tgt := 11) hx hb dX9_worst_6 (by decide) (fun c9 => ?_) (fun c9 => ?_)
    · rw [if_pos c9] at h
      refine lv_aload_n hx hb dX9_worst_11 rfl (lv_at hl 0 rfl) ?_
      refine lv_aload_n hx hb dX9_worst_12 rfl (lv_at hl 0 rfl) ?_
      obtain ⟨q3, h2, h⟩ := dV_some h
      refine dw_kq (va_runV (As := []) (rest := [.ref (ad 0)]) ⟨hx, hb, hml, hown, hts⟩ (qX9_seated_s0 l D ty eo _ ad q  q3 h2) (cwV 0 hts gX9_worst_X9_seated rfl rfl rfl hd_X9_seated_v ⟨Nat.le_of_ble_eq_true rfl, Nat.le_of_ble_eq_true rfl⟩) (pvF_9_0 hK hN hE hP hD hS hA) rfl rfl hl.1 rfl (lv_room (Nat.le_of_ble_eq_true rfl)) dX9_worst_13 ⟨Nat.zero_le _, Nat.zero_le _⟩) hP hD hS hA (fun r9 u9 H locs hw hp hd hs => ?_)
      clear hP hD hS
      obtain ⟨rfl, rfl⟩ := hw
      have hP := hp; have hD := hd; have hS := hs; clear hp hd hs
      obtain ⟨q6, h5, h⟩ := dV_some h
      refine dw_kv (va_runV (As := [.ref (ad 20)]) (rest := []) ⟨hx, hb, hml, hown, hts⟩ (qX9_spread_s0_s20 l D ty eo _ ad nc ns q3  q6 h5) (cwV 1 hts gX9_worst_X9_spread rfl rfl rfl hd_X9_spread_v ⟨Nat.le_of_ble_eq_true rfl, Nat.le_of_ble_eq_true rfl⟩) (pvF_9_0 hK hN hE hP hD hS hA) rfl rfl hl.1 rfl (lv_room (Nat.le_of_ble_eq_true rfl)) dX9_worst_16 ⟨by show 0 + nc ≤ nc; omega, by show 0 + ns ≤ ns; omega⟩) hD hS hA (fun u9 H locs hw hp hd hs => ?_)
      clear hP hD hS
      obtain ⟨ad, hag1, rfl⟩ := hw
      replace hag := dAg_t hag hag1
      rw [dAg_s hag1 0 (by decide)] at hl
      clear hag1
      refine dw_up (c2 := nc) (s2 := ns) (by omega) (by omega) ?_
      have hP := hp; have hD := hd; have hS := hs; clear hp hd hs
      refine lv_aload_n hx hb dX9_worst_19 rfl (lv_at hl 0 rfl) ?_
      refine va_get (D := D) (ci := 9) (v := .ref (ad 32)) (C := RX9) (T := TX9) (N := 19) hx hb hts u9_wsX9_worst_X9 hown hK hP 0 rfl rfl 10 (by decide) (hts (.fieldLink RX9 80 "TurnedFloors" "paper" "LTurnedFloors$Paper;") f9_wsX9_worst_855) (fun _ h9 => h9) rfl dX9_worst_20 ?_
      refine lv_iload_n hx hb dX9_worst_23 rfl (lv_at hl 1 rfl) ?_
      obtain ⟨r7, q9, h8, h⟩ := dB_some h
      refine dw_ki (va_runV (As := [.int p1]) (rest := []) ⟨hx, hb, hml, hown, hts⟩ (qX3_worstTowers_s32 l D ty eo _ ad q6 p1 r7 q9 h8) (cwV 1 hts gX9_worst_X3_worstTowers rfl rfl rfl hd_X3_worstTowers_v ⟨Nat.le_of_ble_eq_true rfl, Nat.le_of_ble_eq_true rfl⟩) (pvF_3_32 hK hN hE hP hD hS hA) rfl rfl hl.1 rfl (lv_room (Nat.le_of_ble_eq_true rfl)) dX9_worst_24 ⟨Nat.le_refl _, Nat.le_refl _⟩) hD hS hA (fun r9 u9 H locs hw hp hd hs => ?_)
      clear hP hD hS
      obtain ⟨rfl, rfl⟩ := hw
      have hP := hp; have hD := hd; have hS := hs; clear hp hd hs
      cases h
      exact kz_iret hx hb hr hlocks hP hK hD hS dX9_worst_27 ⟨rfl, ad, hag, rfl⟩
    · rw [if_neg c9] at h
      exact WX9_worst_s0_9 hag C  _ _ _ _ h hP hD hS (lv_sub hl [] rfl)

set_option maxHeartbeats 4000000 in
set_option maxRecDepth 100000 in
theorem WX3_fits_s32_49 {p : Program} {l : Launch} {e : Env} {s : State} {m : MethodId} {args : Array Value} {below : List Frame} {meth : Method} {c : Code} {D : va_G} {ty : Nat → ClassId} {eo : Nat → Nat} {A : Nat → Prop} {ad : Nat → Nat} {o1 : Int32} {o2 : dK} (C : dc_C p s m args meth c cX3_fits (some .boolean) 5 RX3 wsX3_fits D ty eo A)   (q : dK) (y0 : Int32) (H : Heap) (locs : List Loc) (ls : Array Slot) (h : zX3_fits_s32_49  q y0 = some (o1, o2)) (hP : va_P D vwCl (wF ty ad q) H) (hD : va_D A (wF ty ad q)) (hS : va_S A s.heap H locs) (hl : lv_has ls 5 []) : W p l e ({ frames := 0, cells := 0, slots := 0, locals := 0 } : Room) s m args below meth c H locs 0 0 (MQ below (va_Qi (fun (r : Int32) (u : va_W) => o1 = r ∧ wF ty ad o2 = u) (kz_B D ty A) A) args s 0 0 A) (F0 m 49 ls [.int y0]) := by
  have C0 := C
  obtain ⟨hx, hb, hr, hts, hown, hlocks, hml, hK, hN, hE, hA⟩ := C
  unfold zX3_fits_s32_49 at h
  obtain ⟨g1, h⟩ := dG_some h
  cases h
  exact kz_zret hx hb hr hlocks (dbl_nar g1) hP hK hD hS dX3_fits_49 ⟨rfl, rfl⟩
set_option maxHeartbeats 4000000 in
set_option maxRecDepth 100000 in
theorem WX3_fits_s32_48 {p : Program} {l : Launch} {e : Env} {s : State} {m : MethodId} {args : Array Value} {below : List Frame} {meth : Method} {c : Code} {D : va_G} {ty : Nat → ClassId} {eo : Nat → Nat} {A : Nat → Prop} {ad : Nat → Nat} {o1 : Int32} {o2 : dK} (C : dc_C p s m args meth c cX3_fits (some .boolean) 5 RX3 wsX3_fits D ty eo A)   (q : dK)  (H : Heap) (locs : List Loc) (ls : Array Slot) (h : zX3_fits_s32_48  q = some (o1, o2)) (hP : va_P D vwCl (wF ty ad q) H) (hD : va_D A (wF ty ad q)) (hS : va_S A s.heap H locs) (hl : lv_has ls 5 []) : W p l e ({ frames := 0, cells := 0, slots := 0, locals := 0 } : Room) s m args below meth c H locs 0 0 (MQ below (va_Qi (fun (r : Int32) (u : va_W) => o1 = r ∧ wF ty ad o2 = u) (kz_B D ty A) A) args s 0 0 A) (F0 m 48 ls []) := by
  have C0 := C
  obtain ⟨hx, hb, hr, hts, hown, hlocks, hml, hK, hN, hE, hA⟩ := C
  unfold zX3_fits_s32_48 at h
  refine lv_iconst (v := 0) hx hb dX3_fits_48 (by decide) ?_
  exact WX3_fits_s32_49 C0  _ _ _ _ _ h hP hD hS (lv_sub hl [] rfl)
set_option maxHeartbeats 4000000 in
set_option maxRecDepth 100000 in
theorem WX3_fits_s32_24 {p : Program} {l : Launch} {e : Env} {s : State} {m : MethodId} {args : Array Value} {below : List Frame} {meth : Method} {c : Code} {D : va_G} {ty : Nat → ClassId} {eo : Nat → Nat} {A : Nat → Prop} {ad : Nat → Nat} {o1 : Int32} {o2 : dK} (C : dc_C p s m args meth c cX3_fits (some .boolean) 5 RX3 wsX3_fits D ty eo A)   (q : dK) (y0 : Int32) (H : Heap) (locs : List Loc) (ls : Array Slot) (h : zX3_fits_s32_24  q y0 = some (o1, o2)) (hP : va_P D vwCl (wF ty ad q) H) (hD : va_D A (wF ty ad q)) (hS : va_S A s.heap H locs) (hl : lv_has ls 5 []) : W p l e ({ frames := 0, cells := 0, slots := 0, locals := 0 } : Room) s m args below meth c H locs 0 0 (MQ below (va_Qi (fun (r : Int32) (u : va_W) => o1 = r ∧ wF ty ad o2 = u) (kz_B D ty A) A) args s 0 0 A) (F0 m 24 ls [.int y0]) := by
  have C0 := C
  obtain ⟨hx, hb, hr, hts, hown, hlocks, hml, hK, hN, hE, hA⟩ := C
  unfold zX3_fits_s32_24 at h
  obtain ⟨g1, h⟩ := dG_some h
  cases h
  exact kz_zret hx hb hr hlocks (dbl_nar g1) hP hK hD hS dX3_fits_24 ⟨rfl, rfl⟩
set_option maxHeartbeats 4000000 in
set_option maxRecDepth 100000 in
theorem qX3_fits_s32 (l : Launch) (D : va_G) (ty : Nat → ClassId) (eo : Nat → Nat) (sz : Nat) (ad : Nat → Nat) (q : dK) (p1 : Int32) (p2 : Int32) (p3 : Int32) (o1 : Int32) (o2 : dK) (h : zX3_fits_s32 q p1 p2 p3 = some (o1, o2)) : Met l yX3_fits wsX3_fits ({ frames := 0, cells := 0, slots := 0, locals := 0 } : Room) (va_Pc [.ref (ad 32), .int p1, .int p2, .int p3] (kz_pre D ty eo (wF ty ad q) sz)) (va_Qi (fun (r : Int32) (u : va_W) => o1 = r ∧ wF ty ad o2 = u) (kz_B D ty (va_A (wF ty ad q) sz)) (va_A (wF ty ad q) sz)) 0 0 (va_A (wF ty ad q) sz) := by
  refine Met.ofW (cc := cX3_fits) (maxL := 5) (ret := (some .boolean)) (by decide) rfl ?_
  intro p e s m args below meth c s₁ B hml hv
  obtain ⟨rfl, hsz, hP, hK, hD0, hN, hE⟩ := hv
  have hx := B.exec
  have hb := B.bytes
  have hr := B.returns
  have hts := atoms_spec (ws := wsX3_fits) B.pre
  have hown : s.vm.findClass RX3 = some m.cls := findClass_of_methodNamed B.named
  have hlocks := B.notSynchronized
  subst hsz
  have hD := hD0.self (sz := s.heap.size)
  generalize hAe : va_A (wF ty ad q) s.heap.size = A at hD hE ⊢
  have hA : ∀ q : Nat, s.heap.size ≤ q → A q := fun q h => by rw [← hAe]; exact Or.inr h
  clear hAe
  have hS : va_S A s.heap s.heap [] := va_S.rf
  have hl := lv_entry ([.ref (ad 32), .int p1, .int p2, .int p3]) (n := 5) (Nat.le_of_ble_eq_true rfl)
  rw [lg_entry_eq]
  generalize (lg_sl ([.ref (ad 32), .int p1, .int p2, .int p3]) ++ List.replicate (5 - (lg_sl ([.ref (ad 32), .int p1, .int p2, .int p3])).length) Slot.unset).toArray = ls at hl ⊢
  have hl : lv_has ls 5 [(0, .ref (ad 32)), (1, .int p1), (2, .int p2), (3, .int p3)] := hl
  have C : dc_C p s m _ meth c cX3_fits (some .boolean) 5 RX3 wsX3_fits D ty eo A := ⟨hx, hb, hr, hts, hown, hlocks, hml, hK, hN, hE, hA⟩
  unfold zX3_fits_s32 at h
  refine lv_iload_n hx hb dX3_fits_0 rfl (lv_at hl 1 rfl) ?_
  refine lv_aload_n hx hb dX3_fits_1 rfl (lv_at hl 0 rfl) ?_
  refine va_get (D := D) (ci := 3) (v := .int (q.1 32 13)) (C := RX3) (T := TX3) (N := 20) hx hb hts u9_wsX3_fits_X3 hown hK hP 32 rfl rfl 13 (by decide) (hts (.fieldLink RX3 51 "TurnedFloors$Paper" "floors" "I") f9_wsX3_fits_857) (fun _ h9 => h9) rfl dX3_fits_2 ?_
  refine lv_ishr hx hb dX3_fits_5 ?_
  refine lv_istore (lv' := [(4, .int (p1 >>> ((q.1 32 13 : Int32) &&& 31))), (0, .ref (ad 32)), (1, .int p1), (2, .int p2), (3, .int p3)]) hx hb dX3_fits_6 hl (by decide) rfl (fun ls hl => ?_)
  refine lv_iload_n hx hb dX3_fits_8 rfl (lv_at hl 3 rfl) ?_
  refine lv_iconst (v := 1) hx hb dX3_fits_9 (by decide) ?_
  refine lv_icmp_ne (tgt := 25) hx hb dX3_fits_10 (by decide) (fun c9 => ?_) (fun c9 => ?_)
  · rw [if_neg c9] at h
    refine lv_iload_n hx hb dX3_fits_25 rfl (lv_at hl 3 rfl) ?_
    refine lv_iconst (v := 2) hx hb dX3_fits_26 (by decide) ?_
    refine lv_icmp_ne (tgt := 48) hx hb dX3_fits_27 (by decide) (fun c9 => ?_) (fun c9 => ?_)
    · rw [if_neg c9] at h
      exact WX3_fits_s32_48 C  _ _ _ _ h hP hD hS (lv_sub hl [] rfl)
    · rw [if_pos c9] at h
      refine lv_aload_n hx hb dX3_fits_30 rfl (lv_at hl 1 rfl) ?_
      refine va_get (D := D) (ci := 3) (v := .ref (ad 39)) (C := RX3) (T := TX3) (N := 20) hx hb hts u9_wsX3_fits_X3 hown hK hP 32 rfl rfl 6 (by decide) (hts (.fieldLink RX3 30 "TurnedFloors$Paper" "orders" "[I") f9_wsX3_fits_858) (fun _ h9 => h9) rfl dX3_fits_31 ?_
      refine lv_iload hx hb dX3_fits_34 (lv_at hl 0 rfl) ?_
      obtain ⟨g1, h⟩ := dG_some h
      refine va_iald hx hb hK hP 39 0 rfl rfl (dg_in g1) dX3_fits_36 ?_
      obtain ⟨v2, ev2, h⟩ := dL_some h
      refine kz_topi v2 ev2 ?_
      refine lv_bipush (v := 7) hx hb dX3_fits_37 (by decide) ?_
      refine lv_iand hx hb dX3_fits_39 ?_
      refine lv_iload_n hx hb dX3_fits_40 rfl (lv_at hl 4 rfl) ?_
      refine lv_icmp_ne (tgt := 48) hx hb dX3_fits_41 (by decide) (fun c9 => ?_) (fun c9 => ?_)
      · rw [if_neg c9] at h
        exact WX3_fits_s32_48 C  _ _ _ _ h hP hD hS (lv_sub hl [] rfl)
      · rw [if_pos c9] at h
        refine lv_iconst (v := 1) hx hb dX3_fits_44 (by decide) ?_
        refine lv_goto (tgt := 49) hx hb dX3_fits_45 (by decide) ?_
        exact WX3_fits_s32_49 C  _ _ _ _ _ h hP hD hS (lv_sub hl [] rfl)
  · rw [if_pos c9] at h
    refine lv_iload hx hb dX3_fits_13 (lv_at hl 0 rfl) ?_
    refine lv_iload_n hx hb dX3_fits_15 rfl (lv_at hl 4 rfl) ?_
    refine lv_icmp_ne (tgt := 23) hx hb dX3_fits_16 (by decide) (fun c9 => ?_) (fun c9 => ?_)
    · rw [if_neg c9] at h
      refine lv_iconst (v := 0) hx hb dX3_fits_23 (by decide) ?_
      exact WX3_fits_s32_24 C  _ _ _ _ _ h hP hD hS (lv_sub hl [] rfl)
    · rw [if_pos c9] at h
      refine lv_iconst (v := 1) hx hb dX3_fits_19 (by decide) ?_
      refine lv_goto (tgt := 24) hx hb dX3_fits_20 (by decide) ?_
      exact WX3_fits_s32_24 C  _ _ _ _ _ h hP hD hS (lv_sub hl [] rfl)
end
section
set_option maxRecDepth 20000 in
theorem ggX3_towersReached_X3_nearest : GoodIn wsX3_towersReached wsX3_nearest := wd_c vW9_ok mvW9_594
set_option maxRecDepth 20000 in
theorem gX3_towersReached_X3_nearest : GoodIn wsX3_towersReached (wsV RX3 137 RX3 yX3_nearest wsX3_nearest) := goodIn_app (wd_l vW9_ok _ pvW9_19) ggX3_towersReached_X3_nearest
theorem da9_dX3_towersReached_0 : (decode cX3_towersReached 0 = .ok (.aload_n 0, 1)) ∧ (decode cX3_towersReached 1 = .ok (.iconst 0, 1)) ∧ (decode cX3_towersReached 2 = .ok (.iconst 0, 1)) ∧ (decode cX3_towersReached 3 = .ok (.invokevirtual 137, 3)) ∧ (decode cX3_towersReached 6 = .ok (.pop, 1)) ∧ (decode cX3_towersReached 7 = .ok (.aload_n 0, 1)) ∧ (decode cX3_towersReached 8 = .ok (.getfield 70, 3)) ∧ (decode cX3_towersReached 11 = .ok (.ireturn, 1)) := by decide +kernel
theorem dX3_towersReached_0 : decode cX3_towersReached 0 = .ok (.aload_n 0, 1) := da9_dX3_towersReached_0.1
theorem dX3_towersReached_1 : decode cX3_towersReached 1 = .ok (.iconst 0, 1) := da9_dX3_towersReached_0.2.1
theorem dX3_towersReached_2 : decode cX3_towersReached 2 = .ok (.iconst 0, 1) := da9_dX3_towersReached_0.2.2.1
theorem dX3_towersReached_3 : decode cX3_towersReached 3 = .ok (.invokevirtual 137, 3) := da9_dX3_towersReached_0.2.2.2.1
theorem dX3_towersReached_6 : decode cX3_towersReached 6 = .ok (.pop, 1) := da9_dX3_towersReached_0.2.2.2.2.1
theorem dX3_towersReached_7 : decode cX3_towersReached 7 = .ok (.aload_n 0, 1) := da9_dX3_towersReached_0.2.2.2.2.2.1
theorem dX3_towersReached_8 : decode cX3_towersReached 8 = .ok (.getfield 70, 3) := da9_dX3_towersReached_0.2.2.2.2.2.2.1
theorem dX3_towersReached_11 : decode cX3_towersReached 11 = .ok (.ireturn, 1) := da9_dX3_towersReached_0.2.2.2.2.2.2.2
set_option maxRecDepth 20000 in
theorem ggX3_turnsToTop_X3_indexOfRank : GoodIn wsX3_turnsToTop wsX3_indexOfRank := wd_c vW9_ok mvW9_502
set_option maxRecDepth 20000 in
theorem gX3_turnsToTop_X3_indexOfRank : GoodIn wsX3_turnsToTop (wsV RX3 89 RX3 yX3_indexOfRank wsX3_indexOfRank) := goodIn_app (wd_l vW9_ok _ pvW9_11) ggX3_turnsToTop_X3_indexOfRank
set_option maxRecDepth 20000 in
theorem ggX3_turnsToTop_X3_nearest : GoodIn wsX3_turnsToTop wsX3_nearest := wd_c vW9_ok mvW9_594
set_option maxRecDepth 20000 in
theorem gX3_turnsToTop_X3_nearest : GoodIn wsX3_turnsToTop (wsV RX3 137 RX3 yX3_nearest wsX3_nearest) := goodIn_app (wd_l vW9_ok _ pvW9_19) ggX3_turnsToTop_X3_nearest
theorem da9_dX3_turnsToTop_0 : (decode cX3_turnsToTop 0 = .ok (.aload_n 0, 1)) ∧ (decode cX3_turnsToTop 1 = .ok (.iconst 2, 1)) ∧ (decode cX3_turnsToTop 2 = .ok (.aload_n 0, 1)) ∧ (decode cX3_turnsToTop 3 = .ok (.iload_n 1, 1)) ∧ (decode cX3_turnsToTop 4 = .ok (.invokevirtual 89, 3)) ∧ (decode cX3_turnsToTop 7 = .ok (.invokevirtual 137, 3)) ∧ (decode cX3_turnsToTop 10 = .ok (.ireturn, 1)) := by decide +kernel
theorem dX3_turnsToTop_0 : decode cX3_turnsToTop 0 = .ok (.aload_n 0, 1) := da9_dX3_turnsToTop_0.1
theorem dX3_turnsToTop_1 : decode cX3_turnsToTop 1 = .ok (.iconst 2, 1) := da9_dX3_turnsToTop_0.2.1
theorem dX3_turnsToTop_2 : decode cX3_turnsToTop 2 = .ok (.aload_n 0, 1) := da9_dX3_turnsToTop_0.2.2.1
theorem dX3_turnsToTop_3 : decode cX3_turnsToTop 3 = .ok (.iload_n 1, 1) := da9_dX3_turnsToTop_0.2.2.2.1
theorem dX3_turnsToTop_4 : decode cX3_turnsToTop 4 = .ok (.invokevirtual 89, 3) := da9_dX3_turnsToTop_0.2.2.2.2.1
theorem dX3_turnsToTop_7 : decode cX3_turnsToTop 7 = .ok (.invokevirtual 137, 3) := da9_dX3_turnsToTop_0.2.2.2.2.2.1
theorem dX3_turnsToTop_10 : decode cX3_turnsToTop 10 = .ok (.ireturn, 1) := da9_dX3_turnsToTop_0.2.2.2.2.2.2
set_option maxRecDepth 20000 in
theorem ggX3_turnsToNumber_X3_indexOfRank : GoodIn wsX3_turnsToNumber wsX3_indexOfRank := wd_c vW9_ok mvW9_502
set_option maxRecDepth 20000 in
theorem gX3_turnsToNumber_X3_indexOfRank : GoodIn wsX3_turnsToNumber (wsV RX3 89 RX3 yX3_indexOfRank wsX3_indexOfRank) := goodIn_app (wd_l vW9_ok _ pvW9_11) ggX3_turnsToNumber_X3_indexOfRank
set_option maxRecDepth 20000 in
theorem ggX3_turnsToNumber_X3_numberOfOrder : GoodIn wsX3_turnsToNumber wsX3_numberOfOrder := wd_c vW9_ok mvW9_494
set_option maxRecDepth 20000 in
theorem gX3_turnsToNumber_X3_numberOfOrder : GoodIn wsX3_turnsToNumber (wsV RX3 96 RX3 yX3_numberOfOrder wsX3_numberOfOrder) := goodIn_app (wd_l vW9_ok _ pvW9_12) ggX3_turnsToNumber_X3_numberOfOrder
set_option maxRecDepth 20000 in
theorem ggX3_turnsToNumber_X3_nearest : GoodIn wsX3_turnsToNumber wsX3_nearest := wd_c vW9_ok mvW9_594
set_option maxRecDepth 20000 in
theorem gX3_turnsToNumber_X3_nearest : GoodIn wsX3_turnsToNumber (wsV RX3 137 RX3 yX3_nearest wsX3_nearest) := goodIn_app (wd_l vW9_ok _ pvW9_19) ggX3_turnsToNumber_X3_nearest
theorem da9_dX3_turnsToNumber_0 : (decode cX3_turnsToNumber 0 = .ok (.iload_n 1, 1)) ∧ (decode cX3_turnsToNumber 1 = .ok (.ifCond .ge 5, 3)) ∧ (decode cX3_turnsToNumber 4 = .ok (.iconst (-1), 1)) ∧ (decode cX3_turnsToNumber 5 = .ok (.ireturn, 1)) ∧ (decode cX3_turnsToNumber 6 = .ok (.iload_n 1, 1)) ∧ (decode cX3_turnsToNumber 7 = .ok (.istore_n 2, 1)) ∧ (decode cX3_turnsToNumber 8 = .ok (.iconst 0, 1)) ∧ (decode cX3_turnsToNumber 9 = .ok (.istore_n 3, 1)) ∧ (decode cX3_turnsToNumber 10 = .ok (.iconst 5, 1)) ∧ (decode cX3_turnsToNumber 11 = .ok (.istore 4, 2)) ∧ (decode cX3_turnsToNumber 13 = .ok (.iload 4, 2)) ∧ (decode cX3_turnsToNumber 15 = .ok (.ifCond .lt 74, 3)) ∧ (decode cX3_turnsToNumber 18 = .ok (.aload_n 0, 1)) ∧ (decode cX3_turnsToNumber 19 = .ok (.getfield 15, 3)) ∧ (decode cX3_turnsToNumber 22 = .ok (.iload 4, 2)) ∧ (decode cX3_turnsToNumber 24 = .ok (.iload 4, 2)) := by decide +kernel
theorem dX3_turnsToNumber_0 : decode cX3_turnsToNumber 0 = .ok (.iload_n 1, 1) := da9_dX3_turnsToNumber_0.1
theorem dX3_turnsToNumber_1 : decode cX3_turnsToNumber 1 = .ok (.ifCond .ge 5, 3) := da9_dX3_turnsToNumber_0.2.1
theorem dX3_turnsToNumber_4 : decode cX3_turnsToNumber 4 = .ok (.iconst (-1), 1) := da9_dX3_turnsToNumber_0.2.2.1
theorem dX3_turnsToNumber_5 : decode cX3_turnsToNumber 5 = .ok (.ireturn, 1) := da9_dX3_turnsToNumber_0.2.2.2.1
theorem dX3_turnsToNumber_6 : decode cX3_turnsToNumber 6 = .ok (.iload_n 1, 1) := da9_dX3_turnsToNumber_0.2.2.2.2.1
theorem dX3_turnsToNumber_7 : decode cX3_turnsToNumber 7 = .ok (.istore_n 2, 1) := da9_dX3_turnsToNumber_0.2.2.2.2.2.1
theorem dX3_turnsToNumber_8 : decode cX3_turnsToNumber 8 = .ok (.iconst 0, 1) := da9_dX3_turnsToNumber_0.2.2.2.2.2.2.1
theorem dX3_turnsToNumber_9 : decode cX3_turnsToNumber 9 = .ok (.istore_n 3, 1) := da9_dX3_turnsToNumber_0.2.2.2.2.2.2.2.1
theorem dX3_turnsToNumber_10 : decode cX3_turnsToNumber 10 = .ok (.iconst 5, 1) := da9_dX3_turnsToNumber_0.2.2.2.2.2.2.2.2.1
theorem dX3_turnsToNumber_11 : decode cX3_turnsToNumber 11 = .ok (.istore 4, 2) := da9_dX3_turnsToNumber_0.2.2.2.2.2.2.2.2.2.1
theorem dX3_turnsToNumber_13 : decode cX3_turnsToNumber 13 = .ok (.iload 4, 2) := da9_dX3_turnsToNumber_0.2.2.2.2.2.2.2.2.2.2.1
theorem dX3_turnsToNumber_15 : decode cX3_turnsToNumber 15 = .ok (.ifCond .lt 74, 3) := da9_dX3_turnsToNumber_0.2.2.2.2.2.2.2.2.2.2.2.1
theorem dX3_turnsToNumber_18 : decode cX3_turnsToNumber 18 = .ok (.aload_n 0, 1) := da9_dX3_turnsToNumber_0.2.2.2.2.2.2.2.2.2.2.2.2.1
theorem dX3_turnsToNumber_19 : decode cX3_turnsToNumber 19 = .ok (.getfield 15, 3) := da9_dX3_turnsToNumber_0.2.2.2.2.2.2.2.2.2.2.2.2.2.1
theorem dX3_turnsToNumber_22 : decode cX3_turnsToNumber 22 = .ok (.iload 4, 2) := da9_dX3_turnsToNumber_0.2.2.2.2.2.2.2.2.2.2.2.2.2.2.1
theorem dX3_turnsToNumber_24 : decode cX3_turnsToNumber 24 = .ok (.iload 4, 2) := da9_dX3_turnsToNumber_0.2.2.2.2.2.2.2.2.2.2.2.2.2.2.2
theorem da9_dX3_turnsToNumber_26 : (decode cX3_turnsToNumber 26 = .ok (.iastore, 1)) ∧ (decode cX3_turnsToNumber 27 = .ok (.iload 4, 2)) ∧ (decode cX3_turnsToNumber 29 = .ok (.aload_n 0, 1)) ∧ (decode cX3_turnsToNumber 30 = .ok (.getfield 51, 3)) ∧ (decode cX3_turnsToNumber 33 = .ok (.if_icmp .ge 50, 3)) ∧ (decode cX3_turnsToNumber 36 = .ok (.aload_n 0, 1)) ∧ (decode cX3_turnsToNumber 37 = .ok (.getfield 15, 3)) ∧ (decode cX3_turnsToNumber 40 = .ok (.iload 4, 2)) ∧ (decode cX3_turnsToNumber 42 = .ok (.aload_n 0, 1)) ∧ (decode cX3_turnsToNumber 43 = .ok (.iload_n 2, 1)) ∧ (decode cX3_turnsToNumber 44 = .ok (.bipush 10, 2)) ∧ (decode cX3_turnsToNumber 46 = .ok (.irem, 1)) ∧ (decode cX3_turnsToNumber 47 = .ok (.invokevirtual 89, 3)) ∧ (decode cX3_turnsToNumber 50 = .ok (.iastore, 1)) ∧ (decode cX3_turnsToNumber 51 = .ok (.iload_n 2, 1)) ∧ (decode cX3_turnsToNumber 52 = .ok (.bipush 10, 2)) := by decide +kernel
theorem dX3_turnsToNumber_26 : decode cX3_turnsToNumber 26 = .ok (.iastore, 1) := da9_dX3_turnsToNumber_26.1
theorem dX3_turnsToNumber_27 : decode cX3_turnsToNumber 27 = .ok (.iload 4, 2) := da9_dX3_turnsToNumber_26.2.1
theorem dX3_turnsToNumber_29 : decode cX3_turnsToNumber 29 = .ok (.aload_n 0, 1) := da9_dX3_turnsToNumber_26.2.2.1
theorem dX3_turnsToNumber_30 : decode cX3_turnsToNumber 30 = .ok (.getfield 51, 3) := da9_dX3_turnsToNumber_26.2.2.2.1
theorem dX3_turnsToNumber_33 : decode cX3_turnsToNumber 33 = .ok (.if_icmp .ge 50, 3) := da9_dX3_turnsToNumber_26.2.2.2.2.1
theorem dX3_turnsToNumber_36 : decode cX3_turnsToNumber 36 = .ok (.aload_n 0, 1) := da9_dX3_turnsToNumber_26.2.2.2.2.2.1
theorem dX3_turnsToNumber_37 : decode cX3_turnsToNumber 37 = .ok (.getfield 15, 3) := da9_dX3_turnsToNumber_26.2.2.2.2.2.2.1
theorem dX3_turnsToNumber_40 : decode cX3_turnsToNumber 40 = .ok (.iload 4, 2) := da9_dX3_turnsToNumber_26.2.2.2.2.2.2.2.1
theorem dX3_turnsToNumber_42 : decode cX3_turnsToNumber 42 = .ok (.aload_n 0, 1) := da9_dX3_turnsToNumber_26.2.2.2.2.2.2.2.2.1
theorem dX3_turnsToNumber_43 : decode cX3_turnsToNumber 43 = .ok (.iload_n 2, 1) := da9_dX3_turnsToNumber_26.2.2.2.2.2.2.2.2.2.1
theorem dX3_turnsToNumber_44 : decode cX3_turnsToNumber 44 = .ok (.bipush 10, 2) := da9_dX3_turnsToNumber_26.2.2.2.2.2.2.2.2.2.2.1
theorem dX3_turnsToNumber_46 : decode cX3_turnsToNumber 46 = .ok (.irem, 1) := da9_dX3_turnsToNumber_26.2.2.2.2.2.2.2.2.2.2.2.1
theorem dX3_turnsToNumber_47 : decode cX3_turnsToNumber 47 = .ok (.invokevirtual 89, 3) := da9_dX3_turnsToNumber_26.2.2.2.2.2.2.2.2.2.2.2.2.1
theorem dX3_turnsToNumber_50 : decode cX3_turnsToNumber 50 = .ok (.iastore, 1) := da9_dX3_turnsToNumber_26.2.2.2.2.2.2.2.2.2.2.2.2.2.1
theorem dX3_turnsToNumber_51 : decode cX3_turnsToNumber 51 = .ok (.iload_n 2, 1) := da9_dX3_turnsToNumber_26.2.2.2.2.2.2.2.2.2.2.2.2.2.2.1
theorem dX3_turnsToNumber_52 : decode cX3_turnsToNumber 52 = .ok (.bipush 10, 2) := da9_dX3_turnsToNumber_26.2.2.2.2.2.2.2.2.2.2.2.2.2.2.2
theorem da9_dX3_turnsToNumber_54 : (decode cX3_turnsToNumber 54 = .ok (.idiv, 1)) ∧ (decode cX3_turnsToNumber 55 = .ok (.istore_n 2, 1)) ∧ (decode cX3_turnsToNumber 56 = .ok (.iload_n 3, 1)) ∧ (decode cX3_turnsToNumber 57 = .ok (.aload_n 0, 1)) ∧ (decode cX3_turnsToNumber 58 = .ok (.getfield 15, 3)) ∧ (decode cX3_turnsToNumber 61 = .ok (.iload 4, 2)) ∧ (decode cX3_turnsToNumber 63 = .ok (.iaload, 1)) ∧ (decode cX3_turnsToNumber 64 = .ok (.iconst (-1), 1)) ∧ (decode cX3_turnsToNumber 65 = .ok (.if_icmp .ne 7, 3)) ∧ (decode cX3_turnsToNumber 68 = .ok (.iconst 0, 1)) ∧ (decode cX3_turnsToNumber 69 = .ok (.goto 12, 3)) ∧ (decode cX3_turnsToNumber 72 = .ok (.iconst 1, 1)) ∧ (decode cX3_turnsToNumber 73 = .ok (.aload_n 0, 1)) ∧ (decode cX3_turnsToNumber 74 = .ok (.getfield 15, 3)) ∧ (decode cX3_turnsToNumber 77 = .ok (.iload 4, 2)) ∧ (decode cX3_turnsToNumber 79 = .ok (.iaload, 1)) := by decide +kernel
theorem dX3_turnsToNumber_54 : decode cX3_turnsToNumber 54 = .ok (.idiv, 1) := da9_dX3_turnsToNumber_54.1
theorem dX3_turnsToNumber_55 : decode cX3_turnsToNumber 55 = .ok (.istore_n 2, 1) := da9_dX3_turnsToNumber_54.2.1
theorem dX3_turnsToNumber_56 : decode cX3_turnsToNumber 56 = .ok (.iload_n 3, 1) := da9_dX3_turnsToNumber_54.2.2.1
theorem dX3_turnsToNumber_57 : decode cX3_turnsToNumber 57 = .ok (.aload_n 0, 1) := da9_dX3_turnsToNumber_54.2.2.2.1
theorem dX3_turnsToNumber_58 : decode cX3_turnsToNumber 58 = .ok (.getfield 15, 3) := da9_dX3_turnsToNumber_54.2.2.2.2.1
theorem dX3_turnsToNumber_61 : decode cX3_turnsToNumber 61 = .ok (.iload 4, 2) := da9_dX3_turnsToNumber_54.2.2.2.2.2.1
theorem dX3_turnsToNumber_63 : decode cX3_turnsToNumber 63 = .ok (.iaload, 1) := da9_dX3_turnsToNumber_54.2.2.2.2.2.2.1
theorem dX3_turnsToNumber_64 : decode cX3_turnsToNumber 64 = .ok (.iconst (-1), 1) := da9_dX3_turnsToNumber_54.2.2.2.2.2.2.2.1
theorem dX3_turnsToNumber_65 : decode cX3_turnsToNumber 65 = .ok (.if_icmp .ne 7, 3) := da9_dX3_turnsToNumber_54.2.2.2.2.2.2.2.2.1
theorem dX3_turnsToNumber_68 : decode cX3_turnsToNumber 68 = .ok (.iconst 0, 1) := da9_dX3_turnsToNumber_54.2.2.2.2.2.2.2.2.2.1
theorem dX3_turnsToNumber_69 : decode cX3_turnsToNumber 69 = .ok (.goto 12, 3) := da9_dX3_turnsToNumber_54.2.2.2.2.2.2.2.2.2.2.1
theorem dX3_turnsToNumber_72 : decode cX3_turnsToNumber 72 = .ok (.iconst 1, 1) := da9_dX3_turnsToNumber_54.2.2.2.2.2.2.2.2.2.2.2.1
theorem dX3_turnsToNumber_73 : decode cX3_turnsToNumber 73 = .ok (.aload_n 0, 1) := da9_dX3_turnsToNumber_54.2.2.2.2.2.2.2.2.2.2.2.2.1
theorem dX3_turnsToNumber_74 : decode cX3_turnsToNumber 74 = .ok (.getfield 15, 3) := da9_dX3_turnsToNumber_54.2.2.2.2.2.2.2.2.2.2.2.2.2.1
theorem dX3_turnsToNumber_77 : decode cX3_turnsToNumber 77 = .ok (.iload 4, 2) := da9_dX3_turnsToNumber_54.2.2.2.2.2.2.2.2.2.2.2.2.2.2.1
theorem dX3_turnsToNumber_79 : decode cX3_turnsToNumber 79 = .ok (.iaload, 1) := da9_dX3_turnsToNumber_54.2.2.2.2.2.2.2.2.2.2.2.2.2.2.2
theorem da9_dX3_turnsToNumber_80 : (decode cX3_turnsToNumber 80 = .ok (.ishl, 1)) ∧ (decode cX3_turnsToNumber 81 = .ok (.ior, 1)) ∧ (decode cX3_turnsToNumber 82 = .ok (.istore_n 3, 1)) ∧ (decode cX3_turnsToNumber 83 = .ok (.iinc 4 (-1), 3)) ∧ (decode cX3_turnsToNumber 86 = .ok (.goto (-73), 3)) ∧ (decode cX3_turnsToNumber 89 = .ok (.iload_n 2, 1)) ∧ (decode cX3_turnsToNumber 90 = .ok (.ifCond .ne 15, 3)) ∧ (decode cX3_turnsToNumber 93 = .ok (.iload_n 3, 1)) ∧ (decode cX3_turnsToNumber 94 = .ok (.iconst 1, 1)) ∧ (decode cX3_turnsToNumber 95 = .ok (.aload_n 0, 1)) ∧ (decode cX3_turnsToNumber 96 = .ok (.getfield 51, 3)) ∧ (decode cX3_turnsToNumber 99 = .ok (.ishl, 1)) ∧ (decode cX3_turnsToNumber 100 = .ok (.iconst 1, 1)) ∧ (decode cX3_turnsToNumber 101 = .ok (.isub, 1)) ∧ (decode cX3_turnsToNumber 102 = .ok (.if_icmp .eq 5, 3)) ∧ (decode cX3_turnsToNumber 105 = .ok (.iconst (-1), 1)) := by decide +kernel
theorem dX3_turnsToNumber_80 : decode cX3_turnsToNumber 80 = .ok (.ishl, 1) := da9_dX3_turnsToNumber_80.1
theorem dX3_turnsToNumber_81 : decode cX3_turnsToNumber 81 = .ok (.ior, 1) := da9_dX3_turnsToNumber_80.2.1
theorem dX3_turnsToNumber_82 : decode cX3_turnsToNumber 82 = .ok (.istore_n 3, 1) := da9_dX3_turnsToNumber_80.2.2.1
theorem dX3_turnsToNumber_83 : decode cX3_turnsToNumber 83 = .ok (.iinc 4 (-1), 3) := da9_dX3_turnsToNumber_80.2.2.2.1
theorem dX3_turnsToNumber_86 : decode cX3_turnsToNumber 86 = .ok (.goto (-73), 3) := da9_dX3_turnsToNumber_80.2.2.2.2.1
theorem dX3_turnsToNumber_89 : decode cX3_turnsToNumber 89 = .ok (.iload_n 2, 1) := da9_dX3_turnsToNumber_80.2.2.2.2.2.1
theorem dX3_turnsToNumber_90 : decode cX3_turnsToNumber 90 = .ok (.ifCond .ne 15, 3) := da9_dX3_turnsToNumber_80.2.2.2.2.2.2.1
theorem dX3_turnsToNumber_93 : decode cX3_turnsToNumber 93 = .ok (.iload_n 3, 1) := da9_dX3_turnsToNumber_80.2.2.2.2.2.2.2.1
theorem dX3_turnsToNumber_94 : decode cX3_turnsToNumber 94 = .ok (.iconst 1, 1) := da9_dX3_turnsToNumber_80.2.2.2.2.2.2.2.2.1
theorem dX3_turnsToNumber_95 : decode cX3_turnsToNumber 95 = .ok (.aload_n 0, 1) := da9_dX3_turnsToNumber_80.2.2.2.2.2.2.2.2.2.1
theorem dX3_turnsToNumber_96 : decode cX3_turnsToNumber 96 = .ok (.getfield 51, 3) := da9_dX3_turnsToNumber_80.2.2.2.2.2.2.2.2.2.2.1
theorem dX3_turnsToNumber_99 : decode cX3_turnsToNumber 99 = .ok (.ishl, 1) := da9_dX3_turnsToNumber_80.2.2.2.2.2.2.2.2.2.2.2.1
theorem dX3_turnsToNumber_100 : decode cX3_turnsToNumber 100 = .ok (.iconst 1, 1) := da9_dX3_turnsToNumber_80.2.2.2.2.2.2.2.2.2.2.2.2.1
theorem dX3_turnsToNumber_101 : decode cX3_turnsToNumber 101 = .ok (.isub, 1) := da9_dX3_turnsToNumber_80.2.2.2.2.2.2.2.2.2.2.2.2.2.1
theorem dX3_turnsToNumber_102 : decode cX3_turnsToNumber 102 = .ok (.if_icmp .eq 5, 3) := da9_dX3_turnsToNumber_80.2.2.2.2.2.2.2.2.2.2.2.2.2.2.1
theorem dX3_turnsToNumber_105 : decode cX3_turnsToNumber 105 = .ok (.iconst (-1), 1) := da9_dX3_turnsToNumber_80.2.2.2.2.2.2.2.2.2.2.2.2.2.2.2
theorem da9_dX3_turnsToNumber_106 : (decode cX3_turnsToNumber 106 = .ok (.ireturn, 1)) ∧ (decode cX3_turnsToNumber 107 = .ok (.aload_n 0, 1)) ∧ (decode cX3_turnsToNumber 108 = .ok (.iconst 1, 1)) ∧ (decode cX3_turnsToNumber 109 = .ok (.aload_n 0, 1)) ∧ (decode cX3_turnsToNumber 110 = .ok (.invokevirtual 96, 3)) ∧ (decode cX3_turnsToNumber 113 = .ok (.invokevirtual 137, 3)) ∧ (decode cX3_turnsToNumber 116 = .ok (.ireturn, 1)) := by decide +kernel
theorem dX3_turnsToNumber_106 : decode cX3_turnsToNumber 106 = .ok (.ireturn, 1) := da9_dX3_turnsToNumber_106.1
theorem dX3_turnsToNumber_107 : decode cX3_turnsToNumber 107 = .ok (.aload_n 0, 1) := da9_dX3_turnsToNumber_106.2.1
theorem dX3_turnsToNumber_108 : decode cX3_turnsToNumber 108 = .ok (.iconst 1, 1) := da9_dX3_turnsToNumber_106.2.2.1
theorem dX3_turnsToNumber_109 : decode cX3_turnsToNumber 109 = .ok (.aload_n 0, 1) := da9_dX3_turnsToNumber_106.2.2.2.1
theorem dX3_turnsToNumber_110 : decode cX3_turnsToNumber 110 = .ok (.invokevirtual 96, 3) := da9_dX3_turnsToNumber_106.2.2.2.2.1
theorem dX3_turnsToNumber_113 : decode cX3_turnsToNumber 113 = .ok (.invokevirtual 137, 3) := da9_dX3_turnsToNumber_106.2.2.2.2.2.1
theorem dX3_turnsToNumber_116 : decode cX3_turnsToNumber 116 = .ok (.ireturn, 1) := da9_dX3_turnsToNumber_106.2.2.2.2.2.2
set_option maxRecDepth 20000 in
theorem ggX3_nearest_J7_fill_53178 : GoodIn wsX3_nearest wsJ7_fill_53178 := wd_l vW9_ok _ (List.forall_mem_cons.mpr ⟨mvW9_512, (fun _ h => absurd h List.not_mem_nil)⟩)
set_option maxRecDepth 20000 in
theorem gX3_nearest_J7_fill_53178 : GoodIn wsX3_nearest (va_wsS RX3 122 yJ7_fill_53178 wsJ7_fill_53178) := goodIn_app (wd_l vW9_ok _ pvW9_17) ggX3_nearest_J7_fill_53178
set_option maxRecDepth 20000 in
theorem ggX3_nearest_X3_fits : GoodIn wsX3_nearest wsX3_fits := wd_c vW9_ok mvW9_598
set_option maxRecDepth 20000 in
theorem gX3_nearest_X3_fits : GoodIn wsX3_nearest (wsV RX3 157 RX3 yX3_fits wsX3_fits) := goodIn_app (wd_l vW9_ok _ pvW9_25) ggX3_nearest_X3_fits
set_option maxRecDepth 20000 in
theorem ggX3_nearest_X3_turned : GoodIn wsX3_nearest wsX3_turned := wd_c vW9_ok mvW9_542
set_option maxRecDepth 20000 in
theorem gX3_nearest_X3_turned : GoodIn wsX3_nearest (wsV RX3 119 RX3 yX3_turned wsX3_turned) := goodIn_app (wd_l vW9_ok _ pvW9_16) ggX3_nearest_X3_turned
set_option maxRecDepth 20000 in
theorem ggX3_nearest_X3_caseOf : GoodIn wsX3_nearest wsX3_caseOf := wd_c vW9_ok mvW9_546
set_option maxRecDepth 20000 in
theorem gX3_nearest_X3_caseOf : GoodIn wsX3_nearest (wsV RX3 154 RX3 yX3_caseOf wsX3_caseOf) := goodIn_app (wd_l vW9_ok _ pvW9_24) ggX3_nearest_X3_caseOf
theorem da9_dX3_nearest_0 : (decode cX3_nearest 0 = .ok (.aload_n 0, 1)) ∧ (decode cX3_nearest 1 = .ok (.getfield 42, 3)) ∧ (decode cX3_nearest 4 = .ok (.iconst (-1), 1)) ∧ (decode cX3_nearest 5 = .ok (.invokestatic 122, 3)) ∧ (decode cX3_nearest 8 = .ok (.aload_n 0, 1)) ∧ (decode cX3_nearest 9 = .ok (.getfield 42, 3)) ∧ (decode cX3_nearest 12 = .ok (.aload_n 0, 1)) ∧ (decode cX3_nearest 13 = .ok (.getfield 58, 3)) ∧ (decode cX3_nearest 16 = .ok (.iconst 0, 1)) ∧ (decode cX3_nearest 17 = .ok (.iastore, 1)) ∧ (decode cX3_nearest 18 = .ok (.aload_n 0, 1)) ∧ (decode cX3_nearest 19 = .ok (.getfield 45, 3)) ∧ (decode cX3_nearest 22 = .ok (.iconst 0, 1)) ∧ (decode cX3_nearest 23 = .ok (.aload_n 0, 1)) ∧ (decode cX3_nearest 24 = .ok (.getfield 58, 3)) ∧ (decode cX3_nearest 27 = .ok (.iastore, 1)) := by decide +kernel
theorem dX3_nearest_0 : decode cX3_nearest 0 = .ok (.aload_n 0, 1) := da9_dX3_nearest_0.1
theorem dX3_nearest_1 : decode cX3_nearest 1 = .ok (.getfield 42, 3) := da9_dX3_nearest_0.2.1
theorem dX3_nearest_4 : decode cX3_nearest 4 = .ok (.iconst (-1), 1) := da9_dX3_nearest_0.2.2.1
theorem dX3_nearest_5 : decode cX3_nearest 5 = .ok (.invokestatic 122, 3) := da9_dX3_nearest_0.2.2.2.1
theorem dX3_nearest_8 : decode cX3_nearest 8 = .ok (.aload_n 0, 1) := da9_dX3_nearest_0.2.2.2.2.1
theorem dX3_nearest_9 : decode cX3_nearest 9 = .ok (.getfield 42, 3) := da9_dX3_nearest_0.2.2.2.2.2.1
theorem dX3_nearest_12 : decode cX3_nearest 12 = .ok (.aload_n 0, 1) := da9_dX3_nearest_0.2.2.2.2.2.2.1
theorem dX3_nearest_13 : decode cX3_nearest 13 = .ok (.getfield 58, 3) := da9_dX3_nearest_0.2.2.2.2.2.2.2.1
theorem dX3_nearest_16 : decode cX3_nearest 16 = .ok (.iconst 0, 1) := da9_dX3_nearest_0.2.2.2.2.2.2.2.2.1
theorem dX3_nearest_17 : decode cX3_nearest 17 = .ok (.iastore, 1) := da9_dX3_nearest_0.2.2.2.2.2.2.2.2.2.1
theorem dX3_nearest_18 : decode cX3_nearest 18 = .ok (.aload_n 0, 1) := da9_dX3_nearest_0.2.2.2.2.2.2.2.2.2.2.1
theorem dX3_nearest_19 : decode cX3_nearest 19 = .ok (.getfield 45, 3) := da9_dX3_nearest_0.2.2.2.2.2.2.2.2.2.2.2.1
theorem dX3_nearest_22 : decode cX3_nearest 22 = .ok (.iconst 0, 1) := da9_dX3_nearest_0.2.2.2.2.2.2.2.2.2.2.2.2.1
theorem dX3_nearest_23 : decode cX3_nearest 23 = .ok (.aload_n 0, 1) := da9_dX3_nearest_0.2.2.2.2.2.2.2.2.2.2.2.2.2.1
theorem dX3_nearest_24 : decode cX3_nearest 24 = .ok (.getfield 58, 3) := da9_dX3_nearest_0.2.2.2.2.2.2.2.2.2.2.2.2.2.2.1
theorem dX3_nearest_27 : decode cX3_nearest 27 = .ok (.iastore, 1) := da9_dX3_nearest_0.2.2.2.2.2.2.2.2.2.2.2.2.2.2.2
theorem da9_dX3_nearest_28 : (decode cX3_nearest 28 = .ok (.aload_n 0, 1)) ∧ (decode cX3_nearest 29 = .ok (.iconst 1, 1)) ∧ (decode cX3_nearest 30 = .ok (.putfield 70, 3)) ∧ (decode cX3_nearest 33 = .ok (.iconst 0, 1)) ∧ (decode cX3_nearest 34 = .ok (.istore_n 3, 1)) ∧ (decode cX3_nearest 35 = .ok (.iload_n 3, 1)) ∧ (decode cX3_nearest 36 = .ok (.aload_n 0, 1)) ∧ (decode cX3_nearest 37 = .ok (.getfield 55, 3)) ∧ (decode cX3_nearest 40 = .ok (.if_icmp .ge 147, 3)) ∧ (decode cX3_nearest 43 = .ok (.iload_n 3, 1)) ∧ (decode cX3_nearest 44 = .ok (.aload_n 0, 1)) ∧ (decode cX3_nearest 45 = .ok (.getfield 70, 3)) ∧ (decode cX3_nearest 48 = .ok (.if_icmp .ge 139, 3)) ∧ (decode cX3_nearest 51 = .ok (.aload_n 0, 1)) ∧ (decode cX3_nearest 52 = .ok (.getfield 45, 3)) ∧ (decode cX3_nearest 55 = .ok (.iload_n 3, 1)) := by decide +kernel
theorem dX3_nearest_28 : decode cX3_nearest 28 = .ok (.aload_n 0, 1) := da9_dX3_nearest_28.1
theorem dX3_nearest_29 : decode cX3_nearest 29 = .ok (.iconst 1, 1) := da9_dX3_nearest_28.2.1
theorem dX3_nearest_30 : decode cX3_nearest 30 = .ok (.putfield 70, 3) := da9_dX3_nearest_28.2.2.1
theorem dX3_nearest_33 : decode cX3_nearest 33 = .ok (.iconst 0, 1) := da9_dX3_nearest_28.2.2.2.1
theorem dX3_nearest_34 : decode cX3_nearest 34 = .ok (.istore_n 3, 1) := da9_dX3_nearest_28.2.2.2.2.1
theorem dX3_nearest_35 : decode cX3_nearest 35 = .ok (.iload_n 3, 1) := da9_dX3_nearest_28.2.2.2.2.2.1
theorem dX3_nearest_36 : decode cX3_nearest 36 = .ok (.aload_n 0, 1) := da9_dX3_nearest_28.2.2.2.2.2.2.1
theorem dX3_nearest_37 : decode cX3_nearest 37 = .ok (.getfield 55, 3) := da9_dX3_nearest_28.2.2.2.2.2.2.2.1
theorem dX3_nearest_40 : decode cX3_nearest 40 = .ok (.if_icmp .ge 147, 3) := da9_dX3_nearest_28.2.2.2.2.2.2.2.2.1
theorem dX3_nearest_43 : decode cX3_nearest 43 = .ok (.iload_n 3, 1) := da9_dX3_nearest_28.2.2.2.2.2.2.2.2.2.1
theorem dX3_nearest_44 : decode cX3_nearest 44 = .ok (.aload_n 0, 1) := da9_dX3_nearest_28.2.2.2.2.2.2.2.2.2.2.1
theorem dX3_nearest_45 : decode cX3_nearest 45 = .ok (.getfield 70, 3) := da9_dX3_nearest_28.2.2.2.2.2.2.2.2.2.2.2.1
theorem dX3_nearest_48 : decode cX3_nearest 48 = .ok (.if_icmp .ge 139, 3) := da9_dX3_nearest_28.2.2.2.2.2.2.2.2.2.2.2.2.1
theorem dX3_nearest_51 : decode cX3_nearest 51 = .ok (.aload_n 0, 1) := da9_dX3_nearest_28.2.2.2.2.2.2.2.2.2.2.2.2.2.1
theorem dX3_nearest_52 : decode cX3_nearest 52 = .ok (.getfield 45, 3) := da9_dX3_nearest_28.2.2.2.2.2.2.2.2.2.2.2.2.2.2.1
theorem dX3_nearest_55 : decode cX3_nearest 55 = .ok (.iload_n 3, 1) := da9_dX3_nearest_28.2.2.2.2.2.2.2.2.2.2.2.2.2.2.2
theorem da9_dX3_nearest_56 : (decode cX3_nearest 56 = .ok (.iaload, 1)) ∧ (decode cX3_nearest 57 = .ok (.istore 4, 2)) ∧ (decode cX3_nearest 59 = .ok (.aload_n 0, 1)) ∧ (decode cX3_nearest 60 = .ok (.iload 4, 2)) ∧ (decode cX3_nearest 62 = .ok (.iload_n 1, 1)) ∧ (decode cX3_nearest 63 = .ok (.iload_n 2, 1)) ∧ (decode cX3_nearest 64 = .ok (.invokevirtual 157, 3)) ∧ (decode cX3_nearest 67 = .ok (.ifCond .eq 11, 3)) ∧ (decode cX3_nearest 70 = .ok (.aload_n 0, 1)) ∧ (decode cX3_nearest 71 = .ok (.getfield 42, 3)) ∧ (decode cX3_nearest 74 = .ok (.iload 4, 2)) ∧ (decode cX3_nearest 76 = .ok (.iaload, 1)) ∧ (decode cX3_nearest 77 = .ok (.ireturn, 1)) ∧ (decode cX3_nearest 78 = .ok (.iconst 1, 1)) ∧ (decode cX3_nearest 79 = .ok (.istore 5, 2)) ∧ (decode cX3_nearest 81 = .ok (.iload 5, 2)) := by decide +kernel
theorem dX3_nearest_56 : decode cX3_nearest 56 = .ok (.iaload, 1) := da9_dX3_nearest_56.1
theorem dX3_nearest_57 : decode cX3_nearest 57 = .ok (.istore 4, 2) := da9_dX3_nearest_56.2.1
theorem dX3_nearest_59 : decode cX3_nearest 59 = .ok (.aload_n 0, 1) := da9_dX3_nearest_56.2.2.1
theorem dX3_nearest_60 : decode cX3_nearest 60 = .ok (.iload 4, 2) := da9_dX3_nearest_56.2.2.2.1
theorem dX3_nearest_62 : decode cX3_nearest 62 = .ok (.iload_n 1, 1) := da9_dX3_nearest_56.2.2.2.2.1
theorem dX3_nearest_63 : decode cX3_nearest 63 = .ok (.iload_n 2, 1) := da9_dX3_nearest_56.2.2.2.2.2.1
theorem dX3_nearest_64 : decode cX3_nearest 64 = .ok (.invokevirtual 157, 3) := da9_dX3_nearest_56.2.2.2.2.2.2.1
theorem dX3_nearest_67 : decode cX3_nearest 67 = .ok (.ifCond .eq 11, 3) := da9_dX3_nearest_56.2.2.2.2.2.2.2.1
theorem dX3_nearest_70 : decode cX3_nearest 70 = .ok (.aload_n 0, 1) := da9_dX3_nearest_56.2.2.2.2.2.2.2.2.1
theorem dX3_nearest_71 : decode cX3_nearest 71 = .ok (.getfield 42, 3) := da9_dX3_nearest_56.2.2.2.2.2.2.2.2.2.1
theorem dX3_nearest_74 : decode cX3_nearest 74 = .ok (.iload 4, 2) := da9_dX3_nearest_56.2.2.2.2.2.2.2.2.2.2.1
theorem dX3_nearest_76 : decode cX3_nearest 76 = .ok (.iaload, 1) := da9_dX3_nearest_56.2.2.2.2.2.2.2.2.2.2.2.1
theorem dX3_nearest_77 : decode cX3_nearest 77 = .ok (.ireturn, 1) := da9_dX3_nearest_56.2.2.2.2.2.2.2.2.2.2.2.2.1
theorem dX3_nearest_78 : decode cX3_nearest 78 = .ok (.iconst 1, 1) := da9_dX3_nearest_56.2.2.2.2.2.2.2.2.2.2.2.2.2.1
theorem dX3_nearest_79 : decode cX3_nearest 79 = .ok (.istore 5, 2) := da9_dX3_nearest_56.2.2.2.2.2.2.2.2.2.2.2.2.2.2.1
theorem dX3_nearest_81 : decode cX3_nearest 81 = .ok (.iload 5, 2) := da9_dX3_nearest_56.2.2.2.2.2.2.2.2.2.2.2.2.2.2.2
theorem da9_dX3_nearest_83 : (decode cX3_nearest 83 = .ok (.aload_n 0, 1)) ∧ (decode cX3_nearest 84 = .ok (.getfield 51, 3)) ∧ (decode cX3_nearest 87 = .ok (.if_icmp .gt 94, 3)) ∧ (decode cX3_nearest 90 = .ok (.aload_n 0, 1)) ∧ (decode cX3_nearest 91 = .ok (.iload 4, 2)) ∧ (decode cX3_nearest 93 = .ok (.iload 5, 2)) ∧ (decode cX3_nearest 95 = .ok (.invokevirtual 119, 3)) ∧ (decode cX3_nearest 98 = .ok (.istore 6, 2)) ∧ (decode cX3_nearest 100 = .ok (.aload_n 0, 1)) ∧ (decode cX3_nearest 101 = .ok (.getfield 42, 3)) ∧ (decode cX3_nearest 104 = .ok (.iload 6, 2)) ∧ (decode cX3_nearest 106 = .ok (.iaload, 1)) ∧ (decode cX3_nearest 107 = .ok (.iconst (-1), 1)) ∧ (decode cX3_nearest 108 = .ok (.if_icmp .ne 67, 3)) ∧ (decode cX3_nearest 111 = .ok (.aload_n 0, 1)) ∧ (decode cX3_nearest 112 = .ok (.getfield 18, 3)) := by decide +kernel
theorem dX3_nearest_83 : decode cX3_nearest 83 = .ok (.aload_n 0, 1) := da9_dX3_nearest_83.1
theorem dX3_nearest_84 : decode cX3_nearest 84 = .ok (.getfield 51, 3) := da9_dX3_nearest_83.2.1
theorem dX3_nearest_87 : decode cX3_nearest 87 = .ok (.if_icmp .gt 94, 3) := da9_dX3_nearest_83.2.2.1
theorem dX3_nearest_90 : decode cX3_nearest 90 = .ok (.aload_n 0, 1) := da9_dX3_nearest_83.2.2.2.1
theorem dX3_nearest_91 : decode cX3_nearest 91 = .ok (.iload 4, 2) := da9_dX3_nearest_83.2.2.2.2.1
theorem dX3_nearest_93 : decode cX3_nearest 93 = .ok (.iload 5, 2) := da9_dX3_nearest_83.2.2.2.2.2.1
theorem dX3_nearest_95 : decode cX3_nearest 95 = .ok (.invokevirtual 119, 3) := da9_dX3_nearest_83.2.2.2.2.2.2.1
theorem dX3_nearest_98 : decode cX3_nearest 98 = .ok (.istore 6, 2) := da9_dX3_nearest_83.2.2.2.2.2.2.2.1
theorem dX3_nearest_100 : decode cX3_nearest 100 = .ok (.aload_n 0, 1) := da9_dX3_nearest_83.2.2.2.2.2.2.2.2.1
theorem dX3_nearest_101 : decode cX3_nearest 101 = .ok (.getfield 42, 3) := da9_dX3_nearest_83.2.2.2.2.2.2.2.2.2.1
theorem dX3_nearest_104 : decode cX3_nearest 104 = .ok (.iload 6, 2) := da9_dX3_nearest_83.2.2.2.2.2.2.2.2.2.2.1
theorem dX3_nearest_106 : decode cX3_nearest 106 = .ok (.iaload, 1) := da9_dX3_nearest_83.2.2.2.2.2.2.2.2.2.2.2.1
theorem dX3_nearest_107 : decode cX3_nearest 107 = .ok (.iconst (-1), 1) := da9_dX3_nearest_83.2.2.2.2.2.2.2.2.2.2.2.2.1
theorem dX3_nearest_108 : decode cX3_nearest 108 = .ok (.if_icmp .ne 67, 3) := da9_dX3_nearest_83.2.2.2.2.2.2.2.2.2.2.2.2.2.1
theorem dX3_nearest_111 : decode cX3_nearest 111 = .ok (.aload_n 0, 1) := da9_dX3_nearest_83.2.2.2.2.2.2.2.2.2.2.2.2.2.2.1
theorem dX3_nearest_112 : decode cX3_nearest 112 = .ok (.getfield 18, 3) := da9_dX3_nearest_83.2.2.2.2.2.2.2.2.2.2.2.2.2.2.2
theorem da9_dX3_nearest_115 : (decode cX3_nearest 115 = .ok (.aload_n 0, 1)) ∧ (decode cX3_nearest 116 = .ok (.iload 4, 2)) ∧ (decode cX3_nearest 118 = .ok (.iload 5, 2)) ∧ (decode cX3_nearest 120 = .ok (.invokevirtual 154, 3)) ∧ (decode cX3_nearest 123 = .ok (.iaload, 1)) ∧ (decode cX3_nearest 124 = .ok (.ifCond .ne 51, 3)) ∧ (decode cX3_nearest 127 = .ok (.aload_n 0, 1)) ∧ (decode cX3_nearest 128 = .ok (.getfield 70, 3)) ∧ (decode cX3_nearest 131 = .ok (.aload_n 0, 1)) ∧ (decode cX3_nearest 132 = .ok (.getfield 55, 3)) ∧ (decode cX3_nearest 135 = .ok (.if_icmp .ge 40, 3)) ∧ (decode cX3_nearest 138 = .ok (.aload_n 0, 1)) ∧ (decode cX3_nearest 139 = .ok (.getfield 42, 3)) ∧ (decode cX3_nearest 142 = .ok (.iload 6, 2)) ∧ (decode cX3_nearest 144 = .ok (.aload_n 0, 1)) ∧ (decode cX3_nearest 145 = .ok (.getfield 42, 3)) := by decide +kernel
theorem dX3_nearest_115 : decode cX3_nearest 115 = .ok (.aload_n 0, 1) := da9_dX3_nearest_115.1
theorem dX3_nearest_116 : decode cX3_nearest 116 = .ok (.iload 4, 2) := da9_dX3_nearest_115.2.1
theorem dX3_nearest_118 : decode cX3_nearest 118 = .ok (.iload 5, 2) := da9_dX3_nearest_115.2.2.1
theorem dX3_nearest_120 : decode cX3_nearest 120 = .ok (.invokevirtual 154, 3) := da9_dX3_nearest_115.2.2.2.1
theorem dX3_nearest_123 : decode cX3_nearest 123 = .ok (.iaload, 1) := da9_dX3_nearest_115.2.2.2.2.1
theorem dX3_nearest_124 : decode cX3_nearest 124 = .ok (.ifCond .ne 51, 3) := da9_dX3_nearest_115.2.2.2.2.2.1
theorem dX3_nearest_127 : decode cX3_nearest 127 = .ok (.aload_n 0, 1) := da9_dX3_nearest_115.2.2.2.2.2.2.1
theorem dX3_nearest_128 : decode cX3_nearest 128 = .ok (.getfield 70, 3) := da9_dX3_nearest_115.2.2.2.2.2.2.2.1
theorem dX3_nearest_131 : decode cX3_nearest 131 = .ok (.aload_n 0, 1) := da9_dX3_nearest_115.2.2.2.2.2.2.2.2.1
theorem dX3_nearest_132 : decode cX3_nearest 132 = .ok (.getfield 55, 3) := da9_dX3_nearest_115.2.2.2.2.2.2.2.2.2.1
theorem dX3_nearest_135 : decode cX3_nearest 135 = .ok (.if_icmp .ge 40, 3) := da9_dX3_nearest_115.2.2.2.2.2.2.2.2.2.2.1
theorem dX3_nearest_138 : decode cX3_nearest 138 = .ok (.aload_n 0, 1) := da9_dX3_nearest_115.2.2.2.2.2.2.2.2.2.2.2.1
theorem dX3_nearest_139 : decode cX3_nearest 139 = .ok (.getfield 42, 3) := da9_dX3_nearest_115.2.2.2.2.2.2.2.2.2.2.2.2.1
theorem dX3_nearest_142 : decode cX3_nearest 142 = .ok (.iload 6, 2) := da9_dX3_nearest_115.2.2.2.2.2.2.2.2.2.2.2.2.2.1
theorem dX3_nearest_144 : decode cX3_nearest 144 = .ok (.aload_n 0, 1) := da9_dX3_nearest_115.2.2.2.2.2.2.2.2.2.2.2.2.2.2.1
theorem dX3_nearest_145 : decode cX3_nearest 145 = .ok (.getfield 42, 3) := da9_dX3_nearest_115.2.2.2.2.2.2.2.2.2.2.2.2.2.2.2
theorem da9_dX3_nearest_148 : (decode cX3_nearest 148 = .ok (.iload 4, 2)) ∧ (decode cX3_nearest 150 = .ok (.iaload, 1)) ∧ (decode cX3_nearest 151 = .ok (.iconst 1, 1)) ∧ (decode cX3_nearest 152 = .ok (.iadd, 1)) ∧ (decode cX3_nearest 153 = .ok (.iastore, 1)) ∧ (decode cX3_nearest 154 = .ok (.aload_n 0, 1)) ∧ (decode cX3_nearest 155 = .ok (.getfield 45, 3)) ∧ (decode cX3_nearest 158 = .ok (.aload_n 0, 1)) ∧ (decode cX3_nearest 159 = .ok (.getfield 70, 3)) ∧ (decode cX3_nearest 162 = .ok (.iload 6, 2)) ∧ (decode cX3_nearest 164 = .ok (.iastore, 1)) ∧ (decode cX3_nearest 165 = .ok (.aload_n 0, 1)) ∧ (decode cX3_nearest 166 = .ok (.dup, 1)) ∧ (decode cX3_nearest 167 = .ok (.getfield 70, 3)) ∧ (decode cX3_nearest 170 = .ok (.iconst 1, 1)) ∧ (decode cX3_nearest 171 = .ok (.iadd, 1)) := by decide +kernel
theorem dX3_nearest_148 : decode cX3_nearest 148 = .ok (.iload 4, 2) := da9_dX3_nearest_148.1
theorem dX3_nearest_150 : decode cX3_nearest 150 = .ok (.iaload, 1) := da9_dX3_nearest_148.2.1
theorem dX3_nearest_151 : decode cX3_nearest 151 = .ok (.iconst 1, 1) := da9_dX3_nearest_148.2.2.1
theorem dX3_nearest_152 : decode cX3_nearest 152 = .ok (.iadd, 1) := da9_dX3_nearest_148.2.2.2.1
theorem dX3_nearest_153 : decode cX3_nearest 153 = .ok (.iastore, 1) := da9_dX3_nearest_148.2.2.2.2.1
theorem dX3_nearest_154 : decode cX3_nearest 154 = .ok (.aload_n 0, 1) := da9_dX3_nearest_148.2.2.2.2.2.1
theorem dX3_nearest_155 : decode cX3_nearest 155 = .ok (.getfield 45, 3) := da9_dX3_nearest_148.2.2.2.2.2.2.1
theorem dX3_nearest_158 : decode cX3_nearest 158 = .ok (.aload_n 0, 1) := da9_dX3_nearest_148.2.2.2.2.2.2.2.1
theorem dX3_nearest_159 : decode cX3_nearest 159 = .ok (.getfield 70, 3) := da9_dX3_nearest_148.2.2.2.2.2.2.2.2.1
theorem dX3_nearest_162 : decode cX3_nearest 162 = .ok (.iload 6, 2) := da9_dX3_nearest_148.2.2.2.2.2.2.2.2.2.1
theorem dX3_nearest_164 : decode cX3_nearest 164 = .ok (.iastore, 1) := da9_dX3_nearest_148.2.2.2.2.2.2.2.2.2.2.1
theorem dX3_nearest_165 : decode cX3_nearest 165 = .ok (.aload_n 0, 1) := da9_dX3_nearest_148.2.2.2.2.2.2.2.2.2.2.2.1
theorem dX3_nearest_166 : decode cX3_nearest 166 = .ok (.dup, 1) := da9_dX3_nearest_148.2.2.2.2.2.2.2.2.2.2.2.2.1
theorem dX3_nearest_167 : decode cX3_nearest 167 = .ok (.getfield 70, 3) := da9_dX3_nearest_148.2.2.2.2.2.2.2.2.2.2.2.2.2.1
theorem dX3_nearest_170 : decode cX3_nearest 170 = .ok (.iconst 1, 1) := da9_dX3_nearest_148.2.2.2.2.2.2.2.2.2.2.2.2.2.2.1
theorem dX3_nearest_171 : decode cX3_nearest 171 = .ok (.iadd, 1) := da9_dX3_nearest_148.2.2.2.2.2.2.2.2.2.2.2.2.2.2.2
theorem da9_dX3_nearest_172 : (decode cX3_nearest 172 = .ok (.putfield 70, 3)) ∧ (decode cX3_nearest 175 = .ok (.iinc 5 1, 3)) ∧ (decode cX3_nearest 178 = .ok (.goto (-97), 3)) ∧ (decode cX3_nearest 181 = .ok (.iinc 3 1, 3)) ∧ (decode cX3_nearest 184 = .ok (.goto (-149), 3)) ∧ (decode cX3_nearest 187 = .ok (.iconst (-1), 1)) ∧ (decode cX3_nearest 188 = .ok (.ireturn, 1)) := by decide +kernel
theorem dX3_nearest_172 : decode cX3_nearest 172 = .ok (.putfield 70, 3) := da9_dX3_nearest_172.1
theorem dX3_nearest_175 : decode cX3_nearest 175 = .ok (.iinc 5 1, 3) := da9_dX3_nearest_172.2.1
theorem dX3_nearest_178 : decode cX3_nearest 178 = .ok (.goto (-97), 3) := da9_dX3_nearest_172.2.2.1
theorem dX3_nearest_181 : decode cX3_nearest 181 = .ok (.iinc 3 1, 3) := da9_dX3_nearest_172.2.2.2.1
theorem dX3_nearest_184 : decode cX3_nearest 184 = .ok (.goto (-149), 3) := da9_dX3_nearest_172.2.2.2.2.1
theorem dX3_nearest_187 : decode cX3_nearest 187 = .ok (.iconst (-1), 1) := da9_dX3_nearest_172.2.2.2.2.2.1
theorem dX3_nearest_188 : decode cX3_nearest 188 = .ok (.ireturn, 1) := da9_dX3_nearest_172.2.2.2.2.2.2
set_option maxRecDepth 20000 in
theorem ggX9_reach_X9_seated : GoodIn wsX9_reach wsX9_seated := wd_c vW9_ok mvW9_44
set_option maxRecDepth 20000 in
theorem gX9_reach_X9_seated : GoodIn wsX9_reach (wsV RX9 144 RX9 yX9_seated wsX9_seated) := goodIn_app (wd_l vW9_ok _ pvW9_97) ggX9_reach_X9_seated
set_option maxRecDepth 20000 in
theorem ggX9_reach_X9_spread : GoodIn wsX9_reach wsX9_spread := wd_c vW9_ok mvW9_457
set_option maxRecDepth 20000 in
theorem gX9_reach_X9_spread : GoodIn wsX9_reach (wsV RX9 226 RX9 yX9_spread wsX9_spread) := goodIn_app (wd_l vW9_ok _ pvW9_114) ggX9_reach_X9_spread
set_option maxRecDepth 20000 in
theorem ggX9_reach_X3_towersReached : GoodIn wsX9_reach wsX3_towersReached := wd_c vW9_ok mvW9_589
set_option maxRecDepth 20000 in
theorem gX9_reach_X3_towersReached : GoodIn wsX9_reach (wsV RX9 250 RX3 yX3_towersReached wsX3_towersReached) := goodIn_app (wd_l vW9_ok _ pvW9_120) ggX9_reach_X3_towersReached
theorem da9_dX9_reach_0 : (decode cX9_reach 0 = .ok (.aload_n 0, 1)) ∧ (decode cX9_reach 1 = .ok (.aload_n 0, 1)) ∧ (decode cX9_reach 2 = .ok (.invokevirtual 144, 3)) ∧ (decode cX9_reach 5 = .ok (.invokevirtual 226, 3)) ∧ (decode cX9_reach 8 = .ok (.aload_n 0, 1)) ∧ (decode cX9_reach 9 = .ok (.getfield 80, 3)) ∧ (decode cX9_reach 12 = .ok (.invokevirtual 250, 3)) ∧ (decode cX9_reach 15 = .ok (.ireturn, 1)) := by decide +kernel
theorem dX9_reach_0 : decode cX9_reach 0 = .ok (.aload_n 0, 1) := da9_dX9_reach_0.1
theorem dX9_reach_1 : decode cX9_reach 1 = .ok (.aload_n 0, 1) := da9_dX9_reach_0.2.1
theorem dX9_reach_2 : decode cX9_reach 2 = .ok (.invokevirtual 144, 3) := da9_dX9_reach_0.2.2.1
theorem dX9_reach_5 : decode cX9_reach 5 = .ok (.invokevirtual 226, 3) := da9_dX9_reach_0.2.2.2.1
theorem dX9_reach_8 : decode cX9_reach 8 = .ok (.aload_n 0, 1) := da9_dX9_reach_0.2.2.2.2.1
theorem dX9_reach_9 : decode cX9_reach 9 = .ok (.getfield 80, 3) := da9_dX9_reach_0.2.2.2.2.2.1
theorem dX9_reach_12 : decode cX9_reach 12 = .ok (.invokevirtual 250, 3) := da9_dX9_reach_0.2.2.2.2.2.2.1
theorem dX9_reach_15 : decode cX9_reach 15 = .ok (.ireturn, 1) := da9_dX9_reach_0.2.2.2.2.2.2.2
set_option maxRecDepth 20000 in
theorem ggX9_gaps_X8_gapCount : GoodIn wsX9_gaps wsX8_gapCount := wd_c vW9_ok mvW9_386
set_option maxRecDepth 20000 in
theorem gX9_gaps_X8_gapCount : GoodIn wsX9_gaps (wsV RX9 253 RX8 yX8_gapCount wsX8_gapCount) := goodIn_app (wd_l vW9_ok _ pvW9_121) ggX9_gaps_X8_gapCount
theorem da9_dX9_gaps_0 : (decode cX9_gaps 0 = .ok (.aload_n 0, 1)) ∧ (decode cX9_gaps 1 = .ok (.getfield 10, 3)) ∧ (decode cX9_gaps 4 = .ok (.getfield 122, 3)) ∧ (decode cX9_gaps 7 = .ok (.invokevirtual 253, 3)) ∧ (decode cX9_gaps 10 = .ok (.ireturn, 1)) := by decide +kernel
theorem dX9_gaps_0 : decode cX9_gaps 0 = .ok (.aload_n 0, 1) := da9_dX9_gaps_0.1
theorem dX9_gaps_1 : decode cX9_gaps 1 = .ok (.getfield 10, 3) := da9_dX9_gaps_0.2.1
theorem dX9_gaps_4 : decode cX9_gaps 4 = .ok (.getfield 122, 3) := da9_dX9_gaps_0.2.2.1
theorem dX9_gaps_7 : decode cX9_gaps 7 = .ok (.invokevirtual 253, 3) := da9_dX9_gaps_0.2.2.2.1
theorem dX9_gaps_10 : decode cX9_gaps 10 = .ok (.ireturn, 1) := da9_dX9_gaps_0.2.2.2.2
set_option maxRecDepth 20000 in
theorem ggX9_comes_X9_seated : GoodIn wsX9_comes wsX9_seated := wd_c vW9_ok mvW9_44
set_option maxRecDepth 20000 in
theorem gX9_comes_X9_seated : GoodIn wsX9_comes (wsV RX9 144 RX9 yX9_seated wsX9_seated) := goodIn_app (wd_l vW9_ok _ pvW9_97) ggX9_comes_X9_seated
set_option maxRecDepth 20000 in
theorem ggX9_comes_X9_spread : GoodIn wsX9_comes wsX9_spread := wd_c vW9_ok mvW9_457
set_option maxRecDepth 20000 in
theorem gX9_comes_X9_spread : GoodIn wsX9_comes (wsV RX9 226 RX9 yX9_spread wsX9_spread) := goodIn_app (wd_l vW9_ok _ pvW9_114) ggX9_comes_X9_spread
set_option maxRecDepth 20000 in
theorem ggX9_comes_X3_turnsToNumber : GoodIn wsX9_comes wsX3_turnsToNumber := wd_c vW9_ok mvW9_603
set_option maxRecDepth 20000 in
theorem gX9_comes_X3_turnsToNumber : GoodIn wsX9_comes (wsV RX9 256 RX3 yX3_turnsToNumber wsX3_turnsToNumber) := goodIn_app (wd_l vW9_ok _ pvW9_122) ggX9_comes_X3_turnsToNumber
theorem da9_dX9_comes_0 : (decode cX9_comes 0 = .ok (.aload_n 0, 1)) ∧ (decode cX9_comes 1 = .ok (.aload_n 0, 1)) ∧ (decode cX9_comes 2 = .ok (.invokevirtual 144, 3)) ∧ (decode cX9_comes 5 = .ok (.invokevirtual 226, 3)) ∧ (decode cX9_comes 8 = .ok (.aload_n 0, 1)) ∧ (decode cX9_comes 9 = .ok (.getfield 80, 3)) ∧ (decode cX9_comes 12 = .ok (.iload_n 1, 1)) ∧ (decode cX9_comes 13 = .ok (.invokevirtual 256, 3)) ∧ (decode cX9_comes 16 = .ok (.ireturn, 1)) := by decide +kernel
theorem dX9_comes_0 : decode cX9_comes 0 = .ok (.aload_n 0, 1) := da9_dX9_comes_0.1
theorem dX9_comes_1 : decode cX9_comes 1 = .ok (.aload_n 0, 1) := da9_dX9_comes_0.2.1
theorem dX9_comes_2 : decode cX9_comes 2 = .ok (.invokevirtual 144, 3) := da9_dX9_comes_0.2.2.1
theorem dX9_comes_5 : decode cX9_comes 5 = .ok (.invokevirtual 226, 3) := da9_dX9_comes_0.2.2.2.1
theorem dX9_comes_8 : decode cX9_comes 8 = .ok (.aload_n 0, 1) := da9_dX9_comes_0.2.2.2.2.1
theorem dX9_comes_9 : decode cX9_comes 9 = .ok (.getfield 80, 3) := da9_dX9_comes_0.2.2.2.2.2.1
theorem dX9_comes_12 : decode cX9_comes 12 = .ok (.iload_n 1, 1) := da9_dX9_comes_0.2.2.2.2.2.2.1
theorem dX9_comes_13 : decode cX9_comes 13 = .ok (.invokevirtual 256, 3) := da9_dX9_comes_0.2.2.2.2.2.2.2.1
theorem dX9_comes_16 : decode cX9_comes 16 = .ok (.ireturn, 1) := da9_dX9_comes_0.2.2.2.2.2.2.2.2
set_option maxRecDepth 20000 in
theorem ggX9_view_X8_has : GoodIn wsX9_view wsX8_has := wd_c vW9_ok mvW9_19
set_option maxRecDepth 20000 in
theorem gX9_view_X8_has : GoodIn wsX9_view (wsV RX9 125 RX8 yX8_has wsX8_has) := goodIn_app (wd_l vW9_ok _ pvW9_92) ggX9_view_X8_has
set_option maxRecDepth 20000 in
theorem ggX9_view_X9_seated : GoodIn wsX9_view wsX9_seated := wd_c vW9_ok mvW9_44
set_option maxRecDepth 20000 in
theorem gX9_view_X9_seated : GoodIn wsX9_view (wsV RX9 144 RX9 yX9_seated wsX9_seated) := goodIn_app (wd_l vW9_ok _ pvW9_97) ggX9_view_X9_seated
set_option maxRecDepth 20000 in
theorem ggX9_view_X9_spread : GoodIn wsX9_view wsX9_spread := wd_c vW9_ok mvW9_457
set_option maxRecDepth 20000 in
theorem gX9_view_X9_spread : GoodIn wsX9_view (wsV RX9 226 RX9 yX9_spread wsX9_spread) := goodIn_app (wd_l vW9_ok _ pvW9_114) ggX9_view_X9_spread
set_option maxRecDepth 20000 in
theorem ggX9_view_X3_turnsToTop : GoodIn wsX9_view wsX3_turnsToTop := wd_c vW9_ok mvW9_607
set_option maxRecDepth 20000 in
theorem gX9_view_X3_turnsToTop : GoodIn wsX9_view (wsV RX9 259 RX3 yX3_turnsToTop wsX3_turnsToTop) := goodIn_app (wd_l vW9_ok _ pvW9_123) ggX9_view_X3_turnsToTop
theorem da9_dX9_view_0 : (decode cX9_view 0 = .ok (.aload_n 0, 1)) ∧ (decode cX9_view 1 = .ok (.getfield 10, 3)) ∧ (decode cX9_view 4 = .ok (.getfield 122, 3)) ∧ (decode cX9_view 7 = .ok (.iload_n 1, 1)) ∧ (decode cX9_view 8 = .ok (.invokevirtual 125, 3)) ∧ (decode cX9_view 11 = .ok (.ifCond .ne 5, 3)) ∧ (decode cX9_view 14 = .ok (.iconst (-1), 1)) ∧ (decode cX9_view 15 = .ok (.ireturn, 1)) ∧ (decode cX9_view 16 = .ok (.aload_n 0, 1)) ∧ (decode cX9_view 17 = .ok (.aload_n 0, 1)) ∧ (decode cX9_view 18 = .ok (.invokevirtual 144, 3)) ∧ (decode cX9_view 21 = .ok (.invokevirtual 226, 3)) ∧ (decode cX9_view 24 = .ok (.aload_n 0, 1)) ∧ (decode cX9_view 25 = .ok (.getfield 80, 3)) ∧ (decode cX9_view 28 = .ok (.iload_n 1, 1)) ∧ (decode cX9_view 29 = .ok (.invokevirtual 259, 3)) := by decide +kernel
theorem dX9_view_0 : decode cX9_view 0 = .ok (.aload_n 0, 1) := da9_dX9_view_0.1
theorem dX9_view_1 : decode cX9_view 1 = .ok (.getfield 10, 3) := da9_dX9_view_0.2.1
theorem dX9_view_4 : decode cX9_view 4 = .ok (.getfield 122, 3) := da9_dX9_view_0.2.2.1
theorem dX9_view_7 : decode cX9_view 7 = .ok (.iload_n 1, 1) := da9_dX9_view_0.2.2.2.1
theorem dX9_view_8 : decode cX9_view 8 = .ok (.invokevirtual 125, 3) := da9_dX9_view_0.2.2.2.2.1
theorem dX9_view_11 : decode cX9_view 11 = .ok (.ifCond .ne 5, 3) := da9_dX9_view_0.2.2.2.2.2.1
theorem dX9_view_14 : decode cX9_view 14 = .ok (.iconst (-1), 1) := da9_dX9_view_0.2.2.2.2.2.2.1
theorem dX9_view_15 : decode cX9_view 15 = .ok (.ireturn, 1) := da9_dX9_view_0.2.2.2.2.2.2.2.1
theorem dX9_view_16 : decode cX9_view 16 = .ok (.aload_n 0, 1) := da9_dX9_view_0.2.2.2.2.2.2.2.2.1
theorem dX9_view_17 : decode cX9_view 17 = .ok (.aload_n 0, 1) := da9_dX9_view_0.2.2.2.2.2.2.2.2.2.1
theorem dX9_view_18 : decode cX9_view 18 = .ok (.invokevirtual 144, 3) := da9_dX9_view_0.2.2.2.2.2.2.2.2.2.2.1
theorem dX9_view_21 : decode cX9_view 21 = .ok (.invokevirtual 226, 3) := da9_dX9_view_0.2.2.2.2.2.2.2.2.2.2.2.1
theorem dX9_view_24 : decode cX9_view 24 = .ok (.aload_n 0, 1) := da9_dX9_view_0.2.2.2.2.2.2.2.2.2.2.2.2.1
theorem dX9_view_25 : decode cX9_view 25 = .ok (.getfield 80, 3) := da9_dX9_view_0.2.2.2.2.2.2.2.2.2.2.2.2.2.1
theorem dX9_view_28 : decode cX9_view 28 = .ok (.iload_n 1, 1) := da9_dX9_view_0.2.2.2.2.2.2.2.2.2.2.2.2.2.2.1
theorem dX9_view_29 : decode cX9_view 29 = .ok (.invokevirtual 259, 3) := da9_dX9_view_0.2.2.2.2.2.2.2.2.2.2.2.2.2.2.2
theorem dX9_view_32 : decode cX9_view 32 = .ok (.ireturn, 1) := by decide +kernel
end
