set_option maxHeartbeats 4000000 in
set_option maxRecDepth 100000 in
theorem lc_8 {p : Program} {e : Env} {s : State} {m : MethodId} {below : List Frame} {meth : Method} {c : Code} (l : Launch) {b L : Nat} {xs : Nat → Int32} (C0 : lw_At p s m meth c b L xs) {D : va_G} {ty : Nat → ClassId} {eo : Nat → Nat} {A : Nat → Prop} (hA : ∀ q : Nat, s.heap.size ≤ q → A q) (hB : ∀ q : Nat, A q → s.heap.size ≤ q) (hK : va_K D vwCl (kzT ty) s) (hN : kz_N s) (hE : kz_E eo A s s.heap) {i : Nat} {i6 : Int32} (hi : i ≤ 63) (hin : vp_in (i6 + 1) L ∧ vp_in (i6 + 2) L ∧ vp_in (i6 + 3) L ∧ vp_in (i6 + 4) L ∧ vp_in (i6 + 5) L) {ad am : Nat → Nat} {q : dK} {q2 : dS} {cells slots : Nat} (J : lw_J q q2 i cells slots) {H : Heap} {locs : List Loc} (hP : va_P D vwCl (wF ty ad q ++ w10 ty am q2) H) (hD : va_D A (wF ty ad q ++ w10 ty am q2)) (hS : va_S A s.heap H locs) {ls : Array Slot} (hl : lv_has ls 4 [(3, .int i6), (2, .ref (am 0)), (1, .ref (ad 0)), (0, .ref b)]) (next : ∀ (ad1 : Nat → Nat) (o : dK) (o2 : dS) (cells1 slots1 : Nat) (H1 : Heap) (locs1 : List Loc), lw_J o o2 (i + 1) cells1 slots1 → ad1 0 = ad 0 → va_P D vwCl (wF ty ad1 o ++ w10 ty am o2) H1 → va_D A (wF ty ad1 o ++ w10 ty am o2) → va_S A s.heap H1 locs1 → W p l e room_1 s m #[Value.ref b] below meth c H1 locs1 cells1 slots1 (lw_Z below #[Value.ref b] s) (F0 m 1071 ls [])) : W p l e room_1 s m #[Value.ref b] below meth c H locs cells slots (lw_Z below #[Value.ref b] s) (F0 m 448 ls []) := by
  obtain ⟨hx, hb, hr, hml, hown0, hts0, hX, hbl, hlocks, hgv⟩ := C0
  have hown : s.vm.findClass RL = some m.cls := hown0
  have hts : ∀ w ∈ lw_tbl, w.before #[Value.ref b] s = true := hts0
  have hbA : ¬ A b := fun h => absurd (hB b h) (Nat.not_le.mpr hbl)
  refine lv_aload_n hx hb dL_law_448 rfl (lv_at hl 2 rfl) ?_
  obtain ⟨r, o, hz, X, ht⟩ := lx_law q J.1 (by have := J.2.2.2.1; omega)
  refine sp_ki (va_runV (As := []) (rest := []) ⟨hx, hb, hml, hown, hts⟩ (qX9_law_s0 l D ty eo _ ad 468 q r o hz) (cwV 0 hts gL_law_X9_law rfl rfl rfl hd_X9_law_v ⟨Nat.le_of_ble_eq_true rfl, Nat.le_of_ble_eq_true rfl⟩) (spv_9 hK hN hE hP hD hS hA) rfl rfl hl.1 rfl (lv_room (Nat.le_of_ble_eq_true rfl)) dL_law_449 (lw_room J X hi)) hP hD hS hA (fun r9 u H locs hw hP hD hS => ?_)
  obtain ⟨rfl, ad9, hg, rfl⟩ := hw
  refine lv_pop hx hb dL_law_452 rfl ?_
  refine lv_aload_n hx hb dL_law_453 rfl (lv_at hl 1 rfl) ?_
  obtain ⟨r2, o2, hz2, h2, ht2⟩ := lm_law q2 J.2.1
  refine sp_ki (va_runV (As := []) (rest := []) ⟨hx, hb, hml, hown, hts⟩ (qX10_law l D ty eo _ am q2 r2 o2 hz2) (cwV 0 hts gL_law_X10_law rfl rfl rfl hd_X10_law_v ⟨Nat.le_of_ble_eq_true rfl, Nat.le_of_ble_eq_true rfl⟩) (spv_10 hK hN hE hP hD hS hA) rfl rfl hl.1 rfl (lv_room (Nat.le_of_ble_eq_true rfl)) dL_law_454 (lw_room (mc := 7) (ms := 468) J X hi)) hP hD hS hA (fun r9 u H locs hw hP hD hS => ?_)
  obtain ⟨rfl, rfl⟩ := hw
  refine lv_pop hx hb dL_law_457 rfl ?_
  have jg9 := rgf_law J.1 J.2.1 J.2.2.1.2.2 J.2.2.1.1 (by have := J.2.2.2.1; omega) hz hz2
  have jg : RG o o2 := jg9
  refine lv_goto (tgt := 1071) hx hb dL_law_458 (by decide) ?_
  exact next ad9 o o2 _ _ H locs (lw_step J X h2 (by have j := J.2.2.1; unfold lw_R at j ⊢; have jt := j.1; have jn := ltY_len jt; exact ⟨ltY_0 (by omega) (by omega), by omega, jg⟩)) (hg 0 (by omega)) hP hD hS

set_option maxHeartbeats 4000000 in
set_option maxRecDepth 100000 in
theorem lc_9 {p : Program} {e : Env} {s : State} {m : MethodId} {below : List Frame} {meth : Method} {c : Code} (l : Launch) {b L : Nat} {xs : Nat → Int32} (C0 : lw_At p s m meth c b L xs) {D : va_G} {ty : Nat → ClassId} {eo : Nat → Nat} {A : Nat → Prop} (hA : ∀ q : Nat, s.heap.size ≤ q → A q) (hB : ∀ q : Nat, A q → s.heap.size ≤ q) (hK : va_K D vwCl (kzT ty) s) (hN : kz_N s) (hE : kz_E eo A s s.heap) {i : Nat} {i6 : Int32} (hi : i ≤ 63) (hin : vp_in (i6 + 1) L ∧ vp_in (i6 + 2) L ∧ vp_in (i6 + 3) L ∧ vp_in (i6 + 4) L ∧ vp_in (i6 + 5) L) {ad am : Nat → Nat} {q : dK} {q2 : dS} {cells slots : Nat} (J : lw_J q q2 i cells slots) {H : Heap} {locs : List Loc} (hP : va_P D vwCl (wF ty ad q ++ w10 ty am q2) H) (hD : va_D A (wF ty ad q ++ w10 ty am q2)) (hS : va_S A s.heap H locs) {ls : Array Slot} (hl : lv_has ls 4 [(3, .int i6), (2, .ref (am 0)), (1, .ref (ad 0)), (0, .ref b)]) (next : ∀ (ad1 : Nat → Nat) (o : dK) (o2 : dS) (cells1 slots1 : Nat) (H1 : Heap) (locs1 : List Loc), lw_J o o2 (i + 1) cells1 slots1 → ad1 0 = ad 0 → va_P D vwCl (wF ty ad1 o ++ w10 ty am o2) H1 → va_D A (wF ty ad1 o ++ w10 ty am o2) → va_S A s.heap H1 locs1 → W p l e room_1 s m #[Value.ref b] below meth c H1 locs1 cells1 slots1 (lw_Z below #[Value.ref b] s) (F0 m 1071 ls [])) : W p l e room_1 s m #[Value.ref b] below meth c H locs cells slots (lw_Z below #[Value.ref b] s) (F0 m 461 ls []) := by
  obtain ⟨hx, hb, hr, hml, hown0, hts0, hX, hbl, hlocks, hgv⟩ := C0
  have hown : s.vm.findClass RL = some m.cls := hown0
  have hts : ∀ w ∈ lw_tbl, w.before #[Value.ref b] s = true := hts0
  have hbA : ¬ A b := fun h => absurd (hB b h) (Nat.not_le.mpr hbl)
  refine lv_aload_n hx hb dL_law_461 rfl (lv_at hl 2 rfl) ?_
  obtain ⟨r, o, hz, X, ht⟩ := lx_orders q J.1
  refine sp_ki (va_runV (As := []) (rest := []) ⟨hx, hb, hml, hown, hts⟩ (qX9_orders_s0 l D ty eo _ ad q r o hz) (cwV 0 hts gL_law_X9_orders rfl rfl rfl hd_X9_orders_v ⟨Nat.le_of_ble_eq_true rfl, Nat.le_of_ble_eq_true rfl⟩) (spv_9 hK hN hE hP hD hS hA) rfl rfl hl.1 rfl (lv_room (Nat.le_of_ble_eq_true rfl)) dL_law_462 (lw_room J X hi)) hP hD hS hA (fun r9 u H locs hw hP hD hS => ?_)
  obtain ⟨rfl, rfl⟩ := hw
  refine lv_pop hx hb dL_law_465 rfl ?_
  refine lv_aload_n hx hb dL_law_466 rfl (lv_at hl 1 rfl) ?_
  obtain ⟨r2, o2, hz2, h2, ht2⟩ := lm_orders q2 J.2.1
  refine sp_ki (va_runV (As := []) (rest := []) ⟨hx, hb, hml, hown, hts⟩ (qX10_orders l D ty eo _ am q2 r2 o2 hz2) (cwV 0 hts gL_law_X10_orders rfl rfl rfl hd_X10_orders_v ⟨Nat.le_of_ble_eq_true rfl, Nat.le_of_ble_eq_true rfl⟩) (spv_10 hK hN hE hP hD hS hA) rfl rfl hl.1 rfl (lv_room (Nat.le_of_ble_eq_true rfl)) dL_law_467 (lw_room J X hi)) hP hD hS hA (fun r9 u H locs hw hP hD hS => ?_)
  obtain ⟨rfl, rfl⟩ := hw
  refine lv_pop hx hb dL_law_470 rfl ?_
  have jg9 := rgf_orders J.1 J.2.1 J.2.2.1.2.2 J.2.2.1.1 hz hz2
  have jg : RG o o2 := jg9.2
  have ja : r = r2 := jg9.1
  refine lv_goto (tgt := 1071) hx hb dL_law_471 (by decide) ?_
  exact next ad o o2 _ _ H locs (lw_step J X h2 (by have j := J.2.2.1; unfold lw_R at j ⊢; have jt := j.1; have jn := ltY_len jt; exact ⟨ltY_0 (by omega) (by omega), by omega, jg⟩)) (rfl) hP hD hS

set_option maxHeartbeats 4000000 in
set_option maxRecDepth 100000 in
theorem lc_10 {p : Program} {e : Env} {s : State} {m : MethodId} {below : List Frame} {meth : Method} {c : Code} (l : Launch) {b L : Nat} {xs : Nat → Int32} (C0 : lw_At p s m meth c b L xs) {D : va_G} {ty : Nat → ClassId} {eo : Nat → Nat} {A : Nat → Prop} (hA : ∀ q : Nat, s.heap.size ≤ q → A q) (hB : ∀ q : Nat, A q → s.heap.size ≤ q) (hK : va_K D vwCl (kzT ty) s) (hN : kz_N s) (hE : kz_E eo A s s.heap) {i : Nat} {i6 : Int32} (hi : i ≤ 63) (hin : vp_in (i6 + 1) L ∧ vp_in (i6 + 2) L ∧ vp_in (i6 + 3) L ∧ vp_in (i6 + 4) L ∧ vp_in (i6 + 5) L) {ad am : Nat → Nat} {q : dK} {q2 : dS} {cells slots : Nat} (J : lw_J q q2 i cells slots) {H : Heap} {locs : List Loc} (hP : va_P D vwCl (wF ty ad q ++ w10 ty am q2) H) (hD : va_D A (wF ty ad q ++ w10 ty am q2)) (hS : va_S A s.heap H locs) {ls : Array Slot} (hl : lv_has ls 4 [(3, .int i6), (2, .ref (am 0)), (1, .ref (ad 0)), (0, .ref b)]) (next : ∀ (ad1 : Nat → Nat) (o : dK) (o2 : dS) (cells1 slots1 : Nat) (H1 : Heap) (locs1 : List Loc), lw_J o o2 (i + 1) cells1 slots1 → ad1 0 = ad 0 → va_P D vwCl (wF ty ad1 o ++ w10 ty am o2) H1 → va_D A (wF ty ad1 o ++ w10 ty am o2) → va_S A s.heap H1 locs1 → W p l e room_1 s m #[Value.ref b] below meth c H1 locs1 cells1 slots1 (lw_Z below #[Value.ref b] s) (F0 m 1071 ls [])) : W p l e room_1 s m #[Value.ref b] below meth c H locs cells slots (lw_Z below #[Value.ref b] s) (F0 m 474 ls []) := by
  obtain ⟨hx, hb, hr, hml, hown0, hts0, hX, hbl, hlocks, hgv⟩ := C0
  have hown : s.vm.findClass RL = some m.cls := hown0
  have hts : ∀ w ∈ lw_tbl, w.before #[Value.ref b] s = true := hts0
  have hbA : ¬ A b := fun h => absurd (hB b h) (Nat.not_le.mpr hbl)
  refine lv_aload_n hx hb dL_law_474 rfl (lv_at hl 2 rfl) ?_
  obtain ⟨r, o, hz, X, ht⟩ := lx_fault q J.1
  refine sp_ki (va_runV (As := []) (rest := []) ⟨hx, hb, hml, hown, hts⟩ (qX9_fault_s0 l D ty eo _ ad q r o hz) (cwV 0 hts gL_law_X9_fault rfl rfl rfl hd_X9_fault_v ⟨Nat.le_of_ble_eq_true rfl, Nat.le_of_ble_eq_true rfl⟩) (spv_9 hK hN hE hP hD hS hA) rfl rfl hl.1 rfl (lv_room (Nat.le_of_ble_eq_true rfl)) dL_law_475 (lw_room J X hi)) hP hD hS hA (fun r9 u H locs hw hP hD hS => ?_)
  obtain ⟨rfl, rfl⟩ := hw
  refine lv_pop hx hb dL_law_478 rfl ?_
  refine lv_aload_n hx hb dL_law_479 rfl (lv_at hl 1 rfl) ?_
  obtain ⟨r2, o2, hz2, h2, ht2⟩ := lm_fault q2 J.2.1
  refine sp_ki (va_runV (As := []) (rest := []) ⟨hx, hb, hml, hown, hts⟩ (qX10_fault l D ty eo _ am q2 r2 o2 hz2) (cwV 0 hts gL_law_X10_fault rfl rfl rfl hd_X10_fault_v ⟨Nat.le_of_ble_eq_true rfl, Nat.le_of_ble_eq_true rfl⟩) (spv_10 hK hN hE hP hD hS hA) rfl rfl hl.1 rfl (lv_room (Nat.le_of_ble_eq_true rfl)) dL_law_480 (lw_room J X hi)) hP hD hS hA (fun r9 u H locs hw hP hD hS => ?_)
  obtain ⟨rfl, rfl⟩ := hw
  refine lv_pop hx hb dL_law_483 rfl ?_
  have jg9 := rgf_fault J.1 J.2.1 J.2.2.1.2.2 hz hz2
  have jg : RG o o2 := jg9
  refine lv_goto (tgt := 1071) hx hb dL_law_484 (by decide) ?_
  exact next ad o o2 _ _ H locs (lw_step J X h2 (by have j := J.2.2.1; unfold lw_R at j ⊢; have jt := j.1; have jn := ltY_len jt; exact ⟨ltY_end jt ht.2 ht2.2 (by omega) (by omega) (by omega), by omega, jg⟩)) (rfl) hP hD hS

set_option maxHeartbeats 4000000 in
set_option maxRecDepth 100000 in
theorem lc_11 {p : Program} {e : Env} {s : State} {m : MethodId} {below : List Frame} {meth : Method} {c : Code} (l : Launch) {b L : Nat} {xs : Nat → Int32} (C0 : lw_At p s m meth c b L xs) {D : va_G} {ty : Nat → ClassId} {eo : Nat → Nat} {A : Nat → Prop} (hA : ∀ q : Nat, s.heap.size ≤ q → A q) (hB : ∀ q : Nat, A q → s.heap.size ≤ q) (hK : va_K D vwCl (kzT ty) s) (hN : kz_N s) (hE : kz_E eo A s s.heap) {i : Nat} {i6 : Int32} (hi : i ≤ 63) (hin : vp_in (i6 + 1) L ∧ vp_in (i6 + 2) L ∧ vp_in (i6 + 3) L ∧ vp_in (i6 + 4) L ∧ vp_in (i6 + 5) L) {ad am : Nat → Nat} {q : dK} {q2 : dS} {cells slots : Nat} (J : lw_J q q2 i cells slots) {H : Heap} {locs : List Loc} (hP : va_P D vwCl (wF ty ad q ++ w10 ty am q2) H) (hD : va_D A (wF ty ad q ++ w10 ty am q2)) (hS : va_S A s.heap H locs) {ls : Array Slot} (hl : lv_has ls 4 [(3, .int i6), (2, .ref (am 0)), (1, .ref (ad 0)), (0, .ref b)]) (next : ∀ (ad1 : Nat → Nat) (o : dK) (o2 : dS) (cells1 slots1 : Nat) (H1 : Heap) (locs1 : List Loc), lw_J o o2 (i + 1) cells1 slots1 → ad1 0 = ad 0 → va_P D vwCl (wF ty ad1 o ++ w10 ty am o2) H1 → va_D A (wF ty ad1 o ++ w10 ty am o2) → va_S A s.heap H1 locs1 → W p l e room_1 s m #[Value.ref b] below meth c H1 locs1 cells1 slots1 (lw_Z below #[Value.ref b] s) (F0 m 1071 ls [])) : W p l e room_1 s m #[Value.ref b] below meth c H locs cells slots (lw_Z below #[Value.ref b] s) (F0 m 487 ls []) := by
  obtain ⟨hx, hb, hr, hml, hown0, hts0, hX, hbl, hlocks, hgv⟩ := C0
  have hown : s.vm.findClass RL = some m.cls := hown0
  have hts : ∀ w ∈ lw_tbl, w.before #[Value.ref b] s = true := hts0
  have hbA : ¬ A b := fun h => absurd (hB b h) (Nat.not_le.mpr hbl)
  refine lv_aload_n hx hb dL_law_487 rfl (lv_at hl 2 rfl) ?_
  obtain ⟨r, o, hz, X, ht⟩ := lx_stopped q J.1
  refine sp_ki (va_runV (As := []) (rest := []) ⟨hx, hb, hml, hown, hts⟩ (qX9_stopped_s0 l D ty eo _ ad q r o hz) (cwV 0 hts gL_law_X9_stopped rfl rfl rfl hd_X9_stopped_v ⟨Nat.le_of_ble_eq_true rfl, Nat.le_of_ble_eq_true rfl⟩) (spv_9 hK hN hE hP hD hS hA) rfl rfl hl.1 rfl (lv_room (Nat.le_of_ble_eq_true rfl)) dL_law_488 (lw_room J X hi)) hP hD hS hA (fun r9 u H locs hw hP hD hS => ?_)
  obtain ⟨rfl, rfl⟩ := hw
  refine lv_pop hx hb dL_law_491 rfl ?_
  refine lv_aload_n hx hb dL_law_492 rfl (lv_at hl 1 rfl) ?_
  obtain ⟨r2, o2, hz2, h2, ht2⟩ := lm_stopped q2 J.2.1
  refine sp_ki (va_runV (As := []) (rest := []) ⟨hx, hb, hml, hown, hts⟩ (qX10_stopped l D ty eo _ am q2 r2 o2 hz2) (cwV 0 hts gL_law_X10_stopped rfl rfl rfl hd_X10_stopped_v ⟨Nat.le_of_ble_eq_true rfl, Nat.le_of_ble_eq_true rfl⟩) (spv_10 hK hN hE hP hD hS hA) rfl rfl hl.1 rfl (lv_room (Nat.le_of_ble_eq_true rfl)) dL_law_493 (lw_room J X hi)) hP hD hS hA (fun r9 u H locs hw hP hD hS => ?_)
  obtain ⟨rfl, rfl⟩ := hw
  refine lv_pop hx hb dL_law_496 rfl ?_
  have jg9 := rgf_stopped J.1 J.2.1 J.2.2.1.2.2 hz hz2
  have jg : RG o o2 := jg9
  refine lv_goto (tgt := 1071) hx hb dL_law_497 (by decide) ?_
  exact next ad o o2 _ _ H locs (lw_step J X h2 (by have j := J.2.2.1; unfold lw_R at j ⊢; have jt := j.1; have jn := ltY_len jt; exact ⟨ltY_end jt ht.2 ht2.2 (by omega) (by omega) (by omega), by omega, jg⟩)) (rfl) hP hD hS

set_option maxHeartbeats 4000000 in
set_option maxRecDepth 100000 in
theorem lc_12 {p : Program} {e : Env} {s : State} {m : MethodId} {below : List Frame} {meth : Method} {c : Code} (l : Launch) {b L : Nat} {xs : Nat → Int32} (C0 : lw_At p s m meth c b L xs) {D : va_G} {ty : Nat → ClassId} {eo : Nat → Nat} {A : Nat → Prop} (hA : ∀ q : Nat, s.heap.size ≤ q → A q) (hB : ∀ q : Nat, A q → s.heap.size ≤ q) (hK : va_K D vwCl (kzT ty) s) (hN : kz_N s) (hE : kz_E eo A s s.heap) {i : Nat} {i6 : Int32} (hi : i ≤ 63) (hin : vp_in (i6 + 1) L ∧ vp_in (i6 + 2) L ∧ vp_in (i6 + 3) L ∧ vp_in (i6 + 4) L ∧ vp_in (i6 + 5) L) {ad am : Nat → Nat} {q : dK} {q2 : dS} {cells slots : Nat} (J : lw_J q q2 i cells slots) {H : Heap} {locs : List Loc} (hP : va_P D vwCl (wF ty ad q ++ w10 ty am q2) H) (hD : va_D A (wF ty ad q ++ w10 ty am q2)) (hS : va_S A s.heap H locs) {ls : Array Slot} (hl : lv_has ls 4 [(3, .int i6), (2, .ref (am 0)), (1, .ref (ad 0)), (0, .ref b)]) (next : ∀ (ad1 : Nat → Nat) (o : dK) (o2 : dS) (cells1 slots1 : Nat) (H1 : Heap) (locs1 : List Loc), lw_J o o2 (i + 1) cells1 slots1 → ad1 0 = ad 0 → va_P D vwCl (wF ty ad1 o ++ w10 ty am o2) H1 → va_D A (wF ty ad1 o ++ w10 ty am o2) → va_S A s.heap H1 locs1 → W p l e room_1 s m #[Value.ref b] below meth c H1 locs1 cells1 slots1 (lw_Z below #[Value.ref b] s) (F0 m 1071 ls [])) : W p l e room_1 s m #[Value.ref b] below meth c H locs cells slots (lw_Z below #[Value.ref b] s) (F0 m 500 ls []) := by
  obtain ⟨hx, hb, hr, hml, hown0, hts0, hX, hbl, hlocks, hgv⟩ := C0
  have hown : s.vm.findClass RL = some m.cls := hown0
  have hts : ∀ w ∈ lw_tbl, w.before #[Value.ref b] s = true := hts0
  have hbA : ¬ A b := fun h => absurd (hB b h) (Nat.not_le.mpr hbl)
  refine lv_aload_n hx hb dL_law_500 rfl (lv_at hl 2 rfl) ?_
  refine lv_aload_n hx hb dL_law_501 rfl (lv_at hl 3 rfl) ?_
  refine lv_iload_n hx hb dL_law_502 rfl (lv_at hl 0 rfl) ?_
  refine lv_iconst (v := 1) hx hb dL_law_503 (by decide) ?_
  refine lv_iadd hx hb dL_law_504 ?_
  refine va_sld hx hb hX hbl hbA hS hin.1 dL_law_505 ?_
  refine lv_topi (fun a1 ea1 => ?_)
  obtain ⟨r, o, hz, X, ht⟩ := lx_force q a1 J.1
  refine sp_ki (va_runV (As := [.int a1]) (rest := []) ⟨hx, hb, hml, hown, hts⟩ (qX9_force_s0 l D ty eo _ ad q a1 r o hz) (cwV 1 hts gL_law_X9_force rfl rfl rfl hd_X9_force_v ⟨Nat.le_of_ble_eq_true rfl, Nat.le_of_ble_eq_true rfl⟩) (spv_9 hK hN hE hP hD hS hA) rfl rfl hl.1 rfl (lv_room (Nat.le_of_ble_eq_true rfl)) dL_law_506 (lw_room J X hi)) hP hD hS hA (fun r9 u H locs hw hP hD hS => ?_)
  obtain ⟨rfl, rfl⟩ := hw
  refine lv_pop hx hb dL_law_509 rfl ?_
  refine lv_aload_n hx hb dL_law_510 rfl (lv_at hl 1 rfl) ?_
  refine lv_aload_n hx hb dL_law_511 rfl (lv_at hl 3 rfl) ?_
  refine lv_iload_n hx hb dL_law_512 rfl (lv_at hl 0 rfl) ?_
  refine lv_iconst (v := 1) hx hb dL_law_513 (by decide) ?_
  refine lv_iadd hx hb dL_law_514 ?_
  refine va_sld hx hb hX hbl hbA hS hin.1 dL_law_515 ?_
  refine kz_topi a1 ea1.symm ?_
  obtain ⟨r2, o2, hz2, h2, ht2⟩ := lm_force q2 a1 J.2.1
  refine sp_ki (va_runV (As := [.int a1]) (rest := []) ⟨hx, hb, hml, hown, hts⟩ (qX10_force l D ty eo _ am q2 a1 r2 o2 hz2) (cwV 1 hts gL_law_X10_force rfl rfl rfl hd_X10_force_v ⟨Nat.le_of_ble_eq_true rfl, Nat.le_of_ble_eq_true rfl⟩) (spv_10 hK hN hE hP hD hS hA) rfl rfl hl.1 rfl (lv_room (Nat.le_of_ble_eq_true rfl)) dL_law_516 (lw_room J X hi)) hP hD hS hA (fun r9 u H locs hw hP hD hS => ?_)
  obtain ⟨rfl, rfl⟩ := hw
  refine lv_pop hx hb dL_law_519 rfl ?_
  have jg9 := rgf_force J.1 J.2.1 J.2.2.1.2.2 a1 hz hz2
  have jg : RG o o2 := jg9
  refine lv_goto (tgt := 1071) hx hb dL_law_520 (by decide) ?_
  exact next ad o o2 _ _ H locs (lw_step J X h2 (by have j := J.2.2.1; unfold lw_R at j ⊢; have jt := j.1; have jn := ltY_len jt; exact ⟨ltY_end jt ht.2 ht2.2 (by omega) (by omega) (by omega), by omega, jg⟩)) (rfl) hP hD hS

set_option maxHeartbeats 4000000 in
set_option maxRecDepth 100000 in
theorem lc_13 {p : Program} {e : Env} {s : State} {m : MethodId} {below : List Frame} {meth : Method} {c : Code} (l : Launch) {b L : Nat} {xs : Nat → Int32} (C0 : lw_At p s m meth c b L xs) {D : va_G} {ty : Nat → ClassId} {eo : Nat → Nat} {A : Nat → Prop} (hA : ∀ q : Nat, s.heap.size ≤ q → A q) (hB : ∀ q : Nat, A q → s.heap.size ≤ q) (hK : va_K D vwCl (kzT ty) s) (hN : kz_N s) (hE : kz_E eo A s s.heap) {i : Nat} {i6 : Int32} (hi : i ≤ 63) (hin : vp_in (i6 + 1) L ∧ vp_in (i6 + 2) L ∧ vp_in (i6 + 3) L ∧ vp_in (i6 + 4) L ∧ vp_in (i6 + 5) L) {ad am : Nat → Nat} {q : dK} {q2 : dS} {cells slots : Nat} (J : lw_J q q2 i cells slots) {H : Heap} {locs : List Loc} (hP : va_P D vwCl (wF ty ad q ++ w10 ty am q2) H) (hD : va_D A (wF ty ad q ++ w10 ty am q2)) (hS : va_S A s.heap H locs) {ls : Array Slot} (hl : lv_has ls 4 [(3, .int i6), (2, .ref (am 0)), (1, .ref (ad 0)), (0, .ref b)]) (next : ∀ (ad1 : Nat → Nat) (o : dK) (o2 : dS) (cells1 slots1 : Nat) (H1 : Heap) (locs1 : List Loc), lw_J o o2 (i + 1) cells1 slots1 → ad1 0 = ad 0 → va_P D vwCl (wF ty ad1 o ++ w10 ty am o2) H1 → va_D A (wF ty ad1 o ++ w10 ty am o2) → va_S A s.heap H1 locs1 → W p l e room_1 s m #[Value.ref b] below meth c H1 locs1 cells1 slots1 (lw_Z below #[Value.ref b] s) (F0 m 1071 ls [])) : W p l e room_1 s m #[Value.ref b] below meth c H locs cells slots (lw_Z below #[Value.ref b] s) (F0 m 523 ls []) := by
  obtain ⟨hx, hb, hr, hml, hown0, hts0, hX, hbl, hlocks, hgv⟩ := C0
  have hown : s.vm.findClass RL = some m.cls := hown0
  have hts : ∀ w ∈ lw_tbl, w.before #[Value.ref b] s = true := hts0
  have hbA : ¬ A b := fun h => absurd (hB b h) (Nat.not_le.mpr hbl)
  refine lv_aload_n hx hb dL_law_523 rfl (lv_at hl 2 rfl) ?_
  refine lv_aload_n hx hb dL_law_524 rfl (lv_at hl 3 rfl) ?_
  refine lv_iload_n hx hb dL_law_525 rfl (lv_at hl 0 rfl) ?_
  refine lv_iconst (v := 1) hx hb dL_law_526 (by decide) ?_
  refine lv_iadd hx hb dL_law_527 ?_
  refine va_sld hx hb hX hbl hbA hS hin.1 dL_law_528 ?_
  refine lv_topi (fun a1 ea1 => ?_)
  obtain ⟨r, o, hz, X, ht⟩ := lx_turn q a1 J.1
  refine sp_ki (va_runV (As := [.int a1]) (rest := []) ⟨hx, hb, hml, hown, hts⟩ (qX9_turn_s0 l D ty eo _ ad q a1 r o hz) (cwV 1 hts gL_law_X9_turn rfl rfl rfl hd_X9_turn_v ⟨Nat.le_of_ble_eq_true rfl, Nat.le_of_ble_eq_true rfl⟩) (spv_9 hK hN hE hP hD hS hA) rfl rfl hl.1 rfl (lv_room (Nat.le_of_ble_eq_true rfl)) dL_law_529 (lw_room J X hi)) hP hD hS hA (fun r9 u H locs hw hP hD hS => ?_)
  obtain ⟨rfl, rfl⟩ := hw
  refine lv_pop hx hb dL_law_532 rfl ?_
  refine lv_aload_n hx hb dL_law_533 rfl (lv_at hl 1 rfl) ?_
  refine lv_aload_n hx hb dL_law_534 rfl (lv_at hl 3 rfl) ?_
  refine lv_iload_n hx hb dL_law_535 rfl (lv_at hl 0 rfl) ?_
  refine lv_iconst (v := 1) hx hb dL_law_536 (by decide) ?_
  refine lv_iadd hx hb dL_law_537 ?_
  refine va_sld hx hb hX hbl hbA hS hin.1 dL_law_538 ?_
  refine kz_topi a1 ea1.symm ?_
  obtain ⟨r2, o2, hz2, h2, ht2⟩ := lm_turn q2 a1 J.2.1
  refine sp_ki (va_runV (As := [.int a1]) (rest := []) ⟨hx, hb, hml, hown, hts⟩ (qX10_turn l D ty eo _ am q2 a1 r2 o2 hz2) (cwV 1 hts gL_law_X10_turn rfl rfl rfl hd_X10_turn_v ⟨Nat.le_of_ble_eq_true rfl, Nat.le_of_ble_eq_true rfl⟩) (spv_10 hK hN hE hP hD hS hA) rfl rfl hl.1 rfl (lv_room (Nat.le_of_ble_eq_true rfl)) dL_law_539 (lw_room J X hi)) hP hD hS hA (fun r9 u H locs hw hP hD hS => ?_)
  obtain ⟨rfl, rfl⟩ := hw
  refine lv_pop hx hb dL_law_542 rfl ?_
  have jg9 := rgf_turn J.1 J.2.1 J.2.2.1.2.2 a1 hz hz2
  have jg : RG o o2 := jg9.2
  have ja : r = r2 := jg9.1
  refine lv_goto (tgt := 1071) hx hb dL_law_543 (by decide) ?_
  exact next ad o o2 _ _ H locs (lw_step J X h2 (by have j := J.2.2.1; unfold lw_R at j ⊢; have jt := j.1; have jn := ltY_len jt; exact ⟨ltY_end jt ht.2 ht2.2 (by omega) (by omega) (by omega), by omega, jg⟩)) (rfl) hP hD hS

set_option maxHeartbeats 4000000 in
set_option maxRecDepth 100000 in
theorem lc_14 {p : Program} {e : Env} {s : State} {m : MethodId} {below : List Frame} {meth : Method} {c : Code} (l : Launch) {b L : Nat} {xs : Nat → Int32} (C0 : lw_At p s m meth c b L xs) {D : va_G} {ty : Nat → ClassId} {eo : Nat → Nat} {A : Nat → Prop} (hA : ∀ q : Nat, s.heap.size ≤ q → A q) (hB : ∀ q : Nat, A q → s.heap.size ≤ q) (hK : va_K D vwCl (kzT ty) s) (hN : kz_N s) (hE : kz_E eo A s s.heap) {i : Nat} {i6 : Int32} (hi : i ≤ 63) (hin : vp_in (i6 + 1) L ∧ vp_in (i6 + 2) L ∧ vp_in (i6 + 3) L ∧ vp_in (i6 + 4) L ∧ vp_in (i6 + 5) L) {ad am : Nat → Nat} {q : dK} {q2 : dS} {cells slots : Nat} (J : lw_J q q2 i cells slots) {H : Heap} {locs : List Loc} (hP : va_P D vwCl (wF ty ad q ++ w10 ty am q2) H) (hD : va_D A (wF ty ad q ++ w10 ty am q2)) (hS : va_S A s.heap H locs) {ls : Array Slot} (hl : lv_has ls 4 [(3, .int i6), (2, .ref (am 0)), (1, .ref (ad 0)), (0, .ref b)]) (next : ∀ (ad1 : Nat → Nat) (o : dK) (o2 : dS) (cells1 slots1 : Nat) (H1 : Heap) (locs1 : List Loc), lw_J o o2 (i + 1) cells1 slots1 → ad1 0 = ad 0 → va_P D vwCl (wF ty ad1 o ++ w10 ty am o2) H1 → va_D A (wF ty ad1 o ++ w10 ty am o2) → va_S A s.heap H1 locs1 → W p l e room_1 s m #[Value.ref b] below meth c H1 locs1 cells1 slots1 (lw_Z below #[Value.ref b] s) (F0 m 1071 ls [])) : W p l e room_1 s m #[Value.ref b] below meth c H locs cells slots (lw_Z below #[Value.ref b] s) (F0 m 546 ls []) := by
  obtain ⟨hx, hb, hr, hml, hown0, hts0, hX, hbl, hlocks, hgv⟩ := C0
  have hown : s.vm.findClass RL = some m.cls := hown0
  have hts : ∀ w ∈ lw_tbl, w.before #[Value.ref b] s = true := hts0
  have hbA : ¬ A b := fun h => absurd (hB b h) (Nat.not_le.mpr hbl)
  refine lv_aload_n hx hb dL_law_546 rfl (lv_at hl 2 rfl) ?_
  refine lv_aload_n hx hb dL_law_547 rfl (lv_at hl 3 rfl) ?_
  refine lv_iload_n hx hb dL_law_548 rfl (lv_at hl 0 rfl) ?_
  refine lv_iconst (v := 1) hx hb dL_law_549 (by decide) ?_
  refine lv_iadd hx hb dL_law_550 ?_
  refine va_sld hx hb hX hbl hbA hS hin.1 dL_law_551 ?_
  refine lv_topi (fun a1 ea1 => ?_)
  obtain ⟨r, o, hz, X, ht⟩ := lx_right q a1 J.1
  refine sp_ki (va_runV (As := [.int a1]) (rest := []) ⟨hx, hb, hml, hown, hts⟩ (qX9_right_s0 l D ty eo _ ad q a1 r o hz) (cwV 1 hts gL_law_X9_right rfl rfl rfl hd_X9_right_v ⟨Nat.le_of_ble_eq_true rfl, Nat.le_of_ble_eq_true rfl⟩) (spv_9 hK hN hE hP hD hS hA) rfl rfl hl.1 rfl (lv_room (Nat.le_of_ble_eq_true rfl)) dL_law_552 (lw_room J X hi)) hP hD hS hA (fun r9 u H locs hw hP hD hS => ?_)
  obtain ⟨rfl, rfl⟩ := hw
  refine lv_aload_n hx hb dL_law_555 rfl (lv_at hl 1 rfl) ?_
  refine lv_aload_n hx hb dL_law_556 rfl (lv_at hl 3 rfl) ?_
  refine lv_iload_n hx hb dL_law_557 rfl (lv_at hl 0 rfl) ?_
  refine lv_iconst (v := 1) hx hb dL_law_558 (by decide) ?_
  refine lv_iadd hx hb dL_law_559 ?_
  refine va_sld hx hb hX hbl hbA hS hin.1 dL_law_560 ?_
  refine kz_topi a1 ea1.symm ?_
  obtain ⟨r2, o2, hz2, h2, ht2⟩ := lm_right q2 a1 J.2.1
  refine sp_ki (va_runV (As := [.int a1]) (rest := [.int r]) ⟨hx, hb, hml, hown, hts⟩ (qX10_right l D ty eo _ am q2 a1 r2 o2 hz2) (cwV 1 hts gL_law_X10_right rfl rfl rfl hd_X10_right_v ⟨Nat.le_of_ble_eq_true rfl, Nat.le_of_ble_eq_true rfl⟩) (spv_10 hK hN hE hP hD hS hA) rfl rfl hl.1 rfl (lv_room (Nat.le_of_ble_eq_true rfl)) dL_law_561 (lw_room J X hi)) hP hD hS hA (fun r9 u H locs hw hP hD hS => ?_)
  obtain ⟨rfl, rfl⟩ := hw
  have jg9 := rgf_right J.1 J.2.1 J.2.2.1.2.2 a1 hz hz2
  have jg : RG o o2 := jg9.2
  have ja : r = r2 := jg9.1
  have er : r = r2 := ja
  refine lv_icmp_eq (tgt := 1071) hx hb dL_law_564 (by decide) (fun _ => ?_) (fun h => absurd er h)
  exact next ad o o2 _ _ H locs (lw_step J X h2 (by have j := J.2.2.1; unfold lw_R at j ⊢; have jt := j.1; have jn := ltY_len jt; exact ⟨ltY_end jt ht.2 ht2.2 (by omega) (by omega) (by omega), by omega, jg⟩)) (rfl) hP hD hS

set_option maxHeartbeats 4000000 in
set_option maxRecDepth 100000 in
theorem lc_15 {p : Program} {e : Env} {s : State} {m : MethodId} {below : List Frame} {meth : Method} {c : Code} (l : Launch) {b L : Nat} {xs : Nat → Int32} (C0 : lw_At p s m meth c b L xs) {D : va_G} {ty : Nat → ClassId} {eo : Nat → Nat} {A : Nat → Prop} (hA : ∀ q : Nat, s.heap.size ≤ q → A q) (hB : ∀ q : Nat, A q → s.heap.size ≤ q) (hK : va_K D vwCl (kzT ty) s) (hN : kz_N s) (hE : kz_E eo A s s.heap) {i : Nat} {i6 : Int32} (hi : i ≤ 63) (hin : vp_in (i6 + 1) L ∧ vp_in (i6 + 2) L ∧ vp_in (i6 + 3) L ∧ vp_in (i6 + 4) L ∧ vp_in (i6 + 5) L) {ad am : Nat → Nat} {q : dK} {q2 : dS} {cells slots : Nat} (J : lw_J q q2 i cells slots) {H : Heap} {locs : List Loc} (hP : va_P D vwCl (wF ty ad q ++ w10 ty am q2) H) (hD : va_D A (wF ty ad q ++ w10 ty am q2)) (hS : va_S A s.heap H locs) {ls : Array Slot} (hl : lv_has ls 4 [(3, .int i6), (2, .ref (am 0)), (1, .ref (ad 0)), (0, .ref b)]) (next : ∀ (ad1 : Nat → Nat) (o : dK) (o2 : dS) (cells1 slots1 : Nat) (H1 : Heap) (locs1 : List Loc), lw_J o o2 (i + 1) cells1 slots1 → ad1 0 = ad 0 → va_P D vwCl (wF ty ad1 o ++ w10 ty am o2) H1 → va_D A (wF ty ad1 o ++ w10 ty am o2) → va_S A s.heap H1 locs1 → W p l e room_1 s m #[Value.ref b] below meth c H1 locs1 cells1 slots1 (lw_Z below #[Value.ref b] s) (F0 m 1071 ls [])) : W p l e room_1 s m #[Value.ref b] below meth c H locs cells slots (lw_Z below #[Value.ref b] s) (F0 m 569 ls []) := by
  obtain ⟨hx, hb, hr, hml, hown0, hts0, hX, hbl, hlocks, hgv⟩ := C0
  have hown : s.vm.findClass RL = some m.cls := hown0
  have hts : ∀ w ∈ lw_tbl, w.before #[Value.ref b] s = true := hts0
  have hbA : ¬ A b := fun h => absurd (hB b h) (Nat.not_le.mpr hbl)
  refine lv_aload_n hx hb dL_law_569 rfl (lv_at hl 2 rfl) ?_
  refine lv_aload_n hx hb dL_law_570 rfl (lv_at hl 3 rfl) ?_
  refine lv_iload_n hx hb dL_law_571 rfl (lv_at hl 0 rfl) ?_
  refine lv_iconst (v := 1) hx hb dL_law_572 (by decide) ?_
  refine lv_iadd hx hb dL_law_573 ?_
  refine va_sld hx hb hX hbl hbA hS hin.1 dL_law_574 ?_
  refine lv_topi (fun a1 ea1 => ?_)
  obtain ⟨r, o, hz, X, ht⟩ := lx_swap q a1 J.1
  refine sp_ki (va_runV (As := [.int a1]) (rest := []) ⟨hx, hb, hml, hown, hts⟩ (qX9_swap_s0 l D ty eo _ ad q a1 r o hz) (cwV 1 hts gL_law_X9_swap rfl rfl rfl hd_X9_swap_v ⟨Nat.le_of_ble_eq_true rfl, Nat.le_of_ble_eq_true rfl⟩) (spv_9 hK hN hE hP hD hS hA) rfl rfl hl.1 rfl (lv_room (Nat.le_of_ble_eq_true rfl)) dL_law_575 (lw_room J X hi)) hP hD hS hA (fun r9 u H locs hw hP hD hS => ?_)
  obtain ⟨rfl, rfl⟩ := hw
  refine lv_pop hx hb dL_law_578 rfl ?_
  refine lv_aload_n hx hb dL_law_579 rfl (lv_at hl 1 rfl) ?_
  refine lv_aload_n hx hb dL_law_580 rfl (lv_at hl 3 rfl) ?_
  refine lv_iload_n hx hb dL_law_581 rfl (lv_at hl 0 rfl) ?_
  refine lv_iconst (v := 1) hx hb dL_law_582 (by decide) ?_
  refine lv_iadd hx hb dL_law_583 ?_
  refine va_sld hx hb hX hbl hbA hS hin.1 dL_law_584 ?_
  refine kz_topi a1 ea1.symm ?_
  obtain ⟨r2, o2, hz2, h2, ht2⟩ := lm_swap q2 a1 J.2.1
  refine sp_ki (va_runV (As := [.int a1]) (rest := []) ⟨hx, hb, hml, hown, hts⟩ (qX10_swap l D ty eo _ am q2 a1 r2 o2 hz2) (cwV 1 hts gL_law_X10_swap rfl rfl rfl hd_X10_swap_v ⟨Nat.le_of_ble_eq_true rfl, Nat.le_of_ble_eq_true rfl⟩) (spv_10 hK hN hE hP hD hS hA) rfl rfl hl.1 rfl (lv_room (Nat.le_of_ble_eq_true rfl)) dL_law_585 (lw_room J X hi)) hP hD hS hA (fun r9 u H locs hw hP hD hS => ?_)
  obtain ⟨rfl, rfl⟩ := hw
  refine lv_pop hx hb dL_law_588 rfl ?_
  have jg9 := rgf_swap J.1 J.2.1 J.2.2.1.2.2 a1 hz hz2
  have jg : RG o o2 := jg9.2
  have ja : r = r2 := jg9.1
  refine lv_goto (tgt := 1071) hx hb dL_law_589 (by decide) ?_
  exact next ad o o2 _ _ H locs (lw_step J X h2 (by have j := J.2.2.1; unfold lw_R at j ⊢; have jt := j.1; have jn := ltY_len jt; exact ⟨ltY_end jt ht.2 ht2.2 (by omega) (by omega) (by omega), by omega, jg⟩)) (rfl) hP hD hS
