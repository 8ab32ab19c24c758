set_option maxHeartbeats 4000000 in
set_option maxRecDepth 100000 in
theorem lc_16 {p : Program} {e : Env} {s : State} {m : MethodId} {below : List Frame} {meth : Method} {c : Code} (l : Launch) {b L : Nat} {xs : Nat → Int32} (C0 : lw_At p s m meth c b L xs) {D : va_G} {ty : Nat → ClassId} {eo : Nat → Nat} {A : Nat → Prop} (hA : ∀ q : Nat, s.heap.size ≤ q → A q) (hB : ∀ q : Nat, A q → s.heap.size ≤ q) (hK : va_K D vwCl (kzT ty) s) (hN : kz_N s) (hE : kz_E eo A s s.heap) {i : Nat} {i6 : Int32} (hi : i ≤ 63) (hin : vp_in (i6 + 1) L ∧ vp_in (i6 + 2) L ∧ vp_in (i6 + 3) L ∧ vp_in (i6 + 4) L ∧ vp_in (i6 + 5) L) {ad am : Nat → Nat} {q : dK} {q2 : dS} {cells slots : Nat} (J : lw_J q q2 i cells slots) {H : Heap} {locs : List Loc} (hP : va_P D vwCl (wF ty ad q ++ w10 ty am q2) H) (hD : va_D A (wF ty ad q ++ w10 ty am q2)) (hS : va_S A s.heap H locs) {ls : Array Slot} (hl : lv_has ls 4 [(3, .int i6), (2, .ref (am 0)), (1, .ref (ad 0)), (0, .ref b)]) (next : ∀ (ad1 : Nat → Nat) (o : dK) (o2 : dS) (cells1 slots1 : Nat) (H1 : Heap) (locs1 : List Loc), lw_J o o2 (i + 1) cells1 slots1 → ad1 0 = ad 0 → va_P D vwCl (wF ty ad1 o ++ w10 ty am o2) H1 → va_D A (wF ty ad1 o ++ w10 ty am o2) → va_S A s.heap H1 locs1 → W p l e room_1 s m #[Value.ref b] below meth c H1 locs1 cells1 slots1 (lw_Z below #[Value.ref b] s) (F0 m 1071 ls [])) : W p l e room_1 s m #[Value.ref b] below meth c H locs cells slots (lw_Z below #[Value.ref b] s) (F0 m 592 ls []) := by
  obtain ⟨hx, hb, hr, hml, hown0, hts0, hX, hbl, hlocks, hgv⟩ := C0
  have hown : s.vm.findClass RL = some m.cls := hown0
  have hts : ∀ w ∈ lw_tbl, w.before #[Value.ref b] s = true := hts0
  have hbA : ¬ A b := fun h => absurd (hB b h) (Nat.not_le.mpr hbl)
  refine lv_aload_n hx hb dL_law_592 rfl (lv_at hl 2 rfl) ?_
  obtain ⟨r, o, hz, X, ht⟩ := lx_pass q J.1
  refine sp_ki (va_runV (As := []) (rest := []) ⟨hx, hb, hml, hown, hts⟩ (qX9_pass_s0 l D ty eo _ ad q r o hz) (cwV 0 hts gL_law_X9_pass rfl rfl rfl hd_X9_pass_v ⟨Nat.le_of_ble_eq_true rfl, Nat.le_of_ble_eq_true rfl⟩) (spv_9 hK hN hE hP hD hS hA) rfl rfl hl.1 rfl (lv_room (Nat.le_of_ble_eq_true rfl)) dL_law_593 (lw_room J X hi)) hP hD hS hA (fun r9 u H locs hw hP hD hS => ?_)
  obtain ⟨rfl, rfl⟩ := hw
  refine lv_pop hx hb dL_law_596 rfl ?_
  refine lv_aload_n hx hb dL_law_597 rfl (lv_at hl 1 rfl) ?_
  obtain ⟨r2, o2, hz2, h2, ht2⟩ := lm_pass q2 J.2.1
  refine sp_ki (va_runV (As := []) (rest := []) ⟨hx, hb, hml, hown, hts⟩ (qX10_pass l D ty eo _ am q2 r2 o2 hz2) (cwV 0 hts gL_law_X10_pass rfl rfl rfl hd_X10_pass_v ⟨Nat.le_of_ble_eq_true rfl, Nat.le_of_ble_eq_true rfl⟩) (spv_10 hK hN hE hP hD hS hA) rfl rfl hl.1 rfl (lv_room (Nat.le_of_ble_eq_true rfl)) dL_law_598 (lw_room J X hi)) hP hD hS hA (fun r9 u H locs hw hP hD hS => ?_)
  obtain ⟨rfl, rfl⟩ := hw
  refine lv_pop hx hb dL_law_601 rfl ?_
  have jg9 := rgf_pass J.1 J.2.1 J.2.2.1.2.2 hz hz2
  have jg : RG o o2 := jg9.2
  have ja : r = r2 := jg9.1
  refine lv_goto (tgt := 1071) hx hb dL_law_602 (by decide) ?_
  exact next ad o o2 _ _ H locs (lw_step J X h2 (by have j := J.2.2.1; unfold lw_R at j ⊢; have jt := j.1; have jn := ltY_len jt; exact ⟨ltY_end jt ht.2 ht2.2 (by omega) (by omega) (by omega), by omega, jg⟩)) (rfl) hP hD hS

set_option maxHeartbeats 4000000 in
set_option maxRecDepth 100000 in
theorem lc_17 {p : Program} {e : Env} {s : State} {m : MethodId} {below : List Frame} {meth : Method} {c : Code} (l : Launch) {b L : Nat} {xs : Nat → Int32} (C0 : lw_At p s m meth c b L xs) {D : va_G} {ty : Nat → ClassId} {eo : Nat → Nat} {A : Nat → Prop} (hA : ∀ q : Nat, s.heap.size ≤ q → A q) (hB : ∀ q : Nat, A q → s.heap.size ≤ q) (hK : va_K D vwCl (kzT ty) s) (hN : kz_N s) (hE : kz_E eo A s s.heap) {i : Nat} {i6 : Int32} (hi : i ≤ 63) (hin : vp_in (i6 + 1) L ∧ vp_in (i6 + 2) L ∧ vp_in (i6 + 3) L ∧ vp_in (i6 + 4) L ∧ vp_in (i6 + 5) L) {ad am : Nat → Nat} {q : dK} {q2 : dS} {cells slots : Nat} (J : lw_J q q2 i cells slots) {H : Heap} {locs : List Loc} (hP : va_P D vwCl (wF ty ad q ++ w10 ty am q2) H) (hD : va_D A (wF ty ad q ++ w10 ty am q2)) (hS : va_S A s.heap H locs) {ls : Array Slot} (hl : lv_has ls 4 [(3, .int i6), (2, .ref (am 0)), (1, .ref (ad 0)), (0, .ref b)]) (next : ∀ (ad1 : Nat → Nat) (o : dK) (o2 : dS) (cells1 slots1 : Nat) (H1 : Heap) (locs1 : List Loc), lw_J o o2 (i + 1) cells1 slots1 → ad1 0 = ad 0 → va_P D vwCl (wF ty ad1 o ++ w10 ty am o2) H1 → va_D A (wF ty ad1 o ++ w10 ty am o2) → va_S A s.heap H1 locs1 → W p l e room_1 s m #[Value.ref b] below meth c H1 locs1 cells1 slots1 (lw_Z below #[Value.ref b] s) (F0 m 1071 ls [])) : W p l e room_1 s m #[Value.ref b] below meth c H locs cells slots (lw_Z below #[Value.ref b] s) (F0 m 605 ls []) := by
  obtain ⟨hx, hb, hr, hml, hown0, hts0, hX, hbl, hlocks, hgv⟩ := C0
  have hown : s.vm.findClass RL = some m.cls := hown0
  have hts : ∀ w ∈ lw_tbl, w.before #[Value.ref b] s = true := hts0
  have hbA : ¬ A b := fun h => absurd (hB b h) (Nat.not_le.mpr hbl)
  refine lv_aload_n hx hb dL_law_605 rfl (lv_at hl 2 rfl) ?_
  obtain ⟨r, o, hz, X, ht⟩ := lx_undo q J.1
  refine sp_ki (va_runV (As := []) (rest := []) ⟨hx, hb, hml, hown, hts⟩ (qX9_undo_s0 l D ty eo _ ad q r o hz) (cwV 0 hts gL_law_X9_undo rfl rfl rfl hd_X9_undo_v ⟨Nat.le_of_ble_eq_true rfl, Nat.le_of_ble_eq_true rfl⟩) (spv_9 hK hN hE hP hD hS hA) rfl rfl hl.1 rfl (lv_room (Nat.le_of_ble_eq_true rfl)) dL_law_606 (lw_room J X hi)) hP hD hS hA (fun r9 u H locs hw hP hD hS => ?_)
  obtain ⟨rfl, rfl⟩ := hw
  refine lv_pop hx hb dL_law_609 rfl ?_
  refine lv_aload_n hx hb dL_law_610 rfl (lv_at hl 1 rfl) ?_
  obtain ⟨r2, o2, hz2, h2, ht2⟩ := lm_undo q2 J.2.1
  refine sp_ki (va_runV (As := []) (rest := []) ⟨hx, hb, hml, hown, hts⟩ (qX10_undo l D ty eo _ am q2 r2 o2 hz2) (cwV 0 hts gL_law_X10_undo rfl rfl rfl hd_X10_undo_v ⟨Nat.le_of_ble_eq_true rfl, Nat.le_of_ble_eq_true rfl⟩) (spv_10 hK hN hE hP hD hS hA) rfl rfl hl.1 rfl (lv_room (Nat.le_of_ble_eq_true rfl)) dL_law_611 (lw_room J X hi)) hP hD hS hA (fun r9 u H locs hw hP hD hS => ?_)
  obtain ⟨rfl, rfl⟩ := hw
  refine lv_pop hx hb dL_law_614 rfl ?_
  have jg9 := rgf_undo J.1 J.2.1 J.2.2.1.2.2 hz hz2
  have jg : RG o o2 := jg9.2
  have ja : r = r2 := jg9.1
  refine lv_goto (tgt := 1071) hx hb dL_law_615 (by decide) ?_
  exact next ad o o2 _ _ H locs (lw_step J X h2 (by have j := J.2.2.1; unfold lw_R at j ⊢; have jt := j.1; have jn := ltY_len jt; exact ⟨ltY_end jt ht.2 ht2.2 (by omega) (by omega) (by omega), by omega, jg⟩)) (rfl) hP hD hS

set_option maxHeartbeats 4000000 in
set_option maxRecDepth 100000 in
theorem lc_18 {p : Program} {e : Env} {s : State} {m : MethodId} {below : List Frame} {meth : Method} {c : Code} (l : Launch) {b L : Nat} {xs : Nat → Int32} (C0 : lw_At p s m meth c b L xs) {D : va_G} {ty : Nat → ClassId} {eo : Nat → Nat} {A : Nat → Prop} (hA : ∀ q : Nat, s.heap.size ≤ q → A q) (hB : ∀ q : Nat, A q → s.heap.size ≤ q) (hK : va_K D vwCl (kzT ty) s) (hN : kz_N s) (hE : kz_E eo A s s.heap) {i : Nat} {i6 : Int32} (hi : i ≤ 63) (hin : vp_in (i6 + 1) L ∧ vp_in (i6 + 2) L ∧ vp_in (i6 + 3) L ∧ vp_in (i6 + 4) L ∧ vp_in (i6 + 5) L) {ad am : Nat → Nat} {q : dK} {q2 : dS} {cells slots : Nat} (J : lw_J q q2 i cells slots) {H : Heap} {locs : List Loc} (hP : va_P D vwCl (wF ty ad q ++ w10 ty am q2) H) (hD : va_D A (wF ty ad q ++ w10 ty am q2)) (hS : va_S A s.heap H locs) {ls : Array Slot} (hl : lv_has ls 4 [(3, .int i6), (2, .ref (am 0)), (1, .ref (ad 0)), (0, .ref b)]) (next : ∀ (ad1 : Nat → Nat) (o : dK) (o2 : dS) (cells1 slots1 : Nat) (H1 : Heap) (locs1 : List Loc), lw_J o o2 (i + 1) cells1 slots1 → ad1 0 = ad 0 → va_P D vwCl (wF ty ad1 o ++ w10 ty am o2) H1 → va_D A (wF ty ad1 o ++ w10 ty am o2) → va_S A s.heap H1 locs1 → W p l e room_1 s m #[Value.ref b] below meth c H1 locs1 cells1 slots1 (lw_Z below #[Value.ref b] s) (F0 m 1071 ls [])) : W p l e room_1 s m #[Value.ref b] below meth c H locs cells slots (lw_Z below #[Value.ref b] s) (F0 m 618 ls []) := by
  obtain ⟨hx, hb, hr, hml, hown0, hts0, hX, hbl, hlocks, hgv⟩ := C0
  have hown : s.vm.findClass RL = some m.cls := hown0
  have hts : ∀ w ∈ lw_tbl, w.before #[Value.ref b] s = true := hts0
  have hbA : ¬ A b := fun h => absurd (hB b h) (Nat.not_le.mpr hbl)
  refine lv_aload_n hx hb dL_law_618 rfl (lv_at hl 2 rfl) ?_
  refine lv_aload_n hx hb dL_law_619 rfl (lv_at hl 3 rfl) ?_
  refine lv_iload_n hx hb dL_law_620 rfl (lv_at hl 0 rfl) ?_
  refine lv_iconst (v := 1) hx hb dL_law_621 (by decide) ?_
  refine lv_iadd hx hb dL_law_622 ?_
  refine va_sld hx hb hX hbl hbA hS hin.1 dL_law_623 ?_
  refine lv_topi (fun a1 ea1 => ?_)
  obtain ⟨mc, ms, r, o, hz, X, ht⟩ := lx_fewest q a1 J.1
  refine sp_ki (va_runV (As := [.int a1]) (rest := []) ⟨hx, hb, hml, hown, hts⟩ (qX9_fewest_s0 l D ty eo _ ad mc ms q a1 r o hz) (cwV 1 hts gL_law_X9_fewest rfl rfl rfl hd_X9_fewest_v ⟨Nat.le_of_ble_eq_true rfl, Nat.le_of_ble_eq_true rfl⟩) (spv_9 hK hN hE hP hD hS hA) rfl rfl hl.1 rfl (lv_room (Nat.le_of_ble_eq_true rfl)) dL_law_624 (lw_room J X hi)) hP hD hS hA (fun r9 u H locs hw hP hD hS => ?_)
  obtain ⟨rfl, ad9, hg, rfl⟩ := hw
  refine lv_pop hx hb dL_law_627 rfl ?_
  refine lv_aload_n hx hb dL_law_628 rfl (lv_at hl 1 rfl) ?_
  refine lv_aload_n hx hb dL_law_629 rfl (lv_at hl 3 rfl) ?_
  refine lv_iload_n hx hb dL_law_630 rfl (lv_at hl 0 rfl) ?_
  refine lv_iconst (v := 1) hx hb dL_law_631 (by decide) ?_
  refine lv_iadd hx hb dL_law_632 ?_
  refine va_sld hx hb hX hbl hbA hS hin.1 dL_law_633 ?_
  refine kz_topi a1 ea1.symm ?_
  obtain ⟨r2, o2, hz2, h2, ht2⟩ := lm_fewest q2 a1 J.2.1
  refine sp_ki (va_runV (As := [.int a1]) (rest := []) ⟨hx, hb, hml, hown, hts⟩ (qX10_fewest l D ty eo _ am q2 a1 r2 o2 hz2) (cwV 1 hts gL_law_X10_fewest rfl rfl rfl hd_X10_fewest_v ⟨Nat.le_of_ble_eq_true rfl, Nat.le_of_ble_eq_true rfl⟩) (spv_10 hK hN hE hP hD hS hA) rfl rfl hl.1 rfl (lv_room (Nat.le_of_ble_eq_true rfl)) dL_law_634 (lw_room (mc := mc) (ms := ms) J X hi)) hP hD hS hA (fun r9 u H locs hw hP hD hS => ?_)
  obtain ⟨rfl, rfl⟩ := hw
  refine lv_pop hx hb dL_law_637 rfl ?_
  have jg : RG o o2 := rg_fewest J.2.1 J.2.2.1.2.2 a1 ht.2.1 hz2
  refine lv_goto (tgt := 1071) hx hb dL_law_638 (by decide) ?_
  exact next ad9 o o2 _ _ H locs (lw_step J X h2 (by have j := J.2.2.1; unfold lw_R at j ⊢; have jt := j.1; have jn := ltY_len jt; exact ⟨ltY_end jt ht.2.2 ht2.2 (by omega) (by omega) (by omega), by omega, jg⟩)) (hg 0 (Or.inl (by decide))) hP hD hS

set_option maxHeartbeats 4000000 in
set_option maxRecDepth 100000 in
theorem lc_19 {p : Program} {e : Env} {s : State} {m : MethodId} {below : List Frame} {meth : Method} {c : Code} (l : Launch) {b L : Nat} {xs : Nat → Int32} (C0 : lw_At p s m meth c b L xs) {D : va_G} {ty : Nat → ClassId} {eo : Nat → Nat} {A : Nat → Prop} (hA : ∀ q : Nat, s.heap.size ≤ q → A q) (hB : ∀ q : Nat, A q → s.heap.size ≤ q) (hK : va_K D vwCl (kzT ty) s) (hN : kz_N s) (hE : kz_E eo A s s.heap) {i : Nat} {i6 : Int32} (hi : i ≤ 63) (hin : vp_in (i6 + 1) L ∧ vp_in (i6 + 2) L ∧ vp_in (i6 + 3) L ∧ vp_in (i6 + 4) L ∧ vp_in (i6 + 5) L) {ad am : Nat → Nat} {q : dK} {q2 : dS} {cells slots : Nat} (J : lw_J q q2 i cells slots) {H : Heap} {locs : List Loc} (hP : va_P D vwCl (wF ty ad q ++ w10 ty am q2) H) (hD : va_D A (wF ty ad q ++ w10 ty am q2)) (hS : va_S A s.heap H locs) {ls : Array Slot} (hl : lv_has ls 4 [(3, .int i6), (2, .ref (am 0)), (1, .ref (ad 0)), (0, .ref b)]) (next : ∀ (ad1 : Nat → Nat) (o : dK) (o2 : dS) (cells1 slots1 : Nat) (H1 : Heap) (locs1 : List Loc), lw_J o o2 (i + 1) cells1 slots1 → ad1 0 = ad 0 → va_P D vwCl (wF ty ad1 o ++ w10 ty am o2) H1 → va_D A (wF ty ad1 o ++ w10 ty am o2) → va_S A s.heap H1 locs1 → W p l e room_1 s m #[Value.ref b] below meth c H1 locs1 cells1 slots1 (lw_Z below #[Value.ref b] s) (F0 m 1071 ls [])) : W p l e room_1 s m #[Value.ref b] below meth c H locs cells slots (lw_Z below #[Value.ref b] s) (F0 m 641 ls []) := by
  obtain ⟨hx, hb, hr, hml, hown0, hts0, hX, hbl, hlocks, hgv⟩ := C0
  have hown : s.vm.findClass RL = some m.cls := hown0
  have hts : ∀ w ∈ lw_tbl, w.before #[Value.ref b] s = true := hts0
  have hbA : ¬ A b := fun h => absurd (hB b h) (Nat.not_le.mpr hbl)
  refine lv_aload_n hx hb dL_law_641 rfl (lv_at hl 2 rfl) ?_
  obtain ⟨mc, ms, r, o, hz, X, ht⟩ := lx_many q J.1
  refine sp_ki (va_runV (As := []) (rest := []) ⟨hx, hb, hml, hown, hts⟩ (qX9_many_s0 l D ty eo _ ad mc ms q r o hz) (cwV 0 hts gL_law_X9_many rfl rfl rfl hd_X9_many_v ⟨Nat.le_of_ble_eq_true rfl, Nat.le_of_ble_eq_true rfl⟩) (spv_9 hK hN hE hP hD hS hA) rfl rfl hl.1 rfl (lv_room (Nat.le_of_ble_eq_true rfl)) dL_law_642 (lw_room J X hi)) hP hD hS hA (fun r9 u H locs hw hP hD hS => ?_)
  obtain ⟨rfl, ad9, hg, rfl⟩ := hw
  refine lv_pop hx hb dL_law_645 rfl ?_
  refine lv_aload_n hx hb dL_law_646 rfl (lv_at hl 1 rfl) ?_
  obtain ⟨r2, o2, hz2, h2, ht2⟩ := lm_many q2 J.2.1
  refine sp_ki (va_runV (As := []) (rest := []) ⟨hx, hb, hml, hown, hts⟩ (qX10_many l D ty eo _ am q2 r2 o2 hz2) (cwV 0 hts gL_law_X10_many rfl rfl rfl hd_X10_many_v ⟨Nat.le_of_ble_eq_true rfl, Nat.le_of_ble_eq_true rfl⟩) (spv_10 hK hN hE hP hD hS hA) rfl rfl hl.1 rfl (lv_room (Nat.le_of_ble_eq_true rfl)) dL_law_647 (lw_room (mc := mc) (ms := ms) J X hi)) hP hD hS hA (fun r9 u H locs hw hP hD hS => ?_)
  obtain ⟨rfl, rfl⟩ := hw
  refine lv_pop hx hb dL_law_650 rfl ?_
  have jg : RG o o2 := rg_many J.2.1 J.2.2.1.2.2 ht.2.1 hz2
  refine lv_goto (tgt := 1071) hx hb dL_law_651 (by decide) ?_
  exact next ad9 o o2 _ _ H locs (lw_step J X h2 (by have j := J.2.2.1; unfold lw_R at j ⊢; have jt := j.1; have jn := ltY_len jt; exact ⟨ltY_end jt ht.2.2 ht2.2 (by omega) (by omega) (by omega), by omega, jg⟩)) (hg 0 (Or.inl (by decide))) hP hD hS

set_option maxHeartbeats 4000000 in
set_option maxRecDepth 100000 in
theorem lc_20 {p : Program} {e : Env} {s : State} {m : MethodId} {below : List Frame} {meth : Method} {c : Code} (l : Launch) {b L : Nat} {xs : Nat → Int32} (C0 : lw_At p s m meth c b L xs) {D : va_G} {ty : Nat → ClassId} {eo : Nat → Nat} {A : Nat → Prop} (hA : ∀ q : Nat, s.heap.size ≤ q → A q) (hB : ∀ q : Nat, A q → s.heap.size ≤ q) (hK : va_K D vwCl (kzT ty) s) (hN : kz_N s) (hE : kz_E eo A s s.heap) {i : Nat} {i6 : Int32} (hi : i ≤ 63) (hin : vp_in (i6 + 1) L ∧ vp_in (i6 + 2) L ∧ vp_in (i6 + 3) L ∧ vp_in (i6 + 4) L ∧ vp_in (i6 + 5) L) {ad am : Nat → Nat} {q : dK} {q2 : dS} {cells slots : Nat} (J : lw_J q q2 i cells slots) {H : Heap} {locs : List Loc} (hP : va_P D vwCl (wF ty ad q ++ w10 ty am q2) H) (hD : va_D A (wF ty ad q ++ w10 ty am q2)) (hS : va_S A s.heap H locs) {ls : Array Slot} (hl : lv_has ls 4 [(3, .int i6), (2, .ref (am 0)), (1, .ref (ad 0)), (0, .ref b)]) (next : ∀ (ad1 : Nat → Nat) (o : dK) (o2 : dS) (cells1 slots1 : Nat) (H1 : Heap) (locs1 : List Loc), lw_J o o2 (i + 1) cells1 slots1 → ad1 0 = ad 0 → va_P D vwCl (wF ty ad1 o ++ w10 ty am o2) H1 → va_D A (wF ty ad1 o ++ w10 ty am o2) → va_S A s.heap H1 locs1 → W p l e room_1 s m #[Value.ref b] below meth c H1 locs1 cells1 slots1 (lw_Z below #[Value.ref b] s) (F0 m 1071 ls [])) : W p l e room_1 s m #[Value.ref b] below meth c H locs cells slots (lw_Z below #[Value.ref b] s) (F0 m 654 ls []) := by
  obtain ⟨hx, hb, hr, hml, hown0, hts0, hX, hbl, hlocks, hgv⟩ := C0
  have hown : s.vm.findClass RL = some m.cls := hown0
  have hts : ∀ w ∈ lw_tbl, w.before #[Value.ref b] s = true := hts0
  have hbA : ¬ A b := fun h => absurd (hB b h) (Nat.not_le.mpr hbl)
  refine lv_aload_n hx hb dL_law_654 rfl (lv_at hl 2 rfl) ?_
  obtain ⟨mc, ms, r, o, hz, X, ht⟩ := lx_cheapest q J.1
  refine sp_ki (va_runV (As := []) (rest := []) ⟨hx, hb, hml, hown, hts⟩ (qX9_cheapest_s0 l D ty eo _ ad mc ms q r o hz) (cwV 0 hts gL_law_X9_cheapest rfl rfl rfl hd_X9_cheapest_v ⟨Nat.le_of_ble_eq_true rfl, Nat.le_of_ble_eq_true rfl⟩) (spv_9 hK hN hE hP hD hS hA) rfl rfl hl.1 rfl (lv_room (Nat.le_of_ble_eq_true rfl)) dL_law_655 (lw_room J X hi)) hP hD hS hA (fun r9 u H locs hw hP hD hS => ?_)
  obtain ⟨rfl, ad9, hg, rfl⟩ := hw
  refine lv_pop hx hb dL_law_658 rfl ?_
  refine lv_aload_n hx hb dL_law_659 rfl (lv_at hl 1 rfl) ?_
  obtain ⟨r2, o2, hz2, h2, ht2⟩ := lm_cheapest q2 J.2.1
  refine sp_ki (va_runV (As := []) (rest := []) ⟨hx, hb, hml, hown, hts⟩ (qX10_cheapest l D ty eo _ am q2 r2 o2 hz2) (cwV 0 hts gL_law_X10_cheapest rfl rfl rfl hd_X10_cheapest_v ⟨Nat.le_of_ble_eq_true rfl, Nat.le_of_ble_eq_true rfl⟩) (spv_10 hK hN hE hP hD hS hA) rfl rfl hl.1 rfl (lv_room (Nat.le_of_ble_eq_true rfl)) dL_law_660 (lw_room (mc := mc) (ms := ms) J X hi)) hP hD hS hA (fun r9 u H locs hw hP hD hS => ?_)
  obtain ⟨rfl, rfl⟩ := hw
  refine lv_pop hx hb dL_law_663 rfl ?_
  have jg : RG o o2 := rg_cheapest J.2.1 J.2.2.1.2.2 ht.2.1 hz2
  refine lv_goto (tgt := 1071) hx hb dL_law_664 (by decide) ?_
  exact next ad9 o o2 _ _ H locs (lw_step J X h2 (by have j := J.2.2.1; unfold lw_R at j ⊢; have jt := j.1; have jn := ltY_len jt; exact ⟨ltY_end jt ht.2.2 ht2.2 (by omega) (by omega) (by omega), by omega, jg⟩)) (hg 0 (Or.inl (by decide))) hP hD hS

set_option maxHeartbeats 4000000 in
set_option maxRecDepth 100000 in
theorem lc_21 {p : Program} {e : Env} {s : State} {m : MethodId} {below : List Frame} {meth : Method} {c : Code} (l : Launch) {b L : Nat} {xs : Nat → Int32} (C0 : lw_At p s m meth c b L xs) {D : va_G} {ty : Nat → ClassId} {eo : Nat → Nat} {A : Nat → Prop} (hA : ∀ q : Nat, s.heap.size ≤ q → A q) (hB : ∀ q : Nat, A q → s.heap.size ≤ q) (hK : va_K D vwCl (kzT ty) s) (hN : kz_N s) (hE : kz_E eo A s s.heap) {i : Nat} {i6 : Int32} (hi : i ≤ 63) (hin : vp_in (i6 + 1) L ∧ vp_in (i6 + 2) L ∧ vp_in (i6 + 3) L ∧ vp_in (i6 + 4) L ∧ vp_in (i6 + 5) L) {ad am : Nat → Nat} {q : dK} {q2 : dS} {cells slots : Nat} (J : lw_J q q2 i cells slots) {H : Heap} {locs : List Loc} (hP : va_P D vwCl (wF ty ad q ++ w10 ty am q2) H) (hD : va_D A (wF ty ad q ++ w10 ty am q2)) (hS : va_S A s.heap H locs) {ls : Array Slot} (hl : lv_has ls 4 [(3, .int i6), (2, .ref (am 0)), (1, .ref (ad 0)), (0, .ref b)]) (next : ∀ (ad1 : Nat → Nat) (o : dK) (o2 : dS) (cells1 slots1 : Nat) (H1 : Heap) (locs1 : List Loc), lw_J o o2 (i + 1) cells1 slots1 → ad1 0 = ad 0 → va_P D vwCl (wF ty ad1 o ++ w10 ty am o2) H1 → va_D A (wF ty ad1 o ++ w10 ty am o2) → va_S A s.heap H1 locs1 → W p l e room_1 s m #[Value.ref b] below meth c H1 locs1 cells1 slots1 (lw_Z below #[Value.ref b] s) (F0 m 1071 ls [])) : W p l e room_1 s m #[Value.ref b] below meth c H locs cells slots (lw_Z below #[Value.ref b] s) (F0 m 667 ls []) := by
  obtain ⟨hx, hb, hr, hml, hown0, hts0, hX, hbl, hlocks, hgv⟩ := C0
  have hown : s.vm.findClass RL = some m.cls := hown0
  have hts : ∀ w ∈ lw_tbl, w.before #[Value.ref b] s = true := hts0
  have hbA : ¬ A b := fun h => absurd (hB b h) (Nat.not_le.mpr hbl)
  refine lv_aload_n hx hb dL_law_667 rfl (lv_at hl 2 rfl) ?_
  refine lv_aload_n hx hb dL_law_668 rfl (lv_at hl 3 rfl) ?_
  refine lv_iload_n hx hb dL_law_669 rfl (lv_at hl 0 rfl) ?_
  refine lv_iconst (v := 1) hx hb dL_law_670 (by decide) ?_
  refine lv_iadd hx hb dL_law_671 ?_
  refine va_sld hx hb hX hbl hbA hS hin.1 dL_law_672 ?_
  refine lv_topi (fun a1 ea1 => ?_)
  obtain ⟨mc, ms, r, o, hz, X, ht⟩ := lx_worst q a1 J.1
  refine sp_ki (va_runV (As := [.int a1]) (rest := []) ⟨hx, hb, hml, hown, hts⟩ (qX9_worst_s0 l D ty eo _ ad mc ms q a1 r o hz) (cwV 1 hts gL_law_X9_worst rfl rfl rfl hd_X9_worst_v ⟨Nat.le_of_ble_eq_true rfl, Nat.le_of_ble_eq_true rfl⟩) (spv_9 hK hN hE hP hD hS hA) rfl rfl hl.1 rfl (lv_room (Nat.le_of_ble_eq_true rfl)) dL_law_673 (lw_room J X hi)) hP hD hS hA (fun r9 u H locs hw hP hD hS => ?_)
  obtain ⟨rfl, ad9, hg, rfl⟩ := hw
  refine lv_pop hx hb dL_law_676 rfl ?_
  refine lv_aload_n hx hb dL_law_677 rfl (lv_at hl 1 rfl) ?_
  refine lv_aload_n hx hb dL_law_678 rfl (lv_at hl 3 rfl) ?_
  refine lv_iload_n hx hb dL_law_679 rfl (lv_at hl 0 rfl) ?_
  refine lv_iconst (v := 1) hx hb dL_law_680 (by decide) ?_
  refine lv_iadd hx hb dL_law_681 ?_
  refine va_sld hx hb hX hbl hbA hS hin.1 dL_law_682 ?_
  refine kz_topi a1 ea1.symm ?_
  obtain ⟨r2, o2, hz2, h2, ht2⟩ := lm_worst q2 a1 J.2.1
  refine sp_ki (va_runV (As := [.int a1]) (rest := []) ⟨hx, hb, hml, hown, hts⟩ (qX10_worst l D ty eo _ am q2 a1 r2 o2 hz2) (cwV 1 hts gL_law_X10_worst rfl rfl rfl hd_X10_worst_v ⟨Nat.le_of_ble_eq_true rfl, Nat.le_of_ble_eq_true rfl⟩) (spv_10 hK hN hE hP hD hS hA) rfl rfl hl.1 rfl (lv_room (Nat.le_of_ble_eq_true rfl)) dL_law_683 (lw_room (mc := mc) (ms := ms) J X hi)) hP hD hS hA (fun r9 u H locs hw hP hD hS => ?_)
  obtain ⟨rfl, rfl⟩ := hw
  refine lv_pop hx hb dL_law_686 rfl ?_
  have jg : RG o o2 := rg_worst J.2.1 J.2.2.1.2.2 a1 ht.2.1 hz2
  refine lv_goto (tgt := 1071) hx hb dL_law_687 (by decide) ?_
  exact next ad9 o o2 _ _ H locs (lw_step J X h2 (by have j := J.2.2.1; unfold lw_R at j ⊢; have jt := j.1; have jn := ltY_len jt; exact ⟨ltY_end jt ht.2.2 ht2.2 (by omega) (by omega) (by omega), by omega, jg⟩)) (hg 0 (Or.inl (by decide))) hP hD hS

set_option maxHeartbeats 4000000 in
set_option maxRecDepth 100000 in
theorem lc_22 {p : Program} {e : Env} {s : State} {m : MethodId} {below : List Frame} {meth : Method} {c : Code} (l : Launch) {b L : Nat} {xs : Nat → Int32} (C0 : lw_At p s m meth c b L xs) {D : va_G} {ty : Nat → ClassId} {eo : Nat → Nat} {A : Nat → Prop} (hA : ∀ q : Nat, s.heap.size ≤ q → A q) (hB : ∀ q : Nat, A q → s.heap.size ≤ q) (hK : va_K D vwCl (kzT ty) s) (hN : kz_N s) (hE : kz_E eo A s s.heap) {i : Nat} {i6 : Int32} (hi : i ≤ 63) (hin : vp_in (i6 + 1) L ∧ vp_in (i6 + 2) L ∧ vp_in (i6 + 3) L ∧ vp_in (i6 + 4) L ∧ vp_in (i6 + 5) L) {ad am : Nat → Nat} {q : dK} {q2 : dS} {cells slots : Nat} (J : lw_J q q2 i cells slots) {H : Heap} {locs : List Loc} (hP : va_P D vwCl (wF ty ad q ++ w10 ty am q2) H) (hD : va_D A (wF ty ad q ++ w10 ty am q2)) (hS : va_S A s.heap H locs) {ls : Array Slot} (hl : lv_has ls 4 [(3, .int i6), (2, .ref (am 0)), (1, .ref (ad 0)), (0, .ref b)]) (next : ∀ (ad1 : Nat → Nat) (o : dK) (o2 : dS) (cells1 slots1 : Nat) (H1 : Heap) (locs1 : List Loc), lw_J o o2 (i + 1) cells1 slots1 → ad1 0 = ad 0 → va_P D vwCl (wF ty ad1 o ++ w10 ty am o2) H1 → va_D A (wF ty ad1 o ++ w10 ty am o2) → va_S A s.heap H1 locs1 → W p l e room_1 s m #[Value.ref b] below meth c H1 locs1 cells1 slots1 (lw_Z below #[Value.ref b] s) (F0 m 1071 ls [])) : W p l e room_1 s m #[Value.ref b] below meth c H locs cells slots (lw_Z below #[Value.ref b] s) (F0 m 690 ls []) := by
  obtain ⟨hx, hb, hr, hml, hown0, hts0, hX, hbl, hlocks, hgv⟩ := C0
  have hown : s.vm.findClass RL = some m.cls := hown0
  have hts : ∀ w ∈ lw_tbl, w.before #[Value.ref b] s = true := hts0
  have hbA : ¬ A b := fun h => absurd (hB b h) (Nat.not_le.mpr hbl)
  refine lv_aload_n hx hb dL_law_690 rfl (lv_at hl 2 rfl) ?_
  obtain ⟨mc, ms, r, o, hz, X, ht⟩ := lx_reach q J.1
  refine sp_ki (va_runV (As := []) (rest := []) ⟨hx, hb, hml, hown, hts⟩ (qX9_reach_s0 l D ty eo _ ad mc ms q r o hz) (cwV 0 hts gL_law_X9_reach rfl rfl rfl hd_X9_reach_v ⟨Nat.le_of_ble_eq_true rfl, Nat.le_of_ble_eq_true rfl⟩) (spv_9 hK hN hE hP hD hS hA) rfl rfl hl.1 rfl (lv_room (Nat.le_of_ble_eq_true rfl)) dL_law_691 (lw_room J X hi)) hP hD hS hA (fun r9 u H locs hw hP hD hS => ?_)
  obtain ⟨rfl, ad9, hg, rfl⟩ := hw
  refine lv_pop hx hb dL_law_694 rfl ?_
  refine lv_aload_n hx hb dL_law_695 rfl (lv_at hl 1 rfl) ?_
  obtain ⟨r2, o2, hz2, h2, ht2⟩ := lm_reach q2 J.2.1
  refine sp_ki (va_runV (As := []) (rest := []) ⟨hx, hb, hml, hown, hts⟩ (qX10_reach l D ty eo _ am q2 r2 o2 hz2) (cwV 0 hts gL_law_X10_reach rfl rfl rfl hd_X10_reach_v ⟨Nat.le_of_ble_eq_true rfl, Nat.le_of_ble_eq_true rfl⟩) (spv_10 hK hN hE hP hD hS hA) rfl rfl hl.1 rfl (lv_room (Nat.le_of_ble_eq_true rfl)) dL_law_696 (lw_room (mc := mc) (ms := ms) J X hi)) hP hD hS hA (fun r9 u H locs hw hP hD hS => ?_)
  obtain ⟨rfl, rfl⟩ := hw
  refine lv_pop hx hb dL_law_699 rfl ?_
  have jg : RG o o2 := rg_reach J.2.1 J.2.2.1.2.2 ht.2.1 hz2
  refine lv_goto (tgt := 1071) hx hb dL_law_700 (by decide) ?_
  exact next ad9 o o2 _ _ H locs (lw_step J X h2 (by have j := J.2.2.1; unfold lw_R at j ⊢; have jt := j.1; have jn := ltY_len jt; exact ⟨ltY_end jt ht.2.2 ht2.2 (by omega) (by omega) (by omega), by omega, jg⟩)) (hg 0 (Or.inl (by decide))) hP hD hS

set_option maxHeartbeats 4000000 in
set_option maxRecDepth 100000 in
theorem lc_23 {p : Program} {e : Env} {s : State} {m : MethodId} {below : List Frame} {meth : Method} {c : Code} (l : Launch) {b L : Nat} {xs : Nat → Int32} (C0 : lw_At p s m meth c b L xs) {D : va_G} {ty : Nat → ClassId} {eo : Nat → Nat} {A : Nat → Prop} (hA : ∀ q : Nat, s.heap.size ≤ q → A q) (hB : ∀ q : Nat, A q → s.heap.size ≤ q) (hK : va_K D vwCl (kzT ty) s) (hN : kz_N s) (hE : kz_E eo A s s.heap) {i : Nat} {i6 : Int32} (hi : i ≤ 63) (hin : vp_in (i6 + 1) L ∧ vp_in (i6 + 2) L ∧ vp_in (i6 + 3) L ∧ vp_in (i6 + 4) L ∧ vp_in (i6 + 5) L) {ad am : Nat → Nat} {q : dK} {q2 : dS} {cells slots : Nat} (J : lw_J q q2 i cells slots) {H : Heap} {locs : List Loc} (hP : va_P D vwCl (wF ty ad q ++ w10 ty am q2) H) (hD : va_D A (wF ty ad q ++ w10 ty am q2)) (hS : va_S A s.heap H locs) {ls : Array Slot} (hl : lv_has ls 4 [(3, .int i6), (2, .ref (am 0)), (1, .ref (ad 0)), (0, .ref b)]) (next : ∀ (ad1 : Nat → Nat) (o : dK) (o2 : dS) (cells1 slots1 : Nat) (H1 : Heap) (locs1 : List Loc), lw_J o o2 (i + 1) cells1 slots1 → ad1 0 = ad 0 → va_P D vwCl (wF ty ad1 o ++ w10 ty am o2) H1 → va_D A (wF ty ad1 o ++ w10 ty am o2) → va_S A s.heap H1 locs1 → W p l e room_1 s m #[Value.ref b] below meth c H1 locs1 cells1 slots1 (lw_Z below #[Value.ref b] s) (F0 m 1071 ls [])) : W p l e room_1 s m #[Value.ref b] below meth c H locs cells slots (lw_Z below #[Value.ref b] s) (F0 m 703 ls []) := by
  obtain ⟨hx, hb, hr, hml, hown0, hts0, hX, hbl, hlocks, hgv⟩ := C0
  have hown : s.vm.findClass RL = some m.cls := hown0
  have hts : ∀ w ∈ lw_tbl, w.before #[Value.ref b] s = true := hts0
  have hbA : ¬ A b := fun h => absurd (hB b h) (Nat.not_le.mpr hbl)
  refine lv_aload_n hx hb dL_law_703 rfl (lv_at hl 2 rfl) ?_
  obtain ⟨r, o, hz, X, ht⟩ := lx_gaps q J.1
  refine sp_ki (va_runV (As := []) (rest := []) ⟨hx, hb, hml, hown, hts⟩ (qX9_gaps_s0 l D ty eo _ ad q r o hz) (cwV 0 hts gL_law_X9_gaps rfl rfl rfl hd_X9_gaps_v ⟨Nat.le_of_ble_eq_true rfl, Nat.le_of_ble_eq_true rfl⟩) (spv_9 hK hN hE hP hD hS hA) rfl rfl hl.1 rfl (lv_room (Nat.le_of_ble_eq_true rfl)) dL_law_704 (lw_room J X hi)) hP hD hS hA (fun r9 u H locs hw hP hD hS => ?_)
  obtain ⟨rfl, rfl⟩ := hw
  refine lv_pop hx hb dL_law_707 rfl ?_
  refine lv_aload_n hx hb dL_law_708 rfl (lv_at hl 1 rfl) ?_
  obtain ⟨r2, o2, hz2, h2, ht2⟩ := lm_gaps q2 J.2.1
  refine sp_ki (va_runV (As := []) (rest := []) ⟨hx, hb, hml, hown, hts⟩ (qX10_gaps l D ty eo _ am q2 r2 o2 hz2) (cwV 0 hts gL_law_X10_gaps rfl rfl rfl hd_X10_gaps_v ⟨Nat.le_of_ble_eq_true rfl, Nat.le_of_ble_eq_true rfl⟩) (spv_10 hK hN hE hP hD hS hA) rfl rfl hl.1 rfl (lv_room (Nat.le_of_ble_eq_true rfl)) dL_law_709 (lw_room J X hi)) hP hD hS hA (fun r9 u H locs hw hP hD hS => ?_)
  obtain ⟨rfl, rfl⟩ := hw
  refine lv_pop hx hb dL_law_712 rfl ?_
  have jg9 := rgf_gaps J.1 J.2.1 J.2.2.1.2.2 hz hz2
  have jg : RG o o2 := jg9
  refine lv_goto (tgt := 1071) hx hb dL_law_713 (by decide) ?_
  exact next ad o o2 _ _ H locs (lw_step J X h2 (by have j := J.2.2.1; unfold lw_R at j ⊢; have jt := j.1; have jn := ltY_len jt; exact ⟨ltY_end jt ht.2 ht2.2 (by omega) (by omega) (by omega), by omega, jg⟩)) (rfl) hP hD hS
