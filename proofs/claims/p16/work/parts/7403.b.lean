set_option maxHeartbeats 4000000 in
set_option maxRecDepth 100000 in
theorem lc_24 {p : Program} {e : Env} {s : State} {m : MethodId} {below : List Frame} {meth : Method} {c : Code} (l : Launch) {b L : Nat} {xs : Nat → Int32} (C0 : lw_At p s m meth c b L xs) {D : va_G} {ty : Nat → ClassId} {eo : Nat → Nat} {A : Nat → Prop} (hA : ∀ q : Nat, s.heap.size ≤ q → A q) (hB : ∀ q : Nat, A q → s.heap.size ≤ q) (hK : va_K D vwCl (kzT ty) s) (hN : kz_N s) (hE : kz_E eo A s s.heap) {i : Nat} {i6 : Int32} (hi : i ≤ 63) (hin : vp_in (i6 + 1) L ∧ vp_in (i6 + 2) L ∧ vp_in (i6 + 3) L ∧ vp_in (i6 + 4) L ∧ vp_in (i6 + 5) L) {ad am : Nat → Nat} {q : dK} {q2 : dS} {cells slots : Nat} (J : lw_J q q2 i cells slots) {H : Heap} {locs : List Loc} (hP : va_P D vwCl (wF ty ad q ++ w10 ty am q2) H) (hD : va_D A (wF ty ad q ++ w10 ty am q2)) (hS : va_S A s.heap H locs) {ls : Array Slot} (hl : lv_has ls 4 [(3, .int i6), (2, .ref (am 0)), (1, .ref (ad 0)), (0, .ref b)]) (next : ∀ (ad1 : Nat → Nat) (o : dK) (o2 : dS) (cells1 slots1 : Nat) (H1 : Heap) (locs1 : List Loc), lw_J o o2 (i + 1) cells1 slots1 → ad1 0 = ad 0 → va_P D vwCl (wF ty ad1 o ++ w10 ty am o2) H1 → va_D A (wF ty ad1 o ++ w10 ty am o2) → va_S A s.heap H1 locs1 → W p l e room_1 s m #[Value.ref b] below meth c H1 locs1 cells1 slots1 (lw_Z below #[Value.ref b] s) (F0 m 1071 ls [])) : W p l e room_1 s m #[Value.ref b] below meth c H locs cells slots (lw_Z below #[Value.ref b] s) (F0 m 716 ls []) := by
  obtain ⟨hx, hb, hr, hml, hown0, hts0, hX, hbl, hlocks, hgv⟩ := C0
  have hown : s.vm.findClass RL = some m.cls := hown0
  have hts : ∀ w ∈ lw_tbl, w.before #[Value.ref b] s = true := hts0
  have hbA : ¬ A b := fun h => absurd (hB b h) (Nat.not_le.mpr hbl)
  refine lv_aload_n hx hb dL_law_716 rfl (lv_at hl 2 rfl) ?_
  refine lv_aload_n hx hb dL_law_717 rfl (lv_at hl 3 rfl) ?_
  refine lv_iload_n hx hb dL_law_718 rfl (lv_at hl 0 rfl) ?_
  refine lv_iconst (v := 1) hx hb dL_law_719 (by decide) ?_
  refine lv_iadd hx hb dL_law_720 ?_
  refine va_sld hx hb hX hbl hbA hS hin.1 dL_law_721 ?_
  refine lv_topi (fun a1 ea1 => ?_)
  obtain ⟨mc, ms, r, o, hz, X, ht⟩ := lx_comes q a1 J.1
  refine sp_ki (va_runV (As := [.int a1]) (rest := []) ⟨hx, hb, hml, hown, hts⟩ (qX9_comes_s0 l D ty eo _ ad mc ms q a1 r o hz) (cwV 1 hts gL_law_X9_comes rfl rfl rfl hd_X9_comes_v ⟨Nat.le_of_ble_eq_true rfl, Nat.le_of_ble_eq_true rfl⟩) (spv_9 hK hN hE hP hD hS hA) rfl rfl hl.1 rfl (lv_room (Nat.le_of_ble_eq_true rfl)) dL_law_722 (lw_room J X hi)) hP hD hS hA (fun r9 u H locs hw hP hD hS => ?_)
  obtain ⟨rfl, ad9, hg, rfl⟩ := hw
  refine lv_pop hx hb dL_law_725 rfl ?_
  refine lv_aload_n hx hb dL_law_726 rfl (lv_at hl 1 rfl) ?_
  refine lv_aload_n hx hb dL_law_727 rfl (lv_at hl 3 rfl) ?_
  refine lv_iload_n hx hb dL_law_728 rfl (lv_at hl 0 rfl) ?_
  refine lv_iconst (v := 1) hx hb dL_law_729 (by decide) ?_
  refine lv_iadd hx hb dL_law_730 ?_
  refine va_sld hx hb hX hbl hbA hS hin.1 dL_law_731 ?_
  refine kz_topi a1 ea1.symm ?_
  obtain ⟨r2, o2, hz2, h2, ht2⟩ := lm_comes q2 a1 J.2.1
  refine sp_ki (va_runV (As := [.int a1]) (rest := []) ⟨hx, hb, hml, hown, hts⟩ (qX10_comes l D ty eo _ am q2 a1 r2 o2 hz2) (cwV 1 hts gL_law_X10_comes rfl rfl rfl hd_X10_comes_v ⟨Nat.le_of_ble_eq_true rfl, Nat.le_of_ble_eq_true rfl⟩) (spv_10 hK hN hE hP hD hS hA) rfl rfl hl.1 rfl (lv_room (Nat.le_of_ble_eq_true rfl)) dL_law_732 (lw_room (mc := mc) (ms := ms) J X hi)) hP hD hS hA (fun r9 u H locs hw hP hD hS => ?_)
  obtain ⟨rfl, rfl⟩ := hw
  refine lv_pop hx hb dL_law_735 rfl ?_
  have jg : RG o o2 := rg_comes J.2.1 J.2.2.1.2.2 a1 ht.2.1 hz2
  refine lv_goto (tgt := 1071) hx hb dL_law_736 (by decide) ?_
  exact next ad9 o o2 _ _ H locs (lw_step J X h2 (by have j := J.2.2.1; unfold lw_R at j ⊢; have jt := j.1; have jn := ltY_len jt; exact ⟨ltY_end jt ht.2.2 ht2.2 (by omega) (by omega) (by omega), by omega, jg⟩)) (hg 0 (Or.inl (by decide))) hP hD hS

set_option maxHeartbeats 4000000 in
set_option maxRecDepth 100000 in
theorem lc_25 {p : Program} {e : Env} {s : State} {m : MethodId} {below : List Frame} {meth : Method} {c : Code} (l : Launch) {b L : Nat} {xs : Nat → Int32} (C0 : lw_At p s m meth c b L xs) {D : va_G} {ty : Nat → ClassId} {eo : Nat → Nat} {A : Nat → Prop} (hA : ∀ q : Nat, s.heap.size ≤ q → A q) (hB : ∀ q : Nat, A q → s.heap.size ≤ q) (hK : va_K D vwCl (kzT ty) s) (hN : kz_N s) (hE : kz_E eo A s s.heap) {i : Nat} {i6 : Int32} (hi : i ≤ 63) (hin : vp_in (i6 + 1) L ∧ vp_in (i6 + 2) L ∧ vp_in (i6 + 3) L ∧ vp_in (i6 + 4) L ∧ vp_in (i6 + 5) L) {ad am : Nat → Nat} {q : dK} {q2 : dS} {cells slots : Nat} (J : lw_J q q2 i cells slots) {H : Heap} {locs : List Loc} (hP : va_P D vwCl (wF ty ad q ++ w10 ty am q2) H) (hD : va_D A (wF ty ad q ++ w10 ty am q2)) (hS : va_S A s.heap H locs) {ls : Array Slot} (hl : lv_has ls 4 [(3, .int i6), (2, .ref (am 0)), (1, .ref (ad 0)), (0, .ref b)]) (next : ∀ (ad1 : Nat → Nat) (o : dK) (o2 : dS) (cells1 slots1 : Nat) (H1 : Heap) (locs1 : List Loc), lw_J o o2 (i + 1) cells1 slots1 → ad1 0 = ad 0 → va_P D vwCl (wF ty ad1 o ++ w10 ty am o2) H1 → va_D A (wF ty ad1 o ++ w10 ty am o2) → va_S A s.heap H1 locs1 → W p l e room_1 s m #[Value.ref b] below meth c H1 locs1 cells1 slots1 (lw_Z below #[Value.ref b] s) (F0 m 1071 ls [])) : W p l e room_1 s m #[Value.ref b] below meth c H locs cells slots (lw_Z below #[Value.ref b] s) (F0 m 739 ls []) := by
  obtain ⟨hx, hb, hr, hml, hown0, hts0, hX, hbl, hlocks, hgv⟩ := C0
  have hown : s.vm.findClass RL = some m.cls := hown0
  have hts : ∀ w ∈ lw_tbl, w.before #[Value.ref b] s = true := hts0
  have hbA : ¬ A b := fun h => absurd (hB b h) (Nat.not_le.mpr hbl)
  refine lv_aload_n hx hb dL_law_739 rfl (lv_at hl 2 rfl) ?_
  refine lv_aload_n hx hb dL_law_740 rfl (lv_at hl 3 rfl) ?_
  refine lv_iload_n hx hb dL_law_741 rfl (lv_at hl 0 rfl) ?_
  refine lv_iconst (v := 1) hx hb dL_law_742 (by decide) ?_
  refine lv_iadd hx hb dL_law_743 ?_
  refine va_sld hx hb hX hbl hbA hS hin.1 dL_law_744 ?_
  refine lv_topi (fun a1 ea1 => ?_)
  obtain ⟨mc, ms, r, o, hz, X, ht⟩ := lx_view q a1 J.1
  refine sp_ki (va_runV (As := [.int a1]) (rest := []) ⟨hx, hb, hml, hown, hts⟩ (qX9_view_s0 l D ty eo _ ad mc ms q a1 r o hz) (cwV 1 hts gL_law_X9_view rfl rfl rfl hd_X9_view_v ⟨Nat.le_of_ble_eq_true rfl, Nat.le_of_ble_eq_true rfl⟩) (spv_9 hK hN hE hP hD hS hA) rfl rfl hl.1 rfl (lv_room (Nat.le_of_ble_eq_true rfl)) dL_law_745 (lw_room J X hi)) hP hD hS hA (fun r9 u H locs hw hP hD hS => ?_)
  obtain ⟨rfl, ad9, hg, rfl⟩ := hw
  refine lv_pop hx hb dL_law_748 rfl ?_
  refine lv_aload_n hx hb dL_law_749 rfl (lv_at hl 1 rfl) ?_
  refine lv_aload_n hx hb dL_law_750 rfl (lv_at hl 3 rfl) ?_
  refine lv_iload_n hx hb dL_law_751 rfl (lv_at hl 0 rfl) ?_
  refine lv_iconst (v := 1) hx hb dL_law_752 (by decide) ?_
  refine lv_iadd hx hb dL_law_753 ?_
  refine va_sld hx hb hX hbl hbA hS hin.1 dL_law_754 ?_
  refine kz_topi a1 ea1.symm ?_
  obtain ⟨r2, o2, hz2, h2, ht2⟩ := lm_view q2 a1 J.2.1
  refine sp_ki (va_runV (As := [.int a1]) (rest := []) ⟨hx, hb, hml, hown, hts⟩ (qX10_view l D ty eo _ am q2 a1 r2 o2 hz2) (cwV 1 hts gL_law_X10_view rfl rfl rfl hd_X10_view_v ⟨Nat.le_of_ble_eq_true rfl, Nat.le_of_ble_eq_true rfl⟩) (spv_10 hK hN hE hP hD hS hA) rfl rfl hl.1 rfl (lv_room (Nat.le_of_ble_eq_true rfl)) dL_law_755 (lw_room (mc := mc) (ms := ms) J X hi)) hP hD hS hA (fun r9 u H locs hw hP hD hS => ?_)
  obtain ⟨rfl, rfl⟩ := hw
  refine lv_pop hx hb dL_law_758 rfl ?_
  have jg : RG o o2 := rg_view J.2.1 J.2.2.1.2.2 a1 ht.2.1 hz2
  refine lv_goto (tgt := 1071) hx hb dL_law_759 (by decide) ?_
  exact next ad9 o o2 _ _ H locs (lw_step J X h2 (by have j := J.2.2.1; unfold lw_R at j ⊢; have jt := j.1; have jn := ltY_len jt; exact ⟨ltY_end jt ht.2.2 ht2.2 (by omega) (by omega) (by omega), by omega, jg⟩)) (hg 0 (Or.inl (by decide))) hP hD hS

set_option maxHeartbeats 4000000 in
set_option maxRecDepth 100000 in
theorem lc_26 {p : Program} {e : Env} {s : State} {m : MethodId} {below : List Frame} {meth : Method} {c : Code} (l : Launch) {b L : Nat} {xs : Nat → Int32} (C0 : lw_At p s m meth c b L xs) {D : va_G} {ty : Nat → ClassId} {eo : Nat → Nat} {A : Nat → Prop} (hA : ∀ q : Nat, s.heap.size ≤ q → A q) (hB : ∀ q : Nat, A q → s.heap.size ≤ q) (hK : va_K D vwCl (kzT ty) s) (hN : kz_N s) (hE : kz_E eo A s s.heap) {i : Nat} {i6 : Int32} (hi : i ≤ 63) (hin : vp_in (i6 + 1) L ∧ vp_in (i6 + 2) L ∧ vp_in (i6 + 3) L ∧ vp_in (i6 + 4) L ∧ vp_in (i6 + 5) L) {ad am : Nat → Nat} {q : dK} {q2 : dS} {cells slots : Nat} (J : lw_J q q2 i cells slots) {H : Heap} {locs : List Loc} (hP : va_P D vwCl (wF ty ad q ++ w10 ty am q2) H) (hD : va_D A (wF ty ad q ++ w10 ty am q2)) (hS : va_S A s.heap H locs) {ls : Array Slot} (hl : lv_has ls 4 [(3, .int i6), (2, .ref (am 0)), (1, .ref (ad 0)), (0, .ref b)]) (next : ∀ (ad1 : Nat → Nat) (o : dK) (o2 : dS) (cells1 slots1 : Nat) (H1 : Heap) (locs1 : List Loc), lw_J o o2 (i + 1) cells1 slots1 → ad1 0 = ad 0 → va_P D vwCl (wF ty ad1 o ++ w10 ty am o2) H1 → va_D A (wF ty ad1 o ++ w10 ty am o2) → va_S A s.heap H1 locs1 → W p l e room_1 s m #[Value.ref b] below meth c H1 locs1 cells1 slots1 (lw_Z below #[Value.ref b] s) (F0 m 1071 ls [])) : W p l e room_1 s m #[Value.ref b] below meth c H locs cells slots (lw_Z below #[Value.ref b] s) (F0 m 762 ls []) := by
  obtain ⟨hx, hb, hr, hml, hown0, hts0, hX, hbl, hlocks, hgv⟩ := C0
  have hown : s.vm.findClass RL = some m.cls := hown0
  have hts : ∀ w ∈ lw_tbl, w.before #[Value.ref b] s = true := hts0
  have hbA : ¬ A b := fun h => absurd (hB b h) (Nat.not_le.mpr hbl)
  refine lv_aload_n hx hb dL_law_762 rfl (lv_at hl 2 rfl) ?_
  refine lv_aload_n hx hb dL_law_763 rfl (lv_at hl 3 rfl) ?_
  refine lv_iload_n hx hb dL_law_764 rfl (lv_at hl 0 rfl) ?_
  refine lv_iconst (v := 1) hx hb dL_law_765 (by decide) ?_
  refine lv_iadd hx hb dL_law_766 ?_
  refine va_sld hx hb hX hbl hbA hS hin.1 dL_law_767 ?_
  refine lv_topi (fun a1 ea1 => ?_)
  obtain ⟨r, o, hz, X, ht⟩ := lx_stays q a1 J.1
  refine sp_ki (va_runV (As := [.int a1]) (rest := []) ⟨hx, hb, hml, hown, hts⟩ (qX9_stays_s0 l D ty eo _ ad q a1 r o hz) (cwV 1 hts gL_law_X9_stays rfl rfl rfl hd_X9_stays_v ⟨Nat.le_of_ble_eq_true rfl, Nat.le_of_ble_eq_true rfl⟩) (spv_9 hK hN hE hP hD hS hA) rfl rfl hl.1 rfl (lv_room (Nat.le_of_ble_eq_true rfl)) dL_law_768 (lw_room J X hi)) hP hD hS hA (fun r9 u H locs hw hP hD hS => ?_)
  obtain ⟨rfl, rfl⟩ := hw
  refine lv_pop hx hb dL_law_771 rfl ?_
  refine lv_aload_n hx hb dL_law_772 rfl (lv_at hl 1 rfl) ?_
  refine lv_aload_n hx hb dL_law_773 rfl (lv_at hl 3 rfl) ?_
  refine lv_iload_n hx hb dL_law_774 rfl (lv_at hl 0 rfl) ?_
  refine lv_iconst (v := 1) hx hb dL_law_775 (by decide) ?_
  refine lv_iadd hx hb dL_law_776 ?_
  refine va_sld hx hb hX hbl hbA hS hin.1 dL_law_777 ?_
  refine kz_topi a1 ea1.symm ?_
  obtain ⟨r2, o2, hz2, h2, ht2⟩ := lm_stays q2 a1 J.2.1
  refine sp_ki (va_runV (As := [.int a1]) (rest := []) ⟨hx, hb, hml, hown, hts⟩ (qX10_stays l D ty eo _ am q2 a1 r2 o2 hz2) (cwV 1 hts gL_law_X10_stays rfl rfl rfl hd_X10_stays_v ⟨Nat.le_of_ble_eq_true rfl, Nat.le_of_ble_eq_true rfl⟩) (spv_10 hK hN hE hP hD hS hA) rfl rfl hl.1 rfl (lv_room (Nat.le_of_ble_eq_true rfl)) dL_law_778 (lw_room J X hi)) hP hD hS hA (fun r9 u H locs hw hP hD hS => ?_)
  obtain ⟨rfl, rfl⟩ := hw
  refine lv_pop hx hb dL_law_781 rfl ?_
  have jg9 := rgf_stays J.1 J.2.1 J.2.2.1.2.2 a1 hz hz2
  have jg : RG o o2 := jg9
  refine lv_goto (tgt := 1071) hx hb dL_law_782 (by decide) ?_
  exact next ad o o2 _ _ H locs (lw_step J X h2 (by have j := J.2.2.1; unfold lw_R at j ⊢; have jt := j.1; have jn := ltY_len jt; exact ⟨ltY_end jt ht.2 ht2.2 (by omega) (by omega) (by omega), by omega, jg⟩)) (rfl) hP hD hS

set_option maxHeartbeats 4000000 in
set_option maxRecDepth 100000 in
theorem lc_27 {p : Program} {e : Env} {s : State} {m : MethodId} {below : List Frame} {meth : Method} {c : Code} (l : Launch) {b L : Nat} {xs : Nat → Int32} (C0 : lw_At p s m meth c b L xs) {D : va_G} {ty : Nat → ClassId} {eo : Nat → Nat} {A : Nat → Prop} (hA : ∀ q : Nat, s.heap.size ≤ q → A q) (hB : ∀ q : Nat, A q → s.heap.size ≤ q) (hK : va_K D vwCl (kzT ty) s) (hN : kz_N s) (hE : kz_E eo A s s.heap) {i : Nat} {i6 : Int32} (hi : i ≤ 63) (hin : vp_in (i6 + 1) L ∧ vp_in (i6 + 2) L ∧ vp_in (i6 + 3) L ∧ vp_in (i6 + 4) L ∧ vp_in (i6 + 5) L) {ad am : Nat → Nat} {q : dK} {q2 : dS} {cells slots : Nat} (J : lw_J q q2 i cells slots) {H : Heap} {locs : List Loc} (hP : va_P D vwCl (wF ty ad q ++ w10 ty am q2) H) (hD : va_D A (wF ty ad q ++ w10 ty am q2)) (hS : va_S A s.heap H locs) {ls : Array Slot} (hl : lv_has ls 4 [(3, .int i6), (2, .ref (am 0)), (1, .ref (ad 0)), (0, .ref b)]) (next : ∀ (ad1 : Nat → Nat) (o : dK) (o2 : dS) (cells1 slots1 : Nat) (H1 : Heap) (locs1 : List Loc), lw_J o o2 (i + 1) cells1 slots1 → ad1 0 = ad 0 → va_P D vwCl (wF ty ad1 o ++ w10 ty am o2) H1 → va_D A (wF ty ad1 o ++ w10 ty am o2) → va_S A s.heap H1 locs1 → W p l e room_1 s m #[Value.ref b] below meth c H1 locs1 cells1 slots1 (lw_Z below #[Value.ref b] s) (F0 m 1071 ls [])) : W p l e room_1 s m #[Value.ref b] below meth c H locs cells slots (lw_Z below #[Value.ref b] s) (F0 m 785 ls []) := by
  obtain ⟨hx, hb, hr, hml, hown0, hts0, hX, hbl, hlocks, hgv⟩ := C0
  have hown : s.vm.findClass RL = some m.cls := hown0
  have hts : ∀ w ∈ lw_tbl, w.before #[Value.ref b] s = true := hts0
  have hbA : ¬ A b := fun h => absurd (hB b h) (Nat.not_le.mpr hbl)
  refine lv_aload_n hx hb dL_law_785 rfl (lv_at hl 2 rfl) ?_
  refine lv_aload_n hx hb dL_law_786 rfl (lv_at hl 3 rfl) ?_
  refine lv_iload_n hx hb dL_law_787 rfl (lv_at hl 0 rfl) ?_
  refine lv_iconst (v := 1) hx hb dL_law_788 (by decide) ?_
  refine lv_iadd hx hb dL_law_789 ?_
  refine va_sld hx hb hX hbl hbA hS hin.1 dL_law_790 ?_
  refine lv_topi (fun a1 ea1 => ?_)
  refine lv_aload_n hx hb dL_law_791 rfl (lv_at hl 3 rfl) ?_
  refine lv_iload_n hx hb dL_law_792 rfl (lv_at hl 0 rfl) ?_
  refine lv_iconst (v := 2) hx hb dL_law_793 (by decide) ?_
  refine lv_iadd hx hb dL_law_794 ?_
  refine va_sld hx hb hX hbl hbA hS hin.2.1 dL_law_795 ?_
  refine lv_topi (fun a2 ea2 => ?_)
  obtain ⟨r, o, hz, X, ht⟩ := lx_seen q a1 a2 J.1
  refine sp_ki (va_runV (As := [.int a1, .int a2]) (rest := []) ⟨hx, hb, hml, hown, hts⟩ (qX9_seen_s0 l D ty eo _ ad q a1 a2 r o hz) (cwV 2 hts gL_law_X9_seen rfl rfl rfl hd_X9_seen_v ⟨Nat.le_of_ble_eq_true rfl, Nat.le_of_ble_eq_true rfl⟩) (spv_9 hK hN hE hP hD hS hA) rfl rfl hl.1 rfl (lv_room (Nat.le_of_ble_eq_true rfl)) dL_law_796 (lw_room J X hi)) hP hD hS hA (fun r9 u H locs hw hP hD hS => ?_)
  obtain ⟨rfl, rfl⟩ := hw
  refine lv_pop hx hb dL_law_799 rfl ?_
  refine lv_aload_n hx hb dL_law_800 rfl (lv_at hl 1 rfl) ?_
  refine lv_aload_n hx hb dL_law_801 rfl (lv_at hl 3 rfl) ?_
  refine lv_iload_n hx hb dL_law_802 rfl (lv_at hl 0 rfl) ?_
  refine lv_iconst (v := 1) hx hb dL_law_803 (by decide) ?_
  refine lv_iadd hx hb dL_law_804 ?_
  refine va_sld hx hb hX hbl hbA hS hin.1 dL_law_805 ?_
  refine kz_topi a1 ea1.symm ?_
  refine lv_aload_n hx hb dL_law_806 rfl (lv_at hl 3 rfl) ?_
  refine lv_iload_n hx hb dL_law_807 rfl (lv_at hl 0 rfl) ?_
  refine lv_iconst (v := 2) hx hb dL_law_808 (by decide) ?_
  refine lv_iadd hx hb dL_law_809 ?_
  refine va_sld hx hb hX hbl hbA hS hin.2.1 dL_law_810 ?_
  refine kz_topi a2 ea2.symm ?_
  obtain ⟨r2, o2, hz2, h2, ht2⟩ := lm_seen q2 a1 a2 J.2.1
  refine sp_ki (va_runV (As := [.int a1, .int a2]) (rest := []) ⟨hx, hb, hml, hown, hts⟩ (qX10_seen l D ty eo _ am q2 a1 a2 r2 o2 hz2) (cwV 2 hts gL_law_X10_seen rfl rfl rfl hd_X10_seen_v ⟨Nat.le_of_ble_eq_true rfl, Nat.le_of_ble_eq_true rfl⟩) (spv_10 hK hN hE hP hD hS hA) rfl rfl hl.1 rfl (lv_room (Nat.le_of_ble_eq_true rfl)) dL_law_811 (lw_room J X hi)) hP hD hS hA (fun r9 u H locs hw hP hD hS => ?_)
  obtain ⟨rfl, rfl⟩ := hw
  refine lv_pop hx hb dL_law_814 rfl ?_
  have jg9 := rgf_seen J.1 J.2.1 J.2.2.1.2.2 a1 a2 hz hz2
  have jg : RG o o2 := jg9
  refine lv_goto (tgt := 1071) hx hb dL_law_815 (by decide) ?_
  exact next ad o o2 _ _ H locs (lw_step J X h2 (by have j := J.2.2.1; unfold lw_R at j ⊢; have jt := j.1; have jn := ltY_len jt; exact ⟨ltY_end jt ht.2 ht2.2 (by omega) (by omega) (by omega), by omega, jg⟩)) (rfl) hP hD hS

set_option maxHeartbeats 4000000 in
set_option maxRecDepth 100000 in
theorem lc_28 {p : Program} {e : Env} {s : State} {m : MethodId} {below : List Frame} {meth : Method} {c : Code} (l : Launch) {b L : Nat} {xs : Nat → Int32} (C0 : lw_At p s m meth c b L xs) {D : va_G} {ty : Nat → ClassId} {eo : Nat → Nat} {A : Nat → Prop} (hA : ∀ q : Nat, s.heap.size ≤ q → A q) (hB : ∀ q : Nat, A q → s.heap.size ≤ q) (hK : va_K D vwCl (kzT ty) s) (hN : kz_N s) (hE : kz_E eo A s s.heap) {i : Nat} {i6 : Int32} (hi : i ≤ 63) (hin : vp_in (i6 + 1) L ∧ vp_in (i6 + 2) L ∧ vp_in (i6 + 3) L ∧ vp_in (i6 + 4) L ∧ vp_in (i6 + 5) L) {ad am : Nat → Nat} {q : dK} {q2 : dS} {cells slots : Nat} (J : lw_J q q2 i cells slots) {H : Heap} {locs : List Loc} (hP : va_P D vwCl (wF ty ad q ++ w10 ty am q2) H) (hD : va_D A (wF ty ad q ++ w10 ty am q2)) (hS : va_S A s.heap H locs) {ls : Array Slot} (hl : lv_has ls 4 [(3, .int i6), (2, .ref (am 0)), (1, .ref (ad 0)), (0, .ref b)]) (next : ∀ (ad1 : Nat → Nat) (o : dK) (o2 : dS) (cells1 slots1 : Nat) (H1 : Heap) (locs1 : List Loc), lw_J o o2 (i + 1) cells1 slots1 → ad1 0 = ad 0 → va_P D vwCl (wF ty ad1 o ++ w10 ty am o2) H1 → va_D A (wF ty ad1 o ++ w10 ty am o2) → va_S A s.heap H1 locs1 → W p l e room_1 s m #[Value.ref b] below meth c H1 locs1 cells1 slots1 (lw_Z below #[Value.ref b] s) (F0 m 1071 ls [])) : W p l e room_1 s m #[Value.ref b] below meth c H locs cells slots (lw_Z below #[Value.ref b] s) (F0 m 818 ls []) := by
  obtain ⟨hx, hb, hr, hml, hown0, hts0, hX, hbl, hlocks, hgv⟩ := C0
  have hown : s.vm.findClass RL = some m.cls := hown0
  have hts : ∀ w ∈ lw_tbl, w.before #[Value.ref b] s = true := hts0
  have hbA : ¬ A b := fun h => absurd (hB b h) (Nat.not_le.mpr hbl)
  refine lv_aload_n hx hb dL_law_818 rfl (lv_at hl 2 rfl) ?_
  obtain ⟨r, o, hz, X, ht⟩ := lx_forget q J.1
  refine sp_ki (va_runV (As := []) (rest := []) ⟨hx, hb, hml, hown, hts⟩ (qX9_forget_s0 l D ty eo _ ad q r o hz) (cwV 0 hts gL_law_X9_forget rfl rfl rfl hd_X9_forget_v ⟨Nat.le_of_ble_eq_true rfl, Nat.le_of_ble_eq_true rfl⟩) (spv_9 hK hN hE hP hD hS hA) rfl rfl hl.1 rfl (lv_room (Nat.le_of_ble_eq_true rfl)) dL_law_819 (lw_room J X hi)) hP hD hS hA (fun r9 u H locs hw hP hD hS => ?_)
  obtain ⟨rfl, rfl⟩ := hw
  refine lv_pop hx hb dL_law_822 rfl ?_
  refine lv_aload_n hx hb dL_law_823 rfl (lv_at hl 1 rfl) ?_
  obtain ⟨r2, o2, hz2, h2, ht2⟩ := lm_forget q2 J.2.1
  refine sp_ki (va_runV (As := []) (rest := []) ⟨hx, hb, hml, hown, hts⟩ (qX10_forget l D ty eo _ am q2 r2 o2 hz2) (cwV 0 hts gL_law_X10_forget rfl rfl rfl hd_X10_forget_v ⟨Nat.le_of_ble_eq_true rfl, Nat.le_of_ble_eq_true rfl⟩) (spv_10 hK hN hE hP hD hS hA) rfl rfl hl.1 rfl (lv_room (Nat.le_of_ble_eq_true rfl)) dL_law_824 (lw_room J X hi)) hP hD hS hA (fun r9 u H locs hw hP hD hS => ?_)
  obtain ⟨rfl, rfl⟩ := hw
  refine lv_pop hx hb dL_law_827 rfl ?_
  have jg9 := rgf_forget J.1 J.2.1 J.2.2.1.2.2 hz hz2
  have jg : RG o o2 := jg9
  refine lv_goto (tgt := 1071) hx hb dL_law_828 (by decide) ?_
  exact next ad o o2 _ _ H locs (lw_step J X h2 (by have j := J.2.2.1; unfold lw_R at j ⊢; have jt := j.1; have jn := ltY_len jt; exact ⟨ltY_end jt ht.2 ht2.2 (by omega) (by omega) (by omega), by omega, jg⟩)) (rfl) hP hD hS

set_option maxHeartbeats 4000000 in
set_option maxRecDepth 100000 in
theorem lc_29 {p : Program} {e : Env} {s : State} {m : MethodId} {below : List Frame} {meth : Method} {c : Code} (l : Launch) {b L : Nat} {xs : Nat → Int32} (C0 : lw_At p s m meth c b L xs) {D : va_G} {ty : Nat → ClassId} {eo : Nat → Nat} {A : Nat → Prop} (hA : ∀ q : Nat, s.heap.size ≤ q → A q) (hB : ∀ q : Nat, A q → s.heap.size ≤ q) (hK : va_K D vwCl (kzT ty) s) (hN : kz_N s) (hE : kz_E eo A s s.heap) {i : Nat} {i6 : Int32} (hi : i ≤ 63) (hin : vp_in (i6 + 1) L ∧ vp_in (i6 + 2) L ∧ vp_in (i6 + 3) L ∧ vp_in (i6 + 4) L ∧ vp_in (i6 + 5) L) {ad am : Nat → Nat} {q : dK} {q2 : dS} {cells slots : Nat} (J : lw_J q q2 i cells slots) {H : Heap} {locs : List Loc} (hP : va_P D vwCl (wF ty ad q ++ w10 ty am q2) H) (hD : va_D A (wF ty ad q ++ w10 ty am q2)) (hS : va_S A s.heap H locs) {ls : Array Slot} (hl : lv_has ls 4 [(3, .int i6), (2, .ref (am 0)), (1, .ref (ad 0)), (0, .ref b)]) (next : ∀ (ad1 : Nat → Nat) (o : dK) (o2 : dS) (cells1 slots1 : Nat) (H1 : Heap) (locs1 : List Loc), lw_J o o2 (i + 1) cells1 slots1 → ad1 0 = ad 0 → va_P D vwCl (wF ty ad1 o ++ w10 ty am o2) H1 → va_D A (wF ty ad1 o ++ w10 ty am o2) → va_S A s.heap H1 locs1 → W p l e room_1 s m #[Value.ref b] below meth c H1 locs1 cells1 slots1 (lw_Z below #[Value.ref b] s) (F0 m 1071 ls [])) : W p l e room_1 s m #[Value.ref b] below meth c H locs cells slots (lw_Z below #[Value.ref b] s) (F0 m 831 ls []) := by
  obtain ⟨hx, hb, hr, hml, hown0, hts0, hX, hbl, hlocks, hgv⟩ := C0
  have hown : s.vm.findClass RL = some m.cls := hown0
  have hts : ∀ w ∈ lw_tbl, w.before #[Value.ref b] s = true := hts0
  have hbA : ¬ A b := fun h => absurd (hB b h) (Nat.not_le.mpr hbl)
  refine lv_aload_n hx hb dL_law_831 rfl (lv_at hl 2 rfl) ?_
  obtain ⟨r, o, hz, X, ht⟩ := lx_was q J.1
  refine sp_ki (va_runV (As := []) (rest := []) ⟨hx, hb, hml, hown, hts⟩ (qX9_was_s0 l D ty eo _ ad q r o hz) (cwV 0 hts gL_law_X9_was rfl rfl rfl hd_X9_was_v ⟨Nat.le_of_ble_eq_true rfl, Nat.le_of_ble_eq_true rfl⟩) (spv_9 hK hN hE hP hD hS hA) rfl rfl hl.1 rfl (lv_room (Nat.le_of_ble_eq_true rfl)) dL_law_832 (lw_room J X hi)) hP hD hS hA (fun r9 u H locs hw hP hD hS => ?_)
  obtain ⟨rfl, rfl⟩ := hw
  refine lv_pop hx hb dL_law_835 rfl ?_
  refine lv_aload_n hx hb dL_law_836 rfl (lv_at hl 1 rfl) ?_
  obtain ⟨r2, o2, hz2, h2, ht2⟩ := lm_was q2 J.2.1
  refine sp_ki (va_runV (As := []) (rest := []) ⟨hx, hb, hml, hown, hts⟩ (qX10_was l D ty eo _ am q2 r2 o2 hz2) (cwV 0 hts gL_law_X10_was rfl rfl rfl hd_X10_was_v ⟨Nat.le_of_ble_eq_true rfl, Nat.le_of_ble_eq_true rfl⟩) (spv_10 hK hN hE hP hD hS hA) rfl rfl hl.1 rfl (lv_room (Nat.le_of_ble_eq_true rfl)) dL_law_837 (lw_room J X hi)) hP hD hS hA (fun r9 u H locs hw hP hD hS => ?_)
  obtain ⟨rfl, rfl⟩ := hw
  refine lv_pop hx hb dL_law_840 rfl ?_
  have jg9 := rgf_was J.1 J.2.1 J.2.2.1.2.2 hz hz2
  have jg : RG o o2 := jg9
  refine lv_goto (tgt := 1071) hx hb dL_law_841 (by decide) ?_
  exact next ad o o2 _ _ H locs (lw_step J X h2 (by have j := J.2.2.1; unfold lw_R at j ⊢; have jt := j.1; have jn := ltY_len jt; exact ⟨ltY_end jt ht.2 ht2.2 (by omega) (by omega) (by omega), by omega, jg⟩)) (rfl) hP hD hS

set_option maxHeartbeats 4000000 in
set_option maxRecDepth 100000 in
theorem lc_30 {p : Program} {e : Env} {s : State} {m : MethodId} {below : List Frame} {meth : Method} {c : Code} (l : Launch) {b L : Nat} {xs : Nat → Int32} (C0 : lw_At p s m meth c b L xs) {D : va_G} {ty : Nat → ClassId} {eo : Nat → Nat} {A : Nat → Prop} (hA : ∀ q : Nat, s.heap.size ≤ q → A q) (hB : ∀ q : Nat, A q → s.heap.size ≤ q) (hK : va_K D vwCl (kzT ty) s) (hN : kz_N s) (hE : kz_E eo A s s.heap) {i : Nat} {i6 : Int32} (hi : i ≤ 63) (hin : vp_in (i6 + 1) L ∧ vp_in (i6 + 2) L ∧ vp_in (i6 + 3) L ∧ vp_in (i6 + 4) L ∧ vp_in (i6 + 5) L) {ad am : Nat → Nat} {q : dK} {q2 : dS} {cells slots : Nat} (J : lw_J q q2 i cells slots) {H : Heap} {locs : List Loc} (hP : va_P D vwCl (wF ty ad q ++ w10 ty am q2) H) (hD : va_D A (wF ty ad q ++ w10 ty am q2)) (hS : va_S A s.heap H locs) {ls : Array Slot} (hl : lv_has ls 4 [(3, .int i6), (2, .ref (am 0)), (1, .ref (ad 0)), (0, .ref b)]) (next : ∀ (ad1 : Nat → Nat) (o : dK) (o2 : dS) (cells1 slots1 : Nat) (H1 : Heap) (locs1 : List Loc), lw_J o o2 (i + 1) cells1 slots1 → ad1 0 = ad 0 → va_P D vwCl (wF ty ad1 o ++ w10 ty am o2) H1 → va_D A (wF ty ad1 o ++ w10 ty am o2) → va_S A s.heap H1 locs1 → W p l e room_1 s m #[Value.ref b] below meth c H1 locs1 cells1 slots1 (lw_Z below #[Value.ref b] s) (F0 m 1071 ls [])) : W p l e room_1 s m #[Value.ref b] below meth c H locs cells slots (lw_Z below #[Value.ref b] s) (F0 m 844 ls []) := by
  obtain ⟨hx, hb, hr, hml, hown0, hts0, hX, hbl, hlocks, hgv⟩ := C0
  have hown : s.vm.findClass RL = some m.cls := hown0
  have hts : ∀ w ∈ lw_tbl, w.before #[Value.ref b] s = true := hts0
  have hbA : ¬ A b := fun h => absurd (hB b h) (Nat.not_le.mpr hbl)
  refine lv_aload_n hx hb dL_law_844 rfl (lv_at hl 2 rfl) ?_
  refine lv_aload_n hx hb dL_law_845 rfl (lv_at hl 3 rfl) ?_
  refine lv_iload_n hx hb dL_law_846 rfl (lv_at hl 0 rfl) ?_
  refine lv_iconst (v := 1) hx hb dL_law_847 (by decide) ?_
  refine lv_iadd hx hb dL_law_848 ?_
  refine va_sld hx hb hX hbl hbA hS hin.1 dL_law_849 ?_
  refine lv_topi (fun a1 ea1 => ?_)
  obtain ⟨r, o, hz, X, ht⟩ := lx_look q a1 J.1
  refine sp_ki (va_runV (As := [.int a1]) (rest := []) ⟨hx, hb, hml, hown, hts⟩ (qX9_look_s0 l D ty eo _ ad q a1 r o hz) (cwV 1 hts gL_law_X9_look rfl rfl rfl hd_X9_look_v ⟨Nat.le_of_ble_eq_true rfl, Nat.le_of_ble_eq_true rfl⟩) (spv_9 hK hN hE hP hD hS hA) rfl rfl hl.1 rfl (lv_room (Nat.le_of_ble_eq_true rfl)) dL_law_850 (lw_room J X hi)) hP hD hS hA (fun r9 u H locs hw hP hD hS => ?_)
  obtain ⟨rfl, rfl⟩ := hw
  refine lv_pop hx hb dL_law_853 rfl ?_
  refine lv_aload_n hx hb dL_law_854 rfl (lv_at hl 1 rfl) ?_
  refine lv_aload_n hx hb dL_law_855 rfl (lv_at hl 3 rfl) ?_
  refine lv_iload_n hx hb dL_law_856 rfl (lv_at hl 0 rfl) ?_
  refine lv_iconst (v := 1) hx hb dL_law_857 (by decide) ?_
  refine lv_iadd hx hb dL_law_858 ?_
  refine va_sld hx hb hX hbl hbA hS hin.1 dL_law_859 ?_
  refine kz_topi a1 ea1.symm ?_
  obtain ⟨r2, o2, hz2, h2, ht2⟩ := lm_look q2 a1 J.2.1
  refine sp_ki (va_runV (As := [.int a1]) (rest := []) ⟨hx, hb, hml, hown, hts⟩ (qX10_look l D ty eo _ am q2 a1 r2 o2 hz2) (cwV 1 hts gL_law_X10_look rfl rfl rfl hd_X10_look_v ⟨Nat.le_of_ble_eq_true rfl, Nat.le_of_ble_eq_true rfl⟩) (spv_10 hK hN hE hP hD hS hA) rfl rfl hl.1 rfl (lv_room (Nat.le_of_ble_eq_true rfl)) dL_law_860 (lw_room J X hi)) hP hD hS hA (fun r9 u H locs hw hP hD hS => ?_)
  obtain ⟨rfl, rfl⟩ := hw
  refine lv_pop hx hb dL_law_863 rfl ?_
  have jg9 := rgf_look J.1 J.2.1 J.2.2.1.2.2 a1 hz hz2
  have jg : RG o o2 := jg9
  refine lv_goto (tgt := 1071) hx hb dL_law_864 (by decide) ?_
  exact next ad o o2 _ _ H locs (lw_step J X h2 (by have j := J.2.2.1; unfold lw_R at j ⊢; have jt := j.1; have jn := ltY_len jt; exact ⟨ltY_end jt ht.2 ht2.2 (by omega) (by omega) (by omega), by omega, jg⟩)) (rfl) hP hD hS

set_option maxHeartbeats 4000000 in
set_option maxRecDepth 100000 in
theorem lc_31 {p : Program} {e : Env} {s : State} {m : MethodId} {below : List Frame} {meth : Method} {c : Code} (l : Launch) {b L : Nat} {xs : Nat → Int32} (C0 : lw_At p s m meth c b L xs) {D : va_G} {ty : Nat → ClassId} {eo : Nat → Nat} {A : Nat → Prop} (hA : ∀ q : Nat, s.heap.size ≤ q → A q) (hB : ∀ q : Nat, A q → s.heap.size ≤ q) (hK : va_K D vwCl (kzT ty) s) (hN : kz_N s) (hE : kz_E eo A s s.heap) {i : Nat} {i6 : Int32} (hi : i ≤ 63) (hin : vp_in (i6 + 1) L ∧ vp_in (i6 + 2) L ∧ vp_in (i6 + 3) L ∧ vp_in (i6 + 4) L ∧ vp_in (i6 + 5) L) {ad am : Nat → Nat} {q : dK} {q2 : dS} {cells slots : Nat} (J : lw_J q q2 i cells slots) {H : Heap} {locs : List Loc} (hP : va_P D vwCl (wF ty ad q ++ w10 ty am q2) H) (hD : va_D A (wF ty ad q ++ w10 ty am q2)) (hS : va_S A s.heap H locs) {ls : Array Slot} (hl : lv_has ls 4 [(3, .int i6), (2, .ref (am 0)), (1, .ref (ad 0)), (0, .ref b)]) (next : ∀ (ad1 : Nat → Nat) (o : dK) (o2 : dS) (cells1 slots1 : Nat) (H1 : Heap) (locs1 : List Loc), lw_J o o2 (i + 1) cells1 slots1 → ad1 0 = ad 0 → va_P D vwCl (wF ty ad1 o ++ w10 ty am o2) H1 → va_D A (wF ty ad1 o ++ w10 ty am o2) → va_S A s.heap H1 locs1 → W p l e room_1 s m #[Value.ref b] below meth c H1 locs1 cells1 slots1 (lw_Z below #[Value.ref b] s) (F0 m 1071 ls [])) : W p l e room_1 s m #[Value.ref b] below meth c H locs cells slots (lw_Z below #[Value.ref b] s) (F0 m 867 ls []) := by
  obtain ⟨hx, hb, hr, hml, hown0, hts0, hX, hbl, hlocks, hgv⟩ := C0
  have hown : s.vm.findClass RL = some m.cls := hown0
  have hts : ∀ w ∈ lw_tbl, w.before #[Value.ref b] s = true := hts0
  have hbA : ¬ A b := fun h => absurd (hB b h) (Nat.not_le.mpr hbl)
  refine lv_aload_n hx hb dL_law_867 rfl (lv_at hl 2 rfl) ?_
  refine lv_aload_n hx hb dL_law_868 rfl (lv_at hl 3 rfl) ?_
  refine lv_iload_n hx hb dL_law_869 rfl (lv_at hl 0 rfl) ?_
  refine lv_iconst (v := 1) hx hb dL_law_870 (by decide) ?_
  refine lv_iadd hx hb dL_law_871 ?_
  refine va_sld hx hb hX hbl hbA hS hin.1 dL_law_872 ?_
  refine lv_topi (fun a1 ea1 => ?_)
  refine lv_aload_n hx hb dL_law_873 rfl (lv_at hl 3 rfl) ?_
  refine lv_iload_n hx hb dL_law_874 rfl (lv_at hl 0 rfl) ?_
  refine lv_iconst (v := 2) hx hb dL_law_875 (by decide) ?_
  refine lv_iadd hx hb dL_law_876 ?_
  refine va_sld hx hb hX hbl hbA hS hin.2.1 dL_law_877 ?_
  refine lv_topi (fun a2 ea2 => ?_)
  obtain ⟨r, o, hz, X, ht⟩ := lx_few q a1 a2 J.1
  refine sp_kl (va_runV (As := [.int a1, .int a2]) (rest := []) ⟨hx, hb, hml, hown, hts⟩ (qX9_few_s0 l D ty eo _ ad q a1 a2 r o hz) (cwV 2 hts gL_law_X9_few rfl rfl rfl hd_X9_few_v ⟨Nat.le_of_ble_eq_true rfl, Nat.le_of_ble_eq_true rfl⟩) (spv_9 hK hN hE hP hD hS hA) rfl rfl hl.1 rfl (lv_room (Nat.le_of_ble_eq_true rfl)) dL_law_878 (lw_room J X hi)) hP hD hS hA (fun r9 u H locs hw hP hD hS => ?_)
  obtain ⟨rfl, rfl⟩ := hw
  refine lv_pop2_2 hx hb dL_law_881 rfl ?_
  refine lv_aload_n hx hb dL_law_882 rfl (lv_at hl 1 rfl) ?_
  refine lv_aload_n hx hb dL_law_883 rfl (lv_at hl 3 rfl) ?_
  refine lv_iload_n hx hb dL_law_884 rfl (lv_at hl 0 rfl) ?_
  refine lv_iconst (v := 1) hx hb dL_law_885 (by decide) ?_
  refine lv_iadd hx hb dL_law_886 ?_
  refine va_sld hx hb hX hbl hbA hS hin.1 dL_law_887 ?_
  refine kz_topi a1 ea1.symm ?_
  refine lv_aload_n hx hb dL_law_888 rfl (lv_at hl 3 rfl) ?_
  refine lv_iload_n hx hb dL_law_889 rfl (lv_at hl 0 rfl) ?_
  refine lv_iconst (v := 2) hx hb dL_law_890 (by decide) ?_
  refine lv_iadd hx hb dL_law_891 ?_
  refine va_sld hx hb hX hbl hbA hS hin.2.1 dL_law_892 ?_
  refine kz_topi a2 ea2.symm ?_
  obtain ⟨r2, o2, hz2, h2, ht2⟩ := lm_few q2 a1 a2 J.2.1
  refine sp_kl (va_runV (As := [.int a1, .int a2]) (rest := []) ⟨hx, hb, hml, hown, hts⟩ (qX10_few l D ty eo _ am q2 a1 a2 r2 o2 hz2) (cwV 2 hts gL_law_X10_few rfl rfl rfl hd_X10_few_v ⟨Nat.le_of_ble_eq_true rfl, Nat.le_of_ble_eq_true rfl⟩) (spv_10 hK hN hE hP hD hS hA) rfl rfl hl.1 rfl (lv_room (Nat.le_of_ble_eq_true rfl)) dL_law_893 (lw_room J X hi)) hP hD hS hA (fun r9 u H locs hw hP hD hS => ?_)
  obtain ⟨rfl, rfl⟩ := hw
  refine lv_pop2_2 hx hb dL_law_896 rfl ?_
  have jg9 := rgf_few J.1 J.2.1 J.2.2.1.2.2 a1 a2 hz hz2
  have jg : RG o o2 := jg9
  refine lv_goto (tgt := 1071) hx hb dL_law_897 (by decide) ?_
  exact next ad o o2 _ _ H locs (lw_step J X h2 (by have j := J.2.2.1; unfold lw_R at j ⊢; have jt := j.1; have jn := ltY_len jt; exact ⟨ltY_end jt ht.2 ht2.2 (by omega) (by omega) (by omega), by omega, jg⟩)) (rfl) hP hD hS
