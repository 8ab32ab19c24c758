set_option maxHeartbeats 4000000 in
set_option maxRecDepth 100000 in
theorem lc_32 {p : Program} {e : Env} {s : State} {m : MethodId} {below : List Frame} {meth : Method} {c : Code} (l : Launch) {b L : Nat} {xs : Nat → Int32} (C0 : lw_At p s m meth c b L xs) {D : va_G} {ty : Nat → ClassId} {eo : Nat → Nat} {A : Nat → Prop} (hA : ∀ q : Nat, s.heap.size ≤ q → A q) (hB : ∀ q : Nat, A q → s.heap.size ≤ q) (hK : va_K D vwCl (kzT ty) s) (hN : kz_N s) (hE : kz_E eo A s s.heap) {i : Nat} {i6 : Int32} (hi : i ≤ 63) (hin : vp_in (i6 + 1) L ∧ vp_in (i6 + 2) L ∧ vp_in (i6 + 3) L ∧ vp_in (i6 + 4) L ∧ vp_in (i6 + 5) L) {ad am : Nat → Nat} {q : dK} {q2 : dS} {cells slots : Nat} (J : lw_J q q2 i cells slots) {H : Heap} {locs : List Loc} (hP : va_P D vwCl (wF ty ad q ++ w10 ty am q2) H) (hD : va_D A (wF ty ad q ++ w10 ty am q2)) (hS : va_S A s.heap H locs) {ls : Array Slot} (hl : lv_has ls 4 [(3, .int i6), (2, .ref (am 0)), (1, .ref (ad 0)), (0, .ref b)]) (next : ∀ (ad1 : Nat → Nat) (o : dK) (o2 : dS) (cells1 slots1 : Nat) (H1 : Heap) (locs1 : List Loc), lw_J o o2 (i + 1) cells1 slots1 → ad1 0 = ad 0 → va_P D vwCl (wF ty ad1 o ++ w10 ty am o2) H1 → va_D A (wF ty ad1 o ++ w10 ty am o2) → va_S A s.heap H1 locs1 → W p l e room_1 s m #[Value.ref b] below meth c H1 locs1 cells1 slots1 (lw_Z below #[Value.ref b] s) (F0 m 1071 ls [])) : W p l e room_1 s m #[Value.ref b] below meth c H locs cells slots (lw_Z below #[Value.ref b] s) (F0 m 900 ls []) := by
  obtain ⟨hx, hb, hr, hml, hown0, hts0, hX, hbl, hlocks, hgv⟩ := C0
  have hown : s.vm.findClass RL = some m.cls := hown0
  have hts : ∀ w ∈ lw_tbl, w.before #[Value.ref b] s = true := hts0
  have hbA : ¬ A b := fun h => absurd (hB b h) (Nat.not_le.mpr hbl)
  refine lv_aload_n hx hb dL_law_900 rfl (lv_at hl 2 rfl) ?_
  refine lv_aload_n hx hb dL_law_901 rfl (lv_at hl 3 rfl) ?_
  refine lv_iload_n hx hb dL_law_902 rfl (lv_at hl 0 rfl) ?_
  refine lv_iconst (v := 1) hx hb dL_law_903 (by decide) ?_
  refine lv_iadd hx hb dL_law_904 ?_
  refine va_sld hx hb hX hbl hbA hS hin.1 dL_law_905 ?_
  refine lv_topi (fun a1 ea1 => ?_)
  obtain ⟨mc, ms, r, o, hz, X, ht⟩ := lx_compare q a1 J.1
  refine sp_ki (va_runV (As := [.int a1]) (rest := []) ⟨hx, hb, hml, hown, hts⟩ (qX9_compare_s0 l D ty eo _ ad mc ms q a1 r o hz) (cwV 1 hts gL_law_X9_compare rfl rfl rfl hd_X9_compare_v ⟨Nat.le_of_ble_eq_true rfl, Nat.le_of_ble_eq_true rfl⟩) (spv_9 hK hN hE hP hD hS hA) rfl rfl hl.1 rfl (lv_room (Nat.le_of_ble_eq_true rfl)) dL_law_906 (lw_room J X hi)) hP hD hS hA (fun r9 u H locs hw hP hD hS => ?_)
  obtain ⟨rfl, ad9, hg, rfl⟩ := hw
  refine lv_pop hx hb dL_law_909 rfl ?_
  refine lv_aload_n hx hb dL_law_910 rfl (lv_at hl 1 rfl) ?_
  refine lv_aload_n hx hb dL_law_911 rfl (lv_at hl 3 rfl) ?_
  refine lv_iload_n hx hb dL_law_912 rfl (lv_at hl 0 rfl) ?_
  refine lv_iconst (v := 1) hx hb dL_law_913 (by decide) ?_
  refine lv_iadd hx hb dL_law_914 ?_
  refine va_sld hx hb hX hbl hbA hS hin.1 dL_law_915 ?_
  refine kz_topi a1 ea1.symm ?_
  obtain ⟨r2, o2, hz2, h2, ht2⟩ := lm_compare q2 a1 J.2.1
  refine sp_ki (va_runV (As := [.int a1]) (rest := []) ⟨hx, hb, hml, hown, hts⟩ (qX10_compare l D ty eo _ am q2 a1 r2 o2 hz2) (cwV 1 hts gL_law_X10_compare rfl rfl rfl hd_X10_compare_v ⟨Nat.le_of_ble_eq_true rfl, Nat.le_of_ble_eq_true rfl⟩) (spv_10 hK hN hE hP hD hS hA) rfl rfl hl.1 rfl (lv_room (Nat.le_of_ble_eq_true rfl)) dL_law_916 (lw_room (mc := mc) (ms := ms) J X hi)) hP hD hS hA (fun r9 u H locs hw hP hD hS => ?_)
  obtain ⟨rfl, rfl⟩ := hw
  refine lv_pop hx hb dL_law_919 rfl ?_
  have jg : RG o o2 := rg_compare J.2.1 J.2.2.1.2.2 a1 ht.2.1 hz2
  refine lv_goto (tgt := 1071) hx hb dL_law_920 (by decide) ?_
  exact next ad9 o o2 _ _ H locs (lw_step J X h2 (by have j := J.2.2.1; unfold lw_R at j ⊢; have jt := j.1; have jn := ltY_len jt; exact ⟨ltY_end jt ht.2.2 ht2.2 (by omega) (by omega) (by omega), by omega, jg⟩)) (hg 0 (Or.inl (by decide))) hP hD hS

set_option maxHeartbeats 4000000 in
set_option maxRecDepth 100000 in
theorem lc_33 {p : Program} {e : Env} {s : State} {m : MethodId} {below : List Frame} {meth : Method} {c : Code} (l : Launch) {b L : Nat} {xs : Nat → Int32} (C0 : lw_At p s m meth c b L xs) {D : va_G} {ty : Nat → ClassId} {eo : Nat → Nat} {A : Nat → Prop} (hA : ∀ q : Nat, s.heap.size ≤ q → A q) (hB : ∀ q : Nat, A q → s.heap.size ≤ q) (hK : va_K D vwCl (kzT ty) s) (hN : kz_N s) (hE : kz_E eo A s s.heap) {i : Nat} {i6 : Int32} (hi : i ≤ 63) (hin : vp_in (i6 + 1) L ∧ vp_in (i6 + 2) L ∧ vp_in (i6 + 3) L ∧ vp_in (i6 + 4) L ∧ vp_in (i6 + 5) L) {ad am : Nat → Nat} {q : dK} {q2 : dS} {cells slots : Nat} (J : lw_J q q2 i cells slots) {H : Heap} {locs : List Loc} (hP : va_P D vwCl (wF ty ad q ++ w10 ty am q2) H) (hD : va_D A (wF ty ad q ++ w10 ty am q2)) (hS : va_S A s.heap H locs) {ls : Array Slot} (hl : lv_has ls 4 [(3, .int i6), (2, .ref (am 0)), (1, .ref (ad 0)), (0, .ref b)]) (next : ∀ (ad1 : Nat → Nat) (o : dK) (o2 : dS) (cells1 slots1 : Nat) (H1 : Heap) (locs1 : List Loc), lw_J o o2 (i + 1) cells1 slots1 → ad1 0 = ad 0 → va_P D vwCl (wF ty ad1 o ++ w10 ty am o2) H1 → va_D A (wF ty ad1 o ++ w10 ty am o2) → va_S A s.heap H1 locs1 → W p l e room_1 s m #[Value.ref b] below meth c H1 locs1 cells1 slots1 (lw_Z below #[Value.ref b] s) (F0 m 1071 ls [])) : W p l e room_1 s m #[Value.ref b] below meth c H locs cells slots (lw_Z below #[Value.ref b] s) (F0 m 923 ls []) := by
  obtain ⟨hx, hb, hr, hml, hown0, hts0, hX, hbl, hlocks, hgv⟩ := C0
  have hown : s.vm.findClass RL = some m.cls := hown0
  have hts : ∀ w ∈ lw_tbl, w.before #[Value.ref b] s = true := hts0
  have hbA : ¬ A b := fun h => absurd (hB b h) (Nat.not_le.mpr hbl)
  refine lv_aload_n hx hb dL_law_923 rfl (lv_at hl 2 rfl) ?_
  refine lv_aload_n hx hb dL_law_924 rfl (lv_at hl 3 rfl) ?_
  refine lv_iload_n hx hb dL_law_925 rfl (lv_at hl 0 rfl) ?_
  refine lv_iconst (v := 1) hx hb dL_law_926 (by decide) ?_
  refine lv_iadd hx hb dL_law_927 ?_
  refine va_sld hx hb hX hbl hbA hS hin.1 dL_law_928 ?_
  refine lv_topi (fun a1 ea1 => ?_)
  refine lv_aload_n hx hb dL_law_929 rfl (lv_at hl 3 rfl) ?_
  refine lv_iload_n hx hb dL_law_930 rfl (lv_at hl 0 rfl) ?_
  refine lv_iconst (v := 2) hx hb dL_law_931 (by decide) ?_
  refine lv_iadd hx hb dL_law_932 ?_
  refine va_sld hx hb hX hbl hbA hS hin.2.1 dL_law_933 ?_
  refine lv_topi (fun a2 ea2 => ?_)
  obtain ⟨r, o, hz, X, ht⟩ := lx_years q a1 a2 J.1
  refine sp_ki (va_runV (As := [.int a1, .int a2]) (rest := []) ⟨hx, hb, hml, hown, hts⟩ (qX9_years_s0 l D ty eo _ ad q a1 a2 r o hz) (cwV 2 hts gL_law_X9_years rfl rfl rfl hd_X9_years_v ⟨Nat.le_of_ble_eq_true rfl, Nat.le_of_ble_eq_true rfl⟩) (spv_9 hK hN hE hP hD hS hA) rfl rfl hl.1 rfl (lv_room (Nat.le_of_ble_eq_true rfl)) dL_law_934 (lw_room J X hi)) hP hD hS hA (fun r9 u H locs hw hP hD hS => ?_)
  obtain ⟨rfl, rfl⟩ := hw
  refine lv_pop hx hb dL_law_937 rfl ?_
  refine lv_aload_n hx hb dL_law_938 rfl (lv_at hl 1 rfl) ?_
  refine lv_aload_n hx hb dL_law_939 rfl (lv_at hl 3 rfl) ?_
  refine lv_iload_n hx hb dL_law_940 rfl (lv_at hl 0 rfl) ?_
  refine lv_iconst (v := 1) hx hb dL_law_941 (by decide) ?_
  refine lv_iadd hx hb dL_law_942 ?_
  refine va_sld hx hb hX hbl hbA hS hin.1 dL_law_943 ?_
  refine kz_topi a1 ea1.symm ?_
  refine lv_aload_n hx hb dL_law_944 rfl (lv_at hl 3 rfl) ?_
  refine lv_iload_n hx hb dL_law_945 rfl (lv_at hl 0 rfl) ?_
  refine lv_iconst (v := 2) hx hb dL_law_946 (by decide) ?_
  refine lv_iadd hx hb dL_law_947 ?_
  refine va_sld hx hb hX hbl hbA hS hin.2.1 dL_law_948 ?_
  refine kz_topi a2 ea2.symm ?_
  obtain ⟨r2, o2, hz2, h2, ht2⟩ := lm_years q2 a1 a2 J.2.1
  refine sp_ki (va_runV (As := [.int a1, .int a2]) (rest := []) ⟨hx, hb, hml, hown, hts⟩ (qX10_years l D ty eo _ am q2 a1 a2 r2 o2 hz2) (cwV 2 hts gL_law_X10_years rfl rfl rfl hd_X10_years_v ⟨Nat.le_of_ble_eq_true rfl, Nat.le_of_ble_eq_true rfl⟩) (spv_10 hK hN hE hP hD hS hA) rfl rfl hl.1 rfl (lv_room (Nat.le_of_ble_eq_true rfl)) dL_law_949 (lw_room J X hi)) hP hD hS hA (fun r9 u H locs hw hP hD hS => ?_)
  obtain ⟨rfl, rfl⟩ := hw
  refine lv_pop hx hb dL_law_952 rfl ?_
  have jg9 := rgf_years J.1 J.2.1 J.2.2.1.2.2 a1 a2 hz hz2
  have jg : RG o o2 := jg9
  refine lv_goto (tgt := 1071) hx hb dL_law_953 (by decide) ?_
  exact next ad o o2 _ _ H locs (lw_step J X h2 (by have j := J.2.2.1; unfold lw_R at j ⊢; have jt := j.1; have jn := ltY_len jt; exact ⟨ltY_end jt ht.2 ht2.2 (by omega) (by omega) (by omega), by omega, jg⟩)) (rfl) hP hD hS

set_option maxHeartbeats 4000000 in
set_option maxRecDepth 100000 in
theorem lc_34 {p : Program} {e : Env} {s : State} {m : MethodId} {below : List Frame} {meth : Method} {c : Code} (l : Launch) {b L : Nat} {xs : Nat → Int32} (C0 : lw_At p s m meth c b L xs) {D : va_G} {ty : Nat → ClassId} {eo : Nat → Nat} {A : Nat → Prop} (hA : ∀ q : Nat, s.heap.size ≤ q → A q) (hB : ∀ q : Nat, A q → s.heap.size ≤ q) (hK : va_K D vwCl (kzT ty) s) (hN : kz_N s) (hE : kz_E eo A s s.heap) {i : Nat} {i6 : Int32} (hi : i ≤ 63) (hin : vp_in (i6 + 1) L ∧ vp_in (i6 + 2) L ∧ vp_in (i6 + 3) L ∧ vp_in (i6 + 4) L ∧ vp_in (i6 + 5) L) {ad am : Nat → Nat} {q : dK} {q2 : dS} {cells slots : Nat} (J : lw_J q q2 i cells slots) {H : Heap} {locs : List Loc} (hP : va_P D vwCl (wF ty ad q ++ w10 ty am q2) H) (hD : va_D A (wF ty ad q ++ w10 ty am q2)) (hS : va_S A s.heap H locs) {ls : Array Slot} (hl : lv_has ls 4 [(3, .int i6), (2, .ref (am 0)), (1, .ref (ad 0)), (0, .ref b)]) (next : ∀ (ad1 : Nat → Nat) (o : dK) (o2 : dS) (cells1 slots1 : Nat) (H1 : Heap) (locs1 : List Loc), lw_J o o2 (i + 1) cells1 slots1 → ad1 0 = ad 0 → va_P D vwCl (wF ty ad1 o ++ w10 ty am o2) H1 → va_D A (wF ty ad1 o ++ w10 ty am o2) → va_S A s.heap H1 locs1 → W p l e room_1 s m #[Value.ref b] below meth c H1 locs1 cells1 slots1 (lw_Z below #[Value.ref b] s) (F0 m 1071 ls [])) : W p l e room_1 s m #[Value.ref b] below meth c H locs cells slots (lw_Z below #[Value.ref b] s) (F0 m 956 ls []) := by
  obtain ⟨hx, hb, hr, hml, hown0, hts0, hX, hbl, hlocks, hgv⟩ := C0
  have hown : s.vm.findClass RL = some m.cls := hown0
  have hts : ∀ w ∈ lw_tbl, w.before #[Value.ref b] s = true := hts0
  have hbA : ¬ A b := fun h => absurd (hB b h) (Nat.not_le.mpr hbl)
  refine lv_aload_n hx hb dL_law_956 rfl (lv_at hl 2 rfl) ?_
  refine lv_aload_n hx hb dL_law_957 rfl (lv_at hl 3 rfl) ?_
  refine lv_iload_n hx hb dL_law_958 rfl (lv_at hl 0 rfl) ?_
  refine lv_iconst (v := 1) hx hb dL_law_959 (by decide) ?_
  refine lv_iadd hx hb dL_law_960 ?_
  refine va_sld hx hb hX hbl hbA hS hin.1 dL_law_961 ?_
  refine lv_topi (fun a1 ea1 => ?_)
  refine lv_aload_n hx hb dL_law_962 rfl (lv_at hl 3 rfl) ?_
  refine lv_iload_n hx hb dL_law_963 rfl (lv_at hl 0 rfl) ?_
  refine lv_iconst (v := 2) hx hb dL_law_964 (by decide) ?_
  refine lv_iadd hx hb dL_law_965 ?_
  refine va_sld hx hb hX hbl hbA hS hin.2.1 dL_law_966 ?_
  refine lv_topi (fun a2 ea2 => ?_)
  obtain ⟨r, o, hz, X, ht⟩ := lx_drawn q a1 a2 J.1
  refine sp_ki (va_runV (As := [.int a1, .int a2]) (rest := []) ⟨hx, hb, hml, hown, hts⟩ (qX9_drawn_s0 l D ty eo _ ad q a1 a2 r o hz) (cwV 2 hts gL_law_X9_drawn rfl rfl rfl hd_X9_drawn_v ⟨Nat.le_of_ble_eq_true rfl, Nat.le_of_ble_eq_true rfl⟩) (spv_9 hK hN hE hP hD hS hA) rfl rfl hl.1 rfl (lv_room (Nat.le_of_ble_eq_true rfl)) dL_law_967 (lw_room J X hi)) hP hD hS hA (fun r9 u H locs hw hP hD hS => ?_)
  obtain ⟨rfl, rfl⟩ := hw
  refine lv_pop hx hb dL_law_970 rfl ?_
  refine lv_aload_n hx hb dL_law_971 rfl (lv_at hl 1 rfl) ?_
  refine lv_aload_n hx hb dL_law_972 rfl (lv_at hl 3 rfl) ?_
  refine lv_iload_n hx hb dL_law_973 rfl (lv_at hl 0 rfl) ?_
  refine lv_iconst (v := 1) hx hb dL_law_974 (by decide) ?_
  refine lv_iadd hx hb dL_law_975 ?_
  refine va_sld hx hb hX hbl hbA hS hin.1 dL_law_976 ?_
  refine kz_topi a1 ea1.symm ?_
  refine lv_aload_n hx hb dL_law_977 rfl (lv_at hl 3 rfl) ?_
  refine lv_iload_n hx hb dL_law_978 rfl (lv_at hl 0 rfl) ?_
  refine lv_iconst (v := 2) hx hb dL_law_979 (by decide) ?_
  refine lv_iadd hx hb dL_law_980 ?_
  refine va_sld hx hb hX hbl hbA hS hin.2.1 dL_law_981 ?_
  refine kz_topi a2 ea2.symm ?_
  obtain ⟨r2, o2, hz2, h2, ht2⟩ := lm_drawn q2 a1 a2 J.2.1
  refine sp_ki (va_runV (As := [.int a1, .int a2]) (rest := []) ⟨hx, hb, hml, hown, hts⟩ (qX10_drawn l D ty eo _ am q2 a1 a2 r2 o2 hz2) (cwV 2 hts gL_law_X10_drawn rfl rfl rfl hd_X10_drawn_v ⟨Nat.le_of_ble_eq_true rfl, Nat.le_of_ble_eq_true rfl⟩) (spv_10 hK hN hE hP hD hS hA) rfl rfl hl.1 rfl (lv_room (Nat.le_of_ble_eq_true rfl)) dL_law_982 (lw_room J X hi)) hP hD hS hA (fun r9 u H locs hw hP hD hS => ?_)
  obtain ⟨rfl, rfl⟩ := hw
  refine lv_pop hx hb dL_law_985 rfl ?_
  have jg9 := rgf_drawn J.1 J.2.1 J.2.2.1.2.2 a1 a2 hz hz2
  have jg : RG o o2 := jg9
  refine lv_goto (tgt := 1071) hx hb dL_law_986 (by decide) ?_
  exact next ad o o2 _ _ H locs (lw_step J X h2 (by have j := J.2.2.1; unfold lw_R at j ⊢; have jt := j.1; have jn := ltY_len jt; exact ⟨ltY_end jt ht.2 ht2.2 (by omega) (by omega) (by omega), by omega, jg⟩)) (rfl) hP hD hS

set_option maxHeartbeats 4000000 in
set_option maxRecDepth 100000 in
theorem lc_35 {p : Program} {e : Env} {s : State} {m : MethodId} {below : List Frame} {meth : Method} {c : Code} (l : Launch) {b L : Nat} {xs : Nat → Int32} (C0 : lw_At p s m meth c b L xs) {D : va_G} {ty : Nat → ClassId} {eo : Nat → Nat} {A : Nat → Prop} (hA : ∀ q : Nat, s.heap.size ≤ q → A q) (hB : ∀ q : Nat, A q → s.heap.size ≤ q) (hK : va_K D vwCl (kzT ty) s) (hN : kz_N s) (hE : kz_E eo A s s.heap) {i : Nat} {i6 : Int32} (hi : i ≤ 63) (hin : vp_in (i6 + 1) L ∧ vp_in (i6 + 2) L ∧ vp_in (i6 + 3) L ∧ vp_in (i6 + 4) L ∧ vp_in (i6 + 5) L) {ad am : Nat → Nat} {q : dK} {q2 : dS} {cells slots : Nat} (J : lw_J q q2 i cells slots) {H : Heap} {locs : List Loc} (hP : va_P D vwCl (wF ty ad q ++ w10 ty am q2) H) (hD : va_D A (wF ty ad q ++ w10 ty am q2)) (hS : va_S A s.heap H locs) {ls : Array Slot} (hl : lv_has ls 4 [(3, .int i6), (2, .ref (am 0)), (1, .ref (ad 0)), (0, .ref b)]) (next : ∀ (ad1 : Nat → Nat) (o : dK) (o2 : dS) (cells1 slots1 : Nat) (H1 : Heap) (locs1 : List Loc), lw_J o o2 (i + 1) cells1 slots1 → ad1 0 = ad 0 → va_P D vwCl (wF ty ad1 o ++ w10 ty am o2) H1 → va_D A (wF ty ad1 o ++ w10 ty am o2) → va_S A s.heap H1 locs1 → W p l e room_1 s m #[Value.ref b] below meth c H1 locs1 cells1 slots1 (lw_Z below #[Value.ref b] s) (F0 m 1071 ls [])) : W p l e room_1 s m #[Value.ref b] below meth c H locs cells slots (lw_Z below #[Value.ref b] s) (F0 m 989 ls []) := by
  obtain ⟨hx, hb, hr, hml, hown0, hts0, hX, hbl, hlocks, hgv⟩ := C0
  have hown : s.vm.findClass RL = some m.cls := hown0
  have hts : ∀ w ∈ lw_tbl, w.before #[Value.ref b] s = true := hts0
  have hbA : ¬ A b := fun h => absurd (hB b h) (Nat.not_le.mpr hbl)
  refine lv_aload_n hx hb dL_law_989 rfl (lv_at hl 2 rfl) ?_
  refine lv_aload_n hx hb dL_law_990 rfl (lv_at hl 3 rfl) ?_
  refine lv_iload_n hx hb dL_law_991 rfl (lv_at hl 0 rfl) ?_
  refine lv_iconst (v := 1) hx hb dL_law_992 (by decide) ?_
  refine lv_iadd hx hb dL_law_993 ?_
  refine va_sld hx hb hX hbl hbA hS hin.1 dL_law_994 ?_
  refine lv_topi (fun a1 ea1 => ?_)
  obtain ⟨r, o, hz, X, ht⟩ := lx_image q a1 J.1
  refine sp_ki (va_runV (As := [.int a1]) (rest := []) ⟨hx, hb, hml, hown, hts⟩ (qX9_image_s0 l D ty eo _ ad q a1 r o hz) (cwV 1 hts gL_law_X9_image rfl rfl rfl hd_X9_image_v ⟨Nat.le_of_ble_eq_true rfl, Nat.le_of_ble_eq_true rfl⟩) (spv_9 hK hN hE hP hD hS hA) rfl rfl hl.1 rfl (lv_room (Nat.le_of_ble_eq_true rfl)) dL_law_995 (lw_room J X hi)) hP hD hS hA (fun r9 u H locs hw hP hD hS => ?_)
  obtain ⟨rfl, rfl⟩ := hw
  refine lv_pop hx hb dL_law_998 rfl ?_
  refine lv_aload_n hx hb dL_law_999 rfl (lv_at hl 1 rfl) ?_
  refine lv_aload_n hx hb dL_law_1000 rfl (lv_at hl 3 rfl) ?_
  refine lv_iload_n hx hb dL_law_1001 rfl (lv_at hl 0 rfl) ?_
  refine lv_iconst (v := 1) hx hb dL_law_1002 (by decide) ?_
  refine lv_iadd hx hb dL_law_1003 ?_
  refine va_sld hx hb hX hbl hbA hS hin.1 dL_law_1004 ?_
  refine kz_topi a1 ea1.symm ?_
  obtain ⟨r2, o2, hz2, h2, ht2⟩ := lm_image q2 a1 J.2.1
  refine sp_ki (va_runV (As := [.int a1]) (rest := []) ⟨hx, hb, hml, hown, hts⟩ (qX10_image l D ty eo _ am q2 a1 r2 o2 hz2) (cwV 1 hts gL_law_X10_image rfl rfl rfl hd_X10_image_v ⟨Nat.le_of_ble_eq_true rfl, Nat.le_of_ble_eq_true rfl⟩) (spv_10 hK hN hE hP hD hS hA) rfl rfl hl.1 rfl (lv_room (Nat.le_of_ble_eq_true rfl)) dL_law_1005 (lw_room J X hi)) hP hD hS hA (fun r9 u H locs hw hP hD hS => ?_)
  obtain ⟨rfl, rfl⟩ := hw
  refine lv_pop hx hb dL_law_1008 rfl ?_
  have jg9 := rg_image J.1 J.2.2.1.2.2 a1 (r, o) (r2, o2) hz hz2
  have jg : RG o o2 := jg9.2
  have ja : r = r2 := jg9.1
  refine lv_goto (tgt := 1071) hx hb dL_law_1009 (by decide) ?_
  exact next ad o o2 _ _ H locs (lw_step J X h2 (by have j := J.2.2.1; unfold lw_R at j ⊢; have jt := j.1; have jn := ltY_len jt; exact ⟨ltY_end jt ht.2 ht2.2 (by omega) (by omega) (by omega), by omega, jg⟩)) (rfl) hP hD hS

set_option maxHeartbeats 4000000 in
set_option maxRecDepth 100000 in
theorem lc_36 {p : Program} {e : Env} {s : State} {m : MethodId} {below : List Frame} {meth : Method} {c : Code} (l : Launch) {b L : Nat} {xs : Nat → Int32} (C0 : lw_At p s m meth c b L xs) {D : va_G} {ty : Nat → ClassId} {eo : Nat → Nat} {A : Nat → Prop} (hA : ∀ q : Nat, s.heap.size ≤ q → A q) (hB : ∀ q : Nat, A q → s.heap.size ≤ q) (hK : va_K D vwCl (kzT ty) s) (hN : kz_N s) (hE : kz_E eo A s s.heap) {i : Nat} {i6 : Int32} (hi : i ≤ 63) (hin : vp_in (i6 + 1) L ∧ vp_in (i6 + 2) L ∧ vp_in (i6 + 3) L ∧ vp_in (i6 + 4) L ∧ vp_in (i6 + 5) L) {ad am : Nat → Nat} {q : dK} {q2 : dS} {cells slots : Nat} (J : lw_J q q2 i cells slots) {H : Heap} {locs : List Loc} (hP : va_P D vwCl (wF ty ad q ++ w10 ty am q2) H) (hD : va_D A (wF ty ad q ++ w10 ty am q2)) (hS : va_S A s.heap H locs) {ls : Array Slot} (hl : lv_has ls 4 [(3, .int i6), (2, .ref (am 0)), (1, .ref (ad 0)), (0, .ref b)]) (next : ∀ (ad1 : Nat → Nat) (o : dK) (o2 : dS) (cells1 slots1 : Nat) (H1 : Heap) (locs1 : List Loc), lw_J o o2 (i + 1) cells1 slots1 → ad1 0 = ad 0 → va_P D vwCl (wF ty ad1 o ++ w10 ty am o2) H1 → va_D A (wF ty ad1 o ++ w10 ty am o2) → va_S A s.heap H1 locs1 → W p l e room_1 s m #[Value.ref b] below meth c H1 locs1 cells1 slots1 (lw_Z below #[Value.ref b] s) (F0 m 1071 ls [])) : W p l e room_1 s m #[Value.ref b] below meth c H locs cells slots (lw_Z below #[Value.ref b] s) (F0 m 1012 ls []) := by
  obtain ⟨hx, hb, hr, hml, hown0, hts0, hX, hbl, hlocks, hgv⟩ := C0
  have hown : s.vm.findClass RL = some m.cls := hown0
  have hts : ∀ w ∈ lw_tbl, w.before #[Value.ref b] s = true := hts0
  have hbA : ¬ A b := fun h => absurd (hB b h) (Nat.not_le.mpr hbl)
  refine lv_aload_n hx hb dL_law_1012 rfl (lv_at hl 2 rfl) ?_
  refine lv_aload_n hx hb dL_law_1013 rfl (lv_at hl 3 rfl) ?_
  refine lv_iload_n hx hb dL_law_1014 rfl (lv_at hl 0 rfl) ?_
  refine lv_iconst (v := 1) hx hb dL_law_1015 (by decide) ?_
  refine lv_iadd hx hb dL_law_1016 ?_
  refine va_sld hx hb hX hbl hbA hS hin.1 dL_law_1017 ?_
  refine lv_topi (fun a1 ea1 => ?_)
  obtain ⟨r, o, hz, X, ht⟩ := lx_back q a1 J.1
  refine sp_ki (va_runV (As := [.int a1]) (rest := []) ⟨hx, hb, hml, hown, hts⟩ (qX9_back_s0 l D ty eo _ ad q a1 r o hz) (cwV 1 hts gL_law_X9_back rfl rfl rfl hd_X9_back_v ⟨Nat.le_of_ble_eq_true rfl, Nat.le_of_ble_eq_true rfl⟩) (spv_9 hK hN hE hP hD hS hA) rfl rfl hl.1 rfl (lv_room (Nat.le_of_ble_eq_true rfl)) dL_law_1018 (lw_room J X hi)) hP hD hS hA (fun r9 u H locs hw hP hD hS => ?_)
  obtain ⟨rfl, rfl⟩ := hw
  refine lv_pop hx hb dL_law_1021 rfl ?_
  refine lv_aload_n hx hb dL_law_1022 rfl (lv_at hl 1 rfl) ?_
  refine lv_aload_n hx hb dL_law_1023 rfl (lv_at hl 3 rfl) ?_
  refine lv_iload_n hx hb dL_law_1024 rfl (lv_at hl 0 rfl) ?_
  refine lv_iconst (v := 1) hx hb dL_law_1025 (by decide) ?_
  refine lv_iadd hx hb dL_law_1026 ?_
  refine va_sld hx hb hX hbl hbA hS hin.1 dL_law_1027 ?_
  refine kz_topi a1 ea1.symm ?_
  obtain ⟨r2, o2, hz2, h2, ht2⟩ := lm_back q2 a1 J.2.1
  refine sp_ki (va_runV (As := [.int a1]) (rest := []) ⟨hx, hb, hml, hown, hts⟩ (qX10_back l D ty eo _ am q2 a1 r2 o2 hz2) (cwV 1 hts gL_law_X10_back rfl rfl rfl hd_X10_back_v ⟨Nat.le_of_ble_eq_true rfl, Nat.le_of_ble_eq_true rfl⟩) (spv_10 hK hN hE hP hD hS hA) rfl rfl hl.1 rfl (lv_room (Nat.le_of_ble_eq_true rfl)) dL_law_1028 (lw_room J X hi)) hP hD hS hA (fun r9 u H locs hw hP hD hS => ?_)
  obtain ⟨rfl, rfl⟩ := hw
  refine lv_pop hx hb dL_law_1031 rfl ?_
  have jg9 := rg_back J.1 J.2.1 J.2.2.1.2.2 a1 (r, o) (r2, o2) hz hz2
  have jg : RG o o2 := jg9.2
  have ja : r = r2 := jg9.1
  refine lv_goto (tgt := 1071) hx hb dL_law_1032 (by decide) ?_
  exact next ad o o2 _ _ H locs (lw_step J X h2 (by have j := J.2.2.1; unfold lw_R at j ⊢; have jt := j.1; have jn := ltY_len jt; exact ⟨ltY_end jt ht.2 ht2.2 (by omega) (by omega) (by omega), by omega, jg⟩)) (rfl) hP hD hS

set_option maxHeartbeats 4000000 in
set_option maxRecDepth 100000 in
theorem lc_37 {p : Program} {e : Env} {s : State} {m : MethodId} {below : List Frame} {meth : Method} {c : Code} (l : Launch) {b L : Nat} {xs : Nat → Int32} (C0 : lw_At p s m meth c b L xs) {D : va_G} {ty : Nat → ClassId} {eo : Nat → Nat} {A : Nat → Prop} (hA : ∀ q : Nat, s.heap.size ≤ q → A q) (hB : ∀ q : Nat, A q → s.heap.size ≤ q) (hK : va_K D vwCl (kzT ty) s) (hN : kz_N s) (hE : kz_E eo A s s.heap) {i : Nat} {i6 : Int32} (hi : i ≤ 63) (hin : vp_in (i6 + 1) L ∧ vp_in (i6 + 2) L ∧ vp_in (i6 + 3) L ∧ vp_in (i6 + 4) L ∧ vp_in (i6 + 5) L) {ad am : Nat → Nat} {q : dK} {q2 : dS} {cells slots : Nat} (J : lw_J q q2 i cells slots) {H : Heap} {locs : List Loc} (hP : va_P D vwCl (wF ty ad q ++ w10 ty am q2) H) (hD : va_D A (wF ty ad q ++ w10 ty am q2)) (hS : va_S A s.heap H locs) {ls : Array Slot} (hl : lv_has ls 4 [(3, .int i6), (2, .ref (am 0)), (1, .ref (ad 0)), (0, .ref b)]) (next : ∀ (ad1 : Nat → Nat) (o : dK) (o2 : dS) (cells1 slots1 : Nat) (H1 : Heap) (locs1 : List Loc), lw_J o o2 (i + 1) cells1 slots1 → ad1 0 = ad 0 → va_P D vwCl (wF ty ad1 o ++ w10 ty am o2) H1 → va_D A (wF ty ad1 o ++ w10 ty am o2) → va_S A s.heap H1 locs1 → W p l e room_1 s m #[Value.ref b] below meth c H1 locs1 cells1 slots1 (lw_Z below #[Value.ref b] s) (F0 m 1071 ls [])) : W p l e room_1 s m #[Value.ref b] below meth c H locs cells slots (lw_Z below #[Value.ref b] s) (F0 m 1035 ls []) := by
  obtain ⟨hx, hb, hr, hml, hown0, hts0, hX, hbl, hlocks, hgv⟩ := C0
  have hown : s.vm.findClass RL = some m.cls := hown0
  have hts : ∀ w ∈ lw_tbl, w.before #[Value.ref b] s = true := hts0
  have hbA : ¬ A b := fun h => absurd (hB b h) (Nat.not_le.mpr hbl)
  refine lv_aload_n hx hb dL_law_1035 rfl (lv_at hl 2 rfl) ?_
  refine lv_aload_n hx hb dL_law_1036 rfl (lv_at hl 3 rfl) ?_
  refine lv_iload_n hx hb dL_law_1037 rfl (lv_at hl 0 rfl) ?_
  refine lv_iconst (v := 1) hx hb dL_law_1038 (by decide) ?_
  refine lv_iadd hx hb dL_law_1039 ?_
  refine va_sld hx hb hX hbl hbA hS hin.1 dL_law_1040 ?_
  refine lv_topi (fun a1 ea1 => ?_)
  obtain ⟨r, o, hz, X, ht⟩ := lx_count q a1 J.1
  refine sp_ki (va_runV (As := [.int a1]) (rest := []) ⟨hx, hb, hml, hown, hts⟩ (qX9_count_s0 l D ty eo _ ad q a1 r o hz) (cwV 1 hts gL_law_X9_count rfl rfl rfl hd_X9_count_v ⟨Nat.le_of_ble_eq_true rfl, Nat.le_of_ble_eq_true rfl⟩) (spv_9 hK hN hE hP hD hS hA) rfl rfl hl.1 rfl (lv_room (Nat.le_of_ble_eq_true rfl)) dL_law_1041 (lw_room J X hi)) hP hD hS hA (fun r9 u H locs hw hP hD hS => ?_)
  obtain ⟨rfl, rfl⟩ := hw
  refine lv_pop hx hb dL_law_1044 rfl ?_
  refine lv_aload_n hx hb dL_law_1045 rfl (lv_at hl 1 rfl) ?_
  refine lv_aload_n hx hb dL_law_1046 rfl (lv_at hl 3 rfl) ?_
  refine lv_iload_n hx hb dL_law_1047 rfl (lv_at hl 0 rfl) ?_
  refine lv_iconst (v := 1) hx hb dL_law_1048 (by decide) ?_
  refine lv_iadd hx hb dL_law_1049 ?_
  refine va_sld hx hb hX hbl hbA hS hin.1 dL_law_1050 ?_
  refine kz_topi a1 ea1.symm ?_
  obtain ⟨r2, o2, hz2, h2, ht2⟩ := lm_count q2 a1 J.2.1
  refine sp_ki (va_runV (As := [.int a1]) (rest := []) ⟨hx, hb, hml, hown, hts⟩ (qX10_count l D ty eo _ am q2 a1 r2 o2 hz2) (cwV 1 hts gL_law_X10_count rfl rfl rfl hd_X10_count_v ⟨Nat.le_of_ble_eq_true rfl, Nat.le_of_ble_eq_true rfl⟩) (spv_10 hK hN hE hP hD hS hA) rfl rfl hl.1 rfl (lv_room (Nat.le_of_ble_eq_true rfl)) dL_law_1051 (lw_room J X hi)) hP hD hS hA (fun r9 u H locs hw hP hD hS => ?_)
  obtain ⟨rfl, rfl⟩ := hw
  refine lv_pop hx hb dL_law_1054 rfl ?_
  have jg9 := rgf_count J.1 J.2.1 J.2.2.1.2.2 a1 hz hz2
  have jg : RG o o2 := jg9
  refine lv_goto (tgt := 1071) hx hb dL_law_1055 (by decide) ?_
  exact next ad o o2 _ _ H locs (lw_step J X h2 (by have j := J.2.2.1; unfold lw_R at j ⊢; have jt := j.1; have jn := ltY_len jt; exact ⟨ltY_end jt ht.2 ht2.2 (by omega) (by omega) (by omega), by omega, jg⟩)) (rfl) hP hD hS

set_option maxHeartbeats 4000000 in
set_option maxRecDepth 100000 in
theorem lc_38 {p : Program} {e : Env} {s : State} {m : MethodId} {below : List Frame} {meth : Method} {c : Code} (l : Launch) {b L : Nat} {xs : Nat → Int32} (C0 : lw_At p s m meth c b L xs) {D : va_G} {ty : Nat → ClassId} {eo : Nat → Nat} {A : Nat → Prop} (hA : ∀ q : Nat, s.heap.size ≤ q → A q) (hB : ∀ q : Nat, A q → s.heap.size ≤ q) (hK : va_K D vwCl (kzT ty) s) (hN : kz_N s) (hE : kz_E eo A s s.heap) {i : Nat} {i6 : Int32} (hi : i ≤ 63) (hin : vp_in (i6 + 1) L ∧ vp_in (i6 + 2) L ∧ vp_in (i6 + 3) L ∧ vp_in (i6 + 4) L ∧ vp_in (i6 + 5) L) {ad am : Nat → Nat} {q : dK} {q2 : dS} {cells slots : Nat} (J : lw_J q q2 i cells slots) {H : Heap} {locs : List Loc} (hP : va_P D vwCl (wF ty ad q ++ w10 ty am q2) H) (hD : va_D A (wF ty ad q ++ w10 ty am q2)) (hS : va_S A s.heap H locs) {ls : Array Slot} (hl : lv_has ls 4 [(3, .int i6), (2, .ref (am 0)), (1, .ref (ad 0)), (0, .ref b)]) (next : ∀ (ad1 : Nat → Nat) (o : dK) (o2 : dS) (cells1 slots1 : Nat) (H1 : Heap) (locs1 : List Loc), lw_J o o2 (i + 1) cells1 slots1 → ad1 0 = ad 0 → va_P D vwCl (wF ty ad1 o ++ w10 ty am o2) H1 → va_D A (wF ty ad1 o ++ w10 ty am o2) → va_S A s.heap H1 locs1 → W p l e room_1 s m #[Value.ref b] below meth c H1 locs1 cells1 slots1 (lw_Z below #[Value.ref b] s) (F0 m 1071 ls [])) : W p l e room_1 s m #[Value.ref b] below meth c H locs cells slots (lw_Z below #[Value.ref b] s) (F0 m 1058 ls []) := by
  obtain ⟨hx, hb, hr, hml, hown0, hts0, hX, hbl, hlocks, hgv⟩ := C0
  have hown : s.vm.findClass RL = some m.cls := hown0
  have hts : ∀ w ∈ lw_tbl, w.before #[Value.ref b] s = true := hts0
  have hbA : ¬ A b := fun h => absurd (hB b h) (Nat.not_le.mpr hbl)
  refine lv_aload_n hx hb dL_law_1058 rfl (lv_at hl 2 rfl) ?_
  obtain ⟨r, o, hz, X, ht⟩ := lx_status q J.1
  refine sp_ki (va_runV (As := []) (rest := []) ⟨hx, hb, hml, hown, hts⟩ (qX9_status_s0 l D ty eo _ ad q r o hz) (cwV 0 hts gL_law_X9_status rfl rfl rfl hd_X9_status_v ⟨Nat.le_of_ble_eq_true rfl, Nat.le_of_ble_eq_true rfl⟩) (spv_9 hK hN hE hP hD hS hA) rfl rfl hl.1 rfl (lv_room (Nat.le_of_ble_eq_true rfl)) dL_law_1059 (lw_room J X hi)) hP hD hS hA (fun r9 u H locs hw hP hD hS => ?_)
  obtain ⟨rfl, rfl⟩ := hw
  refine lv_pop hx hb dL_law_1062 rfl ?_
  refine lv_aload_n hx hb dL_law_1063 rfl (lv_at hl 1 rfl) ?_
  obtain ⟨r2, o2, hz2, h2, ht2⟩ := lm_status q2 J.2.1
  refine sp_ki (va_runV (As := []) (rest := []) ⟨hx, hb, hml, hown, hts⟩ (qX10_status l D ty eo _ am q2 r2 o2 hz2) (cwV 0 hts gL_law_X10_status rfl rfl rfl hd_X10_status_v ⟨Nat.le_of_ble_eq_true rfl, Nat.le_of_ble_eq_true rfl⟩) (spv_10 hK hN hE hP hD hS hA) rfl rfl hl.1 rfl (lv_room (Nat.le_of_ble_eq_true rfl)) dL_law_1064 (lw_room J X hi)) hP hD hS hA (fun r9 u H locs hw hP hD hS => ?_)
  obtain ⟨rfl, rfl⟩ := hw
  refine lv_pop hx hb dL_law_1067 rfl ?_
  have jg9 := rgf_status J.1 J.2.1 J.2.2.1.2.2 hz hz2
  have jg : RG o o2 := jg9
  refine lv_goto (tgt := 1071) hx hb dL_law_1068 (by decide) ?_
  exact next ad o o2 _ _ H locs (lw_step J X h2 (by have j := J.2.2.1; unfold lw_R at j ⊢; have jt := j.1; have jn := ltY_len jt; exact ⟨ltY_end jt ht.2 ht2.2 (by omega) (by omega) (by omega), by omega, jg⟩)) (rfl) hP hD hS
