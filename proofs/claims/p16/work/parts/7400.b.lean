set_option maxHeartbeats 4000000 in
set_option maxRecDepth 100000 in
theorem lc_0 {p : Program} {e : Env} {s : State} {m : MethodId} {below : List Frame} {meth : Method} {c : Code} (l : Launch) {b L : Nat} {xs : Nat → Int32} (C0 : lw_At p s m meth c b L xs) {D : va_G} {ty : Nat → ClassId} {eo : Nat → Nat} {A : Nat → Prop} (hA : ∀ q : Nat, s.heap.size ≤ q → A q) (hB : ∀ q : Nat, A q → s.heap.size ≤ q) (hK : va_K D vwCl (kzT ty) s) (hN : kz_N s) (hE : kz_E eo A s s.heap) {i : Nat} {i6 : Int32} (hi : i ≤ 63) (hin : vp_in (i6 + 1) L ∧ vp_in (i6 + 2) L ∧ vp_in (i6 + 3) L ∧ vp_in (i6 + 4) L ∧ vp_in (i6 + 5) L) {ad am : Nat → Nat} {q : dK} {q2 : dS} {cells slots : Nat} (J : lw_J q q2 i cells slots) {H : Heap} {locs : List Loc} (hP : va_P D vwCl (wF ty ad q ++ w10 ty am q2) H) (hD : va_D A (wF ty ad q ++ w10 ty am q2)) (hS : va_S A s.heap H locs) {ls : Array Slot} (hl : lv_has ls 4 [(3, .int i6), (2, .ref (am 0)), (1, .ref (ad 0)), (0, .ref b)]) (next : ∀ (ad1 : Nat → Nat) (o : dK) (o2 : dS) (cells1 slots1 : Nat) (H1 : Heap) (locs1 : List Loc), lw_J o o2 (i + 1) cells1 slots1 → ad1 0 = ad 0 → va_P D vwCl (wF ty ad1 o ++ w10 ty am o2) H1 → va_D A (wF ty ad1 o ++ w10 ty am o2) → va_S A s.heap H1 locs1 → W p l e room_1 s m #[Value.ref b] below meth c H1 locs1 cells1 slots1 (lw_Z below #[Value.ref b] s) (F0 m 1071 ls [])) : W p l e room_1 s m #[Value.ref b] below meth c H locs cells slots (lw_Z below #[Value.ref b] s) (F0 m 204 ls []) := by
  obtain ⟨hx, hb, hr, hml, hown0, hts0, hX, hbl, hlocks, hgv⟩ := C0
  have hown : s.vm.findClass RL = some m.cls := hown0
  have hts : ∀ w ∈ lw_tbl, w.before #[Value.ref b] s = true := hts0
  have hbA : ¬ A b := fun h => absurd (hB b h) (Nat.not_le.mpr hbl)
  refine lv_aload_n hx hb dL_law_204 rfl (lv_at hl 2 rfl) ?_
  refine lv_aload_n hx hb dL_law_205 rfl (lv_at hl 3 rfl) ?_
  refine lv_iload_n hx hb dL_law_206 rfl (lv_at hl 0 rfl) ?_
  refine lv_iconst (v := 1) hx hb dL_law_207 (by decide) ?_
  refine lv_iadd hx hb dL_law_208 ?_
  refine va_sld hx hb hX hbl hbA hS hin.1 dL_law_209 ?_
  refine lv_topi (fun a1 ea1 => ?_)
  refine lv_aload_n hx hb dL_law_210 rfl (lv_at hl 3 rfl) ?_
  refine lv_iload_n hx hb dL_law_211 rfl (lv_at hl 0 rfl) ?_
  refine lv_iconst (v := 2) hx hb dL_law_212 (by decide) ?_
  refine lv_iadd hx hb dL_law_213 ?_
  refine va_sld hx hb hX hbl hbA hS hin.2.1 dL_law_214 ?_
  refine lv_topi (fun a2 ea2 => ?_)
  obtain ⟨r, o, hz, X, ht⟩ := lx_floor q a1 a2 J.1
  refine sp_ki (va_runV (As := [.int a1, .int a2]) (rest := []) ⟨hx, hb, hml, hown, hts⟩ (qX9_floor_s0 l D ty eo _ ad q a1 a2 r o hz) (cwV 2 hts gL_law_X9_floor rfl rfl rfl hd_X9_floor_v ⟨Nat.le_of_ble_eq_true rfl, Nat.le_of_ble_eq_true rfl⟩) (spv_9 hK hN hE hP hD hS hA) rfl rfl hl.1 rfl (lv_room (Nat.le_of_ble_eq_true rfl)) dL_law_215 (lw_room J X hi)) hP hD hS hA (fun r9 u H locs hw hP hD hS => ?_)
  obtain ⟨rfl, rfl⟩ := hw
  refine lv_pop hx hb dL_law_218 rfl ?_
  refine lv_aload_n hx hb dL_law_219 rfl (lv_at hl 1 rfl) ?_
  refine lv_aload_n hx hb dL_law_220 rfl (lv_at hl 3 rfl) ?_
  refine lv_iload_n hx hb dL_law_221 rfl (lv_at hl 0 rfl) ?_
  refine lv_iconst (v := 1) hx hb dL_law_222 (by decide) ?_
  refine lv_iadd hx hb dL_law_223 ?_
  refine va_sld hx hb hX hbl hbA hS hin.1 dL_law_224 ?_
  refine kz_topi a1 ea1.symm ?_
  refine lv_aload_n hx hb dL_law_225 rfl (lv_at hl 3 rfl) ?_
  refine lv_iload_n hx hb dL_law_226 rfl (lv_at hl 0 rfl) ?_
  refine lv_iconst (v := 2) hx hb dL_law_227 (by decide) ?_
  refine lv_iadd hx hb dL_law_228 ?_
  refine va_sld hx hb hX hbl hbA hS hin.2.1 dL_law_229 ?_
  refine kz_topi a2 ea2.symm ?_
  obtain ⟨r2, o2, hz2, h2, ht2⟩ := lm_floor q2 a1 a2 J.2.1
  refine sp_ki (va_runV (As := [.int a1, .int a2]) (rest := []) ⟨hx, hb, hml, hown, hts⟩ (qX10_floor l D ty eo _ am q2 a1 a2 r2 o2 hz2) (cwV 2 hts gL_law_X10_floor rfl rfl rfl hd_X10_floor_v ⟨Nat.le_of_ble_eq_true rfl, Nat.le_of_ble_eq_true rfl⟩) (spv_10 hK hN hE hP hD hS hA) rfl rfl hl.1 rfl (lv_room (Nat.le_of_ble_eq_true rfl)) dL_law_230 (lw_room J X hi)) hP hD hS hA (fun r9 u H locs hw hP hD hS => ?_)
  obtain ⟨rfl, rfl⟩ := hw
  refine lv_pop hx hb dL_law_233 rfl ?_
  have jg9 := rgf_floor J.1 J.2.1 J.2.2.1.2.2 a1 a2 hz hz2
  have jg : RG o o2 := jg9.2
  have ja : r = r2 := jg9.1
  refine lv_goto (tgt := 1071) hx hb dL_law_234 (by decide) ?_
  exact next ad o o2 _ _ H locs (lw_step J X h2 (by have j := J.2.2.1; unfold lw_R at j ⊢; have jt := j.1; have jn := ltY_len jt; exact ⟨ltY_end jt ht.2 ht2.2 (by omega) (by omega) (by omega), by omega, jg⟩)) (rfl) hP hD hS

set_option maxHeartbeats 4000000 in
set_option maxRecDepth 100000 in
theorem lc_1 {p : Program} {e : Env} {s : State} {m : MethodId} {below : List Frame} {meth : Method} {c : Code} (l : Launch) {b L : Nat} {xs : Nat → Int32} (C0 : lw_At p s m meth c b L xs) {D : va_G} {ty : Nat → ClassId} {eo : Nat → Nat} {A : Nat → Prop} (hA : ∀ q : Nat, s.heap.size ≤ q → A q) (hB : ∀ q : Nat, A q → s.heap.size ≤ q) (hK : va_K D vwCl (kzT ty) s) (hN : kz_N s) (hE : kz_E eo A s s.heap) {i : Nat} {i6 : Int32} (hi : i ≤ 63) (hin : vp_in (i6 + 1) L ∧ vp_in (i6 + 2) L ∧ vp_in (i6 + 3) L ∧ vp_in (i6 + 4) L ∧ vp_in (i6 + 5) L) {ad am : Nat → Nat} {q : dK} {q2 : dS} {cells slots : Nat} (J : lw_J q q2 i cells slots) {H : Heap} {locs : List Loc} (hP : va_P D vwCl (wF ty ad q ++ w10 ty am q2) H) (hD : va_D A (wF ty ad q ++ w10 ty am q2)) (hS : va_S A s.heap H locs) {ls : Array Slot} (hl : lv_has ls 4 [(3, .int i6), (2, .ref (am 0)), (1, .ref (ad 0)), (0, .ref b)]) (next : ∀ (ad1 : Nat → Nat) (o : dK) (o2 : dS) (cells1 slots1 : Nat) (H1 : Heap) (locs1 : List Loc), lw_J o o2 (i + 1) cells1 slots1 → ad1 0 = ad 0 → va_P D vwCl (wF ty ad1 o ++ w10 ty am o2) H1 → va_D A (wF ty ad1 o ++ w10 ty am o2) → va_S A s.heap H1 locs1 → W p l e room_1 s m #[Value.ref b] below meth c H1 locs1 cells1 slots1 (lw_Z below #[Value.ref b] s) (F0 m 1071 ls [])) : W p l e room_1 s m #[Value.ref b] below meth c H locs cells slots (lw_Z below #[Value.ref b] s) (F0 m 237 ls []) := by
  obtain ⟨hx, hb, hr, hml, hown0, hts0, hX, hbl, hlocks, hgv⟩ := C0
  have hown : s.vm.findClass RL = some m.cls := hown0
  have hts : ∀ w ∈ lw_tbl, w.before #[Value.ref b] s = true := hts0
  have hbA : ¬ A b := fun h => absurd (hB b h) (Nat.not_le.mpr hbl)
  refine lv_aload_n hx hb dL_law_237 rfl (lv_at hl 2 rfl) ?_
  refine lv_aload_n hx hb dL_law_238 rfl (lv_at hl 3 rfl) ?_
  refine lv_iload_n hx hb dL_law_239 rfl (lv_at hl 0 rfl) ?_
  refine lv_iconst (v := 1) hx hb dL_law_240 (by decide) ?_
  refine lv_iadd hx hb dL_law_241 ?_
  refine va_sld hx hb hX hbl hbA hS hin.1 dL_law_242 ?_
  refine lv_topi (fun a1 ea1 => ?_)
  refine lv_aload_n hx hb dL_law_243 rfl (lv_at hl 3 rfl) ?_
  refine lv_iload_n hx hb dL_law_244 rfl (lv_at hl 0 rfl) ?_
  refine lv_iconst (v := 2) hx hb dL_law_245 (by decide) ?_
  refine lv_iadd hx hb dL_law_246 ?_
  refine va_sld hx hb hX hbl hbA hS hin.2.1 dL_law_247 ?_
  refine lv_topi (fun a2 ea2 => ?_)
  obtain ⟨r, o, hz, X, ht⟩ := lx_at q a1 a2 J.1
  refine sp_ki (va_runV (As := [.int a1, .int a2]) (rest := []) ⟨hx, hb, hml, hown, hts⟩ (qX9_at_s0 l D ty eo _ ad q a1 a2 r o hz) (cwV 2 hts gL_law_X9_at rfl rfl rfl hd_X9_at_v ⟨Nat.le_of_ble_eq_true rfl, Nat.le_of_ble_eq_true rfl⟩) (spv_9 hK hN hE hP hD hS hA) rfl rfl hl.1 rfl (lv_room (Nat.le_of_ble_eq_true rfl)) dL_law_248 (lw_room J X hi)) hP hD hS hA (fun r9 u H locs hw hP hD hS => ?_)
  obtain ⟨rfl, rfl⟩ := hw
  refine lv_pop hx hb dL_law_251 rfl ?_
  refine lv_aload_n hx hb dL_law_252 rfl (lv_at hl 1 rfl) ?_
  refine lv_aload_n hx hb dL_law_253 rfl (lv_at hl 3 rfl) ?_
  refine lv_iload_n hx hb dL_law_254 rfl (lv_at hl 0 rfl) ?_
  refine lv_iconst (v := 1) hx hb dL_law_255 (by decide) ?_
  refine lv_iadd hx hb dL_law_256 ?_
  refine va_sld hx hb hX hbl hbA hS hin.1 dL_law_257 ?_
  refine kz_topi a1 ea1.symm ?_
  refine lv_aload_n hx hb dL_law_258 rfl (lv_at hl 3 rfl) ?_
  refine lv_iload_n hx hb dL_law_259 rfl (lv_at hl 0 rfl) ?_
  refine lv_iconst (v := 2) hx hb dL_law_260 (by decide) ?_
  refine lv_iadd hx hb dL_law_261 ?_
  refine va_sld hx hb hX hbl hbA hS hin.2.1 dL_law_262 ?_
  refine kz_topi a2 ea2.symm ?_
  obtain ⟨r2, o2, hz2, h2, ht2⟩ := lm_at q2 a1 a2 J.2.1
  refine sp_ki (va_runV (As := [.int a1, .int a2]) (rest := []) ⟨hx, hb, hml, hown, hts⟩ (qX10_at l D ty eo _ am q2 a1 a2 r2 o2 hz2) (cwV 2 hts gL_law_X10_at rfl rfl rfl hd_X10_at_v ⟨Nat.le_of_ble_eq_true rfl, Nat.le_of_ble_eq_true rfl⟩) (spv_10 hK hN hE hP hD hS hA) rfl rfl hl.1 rfl (lv_room (Nat.le_of_ble_eq_true rfl)) dL_law_263 (lw_room J X hi)) hP hD hS hA (fun r9 u H locs hw hP hD hS => ?_)
  obtain ⟨rfl, rfl⟩ := hw
  refine lv_pop hx hb dL_law_266 rfl ?_
  have jg9 := rgf_at J.1 J.2.1 J.2.2.1.2.2 a1 a2 hz hz2
  have jg : RG o o2 := jg9
  refine lv_goto (tgt := 1071) hx hb dL_law_267 (by decide) ?_
  exact next ad o o2 _ _ H locs (lw_step J X h2 (by have j := J.2.2.1; unfold lw_R at j ⊢; have jt := j.1; have jn := ltY_len jt; exact ⟨ltY_end jt ht.2 ht2.2 (by omega) (by omega) (by omega), by omega, jg⟩)) (rfl) hP hD hS

set_option maxHeartbeats 4000000 in
set_option maxRecDepth 100000 in
theorem lc_2 {p : Program} {e : Env} {s : State} {m : MethodId} {below : List Frame} {meth : Method} {c : Code} (l : Launch) {b L : Nat} {xs : Nat → Int32} (C0 : lw_At p s m meth c b L xs) {D : va_G} {ty : Nat → ClassId} {eo : Nat → Nat} {A : Nat → Prop} (hA : ∀ q : Nat, s.heap.size ≤ q → A q) (hB : ∀ q : Nat, A q → s.heap.size ≤ q) (hK : va_K D vwCl (kzT ty) s) (hN : kz_N s) (hE : kz_E eo A s s.heap) {i : Nat} {i6 : Int32} (hi : i ≤ 63) (hin : vp_in (i6 + 1) L ∧ vp_in (i6 + 2) L ∧ vp_in (i6 + 3) L ∧ vp_in (i6 + 4) L ∧ vp_in (i6 + 5) L) {ad am : Nat → Nat} {q : dK} {q2 : dS} {cells slots : Nat} (J : lw_J q q2 i cells slots) {H : Heap} {locs : List Loc} (hP : va_P D vwCl (wF ty ad q ++ w10 ty am q2) H) (hD : va_D A (wF ty ad q ++ w10 ty am q2)) (hS : va_S A s.heap H locs) {ls : Array Slot} (hl : lv_has ls 4 [(3, .int i6), (2, .ref (am 0)), (1, .ref (ad 0)), (0, .ref b)]) (next : ∀ (ad1 : Nat → Nat) (o : dK) (o2 : dS) (cells1 slots1 : Nat) (H1 : Heap) (locs1 : List Loc), lw_J o o2 (i + 1) cells1 slots1 → ad1 0 = ad 0 → va_P D vwCl (wF ty ad1 o ++ w10 ty am o2) H1 → va_D A (wF ty ad1 o ++ w10 ty am o2) → va_S A s.heap H1 locs1 → W p l e room_1 s m #[Value.ref b] below meth c H1 locs1 cells1 slots1 (lw_Z below #[Value.ref b] s) (F0 m 1071 ls [])) : W p l e room_1 s m #[Value.ref b] below meth c H locs cells slots (lw_Z below #[Value.ref b] s) (F0 m 270 ls []) := by
  obtain ⟨hx, hb, hr, hml, hown0, hts0, hX, hbl, hlocks, hgv⟩ := C0
  have hown : s.vm.findClass RL = some m.cls := hown0
  have hts : ∀ w ∈ lw_tbl, w.before #[Value.ref b] s = true := hts0
  have hbA : ¬ A b := fun h => absurd (hB b h) (Nat.not_le.mpr hbl)
  refine lv_aload_n hx hb dL_law_270 rfl (lv_at hl 2 rfl) ?_
  refine lv_aload_n hx hb dL_law_271 rfl (lv_at hl 3 rfl) ?_
  refine lv_iload_n hx hb dL_law_272 rfl (lv_at hl 0 rfl) ?_
  refine lv_iconst (v := 1) hx hb dL_law_273 (by decide) ?_
  refine lv_iadd hx hb dL_law_274 ?_
  refine va_sld hx hb hX hbl hbA hS hin.1 dL_law_275 ?_
  refine lv_topi (fun a1 ea1 => ?_)
  refine lv_aload_n hx hb dL_law_276 rfl (lv_at hl 3 rfl) ?_
  refine lv_iload_n hx hb dL_law_277 rfl (lv_at hl 0 rfl) ?_
  refine lv_iconst (v := 2) hx hb dL_law_278 (by decide) ?_
  refine lv_iadd hx hb dL_law_279 ?_
  refine va_sld hx hb hX hbl hbA hS hin.2.1 dL_law_280 ?_
  refine lv_topi (fun a2 ea2 => ?_)
  obtain ⟨r, o, hz, X, ht⟩ := lx_asks q a1 a2 J.1
  refine sp_ki (va_runV (As := [.int a1, .int a2]) (rest := []) ⟨hx, hb, hml, hown, hts⟩ (qX9_asks_s0 l D ty eo _ ad q a1 a2 r o hz) (cwV 2 hts gL_law_X9_asks rfl rfl rfl hd_X9_asks_v ⟨Nat.le_of_ble_eq_true rfl, Nat.le_of_ble_eq_true rfl⟩) (spv_9 hK hN hE hP hD hS hA) rfl rfl hl.1 rfl (lv_room (Nat.le_of_ble_eq_true rfl)) dL_law_281 (lw_room J X hi)) hP hD hS hA (fun r9 u H locs hw hP hD hS => ?_)
  obtain ⟨rfl, rfl⟩ := hw
  refine lv_pop hx hb dL_law_284 rfl ?_
  refine lv_aload_n hx hb dL_law_285 rfl (lv_at hl 1 rfl) ?_
  refine lv_aload_n hx hb dL_law_286 rfl (lv_at hl 3 rfl) ?_
  refine lv_iload_n hx hb dL_law_287 rfl (lv_at hl 0 rfl) ?_
  refine lv_iconst (v := 1) hx hb dL_law_288 (by decide) ?_
  refine lv_iadd hx hb dL_law_289 ?_
  refine va_sld hx hb hX hbl hbA hS hin.1 dL_law_290 ?_
  refine kz_topi a1 ea1.symm ?_
  refine lv_aload_n hx hb dL_law_291 rfl (lv_at hl 3 rfl) ?_
  refine lv_iload_n hx hb dL_law_292 rfl (lv_at hl 0 rfl) ?_
  refine lv_iconst (v := 2) hx hb dL_law_293 (by decide) ?_
  refine lv_iadd hx hb dL_law_294 ?_
  refine va_sld hx hb hX hbl hbA hS hin.2.1 dL_law_295 ?_
  refine kz_topi a2 ea2.symm ?_
  obtain ⟨r2, o2, hz2, h2, ht2⟩ := lm_asks q2 a1 a2 J.2.1
  refine sp_ki (va_runV (As := [.int a1, .int a2]) (rest := []) ⟨hx, hb, hml, hown, hts⟩ (qX10_asks l D ty eo _ am q2 a1 a2 r2 o2 hz2) (cwV 2 hts gL_law_X10_asks rfl rfl rfl hd_X10_asks_v ⟨Nat.le_of_ble_eq_true rfl, Nat.le_of_ble_eq_true rfl⟩) (spv_10 hK hN hE hP hD hS hA) rfl rfl hl.1 rfl (lv_room (Nat.le_of_ble_eq_true rfl)) dL_law_296 (lw_room J X hi)) hP hD hS hA (fun r9 u H locs hw hP hD hS => ?_)
  obtain ⟨rfl, rfl⟩ := hw
  refine lv_pop hx hb dL_law_299 rfl ?_
  have jg9 := rgf_asks J.1 J.2.1 J.2.2.1.2.2 a1 a2 hz hz2
  have jg : RG o o2 := jg9
  refine lv_goto (tgt := 1071) hx hb dL_law_300 (by decide) ?_
  exact next ad o o2 _ _ H locs (lw_step J X h2 (by have j := J.2.2.1; unfold lw_R at j ⊢; have jt := j.1; have jn := ltY_len jt; exact ⟨ltY_end jt ht.2 ht2.2 (by omega) (by omega) (by omega), by omega, jg⟩)) (rfl) hP hD hS

set_option maxHeartbeats 4000000 in
set_option maxRecDepth 100000 in
theorem lc_3 {p : Program} {e : Env} {s : State} {m : MethodId} {below : List Frame} {meth : Method} {c : Code} (l : Launch) {b L : Nat} {xs : Nat → Int32} (C0 : lw_At p s m meth c b L xs) {D : va_G} {ty : Nat → ClassId} {eo : Nat → Nat} {A : Nat → Prop} (hA : ∀ q : Nat, s.heap.size ≤ q → A q) (hB : ∀ q : Nat, A q → s.heap.size ≤ q) (hK : va_K D vwCl (kzT ty) s) (hN : kz_N s) (hE : kz_E eo A s s.heap) {i : Nat} {i6 : Int32} (hi : i ≤ 63) (hin : vp_in (i6 + 1) L ∧ vp_in (i6 + 2) L ∧ vp_in (i6 + 3) L ∧ vp_in (i6 + 4) L ∧ vp_in (i6 + 5) L) {ad am : Nat → Nat} {q : dK} {q2 : dS} {cells slots : Nat} (J : lw_J q q2 i cells slots) {H : Heap} {locs : List Loc} (hP : va_P D vwCl (wF ty ad q ++ w10 ty am q2) H) (hD : va_D A (wF ty ad q ++ w10 ty am q2)) (hS : va_S A s.heap H locs) {ls : Array Slot} (hl : lv_has ls 4 [(3, .int i6), (2, .ref (am 0)), (1, .ref (ad 0)), (0, .ref b)]) (next : ∀ (ad1 : Nat → Nat) (o : dK) (o2 : dS) (cells1 slots1 : Nat) (H1 : Heap) (locs1 : List Loc), lw_J o o2 (i + 1) cells1 slots1 → ad1 0 = ad 0 → va_P D vwCl (wF ty ad1 o ++ w10 ty am o2) H1 → va_D A (wF ty ad1 o ++ w10 ty am o2) → va_S A s.heap H1 locs1 → W p l e room_1 s m #[Value.ref b] below meth c H1 locs1 cells1 slots1 (lw_Z below #[Value.ref b] s) (F0 m 1071 ls [])) : W p l e room_1 s m #[Value.ref b] below meth c H locs cells slots (lw_Z below #[Value.ref b] s) (F0 m 303 ls []) := by
  obtain ⟨hx, hb, hr, hml, hown0, hts0, hX, hbl, hlocks, hgv⟩ := C0
  have hown : s.vm.findClass RL = some m.cls := hown0
  have hts : ∀ w ∈ lw_tbl, w.before #[Value.ref b] s = true := hts0
  have hbA : ¬ A b := fun h => absurd (hB b h) (Nat.not_le.mpr hbl)
  refine lv_aload_n hx hb dL_law_303 rfl (lv_at hl 2 rfl) ?_
  refine lv_aload_n hx hb dL_law_304 rfl (lv_at hl 3 rfl) ?_
  refine lv_iload_n hx hb dL_law_305 rfl (lv_at hl 0 rfl) ?_
  refine lv_iconst (v := 1) hx hb dL_law_306 (by decide) ?_
  refine lv_iadd hx hb dL_law_307 ?_
  refine va_sld hx hb hX hbl hbA hS hin.1 dL_law_308 ?_
  refine lv_topi (fun a1 ea1 => ?_)
  refine lv_aload_n hx hb dL_law_309 rfl (lv_at hl 3 rfl) ?_
  refine lv_iload_n hx hb dL_law_310 rfl (lv_at hl 0 rfl) ?_
  refine lv_iconst (v := 2) hx hb dL_law_311 (by decide) ?_
  refine lv_iadd hx hb dL_law_312 ?_
  refine va_sld hx hb hX hbl hbA hS hin.2.1 dL_law_313 ?_
  refine lv_topi (fun a2 ea2 => ?_)
  obtain ⟨r, o, hz, X, ht⟩ := lx_terms q a1 a2 J.1
  refine sp_ki (va_runV (As := [.int a1, .int a2]) (rest := []) ⟨hx, hb, hml, hown, hts⟩ (qX9_terms_s0 l D ty eo _ ad q a1 a2 r o hz) (cwV 2 hts gL_law_X9_terms rfl rfl rfl hd_X9_terms_v ⟨Nat.le_of_ble_eq_true rfl, Nat.le_of_ble_eq_true rfl⟩) (spv_9 hK hN hE hP hD hS hA) rfl rfl hl.1 rfl (lv_room (Nat.le_of_ble_eq_true rfl)) dL_law_314 (lw_room J X hi)) hP hD hS hA (fun r9 u H locs hw hP hD hS => ?_)
  obtain ⟨rfl, rfl⟩ := hw
  refine lv_pop hx hb dL_law_317 rfl ?_
  refine lv_aload_n hx hb dL_law_318 rfl (lv_at hl 1 rfl) ?_
  refine lv_aload_n hx hb dL_law_319 rfl (lv_at hl 3 rfl) ?_
  refine lv_iload_n hx hb dL_law_320 rfl (lv_at hl 0 rfl) ?_
  refine lv_iconst (v := 1) hx hb dL_law_321 (by decide) ?_
  refine lv_iadd hx hb dL_law_322 ?_
  refine va_sld hx hb hX hbl hbA hS hin.1 dL_law_323 ?_
  refine kz_topi a1 ea1.symm ?_
  refine lv_aload_n hx hb dL_law_324 rfl (lv_at hl 3 rfl) ?_
  refine lv_iload_n hx hb dL_law_325 rfl (lv_at hl 0 rfl) ?_
  refine lv_iconst (v := 2) hx hb dL_law_326 (by decide) ?_
  refine lv_iadd hx hb dL_law_327 ?_
  refine va_sld hx hb hX hbl hbA hS hin.2.1 dL_law_328 ?_
  refine kz_topi a2 ea2.symm ?_
  obtain ⟨r2, o2, hz2, h2, ht2⟩ := lm_terms q2 a1 a2 J.2.1
  refine sp_ki (va_runV (As := [.int a1, .int a2]) (rest := []) ⟨hx, hb, hml, hown, hts⟩ (qX10_terms l D ty eo _ am q2 a1 a2 r2 o2 hz2) (cwV 2 hts gL_law_X10_terms rfl rfl rfl hd_X10_terms_v ⟨Nat.le_of_ble_eq_true rfl, Nat.le_of_ble_eq_true rfl⟩) (spv_10 hK hN hE hP hD hS hA) rfl rfl hl.1 rfl (lv_room (Nat.le_of_ble_eq_true rfl)) dL_law_329 (lw_room J X hi)) hP hD hS hA (fun r9 u H locs hw hP hD hS => ?_)
  obtain ⟨rfl, rfl⟩ := hw
  refine lv_pop hx hb dL_law_332 rfl ?_
  have jg9 := rgf_terms J.1 J.2.1 J.2.2.1.2.2 a1 a2 hz hz2
  have jg : RG o o2 := jg9.2
  have ja : r = r2 := jg9.1
  refine lv_goto (tgt := 1071) hx hb dL_law_333 (by decide) ?_
  exact next ad o o2 _ _ H locs (lw_step J X h2 (by have j := J.2.2.1; unfold lw_R at j ⊢; have jt := j.1; have jn := ltY_len jt; exact ⟨ltY_end jt ht.2 ht2.2 (by omega) (by omega) (by omega), by omega, jg⟩)) (rfl) hP hD hS

set_option maxHeartbeats 4000000 in
set_option maxRecDepth 100000 in
theorem lc_4 {p : Program} {e : Env} {s : State} {m : MethodId} {below : List Frame} {meth : Method} {c : Code} (l : Launch) {b L : Nat} {xs : Nat → Int32} (C0 : lw_At p s m meth c b L xs) {D : va_G} {ty : Nat → ClassId} {eo : Nat → Nat} {A : Nat → Prop} (hA : ∀ q : Nat, s.heap.size ≤ q → A q) (hB : ∀ q : Nat, A q → s.heap.size ≤ q) (hK : va_K D vwCl (kzT ty) s) (hN : kz_N s) (hE : kz_E eo A s s.heap) {i : Nat} {i6 : Int32} (hi : i ≤ 63) (hin : vp_in (i6 + 1) L ∧ vp_in (i6 + 2) L ∧ vp_in (i6 + 3) L ∧ vp_in (i6 + 4) L ∧ vp_in (i6 + 5) L) {ad am : Nat → Nat} {q : dK} {q2 : dS} {cells slots : Nat} (J : lw_J q q2 i cells slots) {H : Heap} {locs : List Loc} (hP : va_P D vwCl (wF ty ad q ++ w10 ty am q2) H) (hD : va_D A (wF ty ad q ++ w10 ty am q2)) (hS : va_S A s.heap H locs) {ls : Array Slot} (hl : lv_has ls 4 [(3, .int i6), (2, .ref (am 0)), (1, .ref (ad 0)), (0, .ref b)]) (next : ∀ (ad1 : Nat → Nat) (o : dK) (o2 : dS) (cells1 slots1 : Nat) (H1 : Heap) (locs1 : List Loc), lw_J o o2 (i + 1) cells1 slots1 → ad1 0 = ad 0 → va_P D vwCl (wF ty ad1 o ++ w10 ty am o2) H1 → va_D A (wF ty ad1 o ++ w10 ty am o2) → va_S A s.heap H1 locs1 → W p l e room_1 s m #[Value.ref b] below meth c H1 locs1 cells1 slots1 (lw_Z below #[Value.ref b] s) (F0 m 1071 ls [])) : W p l e room_1 s m #[Value.ref b] below meth c H locs cells slots (lw_Z below #[Value.ref b] s) (F0 m 336 ls []) := by
  obtain ⟨hx, hb, hr, hml, hown0, hts0, hX, hbl, hlocks, hgv⟩ := C0
  have hown : s.vm.findClass RL = some m.cls := hown0
  have hts : ∀ w ∈ lw_tbl, w.before #[Value.ref b] s = true := hts0
  have hbA : ¬ A b := fun h => absurd (hB b h) (Nat.not_le.mpr hbl)
  refine lv_aload_n hx hb dL_law_336 rfl (lv_at hl 2 rfl) ?_
  refine lv_aload_n hx hb dL_law_337 rfl (lv_at hl 3 rfl) ?_
  refine lv_iload_n hx hb dL_law_338 rfl (lv_at hl 0 rfl) ?_
  refine lv_iconst (v := 1) hx hb dL_law_339 (by decide) ?_
  refine lv_iadd hx hb dL_law_340 ?_
  refine va_sld hx hb hX hbl hbA hS hin.1 dL_law_341 ?_
  refine lv_topi (fun a1 ea1 => ?_)
  refine lv_aload_n hx hb dL_law_342 rfl (lv_at hl 3 rfl) ?_
  refine lv_iload_n hx hb dL_law_343 rfl (lv_at hl 0 rfl) ?_
  refine lv_iconst (v := 2) hx hb dL_law_344 (by decide) ?_
  refine lv_iadd hx hb dL_law_345 ?_
  refine va_sld hx hb hX hbl hbA hS hin.2.1 dL_law_346 ?_
  refine lv_topi (fun a2 ea2 => ?_)
  refine lv_aload_n hx hb dL_law_347 rfl (lv_at hl 3 rfl) ?_
  refine lv_iload_n hx hb dL_law_348 rfl (lv_at hl 0 rfl) ?_
  refine lv_iconst (v := 3) hx hb dL_law_349 (by decide) ?_
  refine lv_iadd hx hb dL_law_350 ?_
  refine va_sld hx hb hX hbl hbA hS hin.2.2.1 dL_law_351 ?_
  refine lv_topi (fun a3 ea3 => ?_)
  refine lv_aload_n hx hb dL_law_352 rfl (lv_at hl 3 rfl) ?_
  refine lv_iload_n hx hb dL_law_353 rfl (lv_at hl 0 rfl) ?_
  refine lv_iconst (v := 4) hx hb dL_law_354 (by decide) ?_
  refine lv_iadd hx hb dL_law_355 ?_
  refine va_sld hx hb hX hbl hbA hS hin.2.2.2.1 dL_law_356 ?_
  refine lv_topi (fun a4 ea4 => ?_)
  refine lv_aload_n hx hb dL_law_357 rfl (lv_at hl 3 rfl) ?_
  refine lv_iload_n hx hb dL_law_358 rfl (lv_at hl 0 rfl) ?_
  refine lv_iconst (v := 5) hx hb dL_law_359 (by decide) ?_
  refine lv_iadd hx hb dL_law_360 ?_
  refine va_sld hx hb hX hbl hbA hS hin.2.2.2.2 dL_law_361 ?_
  refine lv_topi (fun a5 ea5 => ?_)
  obtain ⟨r, o, hz, X, ht⟩ := lx_feed q a1 a2 a3 a4 a5 J.1
  refine sp_ki (va_runV (As := [.int a1, .int a2, .int a3, .int a4, .int a5]) (rest := []) ⟨hx, hb, hml, hown, hts⟩ (qX9_feed_s0 l D ty eo _ ad q a1 a2 a3 a4 a5 r o hz) (cwV 5 hts gL_law_X9_feed rfl rfl rfl hd_X9_feed_v ⟨Nat.le_of_ble_eq_true rfl, Nat.le_of_ble_eq_true rfl⟩) (spv_9 hK hN hE hP hD hS hA) rfl rfl hl.1 rfl (lv_room (Nat.le_of_ble_eq_true rfl)) dL_law_362 (lw_room J X hi)) hP hD hS hA (fun r9 u H locs hw hP hD hS => ?_)
  obtain ⟨rfl, rfl⟩ := hw
  refine lv_pop hx hb dL_law_365 rfl ?_
  refine lv_aload_n hx hb dL_law_366 rfl (lv_at hl 1 rfl) ?_
  refine lv_aload_n hx hb dL_law_367 rfl (lv_at hl 3 rfl) ?_
  refine lv_iload_n hx hb dL_law_368 rfl (lv_at hl 0 rfl) ?_
  refine lv_iconst (v := 1) hx hb dL_law_369 (by decide) ?_
  refine lv_iadd hx hb dL_law_370 ?_
  refine va_sld hx hb hX hbl hbA hS hin.1 dL_law_371 ?_
  refine kz_topi a1 ea1.symm ?_
  refine lv_aload_n hx hb dL_law_372 rfl (lv_at hl 3 rfl) ?_
  refine lv_iload_n hx hb dL_law_373 rfl (lv_at hl 0 rfl) ?_
  refine lv_iconst (v := 2) hx hb dL_law_374 (by decide) ?_
  refine lv_iadd hx hb dL_law_375 ?_
  refine va_sld hx hb hX hbl hbA hS hin.2.1 dL_law_376 ?_
  refine kz_topi a2 ea2.symm ?_
  refine lv_aload_n hx hb dL_law_377 rfl (lv_at hl 3 rfl) ?_
  refine lv_iload_n hx hb dL_law_378 rfl (lv_at hl 0 rfl) ?_
  refine lv_iconst (v := 3) hx hb dL_law_379 (by decide) ?_
  refine lv_iadd hx hb dL_law_380 ?_
  refine va_sld hx hb hX hbl hbA hS hin.2.2.1 dL_law_381 ?_
  refine kz_topi a3 ea3.symm ?_
  refine lv_aload_n hx hb dL_law_382 rfl (lv_at hl 3 rfl) ?_
  refine lv_iload_n hx hb dL_law_383 rfl (lv_at hl 0 rfl) ?_
  refine lv_iconst (v := 4) hx hb dL_law_384 (by decide) ?_
  refine lv_iadd hx hb dL_law_385 ?_
  refine va_sld hx hb hX hbl hbA hS hin.2.2.2.1 dL_law_386 ?_
  refine kz_topi a4 ea4.symm ?_
  refine lv_aload_n hx hb dL_law_387 rfl (lv_at hl 3 rfl) ?_
  refine lv_iload_n hx hb dL_law_388 rfl (lv_at hl 0 rfl) ?_
  refine lv_iconst (v := 5) hx hb dL_law_389 (by decide) ?_
  refine lv_iadd hx hb dL_law_390 ?_
  refine va_sld hx hb hX hbl hbA hS hin.2.2.2.2 dL_law_391 ?_
  refine kz_topi a5 ea5.symm ?_
  obtain ⟨r2, o2, hz2, h2, ht2⟩ := lm_feed q2 a1 a2 a3 a4 a5 J.2.1
  refine sp_ki (va_runV (As := [.int a1, .int a2, .int a3, .int a4, .int a5]) (rest := []) ⟨hx, hb, hml, hown, hts⟩ (qX10_feed l D ty eo _ am q2 a1 a2 a3 a4 a5 r2 o2 hz2) (cwV 5 hts gL_law_X10_feed rfl rfl rfl hd_X10_feed_v ⟨Nat.le_of_ble_eq_true rfl, Nat.le_of_ble_eq_true rfl⟩) (spv_10 hK hN hE hP hD hS hA) rfl rfl hl.1 rfl (lv_room (Nat.le_of_ble_eq_true rfl)) dL_law_392 (lw_room J X hi)) hP hD hS hA (fun r9 u H locs hw hP hD hS => ?_)
  obtain ⟨rfl, rfl⟩ := hw
  refine lv_pop hx hb dL_law_395 rfl ?_
  have jg9 := rgf_feed J.1 J.2.1 J.2.2.1.2.2 a1 a2 a3 a4 a5 hz hz2
  have jg : RG o o2 := jg9
  refine lv_goto (tgt := 1071) hx hb dL_law_396 (by decide) ?_
  exact next ad o o2 _ _ H locs (lw_step J X h2 (by have j := J.2.2.1; unfold lw_R at j ⊢; have jt := j.1; have jn := ltY_len jt; exact ⟨ltY_feed jt hz hz2, by omega, jg⟩)) (rfl) hP hD hS

set_option maxHeartbeats 4000000 in
set_option maxRecDepth 100000 in
theorem lc_5 {p : Program} {e : Env} {s : State} {m : MethodId} {below : List Frame} {meth : Method} {c : Code} (l : Launch) {b L : Nat} {xs : Nat → Int32} (C0 : lw_At p s m meth c b L xs) {D : va_G} {ty : Nat → ClassId} {eo : Nat → Nat} {A : Nat → Prop} (hA : ∀ q : Nat, s.heap.size ≤ q → A q) (hB : ∀ q : Nat, A q → s.heap.size ≤ q) (hK : va_K D vwCl (kzT ty) s) (hN : kz_N s) (hE : kz_E eo A s s.heap) {i : Nat} {i6 : Int32} (hi : i ≤ 63) (hin : vp_in (i6 + 1) L ∧ vp_in (i6 + 2) L ∧ vp_in (i6 + 3) L ∧ vp_in (i6 + 4) L ∧ vp_in (i6 + 5) L) {ad am : Nat → Nat} {q : dK} {q2 : dS} {cells slots : Nat} (J : lw_J q q2 i cells slots) {H : Heap} {locs : List Loc} (hP : va_P D vwCl (wF ty ad q ++ w10 ty am q2) H) (hD : va_D A (wF ty ad q ++ w10 ty am q2)) (hS : va_S A s.heap H locs) {ls : Array Slot} (hl : lv_has ls 4 [(3, .int i6), (2, .ref (am 0)), (1, .ref (ad 0)), (0, .ref b)]) (next : ∀ (ad1 : Nat → Nat) (o : dK) (o2 : dS) (cells1 slots1 : Nat) (H1 : Heap) (locs1 : List Loc), lw_J o o2 (i + 1) cells1 slots1 → ad1 0 = ad 0 → va_P D vwCl (wF ty ad1 o ++ w10 ty am o2) H1 → va_D A (wF ty ad1 o ++ w10 ty am o2) → va_S A s.heap H1 locs1 → W p l e room_1 s m #[Value.ref b] below meth c H1 locs1 cells1 slots1 (lw_Z below #[Value.ref b] s) (F0 m 1071 ls [])) : W p l e room_1 s m #[Value.ref b] below meth c H locs cells slots (lw_Z below #[Value.ref b] s) (F0 m 399 ls []) := by
  obtain ⟨hx, hb, hr, hml, hown0, hts0, hX, hbl, hlocks, hgv⟩ := C0
  have hown : s.vm.findClass RL = some m.cls := hown0
  have hts : ∀ w ∈ lw_tbl, w.before #[Value.ref b] s = true := hts0
  have hbA : ¬ A b := fun h => absurd (hB b h) (Nat.not_le.mpr hbl)
  refine lv_aload_n hx hb dL_law_399 rfl (lv_at hl 2 rfl) ?_
  refine lv_aload_n hx hb dL_law_400 rfl (lv_at hl 3 rfl) ?_
  refine lv_iload_n hx hb dL_law_401 rfl (lv_at hl 0 rfl) ?_
  refine lv_iconst (v := 1) hx hb dL_law_402 (by decide) ?_
  refine lv_iadd hx hb dL_law_403 ?_
  refine va_sld hx hb hX hbl hbA hS hin.1 dL_law_404 ?_
  refine lv_topi (fun a1 ea1 => ?_)
  obtain ⟨r, o, hz, X, ht⟩ := lx_end q a1 J.1
  refine sp_ki (va_runV (As := [.int a1]) (rest := []) ⟨hx, hb, hml, hown, hts⟩ (qX9_end_s0 l D ty eo _ ad q a1 r o hz) (cwV 1 hts gL_law_X9_end rfl rfl rfl hd_X9_end_v ⟨Nat.le_of_ble_eq_true rfl, Nat.le_of_ble_eq_true rfl⟩) (spv_9 hK hN hE hP hD hS hA) rfl rfl hl.1 rfl (lv_room (Nat.le_of_ble_eq_true rfl)) dL_law_405 (lw_room J X hi)) hP hD hS hA (fun r9 u H locs hw hP hD hS => ?_)
  obtain ⟨rfl, rfl⟩ := hw
  refine lv_pop hx hb dL_law_408 rfl ?_
  refine lv_aload_n hx hb dL_law_409 rfl (lv_at hl 1 rfl) ?_
  refine lv_aload_n hx hb dL_law_410 rfl (lv_at hl 3 rfl) ?_
  refine lv_iload_n hx hb dL_law_411 rfl (lv_at hl 0 rfl) ?_
  refine lv_iconst (v := 1) hx hb dL_law_412 (by decide) ?_
  refine lv_iadd hx hb dL_law_413 ?_
  refine va_sld hx hb hX hbl hbA hS hin.1 dL_law_414 ?_
  refine kz_topi a1 ea1.symm ?_
  obtain ⟨r2, o2, hz2, h2, ht2⟩ := lm_end q2 a1 J.2.1
  refine sp_ki (va_runV (As := [.int a1]) (rest := []) ⟨hx, hb, hml, hown, hts⟩ (qX10_end l D ty eo _ am q2 a1 r2 o2 hz2) (cwV 1 hts gL_law_X10_end rfl rfl rfl hd_X10_end_v ⟨Nat.le_of_ble_eq_true rfl, Nat.le_of_ble_eq_true rfl⟩) (spv_10 hK hN hE hP hD hS hA) rfl rfl hl.1 rfl (lv_room (Nat.le_of_ble_eq_true rfl)) dL_law_415 (lw_room J X hi)) hP hD hS hA (fun r9 u H locs hw hP hD hS => ?_)
  obtain ⟨rfl, rfl⟩ := hw
  refine lv_pop hx hb dL_law_418 rfl ?_
  have jg9 := rgf_end J.1 J.2.1 J.2.2.1.2.2 a1 hz hz2
  have jg : RG o o2 := jg9
  refine lv_goto (tgt := 1071) hx hb dL_law_419 (by decide) ?_
  exact next ad o o2 _ _ H locs (lw_step J X h2 (by have j := J.2.2.1; unfold lw_R at j ⊢; have jt := j.1; have jn := ltY_len jt; exact ⟨ltY_end jt ht.2 ht2.2 (by omega) (by omega) (by omega), by omega, jg⟩)) (rfl) hP hD hS

set_option maxHeartbeats 4000000 in
set_option maxRecDepth 100000 in
theorem lc_6 {p : Program} {e : Env} {s : State} {m : MethodId} {below : List Frame} {meth : Method} {c : Code} (l : Launch) {b L : Nat} {xs : Nat → Int32} (C0 : lw_At p s m meth c b L xs) {D : va_G} {ty : Nat → ClassId} {eo : Nat → Nat} {A : Nat → Prop} (hA : ∀ q : Nat, s.heap.size ≤ q → A q) (hB : ∀ q : Nat, A q → s.heap.size ≤ q) (hK : va_K D vwCl (kzT ty) s) (hN : kz_N s) (hE : kz_E eo A s s.heap) {i : Nat} {i6 : Int32} (hi : i ≤ 63) (hin : vp_in (i6 + 1) L ∧ vp_in (i6 + 2) L ∧ vp_in (i6 + 3) L ∧ vp_in (i6 + 4) L ∧ vp_in (i6 + 5) L) {ad am : Nat → Nat} {q : dK} {q2 : dS} {cells slots : Nat} (J : lw_J q q2 i cells slots) {H : Heap} {locs : List Loc} (hP : va_P D vwCl (wF ty ad q ++ w10 ty am q2) H) (hD : va_D A (wF ty ad q ++ w10 ty am q2)) (hS : va_S A s.heap H locs) {ls : Array Slot} (hl : lv_has ls 4 [(3, .int i6), (2, .ref (am 0)), (1, .ref (ad 0)), (0, .ref b)]) (next : ∀ (ad1 : Nat → Nat) (o : dK) (o2 : dS) (cells1 slots1 : Nat) (H1 : Heap) (locs1 : List Loc), lw_J o o2 (i + 1) cells1 slots1 → ad1 0 = ad 0 → va_P D vwCl (wF ty ad1 o ++ w10 ty am o2) H1 → va_D A (wF ty ad1 o ++ w10 ty am o2) → va_S A s.heap H1 locs1 → W p l e room_1 s m #[Value.ref b] below meth c H1 locs1 cells1 slots1 (lw_Z below #[Value.ref b] s) (F0 m 1071 ls [])) : W p l e room_1 s m #[Value.ref b] below meth c H locs cells slots (lw_Z below #[Value.ref b] s) (F0 m 422 ls []) := by
  obtain ⟨hx, hb, hr, hml, hown0, hts0, hX, hbl, hlocks, hgv⟩ := C0
  have hown : s.vm.findClass RL = some m.cls := hown0
  have hts : ∀ w ∈ lw_tbl, w.before #[Value.ref b] s = true := hts0
  have hbA : ¬ A b := fun h => absurd (hB b h) (Nat.not_le.mpr hbl)
  refine lv_aload_n hx hb dL_law_422 rfl (lv_at hl 2 rfl) ?_
  obtain ⟨r, o, hz, X, ht⟩ := lx_row q J.1
  refine sp_ki (va_runV (As := []) (rest := []) ⟨hx, hb, hml, hown, hts⟩ (qX9_row_s0 l D ty eo _ ad q r o hz) (cwV 0 hts gL_law_X9_row rfl rfl rfl hd_X9_row_v ⟨Nat.le_of_ble_eq_true rfl, Nat.le_of_ble_eq_true rfl⟩) (spv_9 hK hN hE hP hD hS hA) rfl rfl hl.1 rfl (lv_room (Nat.le_of_ble_eq_true rfl)) dL_law_423 (lw_room J X hi)) hP hD hS hA (fun r9 u H locs hw hP hD hS => ?_)
  obtain ⟨rfl, rfl⟩ := hw
  refine lv_pop hx hb dL_law_426 rfl ?_
  refine lv_aload_n hx hb dL_law_427 rfl (lv_at hl 1 rfl) ?_
  obtain ⟨r2, o2, hz2, h2, ht2⟩ := lm_row q2 J.2.1
  refine sp_ki (va_runV (As := []) (rest := []) ⟨hx, hb, hml, hown, hts⟩ (qX10_row l D ty eo _ am q2 r2 o2 hz2) (cwV 0 hts gL_law_X10_row rfl rfl rfl hd_X10_row_v ⟨Nat.le_of_ble_eq_true rfl, Nat.le_of_ble_eq_true rfl⟩) (spv_10 hK hN hE hP hD hS hA) rfl rfl hl.1 rfl (lv_room (Nat.le_of_ble_eq_true rfl)) dL_law_428 (lw_room J X hi)) hP hD hS hA (fun r9 u H locs hw hP hD hS => ?_)
  obtain ⟨rfl, rfl⟩ := hw
  refine lv_pop hx hb dL_law_431 rfl ?_
  have jg9 := rgf_row J.1 J.2.1 J.2.2.1.2.2 J.2.2.1.1 hz hz2
  have jg : RG o o2 := jg9.2
  have ja : r = r2 := jg9.1
  refine lv_goto (tgt := 1071) hx hb dL_law_432 (by decide) ?_
  exact next ad o o2 _ _ H locs (lw_step J X h2 (by have j := J.2.2.1; unfold lw_R at j ⊢; have jt := j.1; have jn := ltY_len jt; exact ⟨ltY_0 (by omega) (by omega), by omega, jg⟩)) (rfl) hP hD hS

set_option maxHeartbeats 4000000 in
set_option maxRecDepth 100000 in
theorem lc_7 {p : Program} {e : Env} {s : State} {m : MethodId} {below : List Frame} {meth : Method} {c : Code} (l : Launch) {b L : Nat} {xs : Nat → Int32} (C0 : lw_At p s m meth c b L xs) {D : va_G} {ty : Nat → ClassId} {eo : Nat → Nat} {A : Nat → Prop} (hA : ∀ q : Nat, s.heap.size ≤ q → A q) (hB : ∀ q : Nat, A q → s.heap.size ≤ q) (hK : va_K D vwCl (kzT ty) s) (hN : kz_N s) (hE : kz_E eo A s s.heap) {i : Nat} {i6 : Int32} (hi : i ≤ 63) (hin : vp_in (i6 + 1) L ∧ vp_in (i6 + 2) L ∧ vp_in (i6 + 3) L ∧ vp_in (i6 + 4) L ∧ vp_in (i6 + 5) L) {ad am : Nat → Nat} {q : dK} {q2 : dS} {cells slots : Nat} (J : lw_J q q2 i cells slots) {H : Heap} {locs : List Loc} (hP : va_P D vwCl (wF ty ad q ++ w10 ty am q2) H) (hD : va_D A (wF ty ad q ++ w10 ty am q2)) (hS : va_S A s.heap H locs) {ls : Array Slot} (hl : lv_has ls 4 [(3, .int i6), (2, .ref (am 0)), (1, .ref (ad 0)), (0, .ref b)]) (next : ∀ (ad1 : Nat → Nat) (o : dK) (o2 : dS) (cells1 slots1 : Nat) (H1 : Heap) (locs1 : List Loc), lw_J o o2 (i + 1) cells1 slots1 → ad1 0 = ad 0 → va_P D vwCl (wF ty ad1 o ++ w10 ty am o2) H1 → va_D A (wF ty ad1 o ++ w10 ty am o2) → va_S A s.heap H1 locs1 → W p l e room_1 s m #[Value.ref b] below meth c H1 locs1 cells1 slots1 (lw_Z below #[Value.ref b] s) (F0 m 1071 ls [])) : W p l e room_1 s m #[Value.ref b] below meth c H locs cells slots (lw_Z below #[Value.ref b] s) (F0 m 435 ls []) := by
  obtain ⟨hx, hb, hr, hml, hown0, hts0, hX, hbl, hlocks, hgv⟩ := C0
  have hown : s.vm.findClass RL = some m.cls := hown0
  have hts : ∀ w ∈ lw_tbl, w.before #[Value.ref b] s = true := hts0
  have hbA : ¬ A b := fun h => absurd (hB b h) (Nat.not_le.mpr hbl)
  refine lv_aload_n hx hb dL_law_435 rfl (lv_at hl 2 rfl) ?_
  obtain ⟨r, o, hz, X, ht⟩ := lx_bricks q J.1
  refine sp_ki (va_runV (As := []) (rest := []) ⟨hx, hb, hml, hown, hts⟩ (qX9_bricks_s0 l D ty eo _ ad q r o hz) (cwV 0 hts gL_law_X9_bricks rfl rfl rfl hd_X9_bricks_v ⟨Nat.le_of_ble_eq_true rfl, Nat.le_of_ble_eq_true rfl⟩) (spv_9 hK hN hE hP hD hS hA) rfl rfl hl.1 rfl (lv_room (Nat.le_of_ble_eq_true rfl)) dL_law_436 (lw_room J X hi)) hP hD hS hA (fun r9 u H locs hw hP hD hS => ?_)
  obtain ⟨rfl, rfl⟩ := hw
  refine lv_pop hx hb dL_law_439 rfl ?_
  refine lv_aload_n hx hb dL_law_440 rfl (lv_at hl 1 rfl) ?_
  obtain ⟨r2, o2, hz2, h2, ht2⟩ := lm_bricks q2 J.2.1
  refine sp_ki (va_runV (As := []) (rest := []) ⟨hx, hb, hml, hown, hts⟩ (qX10_bricks l D ty eo _ am q2 r2 o2 hz2) (cwV 0 hts gL_law_X10_bricks rfl rfl rfl hd_X10_bricks_v ⟨Nat.le_of_ble_eq_true rfl, Nat.le_of_ble_eq_true rfl⟩) (spv_10 hK hN hE hP hD hS hA) rfl rfl hl.1 rfl (lv_room (Nat.le_of_ble_eq_true rfl)) dL_law_441 (lw_room J X hi)) hP hD hS hA (fun r9 u H locs hw hP hD hS => ?_)
  obtain ⟨rfl, rfl⟩ := hw
  refine lv_pop hx hb dL_law_444 rfl ?_
  have jg9 := rgf_bricks J.1 J.2.1 J.2.2.1.2.2 hz hz2
  have jg : RG o o2 := jg9
  refine lv_goto (tgt := 1071) hx hb dL_law_445 (by decide) ?_
  exact next ad o o2 _ _ H locs (lw_step J X h2 (by have j := J.2.2.1; unfold lw_R at j ⊢; have jt := j.1; have jn := ltY_len jt; exact ⟨ltY_end jt ht.2 ht2.2 (by omega) (by omega) (by omega), by omega, jg⟩)) (rfl) hP hD hS
