theorem f9_wsJ0_checkIndex_df160_323 : (Cond.fieldLink RJ0 1053 "jdk/internal/util/Preconditions" "SIOOBE_FORMATTER" "Ljava/util/function/BiFunction;") ∈ wsJ0_checkIndex_df160 := by decide +kernel
theorem f9_wsJ0_isLatin1_aae02_324 : (Cond.fieldLink RJ0 38 "java/lang/String" "COMPACT_STRINGS" "Z") ∈ wsJ0_isLatin1_aae02 := by decide +kernel
theorem f9_wsJ0_isLatin1_aae02_325 : (Cond.fieldLink RJ0 15 "java/lang/String" "coder" "B") ∈ wsJ0_isLatin1_aae02 := by decide +kernel
theorem f9_wsJ0_charAt_5068e_326 : (Cond.fieldLink RJ0 9 "java/lang/String" "value" "[B") ∈ wsJ0_charAt_5068e := by decide +kernel
theorem f9_wsJ0_coder_7d493_327 : (Cond.fieldLink RJ0 38 "java/lang/String" "COMPACT_STRINGS" "Z") ∈ wsJ0_coder_7d493 := by decide +kernel
theorem f9_wsJ0_coder_7d493_328 : (Cond.fieldLink RJ0 15 "java/lang/String" "coder" "B") ∈ wsJ0_coder_7d493 := by decide +kernel
theorem f9_wsJ0_length_8abf5_329 : (Cond.fieldLink RJ0 9 "java/lang/String" "value" "[B") ∈ wsJ0_length_8abf5 := by decide +kernel
/-! the texts: their lengths, their signs -/
def chV (k : Nat) (i : Int32) : Int32 := (kzByt.getD k []).getD (Int32.toNatClampNeg i) 0
def chN (k : Nat) : Int32 := Int32.ofNat (kzLen.getD k 0)
theorem ch_ok : ∀ k : Nat, k < 12 → ∀ j : Nat, j < 47 → ((((kzByt.getD k []).getD j 0) &&& 255).toUInt32 % 65536).toInt32 = (kzByt.getD k []).getD j 0 ∧ ((kzByt.getD k []).getD j 0).toUInt32.toUInt16.toUInt32.toInt32 = (kzByt.getD k []).getD j 0 := by decide +kernel
theorem ch_len : ∀ k : Nat, k < 12 → kzLen.getD k 0 ≤ 47 ∧ Int32.toInt (chN k) = ((kzLen.getD k 0 : Nat) : Int) ∧ chN k >>> ((0 : Int32) &&& 31) = chN k := by decide +kernel
theorem ch_in {k : Nat} {i : Int32} (hk : k < 12) (h : vp_in i (kzLen.getD k 0)) : ¬ i < 0 ∧ i < chN k ∧ Int32.toNatClampNeg i < 47 := by
  have h1 : ¬ (i < 0 ∨ kzLen.getD k 0 ≤ Int32.toNatClampNeg i) := h
  obtain ⟨h2, h3, -⟩ := ch_len k hk
  have h4 : ¬ i < 0 := fun z => h1 (Or.inl z)
  have h5 : Int32.toNatClampNeg i < kzLen.getD k 0 := Nat.not_le.mp (fun z => h1 (Or.inr z))
  have h6 : Int32.toNatClampNeg i = i.toInt.toNat := rfl
  refine ⟨h4, Int32.lt_iff_toInt_lt.mpr ?_, by omega⟩
  omega
set_option maxHeartbeats 4000000 in
set_option maxRecDepth 100000 in
theorem kcJ3n (l : Launch) (D : va_G) (ty : Nat → ClassId) (eo : Nat → Nat) (sz : Nat) (i n : Int32) (h0 : ¬ i < 0) (hlt : i < n) : Met l yJ3_checkIndex_8e157 wsJ3_checkIndex_8e157 ({ frames := 0, cells := 0, slots := 0, locals := 0 }) (va_Pc [.int i, .int n, .null] (kz_pre D ty eo [] sz)) (va_Qi (fun (r : Int32) (u : va_W) => i = r ∧ [] = u) (kz_B D ty (va_A [] sz)) (va_A [] sz)) 0 0 (va_A [] sz) := by
  refine Met.ofW (cc := cJ3_checkIndex_8e157) (maxL := 3) (ret := (some .int)) (by decide) rfl ?_
  intro p e s m args below meth c s₁ B hml hv
  obtain ⟨rfl, hsz, hP, hK, hD0, hN, hE⟩ := hv
  have hx := B.exec
  have hb := B.bytes
  have hr := B.returns
  have hts := atoms_spec (ws := wsJ3_checkIndex_8e157) B.pre
  have hown : s.vm.findClass RJ3 = some m.cls := findClass_of_methodNamed B.named
  have hlocks := B.notSynchronized
  subst hsz
  have hD := hD0.self (sz := s.heap.size)
  generalize hAe : va_A [] s.heap.size = A at hD hE ⊢
  have hA : ∀ q : Nat, s.heap.size ≤ q → A q := fun q h => by rw [← hAe]; exact Or.inr h
  have hS : va_S A s.heap s.heap [] := va_S.rf
  have hl := lv_entry ([.int i, .int n, .null]) (n := 3) (Nat.le_of_ble_eq_true rfl)
  rw [lg_entry_eq]
  generalize (lg_sl ([.int i, .int n, .null]) ++ List.replicate (3 - (lg_sl ([.int i, .int n, .null])).length) Slot.unset).toArray = ls at hl ⊢
  have hl : lv_has ls 3 [(0, .int i), (1, .int n), (2, .null)] := hl
  refine lv_iload_n hx hb dJ3_checkIndex_8e157_0 rfl (lv_at hl 0 rfl) ?_
  refine lv_if_lt (tgt := 9) hx hb dJ3_checkIndex_8e157_1 (by decide) (fun h9 => absurd h9 h0) (fun _ => ?_)
  refine lv_iload_n hx hb dJ3_checkIndex_8e157_4 rfl (lv_at hl 0 rfl) ?_
  refine lv_iload_n hx hb dJ3_checkIndex_8e157_5 rfl (lv_at hl 1 rfl) ?_
  refine lv_icmp_lt (tgt := 16) hx hb dJ3_checkIndex_8e157_6 (by decide) (fun _ => ?_) (fun h9 => absurd hlt h9)
  refine lv_iload_n hx hb dJ3_checkIndex_8e157_16 rfl (lv_at hl 0 rfl) ?_
  exact kz_iret hx hb hr hlocks hP hK hD hS dJ3_checkIndex_8e157_17 ⟨rfl, rfl⟩
set_option maxHeartbeats 4000000 in
set_option maxRecDepth 100000 in
theorem kcJ3r (l : Launch) (D : va_G) (ty : Nat → ClassId) (eo : Nat → Nat) (sz : Nat) (a9 : Nat) (i n : Int32) (h0 : ¬ i < 0) (hlt : i < n) : Met l yJ3_checkIndex_8e157 wsJ3_checkIndex_8e157 ({ frames := 0, cells := 0, slots := 0, locals := 0 }) (va_Pc [.int i, .int n, .ref a9] (kz_pre D ty eo [] sz)) (va_Qi (fun (r : Int32) (u : va_W) => i = r ∧ [] = u) (kz_B D ty (va_A [] sz)) (va_A [] sz)) 0 0 (va_A [] sz) := by
  refine Met.ofW (cc := cJ3_checkIndex_8e157) (maxL := 3) (ret := (some .int)) (by decide) rfl ?_
  intro p e s m args below meth c s₁ B hml hv
  obtain ⟨rfl, hsz, hP, hK, hD0, hN, hE⟩ := hv
  have hx := B.exec
  have hb := B.bytes
  have hr := B.returns
  have hts := atoms_spec (ws := wsJ3_checkIndex_8e157) B.pre
  have hown : s.vm.findClass RJ3 = some m.cls := findClass_of_methodNamed B.named
  have hlocks := B.notSynchronized
  subst hsz
  have hD := hD0.self (sz := s.heap.size)
  generalize hAe : va_A [] s.heap.size = A at hD hE ⊢
  have hA : ∀ q : Nat, s.heap.size ≤ q → A q := fun q h => by rw [← hAe]; exact Or.inr h
  have hS : va_S A s.heap s.heap [] := va_S.rf
  have hl := lv_entry ([.int i, .int n, .ref a9]) (n := 3) (Nat.le_of_ble_eq_true rfl)
  rw [lg_entry_eq]
  generalize (lg_sl ([.int i, .int n, .ref a9]) ++ List.replicate (3 - (lg_sl ([.int i, .int n, .ref a9])).length) Slot.unset).toArray = ls at hl ⊢
  have hl : lv_has ls 3 [(0, .int i), (1, .int n), (2, .ref a9)] := hl
  refine lv_iload_n hx hb dJ3_checkIndex_8e157_0 rfl (lv_at hl 0 rfl) ?_
  refine lv_if_lt (tgt := 9) hx hb dJ3_checkIndex_8e157_1 (by decide) (fun h9 => absurd h9 h0) (fun _ => ?_)
  refine lv_iload_n hx hb dJ3_checkIndex_8e157_4 rfl (lv_at hl 0 rfl) ?_
  refine lv_iload_n hx hb dJ3_checkIndex_8e157_5 rfl (lv_at hl 1 rfl) ?_
  refine lv_icmp_lt (tgt := 16) hx hb dJ3_checkIndex_8e157_6 (by decide) (fun _ => ?_) (fun h9 => absurd hlt h9)
  refine lv_iload_n hx hb dJ3_checkIndex_8e157_16 rfl (lv_at hl 0 rfl) ?_
  exact kz_iret hx hb hr hlocks hP hK hD hS dJ3_checkIndex_8e157_17 ⟨rfl, rfl⟩
set_option maxHeartbeats 4000000 in
set_option maxRecDepth 100000 in
theorem kcJ0ck (l : Launch) (D : va_G) (ty : Nat → ClassId) (eo : Nat → Nat) (sz : Nat) (i n : Int32) (h0 : ¬ i < 0) (hlt : i < n) : Met l yJ0_checkIndex_df160 wsJ0_checkIndex_df160 ({ frames := 1, cells := 0, slots := 0, locals := 22 }) (va_Pc [.int i, .int n] (kz_pre D ty eo [] sz)) (va_Qv (fun (u : va_W) => [] = u) (kz_B D ty (va_A [] sz)) (va_A [] sz)) 0 0 (va_A [] sz) := by
  refine Met.ofW (cc := cJ0_checkIndex_df160) (maxL := 2) (ret := none) (by decide) rfl ?_
  intro p e s m args below meth c s₁ B hml hv
  obtain ⟨rfl, hsz, hP, hK, hD0, hN, hE⟩ := hv
  have hx := B.exec
  have hb := B.bytes
  have hr := B.returns
  have hts := atoms_spec (ws := wsJ0_checkIndex_df160) B.pre
  have hown : s.vm.findClass RJ0 = some m.cls := findClass_of_methodNamed B.named
  have hlocks := B.notSynchronized
  subst hsz
  have hD := hD0.self (sz := s.heap.size)
  generalize hAe : va_A [] s.heap.size = A at hD hE ⊢
  have hA : ∀ q : Nat, s.heap.size ≤ q → A q := fun q h => by rw [← hAe]; exact Or.inr h
  have hS : va_S A s.heap s.heap [] := va_S.rf
  have hl := lv_entry ([.int i, .int n]) (n := 2) (Nat.le_of_ble_eq_true rfl)
  rw [lg_entry_eq]
  generalize (lg_sl ([.int i, .int n]) ++ List.replicate (2 - (lg_sl ([.int i, .int n])).length) Slot.unset).toArray = ls at hl ⊢
  have hl : lv_has ls 2 [(0, .int i), (1, .int n)] := hl
  obtain ⟨fv, hfv, hZ⟩ := hE.2.2.2.2.2
  refine lv_iload_n hx hb dJ0_checkIndex_df160_0 rfl (lv_at hl 0 rfl) ?_
  refine lv_iload_n hx hb dJ0_checkIndex_df160_1 rfl (lv_at hl 1 rfl) ?_
  refine va_gets hx hb hZ hS hown (hts (.fieldLink RJ0 1053 "jdk/internal/util/Preconditions" "SIOOBE_FORMATTER" "Ljava/util/function/BiFunction;") f9_wsJ0_checkIndex_df160_323) (fun _ h9 => h9) dJ0_checkIndex_df160_2 ?_
  rcases hfv with ef | ⟨a9, ef⟩
  · subst ef
    refine kz_ki (wc := []) (wr := []) (va_runS (As := [.int i, .int n, .null]) (rest := []) ⟨hx, hb, hml, hown, hts⟩ (kcJ3n l D ty eo _ i n h0 hlt) (va_cwS 3 hts gJ0_checkIndex_df160_J3_checkIndex_8e157 rfl rfl rfl (by decide +kernel) ⟨Nat.le_of_ble_eq_true rfl, Nat.le_of_ble_eq_true rfl⟩) (kz_preS hK hN hE hP hD hS hA [] (by decide) rfl) rfl rfl hl.1 rfl (lv_room (Nat.le_of_ble_eq_true rfl)) dJ0_checkIndex_df160_5 ⟨Nat.le_of_ble_eq_true rfl, Nat.le_of_ble_eq_true rfl⟩) hP hD hS hA [] [] rfl rfl (by decide) (by decide) (fun r u H locs hw hp hd hs => ?_)
    obtain ⟨rfl, rfl⟩ := hw
    refine kz_re (w2 := []) hp hd hs rfl ?_
    clear hp hd hs hP hD hS
    intro hP hD hS
    refine lv_pop hx hb dJ0_checkIndex_df160_8 rfl ?_
    exact kz_vret hx hb hr hlocks hP hK hD hS dJ0_checkIndex_df160_9 rfl
  · subst ef
    refine kz_ki (wc := []) (wr := []) (va_runS (As := [.int i, .int n, .ref a9]) (rest := []) ⟨hx, hb, hml, hown, hts⟩ (kcJ3r l D ty eo _ a9 i n h0 hlt) (va_cwS 3 hts gJ0_checkIndex_df160_J3_checkIndex_8e157 rfl rfl rfl (by decide +kernel) ⟨Nat.le_of_ble_eq_true rfl, Nat.le_of_ble_eq_true rfl⟩) (kz_preS hK hN hE hP hD hS hA [] (by decide) rfl) rfl rfl hl.1 rfl (lv_room (Nat.le_of_ble_eq_true rfl)) dJ0_checkIndex_df160_5 ⟨Nat.le_of_ble_eq_true rfl, Nat.le_of_ble_eq_true rfl⟩) hP hD hS hA [] [] rfl rfl (by decide) (by decide) (fun r u H locs hw hp hd hs => ?_)
    obtain ⟨rfl, rfl⟩ := hw
    refine kz_re (w2 := []) hp hd hs rfl ?_
    clear hp hd hs hP hD hS
    intro hP hD hS
    refine lv_pop hx hb dJ0_checkIndex_df160_8 rfl ?_
    exact kz_vret hx hb hr hlocks hP hK hD hS dJ0_checkIndex_df160_9 rfl
set_option maxHeartbeats 4000000 in
set_option maxRecDepth 100000 in
theorem kcJ1ch (l : Launch) (D : va_G) (ty : Nat → ClassId) (eo : Nat → Nat) (sz : Nat) (k : Nat) (hk : k < 12) (i : Int32) (hi : vp_in i (kzLen.getD k 0)) : Met l yJ1_charAt_3b067 wsJ1_charAt_3b067 ({ frames := 2, cells := 0, slots := 0, locals := 43 }) (va_Pc [.ref (eo (20 + k)), .int i] (kz_pre D ty eo [] sz)) (va_Qi (fun (r : Int32) (u : va_W) => chV k i = r ∧ [] = u) (kz_B D ty (va_A [] sz)) (va_A [] sz)) 0 0 (va_A [] sz) := by
  refine Met.ofW (cc := cJ1_charAt_3b067) (maxL := 2) (ret := (some .char)) (by decide) rfl ?_
  intro p e s m args below meth c s₁ B hml hv
  obtain ⟨rfl, hsz, hP, hK, hD0, hN, hE⟩ := hv
  have hx := B.exec
  have hb := B.bytes
  have hr := B.returns
  have hts := atoms_spec (ws := wsJ1_charAt_3b067) B.pre
  have hown : s.vm.findClass RJ1 = some m.cls := findClass_of_methodNamed B.named
  have hlocks := B.notSynchronized
  subst hsz
  have hD := hD0.self (sz := s.heap.size)
  generalize hAe : va_A [] s.heap.size = A at hD hE ⊢
  have hA : ∀ q : Nat, s.heap.size ≤ q → A q := fun q h => by rw [← hAe]; exact Or.inr h
  have hS : va_S A s.heap s.heap [] := va_S.rf
  have hl := lv_entry ([.ref (eo (20 + k)), .int i]) (n := 2) (Nat.le_of_ble_eq_true rfl)
  rw [lg_entry_eq]
  generalize (lg_sl ([.ref (eo (20 + k)), .int i]) ++ List.replicate (2 - (lg_sl ([.ref (eo (20 + k)), .int i])).length) Slot.unset).toArray = ls at hl ⊢
  have hl : lv_has ls 2 [(0, .ref (eo (20 + k))), (1, .int i)] := hl
  obtain ⟨i1, i2, i3⟩ := ch_in hk hi
  refine lv_iload_n hx hb dJ1_charAt_3b067_0 rfl (lv_at hl 1 rfl) ?_
  refine lv_aload_n hx hb dJ1_charAt_3b067_1 rfl (lv_at hl 0 rfl) ?_
  refine va_tlen (v := chN k) hx hb (hE.2.2.2.1.1 k hk).2.2.2 hS rfl dJ1_charAt_3b067_2 ?_
  refine kz_kv (wc := []) (wr := []) (va_runS (As := [.int i, .int (chN k)]) (rest := []) ⟨hx, hb, hml, hown, hts⟩ (kcJ0ck l D ty eo _ i (chN k) i1 i2) (va_cwS 2 hts gJ1_charAt_3b067_J0_checkIndex_df160 rfl rfl rfl (by decide +kernel) ⟨Nat.le_of_ble_eq_true rfl, Nat.le_of_ble_eq_true rfl⟩) (kz_preS hK hN hE hP hD hS hA [] (by decide) rfl) rfl rfl hl.1 rfl (lv_room (Nat.le_of_ble_eq_true rfl)) dJ1_charAt_3b067_3 ⟨Nat.le_of_ble_eq_true rfl, Nat.le_of_ble_eq_true rfl⟩) hP hD hS hA [] [] rfl rfl (by decide) (by decide) (fun u H locs hw hp hd hs => ?_)
  obtain rfl := hw
  refine kz_re (w2 := []) hp hd hs rfl ?_
  clear hp hd hs hP hD hS
  intro hP hD hS
  refine lv_aload_n hx hb dJ1_charAt_3b067_6 rfl (lv_at hl 0 rfl) ?_
  refine lv_iload_n hx hb dJ1_charAt_3b067_7 rfl (lv_at hl 1 rfl) ?_
  refine va_tb (v := .int (chV k i)) hx hb (hE.2.2.2.1.1 k hk).2.2.2 hS hi rfl dJ1_charAt_3b067_8 ?_
  refine lv_sipush (v := 255) hx hb dJ1_charAt_3b067_9 (by decide) ?_
  refine lv_iand hx hb dJ1_charAt_3b067_12 ?_
  refine lv_i2c (v := chV k i) hx hb dJ1_charAt_3b067_13 (ch_ok k hk _ i3).1 ?_
  exact kz_zret hx hb hr hlocks (congrArg Value.int (ch_ok k hk _ i3).2) hP hK hD hS dJ1_charAt_3b067_14 ⟨rfl, rfl⟩
set_option maxHeartbeats 4000000 in
set_option maxRecDepth 100000 in
theorem kcJ0la (l : Launch) (D : va_G) (ty : Nat → ClassId) (eo : Nat → Nat) (sz : Nat) (k : Nat) (hk : k < 12) : Met l yJ0_isLatin1_aae02 wsJ0_isLatin1_aae02 ({ frames := 0, cells := 0, slots := 0, locals := 0 }) (va_Pc [.ref (eo (1 + k))] (kz_pre D ty eo [] sz)) (va_Qi (fun (r : Int32) (u : va_W) => (1 : Int32) = r ∧ [] = u) (kz_B D ty (va_A [] sz)) (va_A [] sz)) 0 0 (va_A [] sz) := by
  refine Met.ofW (cc := cJ0_isLatin1_aae02) (maxL := 1) (ret := (some .boolean)) (by decide) rfl ?_
  intro p e s m args below meth c s₁ B hml hv
  obtain ⟨rfl, hsz, hP, hK, hD0, hN, hE⟩ := hv
  have hx := B.exec
  have hb := B.bytes
  have hr := B.returns
  have hts := atoms_spec (ws := wsJ0_isLatin1_aae02) B.pre
  have hown : s.vm.findClass RJ0 = some m.cls := findClass_of_methodNamed B.named
  have hlocks := B.notSynchronized
  subst hsz
  have hD := hD0.self (sz := s.heap.size)
  generalize hAe : va_A [] s.heap.size = A at hD hE ⊢
  have hA : ∀ q : Nat, s.heap.size ≤ q → A q := fun q h => by rw [← hAe]; exact Or.inr h
  have hS : va_S A s.heap s.heap [] := va_S.rf
  have hl := lv_entry ([.ref (eo (1 + k))]) (n := 1) (Nat.le_of_ble_eq_true rfl)
  rw [lg_entry_eq]
  generalize (lg_sl ([.ref (eo (1 + k))]) ++ List.replicate (1 - (lg_sl ([.ref (eo (1 + k))])).length) Slot.unset).toArray = ls at hl ⊢
  have hl : lv_has ls 1 [(0, .ref (eo (1 + k)))] := hl
  refine va_gets hx hb hE.2.2.1 hS hown (hts (.fieldLink RJ0 38 "java/lang/String" "COMPACT_STRINGS" "Z") f9_wsJ0_isLatin1_aae02_324) (fun _ h9 => h9) dJ0_isLatin1_aae02_0 ?_
  refine lv_if_eq (tgt := 17) hx hb dJ0_isLatin1_aae02_3 (by decide) (fun h => absurd h (by decide)) (fun _ => ?_)
  refine lv_aload_n hx hb dJ0_isLatin1_aae02_6 rfl (lv_at hl 0 rfl) ?_
  refine vk_getf (v := .int 0) hx hb (hE.2.2.2.1.1 k hk).2.1 hS hown (hts (.fieldLink RJ0 15 "java/lang/String" "coder" "B") f9_wsJ0_isLatin1_aae02_325) (fun _ h9 => h9) dJ0_isLatin1_aae02_7 ?_
  refine lv_if_ne (tgt := 17) hx hb dJ0_isLatin1_aae02_10 (by decide) (fun h9 => absurd rfl h9) (fun _ => ?_)
  refine lv_iconst (v := 1) hx hb dJ0_isLatin1_aae02_13 (by decide) ?_
  refine lv_goto (tgt := 18) hx hb dJ0_isLatin1_aae02_14 (by decide) ?_
  exact kz_zret hx hb hr hlocks rfl hP hK hD hS dJ0_isLatin1_aae02_18 ⟨rfl, rfl⟩
set_option maxHeartbeats 4000000 in
set_option maxRecDepth 100000 in
theorem kcJ0ch (l : Launch) (D : va_G) (ty : Nat → ClassId) (eo : Nat → Nat) (sz : Nat) (k : Nat) (hk : k < 12) (i : Int32) (hi : vp_in i (kzLen.getD k 0)) : Met l yJ0_charAt_5068e wsJ0_charAt_5068e ({ frames := 3, cells := 0, slots := 0, locals := 64 }) (va_Pc [.ref (eo (1 + k)), .int i] (kz_pre D ty eo [] sz)) (va_Qi (fun (r : Int32) (u : va_W) => chV k i = r ∧ [] = u) (kz_B D ty (va_A [] sz)) (va_A [] sz)) 0 0 (va_A [] sz) := by
  refine Met.ofW (cc := cJ0_charAt_5068e) (maxL := 2) (ret := (some .char)) (by decide) rfl ?_
  intro p e s m args below meth c s₁ B hml hv
  obtain ⟨rfl, hsz, hP, hK, hD0, hN, hE⟩ := hv
  have hx := B.exec
  have hb := B.bytes
  have hr := B.returns
  have hts := atoms_spec (ws := wsJ0_charAt_5068e) B.pre
  have hown : s.vm.findClass RJ0 = some m.cls := findClass_of_methodNamed B.named
  have hlocks := B.notSynchronized
  subst hsz
  have hD := hD0.self (sz := s.heap.size)
  generalize hAe : va_A [] s.heap.size = A at hD hE ⊢
  have hA : ∀ q : Nat, s.heap.size ≤ q → A q := fun q h => by rw [← hAe]; exact Or.inr h
  have hS : va_S A s.heap s.heap [] := va_S.rf
  have hl := lv_entry ([.ref (eo (1 + k)), .int i]) (n := 2) (Nat.le_of_ble_eq_true rfl)
  rw [lg_entry_eq]
  generalize (lg_sl ([.ref (eo (1 + k)), .int i]) ++ List.replicate (2 - (lg_sl ([.ref (eo (1 + k)), .int i])).length) Slot.unset).toArray = ls at hl ⊢
  have hl : lv_has ls 2 [(0, .ref (eo (1 + k))), (1, .int i)] := hl
  obtain ⟨i1, i2, i3⟩ := ch_in hk hi
  refine lv_aload_n hx hb dJ0_charAt_5068e_0 rfl (lv_at hl 0 rfl) ?_
  refine kz_ki (wc := []) (wr := []) (va_runV (As := []) (rest := []) ⟨hx, hb, hml, hown, hts⟩ (kcJ0la l D ty eo _ k hk) (cwV 0 hts gJ0_charAt_5068e_J0_isLatin1_aae02 rfl rfl rfl (by decide +kernel) ⟨Nat.le_of_ble_eq_true rfl, Nat.le_of_ble_eq_true rfl⟩) (kz_preT hK hN hE hP hD hS hA k hk [] (by decide) rfl) rfl rfl hl.1 rfl (lv_room (Nat.le_of_ble_eq_true rfl)) dJ0_charAt_5068e_1 ⟨Nat.le_of_ble_eq_true rfl, Nat.le_of_ble_eq_true rfl⟩) hP hD hS hA [] [] rfl rfl (by decide) (by decide) (fun r u H locs hw hp hd hs => ?_)
  obtain ⟨rfl, rfl⟩ := hw
  refine kz_re (w2 := []) hp hd hs rfl ?_
  clear hp hd hs hP hD hS
  intro hP hD hS
  refine lv_if_eq (tgt := 16) hx hb dJ0_charAt_5068e_4 (by decide) (fun h => absurd h (by decide)) (fun _ => ?_)
  refine lv_aload_n hx hb dJ0_charAt_5068e_7 rfl (lv_at hl 0 rfl) ?_
  refine vk_getf (v := .ref (eo (20 + k))) hx hb (hE.2.2.2.1.1 k hk).2.2.1 hS hown (hts (.fieldLink RJ0 9 "java/lang/String" "value" "[B") f9_wsJ0_charAt_5068e_326) (fun _ h9 => h9) dJ0_charAt_5068e_8 ?_
  refine lv_iload_n hx hb dJ0_charAt_5068e_11 rfl (lv_at hl 1 rfl) ?_
  refine kz_ki (wc := []) (wr := []) (va_runS (As := [.ref (eo (20 + k)), .int i]) (rest := []) ⟨hx, hb, hml, hown, hts⟩ (kcJ1ch l D ty eo _ k hk i hi) (va_cwS 2 hts gJ0_charAt_5068e_J1_charAt_3b067 rfl rfl rfl (by decide +kernel) ⟨Nat.le_of_ble_eq_true rfl, Nat.le_of_ble_eq_true rfl⟩) (kz_preS hK hN hE hP hD hS hA [] (by decide) rfl) rfl rfl hl.1 rfl (lv_room (Nat.le_of_ble_eq_true rfl)) dJ0_charAt_5068e_12 ⟨Nat.le_of_ble_eq_true rfl, Nat.le_of_ble_eq_true rfl⟩) hP hD hS hA [] [] rfl rfl (by decide) (by decide) (fun r u H locs hw hp hd hs => ?_)
  obtain ⟨rfl, rfl⟩ := hw
  refine kz_re (w2 := []) hp hd hs rfl ?_
  clear hp hd hs hP hD hS
  intro hP hD hS
  exact kz_zret hx hb hr hlocks (congrArg Value.int (ch_ok k hk _ i3).2) hP hK hD hS dJ0_charAt_5068e_15 ⟨rfl, rfl⟩
set_option maxHeartbeats 4000000 in
set_option maxRecDepth 100000 in
theorem kcJ0co (l : Launch) (D : va_G) (ty : Nat → ClassId) (eo : Nat → Nat) (sz : Nat) (k : Nat) (hk : k < 12) : Met l yJ0_coder_7d493 wsJ0_coder_7d493 ({ frames := 0, cells := 0, slots := 0, locals := 0 }) (va_Pc [.ref (eo (1 + k))] (kz_pre D ty eo [] sz)) (va_Qi (fun (r : Int32) (u : va_W) => (0 : Int32) = r ∧ [] = u) (kz_B D ty (va_A [] sz)) (va_A [] sz)) 0 0 (va_A [] sz) := by
  refine Met.ofW (cc := cJ0_coder_7d493) (maxL := 1) (ret := (some .byte)) (by decide) rfl ?_
  intro p e s m args below meth c s₁ B hml hv
  obtain ⟨rfl, hsz, hP, hK, hD0, hN, hE⟩ := hv
  have hx := B.exec
  have hb := B.bytes
  have hr := B.returns
  have hts := atoms_spec (ws := wsJ0_coder_7d493) B.pre
  have hown : s.vm.findClass RJ0 = some m.cls := findClass_of_methodNamed B.named
  have hlocks := B.notSynchronized
  subst hsz
  have hD := hD0.self (sz := s.heap.size)
  generalize hAe : va_A [] s.heap.size = A at hD hE ⊢
  have hA : ∀ q : Nat, s.heap.size ≤ q → A q := fun q h => by rw [← hAe]; exact Or.inr h
  have hS : va_S A s.heap s.heap [] := va_S.rf
  have hl := lv_entry ([.ref (eo (1 + k))]) (n := 1) (Nat.le_of_ble_eq_true rfl)
  rw [lg_entry_eq]
  generalize (lg_sl ([.ref (eo (1 + k))]) ++ List.replicate (1 - (lg_sl ([.ref (eo (1 + k))])).length) Slot.unset).toArray = ls at hl ⊢
  have hl : lv_has ls 1 [(0, .ref (eo (1 + k)))] := hl
  refine va_gets hx hb hE.2.2.1 hS hown (hts (.fieldLink RJ0 38 "java/lang/String" "COMPACT_STRINGS" "Z") f9_wsJ0_coder_7d493_327) (fun _ h9 => h9) dJ0_coder_7d493_0 ?_
  refine lv_if_eq (tgt := 13) hx hb dJ0_coder_7d493_3 (by decide) (fun h => absurd h (by decide)) (fun _ => ?_)
  refine lv_aload_n hx hb dJ0_coder_7d493_6 rfl (lv_at hl 0 rfl) ?_
  refine vk_getf (v := .int 0) hx hb (hE.2.2.2.1.1 k hk).2.1 hS hown (hts (.fieldLink RJ0 15 "java/lang/String" "coder" "B") f9_wsJ0_coder_7d493_328) (fun _ h9 => h9) dJ0_coder_7d493_7 ?_
  refine lv_goto (tgt := 14) hx hb dJ0_coder_7d493_10 (by decide) ?_
  exact kz_zret hx hb hr hlocks rfl hP hK hD hS dJ0_coder_7d493_14 ⟨rfl, rfl⟩
set_option maxHeartbeats 4000000 in
set_option maxRecDepth 100000 in
theorem kcJ0le (l : Launch) (D : va_G) (ty : Nat → ClassId) (eo : Nat → Nat) (sz : Nat) (k : Nat) (hk : k < 12) : Met l yJ0_length_8abf5 wsJ0_length_8abf5 ({ frames := 1, cells := 0, slots := 0, locals := 20 }) (va_Pc [.ref (eo (1 + k))] (kz_pre D ty eo [] sz)) (va_Qi (fun (r : Int32) (u : va_W) => chN k = r ∧ [] = u) (kz_B D ty (va_A [] sz)) (va_A [] sz)) 0 0 (va_A [] sz) := by
  refine Met.ofW (cc := cJ0_length_8abf5) (maxL := 1) (ret := (some .int)) (by decide) rfl ?_
  intro p e s m args below meth c s₁ B hml hv
  obtain ⟨rfl, hsz, hP, hK, hD0, hN, hE⟩ := hv
  have hx := B.exec
  have hb := B.bytes
  have hr := B.returns
  have hts := atoms_spec (ws := wsJ0_length_8abf5) B.pre
  have hown : s.vm.findClass RJ0 = some m.cls := findClass_of_methodNamed B.named
  have hlocks := B.notSynchronized
  subst hsz
  have hD := hD0.self (sz := s.heap.size)
  generalize hAe : va_A [] s.heap.size = A at hD hE ⊢
  have hA : ∀ q : Nat, s.heap.size ≤ q → A q := fun q h => by rw [← hAe]; exact Or.inr h
  have hS : va_S A s.heap s.heap [] := va_S.rf
  have hl := lv_entry ([.ref (eo (1 + k))]) (n := 1) (Nat.le_of_ble_eq_true rfl)
  rw [lg_entry_eq]
  generalize (lg_sl ([.ref (eo (1 + k))]) ++ List.replicate (1 - (lg_sl ([.ref (eo (1 + k))])).length) Slot.unset).toArray = ls at hl ⊢
  have hl : lv_has ls 1 [(0, .ref (eo (1 + k)))] := hl
  refine lv_aload_n hx hb dJ0_length_8abf5_0 rfl (lv_at hl 0 rfl) ?_
  refine vk_getf (v := .ref (eo (20 + k))) hx hb (hE.2.2.2.1.1 k hk).2.2.1 hS hown (hts (.fieldLink RJ0 9 "java/lang/String" "value" "[B") f9_wsJ0_length_8abf5_329) (fun _ h9 => h9) dJ0_length_8abf5_1 ?_
  refine va_tlen (v := chN k) hx hb (hE.2.2.2.1.1 k hk).2.2.2 hS rfl dJ0_length_8abf5_4 ?_
  refine lv_aload_n hx hb dJ0_length_8abf5_5 rfl (lv_at hl 0 rfl) ?_
  refine kz_ki (wc := []) (wr := []) (va_runV (As := []) (rest := [.int (chN k)]) ⟨hx, hb, hml, hown, hts⟩ (kcJ0co l D ty eo _ k hk) (cwV 0 hts gJ0_length_8abf5_J0_coder_7d493 rfl rfl rfl (by decide +kernel) ⟨Nat.le_of_ble_eq_true rfl, Nat.le_of_ble_eq_true rfl⟩) (kz_preT hK hN hE hP hD hS hA k hk [] (by decide) rfl) rfl rfl hl.1 rfl (lv_room (Nat.le_of_ble_eq_true rfl)) dJ0_length_8abf5_6 ⟨Nat.le_of_ble_eq_true rfl, Nat.le_of_ble_eq_true rfl⟩) hP hD hS hA [] [] rfl rfl (by decide) (by decide) (fun r u H locs hw hp hd hs => ?_)
  obtain ⟨rfl, rfl⟩ := hw
  refine kz_re (w2 := []) hp hd hs rfl ?_
  clear hp hd hs hP hD hS
  intro hP hD hS
  refine lv_ishr hx hb dJ0_length_8abf5_9 ?_
  refine kz_topi (chN k) (ch_len k hk).2.2 ?_
  exact kz_iret hx hb hr hlocks hP hK hD hS dJ0_length_8abf5_10 ⟨rfl, rfl⟩
