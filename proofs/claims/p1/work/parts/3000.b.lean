set_option maxHeartbeats 4000000 in
set_option maxRecDepth 100000 in
theorem kcX9_isRank (l : Launch) (D : va_G) (ty : Nat → ClassId) (eo : Nat → Nat) (sz : Nat) (p1 : Int32) : Met l yX9_isRank wsX9_isRank ({ frames := 0, cells := 0, slots := 0, locals := 0 }) (va_Pc [.int p1] (kz_pre D ty eo [] sz)) (va_Qi (fun (r : Int32) (u : va_W) => (p1 < 0 ∧ 0 = r ∧ [] = u) ∨ (¬ p1 < 0 ∧ 6 ≤ p1 ∧ 0 = r ∧ [] = u) ∨ (¬ p1 < 0 ∧ ¬ 6 ≤ p1 ∧ 1 = r ∧ [] = u)) (kz_B D ty (va_A [] sz)) (va_A [] sz)) 0 0 (va_A [] sz) := by
  refine Met.ofW (cc := cX9_isRank) (maxL := 1) (ret := (some .boolean)) (by decide) rfl ?_
  intro p e s m args below meth c s₁ B hml hv
  obtain ⟨rfl, hsz, hP, hK, hD0, hN, hE⟩ := hv
  have hx := B.exec
  have hb := B.bytes
  have hr := B.returns
  have hts := atoms_spec (ws := wsX9_isRank) B.pre
  have hown : s.vm.findClass RX9 = some m.cls := findClass_of_methodNamed B.named
  have hlocks := B.notSynchronized
  subst hsz
  have hD := hD0.self (sz := s.heap.size)
  generalize hAe : va_A [] s.heap.size = A at hD hE ⊢
  have hA : ∀ q : Nat, s.heap.size ≤ q → A q := fun q h => by rw [← hAe]; exact Or.inr h
  have hS : va_S A s.heap s.heap [] := va_S.rf
  have hl := lv_entry ([.int p1]) (n := 1) (Nat.le_of_ble_eq_true rfl)
  rw [lg_entry_eq]
  generalize (lg_sl ([.int p1]) ++ List.replicate (1 - (lg_sl ([.int p1])).length) Slot.unset).toArray = ls at hl ⊢
  have hl : lv_has ls 1 [(0, .int p1)] := hl
  refine lv_iload_n hx hb dX9_isRank_0 rfl (lv_at hl 0 rfl) ?_
  refine lv_if_lt (tgt := 14) hx hb dX9_isRank_1 (by decide) (fun c_1 => ?_) (fun c_1 => ?_)
  · refine lv_iconst (v := 0) hx hb dX9_isRank_14 (by decide) ?_
    exact kz_zret hx hb hr hlocks rfl hP hK hD hS dX9_isRank_15 (Or.inl ⟨c_1, rfl, rfl⟩)
  · refine lv_iload_n hx hb dX9_isRank_4 rfl (lv_at hl 0 rfl) ?_
    refine lv_bipush (v := 6) hx hb dX9_isRank_5 (by decide) ?_
    refine lv_icmp_ge (tgt := 14) hx hb dX9_isRank_7 (by decide) (fun c_2 => ?_) (fun c_2 => ?_)
    · refine lv_iconst (v := 0) hx hb dX9_isRank_14 (by decide) ?_
      exact kz_zret hx hb hr hlocks rfl hP hK hD hS dX9_isRank_15 (Or.inr (Or.inl ⟨c_1, c_2, rfl, rfl⟩))
    · refine lv_iconst (v := 1) hx hb dX9_isRank_10 (by decide) ?_
      refine lv_goto (tgt := 15) hx hb dX9_isRank_11 (by decide) ?_
      exact kz_zret hx hb hr hlocks rfl hP hK hD hS dX9_isRank_15 (Or.inr (Or.inr ⟨c_1, c_2, rfl, rfl⟩))

set_option maxHeartbeats 4000000 in
set_option maxRecDepth 100000 in
theorem kcX9_isBit (l : Launch) (D : va_G) (ty : Nat → ClassId) (eo : Nat → Nat) (sz : Nat) (p1 : Int32) : Met l yX9_isBit wsX9_isBit ({ frames := 0, cells := 0, slots := 0, locals := 0 }) (va_Pc [.int p1] (kz_pre D ty eo [] sz)) (va_Qi (fun (r : Int32) (u : va_W) => (p1 = 0 ∧ 1 = r ∧ [] = u) ∨ (¬ p1 = 0 ∧ ¬ p1 = 1 ∧ 0 = r ∧ [] = u) ∨ (¬ p1 = 0 ∧ p1 = 1 ∧ 1 = r ∧ [] = u)) (kz_B D ty (va_A [] sz)) (va_A [] sz)) 0 0 (va_A [] sz) := by
  refine Met.ofW (cc := cX9_isBit) (maxL := 1) (ret := (some .boolean)) (by decide) rfl ?_
  intro p e s m args below meth c s₁ B hml hv
  obtain ⟨rfl, hsz, hP, hK, hD0, hN, hE⟩ := hv
  have hx := B.exec
  have hb := B.bytes
  have hr := B.returns
  have hts := atoms_spec (ws := wsX9_isBit) B.pre
  have hown : s.vm.findClass RX9 = some m.cls := findClass_of_methodNamed B.named
  have hlocks := B.notSynchronized
  subst hsz
  have hD := hD0.self (sz := s.heap.size)
  generalize hAe : va_A [] s.heap.size = A at hD hE ⊢
  have hA : ∀ q : Nat, s.heap.size ≤ q → A q := fun q h => by rw [← hAe]; exact Or.inr h
  have hS : va_S A s.heap s.heap [] := va_S.rf
  have hl := lv_entry ([.int p1]) (n := 1) (Nat.le_of_ble_eq_true rfl)
  rw [lg_entry_eq]
  generalize (lg_sl ([.int p1]) ++ List.replicate (1 - (lg_sl ([.int p1])).length) Slot.unset).toArray = ls at hl ⊢
  have hl : lv_has ls 1 [(0, .int p1)] := hl
  refine lv_iload_n hx hb dX9_isBit_0 rfl (lv_at hl 0 rfl) ?_
  refine lv_if_eq (tgt := 9) hx hb dX9_isBit_1 (by decide) (fun c_1 => ?_) (fun c_1 => ?_)
  · refine lv_iconst (v := 1) hx hb dX9_isBit_9 (by decide) ?_
    refine lv_goto (tgt := 14) hx hb dX9_isBit_10 (by decide) ?_
    exact kz_zret hx hb hr hlocks rfl hP hK hD hS dX9_isBit_14 (Or.inl ⟨c_1, rfl, rfl⟩)
  · refine lv_iload_n hx hb dX9_isBit_4 rfl (lv_at hl 0 rfl) ?_
    refine lv_iconst (v := 1) hx hb dX9_isBit_5 (by decide) ?_
    refine lv_icmp_ne (tgt := 13) hx hb dX9_isBit_6 (by decide) (fun c_2 => ?_) (fun c_2 => ?_)
    · refine lv_iconst (v := 0) hx hb dX9_isBit_13 (by decide) ?_
      exact kz_zret hx hb hr hlocks rfl hP hK hD hS dX9_isBit_14 (Or.inr (Or.inl ⟨c_1, c_2, rfl, rfl⟩))
    · refine lv_iconst (v := 1) hx hb dX9_isBit_9 (by decide) ?_
      refine lv_goto (tgt := 14) hx hb dX9_isBit_10 (by decide) ?_
      exact kz_zret hx hb hr hlocks rfl hP hK hD hS dX9_isBit_14 (Or.inr (Or.inr ⟨c_1, c_2, rfl, rfl⟩))

set_option maxHeartbeats 4000000 in
set_option maxRecDepth 100000 in
theorem kcX9_isImage (l : Launch) (D : va_G) (ty : Nat → ClassId) (eo : Nat → Nat) (sz : Nat) (p1 : Int32) : Met l yX9_isImage wsX9_isImage ({ frames := 0, cells := 0, slots := 0, locals := 0 }) (va_Pc [.int p1] (kz_pre D ty eo [] sz)) (va_Qi (fun (r : Int32) (u : va_W) => (p1 < 0 ∧ 0 = r ∧ [] = u) ∨ (¬ p1 < 0 ∧ 2 ≤ p1 ∧ 0 = r ∧ [] = u) ∨ (¬ p1 < 0 ∧ ¬ 2 ≤ p1 ∧ 1 = r ∧ [] = u)) (kz_B D ty (va_A [] sz)) (va_A [] sz)) 0 0 (va_A [] sz) := by
  refine Met.ofW (cc := cX9_isImage) (maxL := 1) (ret := (some .boolean)) (by decide) rfl ?_
  intro p e s m args below meth c s₁ B hml hv
  obtain ⟨rfl, hsz, hP, hK, hD0, hN, hE⟩ := hv
  have hx := B.exec
  have hb := B.bytes
  have hr := B.returns
  have hts := atoms_spec (ws := wsX9_isImage) B.pre
  have hown : s.vm.findClass RX9 = some m.cls := findClass_of_methodNamed B.named
  have hlocks := B.notSynchronized
  subst hsz
  have hD := hD0.self (sz := s.heap.size)
  generalize hAe : va_A [] s.heap.size = A at hD hE ⊢
  have hA : ∀ q : Nat, s.heap.size ≤ q → A q := fun q h => by rw [← hAe]; exact Or.inr h
  have hS : va_S A s.heap s.heap [] := va_S.rf
  have hl := lv_entry ([.int p1]) (n := 1) (Nat.le_of_ble_eq_true rfl)
  rw [lg_entry_eq]
  generalize (lg_sl ([.int p1]) ++ List.replicate (1 - (lg_sl ([.int p1])).length) Slot.unset).toArray = ls at hl ⊢
  have hl : lv_has ls 1 [(0, .int p1)] := hl
  refine lv_iload_n hx hb dX9_isImage_0 rfl (lv_at hl 0 rfl) ?_
  refine lv_if_lt (tgt := 13) hx hb dX9_isImage_1 (by decide) (fun c_1 => ?_) (fun c_1 => ?_)
  · refine lv_iconst (v := 0) hx hb dX9_isImage_13 (by decide) ?_
    exact kz_zret hx hb hr hlocks rfl hP hK hD hS dX9_isImage_14 (Or.inl ⟨c_1, rfl, rfl⟩)
  · refine lv_iload_n hx hb dX9_isImage_4 rfl (lv_at hl 0 rfl) ?_
    refine lv_iconst (v := 2) hx hb dX9_isImage_5 (by decide) ?_
    refine lv_icmp_ge (tgt := 13) hx hb dX9_isImage_6 (by decide) (fun c_2 => ?_) (fun c_2 => ?_)
    · refine lv_iconst (v := 0) hx hb dX9_isImage_13 (by decide) ?_
      exact kz_zret hx hb hr hlocks rfl hP hK hD hS dX9_isImage_14 (Or.inr (Or.inl ⟨c_1, c_2, rfl, rfl⟩))
    · refine lv_iconst (v := 1) hx hb dX9_isImage_9 (by decide) ?_
      refine lv_goto (tgt := 14) hx hb dX9_isImage_10 (by decide) ?_
      exact kz_zret hx hb hr hlocks rfl hP hK hD hS dX9_isImage_14 (Or.inr (Or.inr ⟨c_1, c_2, rfl, rfl⟩))

set_option maxHeartbeats 4000000 in
set_option maxRecDepth 100000 in
theorem kcX9_bit (l : Launch) (D : va_G) (ty : Nat → ClassId) (eo : Nat → Nat) (sz : Nat) (p1 : Int32) : Met l yX9_bit wsX9_bit ({ frames := 0, cells := 0, slots := 0, locals := 0 }) (va_Pc [.int p1] (kz_pre D ty eo [] sz)) (va_Qi (fun (r : Int32) (u : va_W) => (p1 = 0 ∧ 0 = r ∧ [] = u) ∨ (¬ p1 = 0 ∧ 1 = r ∧ [] = u)) (kz_B D ty (va_A [] sz)) (va_A [] sz)) 0 0 (va_A [] sz) := by
  refine Met.ofW (cc := cX9_bit) (maxL := 1) (ret := (some .int)) (by decide) rfl ?_
  intro p e s m args below meth c s₁ B hml hv
  obtain ⟨rfl, hsz, hP, hK, hD0, hN, hE⟩ := hv
  have hx := B.exec
  have hb := B.bytes
  have hr := B.returns
  have hts := atoms_spec (ws := wsX9_bit) B.pre
  have hown : s.vm.findClass RX9 = some m.cls := findClass_of_methodNamed B.named
  have hlocks := B.notSynchronized
  subst hsz
  have hD := hD0.self (sz := s.heap.size)
  generalize hAe : va_A [] s.heap.size = A at hD hE ⊢
  have hA : ∀ q : Nat, s.heap.size ≤ q → A q := fun q h => by rw [← hAe]; exact Or.inr h
  have hS : va_S A s.heap s.heap [] := va_S.rf
  have hl := lv_entry ([.int p1]) (n := 1) (Nat.le_of_ble_eq_true rfl)
  rw [lg_entry_eq]
  generalize (lg_sl ([.int p1]) ++ List.replicate (1 - (lg_sl ([.int p1])).length) Slot.unset).toArray = ls at hl ⊢
  have hl : lv_has ls 1 [(0, .int p1)] := hl
  refine lv_iload_n hx hb dX9_bit_0 rfl (lv_at hl 0 rfl) ?_
  refine lv_if_eq (tgt := 8) hx hb dX9_bit_1 (by decide) (fun c_1 => ?_) (fun c_1 => ?_)
  · refine lv_iconst (v := 0) hx hb dX9_bit_8 (by decide) ?_
    exact kz_iret hx hb hr hlocks hP hK hD hS dX9_bit_9 (Or.inl ⟨c_1, rfl, rfl⟩)
  · refine lv_iconst (v := 1) hx hb dX9_bit_4 (by decide) ?_
    refine lv_goto (tgt := 9) hx hb dX9_bit_5 (by decide) ?_
    exact kz_iret hx hb hr hlocks hP hK hD hS dX9_bit_9 (Or.inr ⟨c_1, rfl, rfl⟩)

set_option maxHeartbeats 4000000 in
set_option maxRecDepth 100000 in
theorem kcX9_mostOfTerm (l : Launch) (D : va_G) (ty : Nat → ClassId) (eo : Nat → Nat) (sz : Nat) (p1 : Int32) : Met l yX9_mostOfTerm wsX9_mostOfTerm ({ frames := 0, cells := 0, slots := 0, locals := 0 }) (va_Pc [.int p1] (kz_pre D ty eo [] sz)) (va_Qi (fun (r : Int32) (u : va_W) => (p1 = 0 ∧ 999 = r ∧ [] = u) ∨ (¬ p1 = 0 ∧ p1 = 1 ∧ 10 = r ∧ [] = u) ∨ (¬ p1 = 0 ∧ ¬ p1 = 1 ∧ p1 = 2 ∧ 9 = r ∧ [] = u) ∨ (¬ p1 = 0 ∧ ¬ p1 = 1 ∧ ¬ p1 = 2 ∧ p1 = 3 ∧ 1 = r ∧ [] = u) ∨ (¬ p1 = 0 ∧ ¬ p1 = 1 ∧ ¬ p1 = 2 ∧ ¬ p1 = 3 ∧ (-1) = r ∧ [] = u)) (kz_B D ty (va_A [] sz)) (va_A [] sz)) 0 0 (va_A [] sz) := by
  refine Met.ofW (cc := cX9_mostOfTerm) (maxL := 1) (ret := (some .int)) (by decide) rfl ?_
  intro p e s m args below meth c s₁ B hml hv
  obtain ⟨rfl, hsz, hP, hK, hD0, hN, hE⟩ := hv
  have hx := B.exec
  have hb := B.bytes
  have hr := B.returns
  have hts := atoms_spec (ws := wsX9_mostOfTerm) B.pre
  have hown : s.vm.findClass RX9 = some m.cls := findClass_of_methodNamed B.named
  have hlocks := B.notSynchronized
  subst hsz
  have hD := hD0.self (sz := s.heap.size)
  generalize hAe : va_A [] s.heap.size = A at hD hE ⊢
  have hA : ∀ q : Nat, s.heap.size ≤ q → A q := fun q h => by rw [← hAe]; exact Or.inr h
  have hS : va_S A s.heap s.heap [] := va_S.rf
  have hl := lv_entry ([.int p1]) (n := 1) (Nat.le_of_ble_eq_true rfl)
  rw [lg_entry_eq]
  generalize (lg_sl ([.int p1]) ++ List.replicate (1 - (lg_sl ([.int p1])).length) Slot.unset).toArray = ls at hl ⊢
  have hl : lv_has ls 1 [(0, .int p1)] := hl
  refine lv_iload_n hx hb dX9_mostOfTerm_0 rfl (lv_at hl 0 rfl) ?_
  by_cases c_1 : p1 = 0
  · refine lv_tableIn (off := 31) (tgt := 32) hx hb dX9_mostOfTerm_1 (by rw [c_1]; decide) (by rw [c_1]; decide) (by rw [c_1]; decide) (by decide) ?_
    refine lv_sipush (v := 999) hx hb dX9_mostOfTerm_32 (by decide) ?_
    exact kz_iret hx hb hr hlocks hP hK hD hS dX9_mostOfTerm_35 (Or.inl ⟨c_1, rfl, rfl⟩)
  by_cases c_2 : p1 = 1
  · refine lv_tableIn (off := 35) (tgt := 36) hx hb dX9_mostOfTerm_1 (by rw [c_2]; decide) (by rw [c_2]; decide) (by rw [c_2]; decide) (by decide) ?_
    refine lv_bipush (v := 10) hx hb dX9_mostOfTerm_36 (by decide) ?_
    exact kz_iret hx hb hr hlocks hP hK hD hS dX9_mostOfTerm_38 (Or.inr (Or.inl ⟨c_1, c_2, rfl, rfl⟩))
  by_cases c_3 : p1 = 2
  · refine lv_tableIn (off := 38) (tgt := 39) hx hb dX9_mostOfTerm_1 (by rw [c_3]; decide) (by rw [c_3]; decide) (by rw [c_3]; decide) (by decide) ?_
    refine lv_bipush (v := 9) hx hb dX9_mostOfTerm_39 (by decide) ?_
    exact kz_iret hx hb hr hlocks hP hK hD hS dX9_mostOfTerm_41 (Or.inr (Or.inr (Or.inl ⟨c_1, c_2, c_3, rfl, rfl⟩)))
  by_cases c_4 : p1 = 3
  · refine lv_tableIn (off := 41) (tgt := 42) hx hb dX9_mostOfTerm_1 (by rw [c_4]; decide) (by rw [c_4]; decide) (by rw [c_4]; decide) (by decide) ?_
    refine lv_iconst (v := 1) hx hb dX9_mostOfTerm_42 (by decide) ?_
    exact kz_iret hx hb hr hlocks hP hK hD hS dX9_mostOfTerm_43 (Or.inr (Or.inr (Or.inr (Or.inl ⟨c_1, c_2, c_3, c_4, rfl, rfl⟩))))
  refine lv_tableOut (tgt := 44) hx hb dX9_mostOfTerm_1 (by simp only [Int32.lt_iff_toInt_lt, Int32.le_iff_toInt_le, ← Int32.toInt_inj, Int32.reduceToInt] at c_1 c_2 c_3 c_4 ⊢; omega) (by decide) ?_
  refine lv_iconst (v := (-1)) hx hb dX9_mostOfTerm_44 (by decide) ?_
  exact kz_iret hx hb hr hlocks hP hK hD hS dX9_mostOfTerm_45 (Or.inr (Or.inr (Or.inr (Or.inr ⟨c_1, c_2, c_3, c_4, rfl, rfl⟩))))

set_option maxHeartbeats 4000000 in
set_option maxRecDepth 100000 in
theorem kcX9_nextDraw (l : Launch) (D : va_G) (ty : Nat → ClassId) (eo : Nat → Nat) (sz : Nat) (p1 : Int32) : Met l yX9_nextDraw wsX9_nextDraw ({ frames := 0, cells := 0, slots := 0, locals := 0 }) (va_Pc [.int p1] (kz_pre D ty eo [] sz)) (va_Qi (fun (r : Int32) (u : va_W) => (Int64.toInt32 ((((Int32.toInt64 p1) * 1103) + 12345) - (((Int32.toInt64 p1) * 1103) + 12345) / 1000003 * 1000003)) = r ∧ [] = u) (kz_B D ty (va_A [] sz)) (va_A [] sz)) 0 0 (va_A [] sz) := by
  refine Met.ofW (cc := cX9_nextDraw) (maxL := 1) (ret := (some .int)) (by decide) rfl ?_
  intro p e s m args below meth c s₁ B hml hv
  obtain ⟨rfl, hsz, hP, hK, hD0, hN, hE⟩ := hv
  have hx := B.exec
  have hb := B.bytes
  have hr := B.returns
  have hts := atoms_spec (ws := wsX9_nextDraw) B.pre
  have hown : s.vm.findClass RX9 = some m.cls := findClass_of_methodNamed B.named
  have hlocks := B.notSynchronized
  subst hsz
  have hD := hD0.self (sz := s.heap.size)
  generalize hAe : va_A [] s.heap.size = A at hD hE ⊢
  have hA : ∀ q : Nat, s.heap.size ≤ q → A q := fun q h => by rw [← hAe]; exact Or.inr h
  have hS : va_S A s.heap s.heap [] := va_S.rf
  have hl := lv_entry ([.int p1]) (n := 1) (Nat.le_of_ble_eq_true rfl)
  rw [lg_entry_eq]
  generalize (lg_sl ([.int p1]) ++ List.replicate (1 - (lg_sl ([.int p1])).length) Slot.unset).toArray = ls at hl ⊢
  have hl : lv_has ls 1 [(0, .int p1)] := hl
  refine lv_iload_n hx hb dX9_nextDraw_0 rfl (lv_at hl 0 rfl) ?_
  refine lv_i2l (v := Int32.toInt64 p1) hx hb dX9_nextDraw_1 rfl ?_
  refine lv_ldc2 (v := 1103) hx hb hown (hts (.constantLong RX9 350 1103) (by decide +kernel)) dX9_nextDraw_2 ?_
  refine lv_lmul hx hb dX9_nextDraw_5 ?_
  refine lv_ldc2 (v := 12345) hx hb hown (hts (.constantLong RX9 352 12345) (by decide +kernel)) dX9_nextDraw_6 ?_
  refine lv_ladd hx hb dX9_nextDraw_9 ?_
  refine lv_ldc2 (v := 1000003) hx hb hown (hts (.constantLong RX9 354 1000003) (by decide +kernel)) dX9_nextDraw_10 ?_
  refine lv_lrem hx hb dX9_nextDraw_13 (by decide) ?_
  refine lv_l2i (v := Int64.toInt32 ((((Int32.toInt64 p1) * 1103) + 12345) - (((Int32.toInt64 p1) * 1103) + 12345) / 1000003 * 1000003)) hx hb dX9_nextDraw_14 rfl ?_
  exact kz_iret hx hb hr hlocks hP hK hD hS dX9_nextDraw_15 ⟨rfl, rfl⟩

set_option maxHeartbeats 4000000 in
set_option maxRecDepth 100000 in
theorem kcX9_accept (l : Launch) (D : va_G) (ty : Nat → ClassId) (eo : Nat → Nat) (sz : Nat) (h0 : Nat) (h0_v0 h0_v1 h0_v2 h0_v3 h0_v4 h0_v5 h0_v6 h0_v7 h0_v8 h0_v9 h0_v10 h0_v11 h0_v12 h0_v13 h0_v14 h0_v15 h0_v16 h0_v17 h0_v18 : Value) (p1 : Int32) : Met l yX9_accept wsX9_accept ({ frames := 0, cells := 0, slots := 0, locals := 0 }) (va_Pc [.ref h0, .int p1] (kz_pre D ty eo [(h0, .inr (9, [h0_v0, h0_v1, h0_v2, h0_v3, h0_v4, h0_v5, h0_v6, h0_v7, h0_v8, h0_v9, h0_v10, h0_v11, h0_v12, h0_v13, h0_v14, h0_v15, h0_v16, h0_v17, h0_v18]))] sz)) (va_Qi (fun (r : Int32) (u : va_W) => p1 = r ∧ [(h0, .inr (9, [h0_v0, h0_v1, h0_v2, h0_v3, h0_v4, h0_v5, h0_v6, h0_v7, h0_v8, h0_v9, h0_v10, h0_v11, h0_v12, h0_v13, h0_v14, h0_v15, h0_v16, h0_v17, .int 0]))] = u) (kz_B D ty (va_A [(h0, .inr (9, [h0_v0, h0_v1, h0_v2, h0_v3, h0_v4, h0_v5, h0_v6, h0_v7, h0_v8, h0_v9, h0_v10, h0_v11, h0_v12, h0_v13, h0_v14, h0_v15, h0_v16, h0_v17, h0_v18]))] sz)) (va_A [(h0, .inr (9, [h0_v0, h0_v1, h0_v2, h0_v3, h0_v4, h0_v5, h0_v6, h0_v7, h0_v8, h0_v9, h0_v10, h0_v11, h0_v12, h0_v13, h0_v14, h0_v15, h0_v16, h0_v17, h0_v18]))] sz)) 0 0 (va_A [(h0, .inr (9, [h0_v0, h0_v1, h0_v2, h0_v3, h0_v4, h0_v5, h0_v6, h0_v7, h0_v8, h0_v9, h0_v10, h0_v11, h0_v12, h0_v13, h0_v14, h0_v15, h0_v16, h0_v17, h0_v18]))] sz) := by
  refine Met.ofW (cc := cX9_accept) (maxL := 2) (ret := (some .int)) (by decide) rfl ?_
  intro p e s m args below meth c s₁ B hml hv
  obtain ⟨rfl, hsz, hP, hK, hD0, hN, hE⟩ := hv
  have hx := B.exec
  have hb := B.bytes
  have hr := B.returns
  have hts := atoms_spec (ws := wsX9_accept) B.pre
  have hown : s.vm.findClass RX9 = some m.cls := findClass_of_methodNamed B.named
  have hlocks := B.notSynchronized
  subst hsz
  have hD := hD0.self (sz := s.heap.size)
  generalize hAe : va_A [(h0, .inr (9, [h0_v0, h0_v1, h0_v2, h0_v3, h0_v4, h0_v5, h0_v6, h0_v7, h0_v8, h0_v9, h0_v10, h0_v11, h0_v12, h0_v13, h0_v14, h0_v15, h0_v16, h0_v17, h0_v18]))] s.heap.size = A at hD hE ⊢
  have hA : ∀ q : Nat, s.heap.size ≤ q → A q := fun q h => by rw [← hAe]; exact Or.inr h
  have hS : va_S A s.heap s.heap [] := va_S.rf
  have hl := lv_entry ([.ref h0, .int p1]) (n := 2) (Nat.le_of_ble_eq_true rfl)
  rw [lg_entry_eq]
  generalize (lg_sl ([.ref h0, .int p1]) ++ List.replicate (2 - (lg_sl ([.ref h0, .int p1])).length) Slot.unset).toArray = ls at hl ⊢
  have hl : lv_has ls 2 [(0, .ref h0), (1, .int p1)] := hl
  refine lv_aload_n hx hb dX9_accept_0 rfl (lv_at hl 0 rfl) ?_
  refine lv_iconst (v := 0) hx hb dX9_accept_1 (by decide) ?_
  refine va_put (D := D) (ci := 9) (v := .int 0) (ty := .int) (C := RX9) (T := TX9) (N := 19) hx hb hts (by decide +kernel) tyX9 tyX9_ok nmX9 hown hK hP hD hS 0 rfl rfl 18 (by decide) (hts (.fieldLink RX9 108 "TurnedFloors" "latestStatus" "I") (by decide +kernel)) (fun _ h9 => h9) rfl (by decide +kernel) rfl rfl (Nat.le_of_ble_eq_true rfl) dX9_accept_2 (fun H locs hp hd hs => ?_)
  refine kz_re (w2 := [(h0, .inr (9, [h0_v0, h0_v1, h0_v2, h0_v3, h0_v4, h0_v5, h0_v6, h0_v7, h0_v8, h0_v9, h0_v10, h0_v11, h0_v12, h0_v13, h0_v14, h0_v15, h0_v16, h0_v17, .int 0]))]) hp hd hs rfl ?_
  clear hp hd hs hP hD hS
  intro hP hD hS
  refine lv_iload_n hx hb dX9_accept_5 rfl (lv_at hl 1 rfl) ?_
  exact kz_iret hx hb hr hlocks hP hK hD hS dX9_accept_6 ⟨rfl, rfl⟩

set_option maxHeartbeats 4000000 in
set_option maxRecDepth 100000 in
theorem kcX0_clear (l : Launch) (D : va_G) (ty : Nat → ClassId) (eo : Nat → Nat) (sz : Nat) (h0 : Nat) (h0_v0 h0_v1 h0_v2 h0_v3 h0_v4 h0_v5 : Value) : Met l yX0_clear wsX0_clear ({ frames := 0, cells := 0, slots := 0, locals := 0 }) (va_Pc [.ref h0] (kz_pre D ty eo [(h0, .inr (0, [h0_v0, h0_v1, h0_v2, h0_v3, h0_v4, h0_v5]))] sz)) (va_Qv (fun (u : va_W) => [(h0, .inr (0, [h0_v0, h0_v1, .int 0, h0_v3, h0_v4, h0_v5]))] = u) (kz_B D ty (va_A [(h0, .inr (0, [h0_v0, h0_v1, h0_v2, h0_v3, h0_v4, h0_v5]))] sz)) (va_A [(h0, .inr (0, [h0_v0, h0_v1, h0_v2, h0_v3, h0_v4, h0_v5]))] sz)) 0 0 (va_A [(h0, .inr (0, [h0_v0, h0_v1, h0_v2, h0_v3, h0_v4, h0_v5]))] sz) := by
  refine Met.ofW (cc := cX0_clear) (maxL := 1) (ret := none) (by decide) rfl ?_
  intro p e s m args below meth c s₁ B hml hv
  obtain ⟨rfl, hsz, hP, hK, hD0, hN, hE⟩ := hv
  have hx := B.exec
  have hb := B.bytes
  have hr := B.returns
  have hts := atoms_spec (ws := wsX0_clear) B.pre
  have hown : s.vm.findClass RX0 = some m.cls := findClass_of_methodNamed B.named
  have hlocks := B.notSynchronized
  subst hsz
  have hD := hD0.self (sz := s.heap.size)
  generalize hAe : va_A [(h0, .inr (0, [h0_v0, h0_v1, h0_v2, h0_v3, h0_v4, h0_v5]))] s.heap.size = A at hD hE ⊢
  have hA : ∀ q : Nat, s.heap.size ≤ q → A q := fun q h => by rw [← hAe]; exact Or.inr h
  have hS : va_S A s.heap s.heap [] := va_S.rf
  have hl := lv_entry ([.ref h0]) (n := 1) (Nat.le_of_ble_eq_true rfl)
  rw [lg_entry_eq]
  generalize (lg_sl ([.ref h0]) ++ List.replicate (1 - (lg_sl ([.ref h0])).length) Slot.unset).toArray = ls at hl ⊢
  have hl : lv_has ls 1 [(0, .ref h0)] := hl
  refine lv_aload_n hx hb dX0_clear_0 rfl (lv_at hl 0 rfl) ?_
  refine lv_iconst (v := 0) hx hb dX0_clear_1 (by decide) ?_
  refine va_put (D := D) (ci := 0) (v := .int 0) (ty := .int) (C := RX0) (T := TX0) (N := 6) hx hb hts (by decide +kernel) tyX0 tyX0_ok nmX0 hown hK hP hD hS 0 rfl rfl 2 (by decide) (hts (.fieldLink RX0 19 "TurnedFloors$History" "kept" "I") (by decide +kernel)) (fun _ h9 => h9) rfl (by decide +kernel) rfl rfl (Nat.le_of_ble_eq_true rfl) dX0_clear_2 (fun H locs hp hd hs => ?_)
  refine kz_re (w2 := [(h0, .inr (0, [h0_v0, h0_v1, .int 0, h0_v3, h0_v4, h0_v5]))]) hp hd hs rfl ?_
  clear hp hd hs hP hD hS
  intro hP hD hS
  exact kz_vret hx hb hr hlocks hP hK hD hS dX0_clear_5 rfl

set_option maxHeartbeats 4000000 in
set_option maxRecDepth 100000 in
theorem kcX8_isFloor (l : Launch) (D : va_G) (ty : Nat → ClassId) (eo : Nat → Nat) (sz : Nat) (h0 : Nat) (h0_v0 h0_v1 h0_v3 h0_v4 : Value) (p1 h0_floors : Int32) : Met l yX8_isFloor wsX8_isFloor ({ frames := 0, cells := 0, slots := 0, locals := 0 }) (va_Pc [.ref h0, .int p1] (kz_pre D ty eo [(h0, .inr (8, [h0_v0, h0_v1, .int h0_floors, h0_v3, h0_v4]))] sz)) (va_Qi (fun (r : Int32) (u : va_W) => (p1 < 0 ∧ 0 = r ∧ [(h0, .inr (8, [h0_v0, h0_v1, .int h0_floors, h0_v3, h0_v4]))] = u) ∨ (¬ p1 < 0 ∧ h0_floors ≤ p1 ∧ 0 = r ∧ [(h0, .inr (8, [h0_v0, h0_v1, .int h0_floors, h0_v3, h0_v4]))] = u) ∨ (¬ p1 < 0 ∧ ¬ h0_floors ≤ p1 ∧ 1 = r ∧ [(h0, .inr (8, [h0_v0, h0_v1, .int h0_floors, h0_v3, h0_v4]))] = u)) (kz_B D ty (va_A [(h0, .inr (8, [h0_v0, h0_v1, .int h0_floors, h0_v3, h0_v4]))] sz)) (va_A [(h0, .inr (8, [h0_v0, h0_v1, .int h0_floors, h0_v3, h0_v4]))] sz)) 0 0 (va_A [(h0, .inr (8, [h0_v0, h0_v1, .int h0_floors, h0_v3, h0_v4]))] sz) := by
  refine Met.ofW (cc := cX8_isFloor) (maxL := 2) (ret := (some .boolean)) (by decide) rfl ?_
  intro p e s m args below meth c s₁ B hml hv
  obtain ⟨rfl, hsz, hP, hK, hD0, hN, hE⟩ := hv
  have hx := B.exec
  have hb := B.bytes
  have hr := B.returns
  have hts := atoms_spec (ws := wsX8_isFloor) B.pre
  have hown : s.vm.findClass RX8 = some m.cls := findClass_of_methodNamed B.named
  have hlocks := B.notSynchronized
  subst hsz
  have hD := hD0.self (sz := s.heap.size)
  generalize hAe : va_A [(h0, .inr (8, [h0_v0, h0_v1, .int h0_floors, h0_v3, h0_v4]))] s.heap.size = A at hD hE ⊢
  have hA : ∀ q : Nat, s.heap.size ≤ q → A q := fun q h => by rw [← hAe]; exact Or.inr h
  have hS : va_S A s.heap s.heap [] := va_S.rf
  have hl := lv_entry ([.ref h0, .int p1]) (n := 2) (Nat.le_of_ble_eq_true rfl)
  rw [lg_entry_eq]
  generalize (lg_sl ([.ref h0, .int p1]) ++ List.replicate (2 - (lg_sl ([.ref h0, .int p1])).length) Slot.unset).toArray = ls at hl ⊢
  have hl : lv_has ls 2 [(0, .ref h0), (1, .int p1)] := hl
  refine lv_iload_n hx hb dX8_isFloor_0 rfl (lv_at hl 1 rfl) ?_
  refine lv_if_lt (tgt := 16) hx hb dX8_isFloor_1 (by decide) (fun c_1 => ?_) (fun c_1 => ?_)
  · refine lv_iconst (v := 0) hx hb dX8_isFloor_16 (by decide) ?_
    exact kz_zret hx hb hr hlocks rfl hP hK hD hS dX8_isFloor_17 (Or.inl ⟨c_1, rfl, rfl⟩)
  · refine lv_iload_n hx hb dX8_isFloor_4 rfl (lv_at hl 1 rfl) ?_
    refine lv_aload_n hx hb dX8_isFloor_5 rfl (lv_at hl 0 rfl) ?_
    refine va_get (D := D) (ci := 8) (v := .int h0_floors) (C := RX8) (T := TX8) (N := 5) hx hb hts (by decide +kernel) hown hK hP 0 rfl rfl 2 (by decide) (hts (.fieldLink RX8 18 "TurnedFloors$Tower" "floors" "I") (by decide +kernel)) (fun _ h9 => h9) rfl dX8_isFloor_6 ?_
    refine lv_icmp_ge (tgt := 16) hx hb dX8_isFloor_9 (by decide) (fun c_2 => ?_) (fun c_2 => ?_)
    · refine lv_iconst (v := 0) hx hb dX8_isFloor_16 (by decide) ?_
      exact kz_zret hx hb hr hlocks rfl hP hK hD hS dX8_isFloor_17 (Or.inr (Or.inl ⟨c_1, c_2, rfl, rfl⟩))
    · refine lv_iconst (v := 1) hx hb dX8_isFloor_12 (by decide) ?_
      refine lv_goto (tgt := 17) hx hb dX8_isFloor_13 (by decide) ?_
      exact kz_zret hx hb hr hlocks rfl hP hK hD hS dX8_isFloor_17 (Or.inr (Or.inr ⟨c_1, c_2, rfl, rfl⟩))

set_option maxHeartbeats 4000000 in
set_option maxRecDepth 100000 in
theorem kcX10_lies (l : Launch) (D : va_G) (ty : Nat → ClassId) (eo : Nat → Nat) (sz : Nat) (p1 p2 p3 : Int32) : Met l yX10_lies wsX10_lies ({ frames := 0, cells := 0, slots := 0, locals := 0 }) (va_Pc [.int p1, .int p2, .int p3] (kz_pre D ty eo [] sz)) (va_Qi (fun (r : Int32) (u : va_W) => (p1 < p2 ∧ 0 = r ∧ [] = u) ∨ (¬ p1 < p2 ∧ p3 < p1 ∧ 0 = r ∧ [] = u) ∨ (¬ p1 < p2 ∧ ¬ p3 < p1 ∧ 1 = r ∧ [] = u)) (kz_B D ty (va_A [] sz)) (va_A [] sz)) 0 0 (va_A [] sz) := by
  refine Met.ofW (cc := cX10_lies) (maxL := 3) (ret := (some .boolean)) (by decide) rfl ?_
  intro p e s m args below meth c s₁ B hml hv
  obtain ⟨rfl, hsz, hP, hK, hD0, hN, hE⟩ := hv
  have hx := B.exec
  have hb := B.bytes
  have hr := B.returns
  have hts := atoms_spec (ws := wsX10_lies) B.pre
  have hown : s.vm.findClass RX10 = some m.cls := findClass_of_methodNamed B.named
  have hlocks := B.notSynchronized
  subst hsz
  have hD := hD0.self (sz := s.heap.size)
  generalize hAe : va_A [] s.heap.size = A at hD hE ⊢
  have hA : ∀ q : Nat, s.heap.size ≤ q → A q := fun q h => by rw [← hAe]; exact Or.inr h
  have hS : va_S A s.heap s.heap [] := va_S.rf
  have hl := lv_entry ([.int p1, .int p2, .int p3]) (n := 3) (Nat.le_of_ble_eq_true rfl)
  rw [lg_entry_eq]
  generalize (lg_sl ([.int p1, .int p2, .int p3]) ++ List.replicate (3 - (lg_sl ([.int p1, .int p2, .int p3])).length) Slot.unset).toArray = ls at hl ⊢
  have hl : lv_has ls 3 [(0, .int p1), (1, .int p2), (2, .int p3)] := hl
  refine lv_iload_n hx hb dX10_lies_0 rfl (lv_at hl 0 rfl) ?_
  refine lv_iload_n hx hb dX10_lies_1 rfl (lv_at hl 1 rfl) ?_
  refine lv_icmp_lt (tgt := 14) hx hb dX10_lies_2 (by decide) (fun c_1 => ?_) (fun c_1 => ?_)
  · refine lv_iconst (v := 0) hx hb dX10_lies_14 (by decide) ?_
    exact kz_zret hx hb hr hlocks rfl hP hK hD hS dX10_lies_15 (Or.inl ⟨c_1, rfl, rfl⟩)
  · refine lv_iload_n hx hb dX10_lies_5 rfl (lv_at hl 0 rfl) ?_
    refine lv_iload_n hx hb dX10_lies_6 rfl (lv_at hl 2 rfl) ?_
    refine lv_icmp_gt (tgt := 14) hx hb dX10_lies_7 (by decide) (fun c_2 => ?_) (fun c_2 => ?_)
    · refine lv_iconst (v := 0) hx hb dX10_lies_14 (by decide) ?_
      exact kz_zret hx hb hr hlocks rfl hP hK hD hS dX10_lies_15 (Or.inr (Or.inl ⟨c_1, c_2, rfl, rfl⟩))
    · refine lv_iconst (v := 1) hx hb dX10_lies_10 (by decide) ?_
      refine lv_goto (tgt := 15) hx hb dX10_lies_11 (by decide) ?_
      exact kz_zret hx hb hr hlocks rfl hP hK hD hS dX10_lies_15 (Or.inr (Or.inr ⟨c_1, c_2, rfl, rfl⟩))

set_option maxHeartbeats 4000000 in
set_option maxRecDepth 100000 in
theorem kcX10_lesser (l : Launch) (D : va_G) (ty : Nat → ClassId) (eo : Nat → Nat) (sz : Nat) (p1 p2 : Int32) : Met l yX10_lesser wsX10_lesser ({ frames := 0, cells := 0, slots := 0, locals := 0 }) (va_Pc [.int p1, .int p2] (kz_pre D ty eo [] sz)) (va_Qi (fun (r : Int32) (u : va_W) => (p2 ≤ p1 ∧ p2 = r ∧ [] = u) ∨ (¬ p2 ≤ p1 ∧ p1 = r ∧ [] = u)) (kz_B D ty (va_A [] sz)) (va_A [] sz)) 0 0 (va_A [] sz) := by
  refine Met.ofW (cc := cX10_lesser) (maxL := 2) (ret := (some .int)) (by decide) rfl ?_
  intro p e s m args below meth c s₁ B hml hv
  obtain ⟨rfl, hsz, hP, hK, hD0, hN, hE⟩ := hv
  have hx := B.exec
  have hb := B.bytes
  have hr := B.returns
  have hts := atoms_spec (ws := wsX10_lesser) B.pre
  have hown : s.vm.findClass RX10 = some m.cls := findClass_of_methodNamed B.named
  have hlocks := B.notSynchronized
  subst hsz
  have hD := hD0.self (sz := s.heap.size)
  generalize hAe : va_A [] s.heap.size = A at hD hE ⊢
  have hA : ∀ q : Nat, s.heap.size ≤ q → A q := fun q h => by rw [← hAe]; exact Or.inr h
  have hS : va_S A s.heap s.heap [] := va_S.rf
  have hl := lv_entry ([.int p1, .int p2]) (n := 2) (Nat.le_of_ble_eq_true rfl)
  rw [lg_entry_eq]
  generalize (lg_sl ([.int p1, .int p2]) ++ List.replicate (2 - (lg_sl ([.int p1, .int p2])).length) Slot.unset).toArray = ls at hl ⊢
  have hl : lv_has ls 2 [(0, .int p1), (1, .int p2)] := hl
  refine lv_iload_n hx hb dX10_lesser_0 rfl (lv_at hl 0 rfl) ?_
  refine lv_iload_n hx hb dX10_lesser_1 rfl (lv_at hl 1 rfl) ?_
  refine lv_icmp_ge (tgt := 9) hx hb dX10_lesser_2 (by decide) (fun c_1 => ?_) (fun c_1 => ?_)
  · refine lv_iload_n hx hb dX10_lesser_9 rfl (lv_at hl 1 rfl) ?_
    exact kz_iret hx hb hr hlocks hP hK hD hS dX10_lesser_10 (Or.inl ⟨c_1, rfl, rfl⟩)
  · refine lv_iload_n hx hb dX10_lesser_5 rfl (lv_at hl 0 rfl) ?_
    refine lv_goto (tgt := 10) hx hb dX10_lesser_6 (by decide) ?_
    exact kz_iret hx hb hr hlocks hP hK hD hS dX10_lesser_10 (Or.inr ⟨c_1, rfl, rfl⟩)

set_option maxHeartbeats 4000000 in
set_option maxRecDepth 100000 in
theorem kcX10_greater (l : Launch) (D : va_G) (ty : Nat → ClassId) (eo : Nat → Nat) (sz : Nat) (p1 p2 : Int32) : Met l yX10_greater wsX10_greater ({ frames := 0, cells := 0, slots := 0, locals := 0 }) (va_Pc [.int p1, .int p2] (kz_pre D ty eo [] sz)) (va_Qi (fun (r : Int32) (u : va_W) => (p1 ≤ p2 ∧ p2 = r ∧ [] = u) ∨ (¬ p1 ≤ p2 ∧ p1 = r ∧ [] = u)) (kz_B D ty (va_A [] sz)) (va_A [] sz)) 0 0 (va_A [] sz) := by
  refine Met.ofW (cc := cX10_greater) (maxL := 2) (ret := (some .int)) (by decide) rfl ?_
  intro p e s m args below meth c s₁ B hml hv
  obtain ⟨rfl, hsz, hP, hK, hD0, hN, hE⟩ := hv
  have hx := B.exec
  have hb := B.bytes
  have hr := B.returns
  have hts := atoms_spec (ws := wsX10_greater) B.pre
  have hown : s.vm.findClass RX10 = some m.cls := findClass_of_methodNamed B.named
  have hlocks := B.notSynchronized
  subst hsz
  have hD := hD0.self (sz := s.heap.size)
  generalize hAe : va_A [] s.heap.size = A at hD hE ⊢
  have hA : ∀ q : Nat, s.heap.size ≤ q → A q := fun q h => by rw [← hAe]; exact Or.inr h
  have hS : va_S A s.heap s.heap [] := va_S.rf
  have hl := lv_entry ([.int p1, .int p2]) (n := 2) (Nat.le_of_ble_eq_true rfl)
  rw [lg_entry_eq]
  generalize (lg_sl ([.int p1, .int p2]) ++ List.replicate (2 - (lg_sl ([.int p1, .int p2])).length) Slot.unset).toArray = ls at hl ⊢
  have hl : lv_has ls 2 [(0, .int p1), (1, .int p2)] := hl
  refine lv_iload_n hx hb dX10_greater_0 rfl (lv_at hl 0 rfl) ?_
  refine lv_iload_n hx hb dX10_greater_1 rfl (lv_at hl 1 rfl) ?_
  refine lv_icmp_le (tgt := 9) hx hb dX10_greater_2 (by decide) (fun c_1 => ?_) (fun c_1 => ?_)
  · refine lv_iload_n hx hb dX10_greater_9 rfl (lv_at hl 1 rfl) ?_
    exact kz_iret hx hb hr hlocks hP hK hD hS dX10_greater_10 (Or.inl ⟨c_1, rfl, rfl⟩)
  · refine lv_iload_n hx hb dX10_greater_5 rfl (lv_at hl 0 rfl) ?_
    refine lv_goto (tgt := 10) hx hb dX10_greater_6 (by decide) ?_
    exact kz_iret hx hb hr hlocks hP hK hD hS dX10_greater_10 (Or.inr ⟨c_1, rfl, rfl⟩)

set_option maxHeartbeats 4000000 in
set_option maxRecDepth 100000 in
theorem kcX10_good (l : Launch) (D : va_G) (ty : Nat → ClassId) (eo : Nat → Nat) (sz : Nat) (h0 : Nat) (h0_v0 h0_v1 h0_v2 h0_v3 h0_v4 h0_v5 h0_v6 h0_v7 h0_v8 h0_v9 h0_v10 h0_v11 h0_v12 h0_v13 h0_v14 h0_v15 h0_v16 h0_v17 h0_v18 h0_v19 h0_v20 h0_v21 h0_v22 h0_v23 h0_v24 h0_v25 h0_v26 h0_v27 h0_v28 h0_v29 h0_v30 h0_v31 h0_v32 h0_v33 h0_v34 h0_v35 h0_v36 h0_v37 h0_v38 h0_v39 h0_v40 h0_v41 h0_v42 h0_v43 h0_v44 h0_v45 h0_v46 h0_v47 h0_v48 h0_v49 h0_v50 h0_v51 h0_v52 h0_v53 h0_v54 h0_v55 : Value) (p1 : Int32) : Met l yX10_good wsX10_good ({ frames := 0, cells := 0, slots := 0, locals := 0 }) (va_Pc [.ref h0, .int p1] (kz_pre D ty eo [(h0, .inr (10, [h0_v0, h0_v1, h0_v2, h0_v3, h0_v4, h0_v5, h0_v6, h0_v7, h0_v8, h0_v9, h0_v10, h0_v11, h0_v12, h0_v13, h0_v14, h0_v15, h0_v16, h0_v17, h0_v18, h0_v19, h0_v20, h0_v21, h0_v22, h0_v23, h0_v24, h0_v25, h0_v26, h0_v27, h0_v28, h0_v29, h0_v30, h0_v31, h0_v32, h0_v33, h0_v34, h0_v35, h0_v36, h0_v37, h0_v38, h0_v39, h0_v40, h0_v41, h0_v42, h0_v43, h0_v44, h0_v45, h0_v46, h0_v47, h0_v48, h0_v49, h0_v50, h0_v51, h0_v52, h0_v53, h0_v54, h0_v55]))] sz)) (va_Qi (fun (r : Int32) (u : va_W) => p1 = r ∧ [(h0, .inr (10, [.int 0, h0_v1, h0_v2, h0_v3, h0_v4, h0_v5, h0_v6, h0_v7, h0_v8, h0_v9, h0_v10, h0_v11, h0_v12, h0_v13, h0_v14, h0_v15, h0_v16, h0_v17, h0_v18, h0_v19, h0_v20, h0_v21, h0_v22, h0_v23, h0_v24, h0_v25, h0_v26, h0_v27, h0_v28, h0_v29, h0_v30, h0_v31, h0_v32, h0_v33, h0_v34, h0_v35, h0_v36, h0_v37, h0_v38, h0_v39, h0_v40, h0_v41, h0_v42, h0_v43, h0_v44, h0_v45, h0_v46, h0_v47, h0_v48, h0_v49, h0_v50, h0_v51, h0_v52, h0_v53, h0_v54, h0_v55]))] = u) (kz_B D ty (va_A [(h0, .inr (10, [h0_v0, h0_v1, h0_v2, h0_v3, h0_v4, h0_v5, h0_v6, h0_v7, h0_v8, h0_v9, h0_v10, h0_v11, h0_v12, h0_v13, h0_v14, h0_v15, h0_v16, h0_v17, h0_v18, h0_v19, h0_v20, h0_v21, h0_v22, h0_v23, h0_v24, h0_v25, h0_v26, h0_v27, h0_v28, h0_v29, h0_v30, h0_v31, h0_v32, h0_v33, h0_v34, h0_v35, h0_v36, h0_v37, h0_v38, h0_v39, h0_v40, h0_v41, h0_v42, h0_v43, h0_v44, h0_v45, h0_v46, h0_v47, h0_v48, h0_v49, h0_v50, h0_v51, h0_v52, h0_v53, h0_v54, h0_v55]))] sz)) (va_A [(h0, .inr (10, [h0_v0, h0_v1, h0_v2, h0_v3, h0_v4, h0_v5, h0_v6, h0_v7, h0_v8, h0_v9, h0_v10, h0_v11, h0_v12, h0_v13, h0_v14, h0_v15, h0_v16, h0_v17, h0_v18, h0_v19, h0_v20, h0_v21, h0_v22, h0_v23, h0_v24, h0_v25, h0_v26, h0_v27, h0_v28, h0_v29, h0_v30, h0_v31, h0_v32, h0_v33, h0_v34, h0_v35, h0_v36, h0_v37, h0_v38, h0_v39, h0_v40, h0_v41, h0_v42, h0_v43, h0_v44, h0_v45, h0_v46, h0_v47, h0_v48, h0_v49, h0_v50, h0_v51, h0_v52, h0_v53, h0_v54, h0_v55]))] sz)) 0 0 (va_A [(h0, .inr (10, [h0_v0, h0_v1, h0_v2, h0_v3, h0_v4, h0_v5, h0_v6, h0_v7, h0_v8, h0_v9, h0_v10, h0_v11, h0_v12, h0_v13, h0_v14, h0_v15, h0_v16, h0_v17, h0_v18, h0_v19, h0_v20, h0_v21, h0_v22, h0_v23, h0_v24, h0_v25, h0_v26, h0_v27, h0_v28, h0_v29, h0_v30, h0_v31, h0_v32, h0_v33, h0_v34, h0_v35, h0_v36, h0_v37, h0_v38, h0_v39, h0_v40, h0_v41, h0_v42, h0_v43, h0_v44, h0_v45, h0_v46, h0_v47, h0_v48, h0_v49, h0_v50, h0_v51, h0_v52, h0_v53, h0_v54, h0_v55]))] sz) := by
  refine Met.ofW (cc := cX10_good) (maxL := 2) (ret := (some .int)) (by decide) rfl ?_
  intro p e s m args below meth c s₁ B hml hv
  obtain ⟨rfl, hsz, hP, hK, hD0, hN, hE⟩ := hv
  have hx := B.exec
  have hb := B.bytes
  have hr := B.returns
  have hts := atoms_spec (ws := wsX10_good) B.pre
  have hown : s.vm.findClass RX10 = some m.cls := findClass_of_methodNamed B.named
  have hlocks := B.notSynchronized
  subst hsz
  have hD := hD0.self (sz := s.heap.size)
  generalize hAe : va_A [(h0, .inr (10, [h0_v0, h0_v1, h0_v2, h0_v3, h0_v4, h0_v5, h0_v6, h0_v7, h0_v8, h0_v9, h0_v10, h0_v11, h0_v12, h0_v13, h0_v14, h0_v15, h0_v16, h0_v17, h0_v18, h0_v19, h0_v20, h0_v21, h0_v22, h0_v23, h0_v24, h0_v25, h0_v26, h0_v27, h0_v28, h0_v29, h0_v30, h0_v31, h0_v32, h0_v33, h0_v34, h0_v35, h0_v36, h0_v37, h0_v38, h0_v39, h0_v40, h0_v41, h0_v42, h0_v43, h0_v44, h0_v45, h0_v46, h0_v47, h0_v48, h0_v49, h0_v50, h0_v51, h0_v52, h0_v53, h0_v54, h0_v55]))] s.heap.size = A at hD hE ⊢
  have hA : ∀ q : Nat, s.heap.size ≤ q → A q := fun q h => by rw [← hAe]; exact Or.inr h
  have hS : va_S A s.heap s.heap [] := va_S.rf
  have hl := lv_entry ([.ref h0, .int p1]) (n := 2) (Nat.le_of_ble_eq_true rfl)
  rw [lg_entry_eq]
  generalize (lg_sl ([.ref h0, .int p1]) ++ List.replicate (2 - (lg_sl ([.ref h0, .int p1])).length) Slot.unset).toArray = ls at hl ⊢
  have hl : lv_has ls 2 [(0, .ref h0), (1, .int p1)] := hl
  refine lv_aload_n hx hb dX10_good_0 rfl (lv_at hl 0 rfl) ?_
  refine lv_iconst (v := 0) hx hb dX10_good_1 (by decide) ?_
  refine va_put (D := D) (ci := 10) (v := .int 0) (ty := .int) (C := RX10) (T := TX10) (N := 56) hx hb hts (by decide +kernel) tyX10 tyX10_ok nmX10 hown hK hP hD hS 0 rfl rfl 0 (by decide) (hts (.fieldLink RX10 3 "TurnedFloorsModel" "status" "I") (by decide +kernel)) (fun _ h9 => h9) rfl (by decide +kernel) rfl rfl (Nat.le_of_ble_eq_true rfl) dX10_good_2 (fun H locs hp hd hs => ?_)
  refine kz_re (w2 := [(h0, .inr (10, [.int 0, h0_v1, h0_v2, h0_v3, h0_v4, h0_v5, h0_v6, h0_v7, h0_v8, h0_v9, h0_v10, h0_v11, h0_v12, h0_v13, h0_v14, h0_v15, h0_v16, h0_v17, h0_v18, h0_v19, h0_v20, h0_v21, h0_v22, h0_v23, h0_v24, h0_v25, h0_v26, h0_v27, h0_v28, h0_v29, h0_v30, h0_v31, h0_v32, h0_v33, h0_v34, h0_v35, h0_v36, h0_v37, h0_v38, h0_v39, h0_v40, h0_v41, h0_v42, h0_v43, h0_v44, h0_v45, h0_v46, h0_v47, h0_v48, h0_v49, h0_v50, h0_v51, h0_v52, h0_v53, h0_v54, h0_v55]))]) hp hd hs rfl ?_
  clear hp hd hs hP hD hS
  intro hP hD hS
  refine lv_iload_n hx hb dX10_good_5 rfl (lv_at hl 1 rfl) ?_
  exact kz_iret hx hb hr hlocks hP hK hD hS dX10_good_6 ⟨rfl, rfl⟩

set_option maxHeartbeats 4000000 in
set_option maxRecDepth 100000 in
theorem kcX10_settled (l : Launch) (D : va_G) (ty : Nat → ClassId) (eo : Nat → Nat) (sz : Nat) (h0 : Nat) (h0_v0 h0_v1 h0_v2 h0_v3 h0_v4 h0_v5 h0_v6 h0_v7 h0_v8 h0_v9 h0_v10 h0_v11 h0_v12 h0_v13 h0_v14 h0_v15 h0_v16 h0_v17 h0_v18 h0_v19 h0_v20 h0_v21 h0_v22 h0_v23 h0_v24 h0_v25 h0_v26 h0_v27 h0_v28 h0_v29 h0_v30 h0_v31 h0_v32 h0_v33 h0_v34 h0_v35 h0_v36 h0_v37 h0_v38 h0_v39 h0_v40 h0_v41 h0_v42 h0_v43 h0_v44 h0_v45 h0_v46 h0_v47 h0_v48 h0_v49 h0_v50 h0_v51 h0_v52 h0_v53 h0_v54 h0_v55 : Value) (p1 : Int32) : Met l yX10_settled wsX10_settled ({ frames := 1, cells := 0, slots := 0, locals := 21 }) (va_Pc [.ref h0, .int p1] (kz_pre D ty eo [(h0, .inr (10, [h0_v0, h0_v1, h0_v2, h0_v3, h0_v4, h0_v5, h0_v6, h0_v7, h0_v8, h0_v9, h0_v10, h0_v11, h0_v12, h0_v13, h0_v14, h0_v15, h0_v16, h0_v17, h0_v18, h0_v19, h0_v20, h0_v21, h0_v22, h0_v23, h0_v24, h0_v25, h0_v26, h0_v27, h0_v28, h0_v29, h0_v30, h0_v31, h0_v32, h0_v33, h0_v34, h0_v35, h0_v36, h0_v37, h0_v38, h0_v39, h0_v40, h0_v41, h0_v42, h0_v43, h0_v44, h0_v45, h0_v46, h0_v47, h0_v48, h0_v49, h0_v50, h0_v51, h0_v52, h0_v53, h0_v54, h0_v55]))] sz)) (va_Qi (fun (r : Int32) (u : va_W) => p1 = r ∧ [(h0, .inr (10, [.int 0, h0_v1, h0_v2, h0_v3, h0_v4, h0_v5, h0_v6, h0_v7, h0_v8, h0_v9, h0_v10, h0_v11, h0_v12, h0_v13, h0_v14, h0_v15, h0_v16, h0_v17, h0_v18, h0_v19, h0_v20, h0_v21, h0_v22, h0_v23, h0_v24, h0_v25, h0_v26, h0_v27, h0_v28, h0_v29, h0_v30, h0_v31, .int 0, h0_v33, h0_v34, h0_v35, h0_v36, h0_v37, h0_v38, h0_v39, h0_v40, h0_v41, h0_v42, h0_v43, h0_v44, h0_v45, h0_v46, h0_v47, h0_v48, h0_v49, h0_v50, h0_v51, h0_v52, h0_v53, h0_v54, h0_v55]))] = u) (kz_B D ty (va_A [(h0, .inr (10, [h0_v0, h0_v1, h0_v2, h0_v3, h0_v4, h0_v5, h0_v6, h0_v7, h0_v8, h0_v9, h0_v10, h0_v11, h0_v12, h0_v13, h0_v14, h0_v15, h0_v16, h0_v17, h0_v18, h0_v19, h0_v20, h0_v21, h0_v22, h0_v23, h0_v24, h0_v25, h0_v26, h0_v27, h0_v28, h0_v29, h0_v30, h0_v31, h0_v32, h0_v33, h0_v34, h0_v35, h0_v36, h0_v37, h0_v38, h0_v39, h0_v40, h0_v41, h0_v42, h0_v43, h0_v44, h0_v45, h0_v46, h0_v47, h0_v48, h0_v49, h0_v50, h0_v51, h0_v52, h0_v53, h0_v54, h0_v55]))] sz)) (va_A [(h0, .inr (10, [h0_v0, h0_v1, h0_v2, h0_v3, h0_v4, h0_v5, h0_v6, h0_v7, h0_v8, h0_v9, h0_v10, h0_v11, h0_v12, h0_v13, h0_v14, h0_v15, h0_v16, h0_v17, h0_v18, h0_v19, h0_v20, h0_v21, h0_v22, h0_v23, h0_v24, h0_v25, h0_v26, h0_v27, h0_v28, h0_v29, h0_v30, h0_v31, h0_v32, h0_v33, h0_v34, h0_v35, h0_v36, h0_v37, h0_v38, h0_v39, h0_v40, h0_v41, h0_v42, h0_v43, h0_v44, h0_v45, h0_v46, h0_v47, h0_v48, h0_v49, h0_v50, h0_v51, h0_v52, h0_v53, h0_v54, h0_v55]))] sz)) 0 0 (va_A [(h0, .inr (10, [h0_v0, h0_v1, h0_v2, h0_v3, h0_v4, h0_v5, h0_v6, h0_v7, h0_v8, h0_v9, h0_v10, h0_v11, h0_v12, h0_v13, h0_v14, h0_v15, h0_v16, h0_v17, h0_v18, h0_v19, h0_v20, h0_v21, h0_v22, h0_v23, h0_v24, h0_v25, h0_v26, h0_v27, h0_v28, h0_v29, h0_v30, h0_v31, h0_v32, h0_v33, h0_v34, h0_v35, h0_v36, h0_v37, h0_v38, h0_v39, h0_v40, h0_v41, h0_v42, h0_v43, h0_v44, h0_v45, h0_v46, h0_v47, h0_v48, h0_v49, h0_v50, h0_v51, h0_v52, h0_v53, h0_v54, h0_v55]))] sz) := by
  refine Met.ofW (cc := cX10_settled) (maxL := 2) (ret := (some .int)) (by decide) rfl ?_
  intro p e s m args below meth c s₁ B hml hv
  obtain ⟨rfl, hsz, hP, hK, hD0, hN, hE⟩ := hv
  have hx := B.exec
  have hb := B.bytes
  have hr := B.returns
  have hts := atoms_spec (ws := wsX10_settled) B.pre
  have hown : s.vm.findClass RX10 = some m.cls := findClass_of_methodNamed B.named
  have hlocks := B.notSynchronized
  subst hsz
  have hD := hD0.self (sz := s.heap.size)
  generalize hAe : va_A [(h0, .inr (10, [h0_v0, h0_v1, h0_v2, h0_v3, h0_v4, h0_v5, h0_v6, h0_v7, h0_v8, h0_v9, h0_v10, h0_v11, h0_v12, h0_v13, h0_v14, h0_v15, h0_v16, h0_v17, h0_v18, h0_v19, h0_v20, h0_v21, h0_v22, h0_v23, h0_v24, h0_v25, h0_v26, h0_v27, h0_v28, h0_v29, h0_v30, h0_v31, h0_v32, h0_v33, h0_v34, h0_v35, h0_v36, h0_v37, h0_v38, h0_v39, h0_v40, h0_v41, h0_v42, h0_v43, h0_v44, h0_v45, h0_v46, h0_v47, h0_v48, h0_v49, h0_v50, h0_v51, h0_v52, h0_v53, h0_v54, h0_v55]))] s.heap.size = A at hD hE ⊢
  have hA : ∀ q : Nat, s.heap.size ≤ q → A q := fun q h => by rw [← hAe]; exact Or.inr h
  have hS : va_S A s.heap s.heap [] := va_S.rf
  have hl := lv_entry ([.ref h0, .int p1]) (n := 2) (Nat.le_of_ble_eq_true rfl)
  rw [lg_entry_eq]
  generalize (lg_sl ([.ref h0, .int p1]) ++ List.replicate (2 - (lg_sl ([.ref h0, .int p1])).length) Slot.unset).toArray = ls at hl ⊢
  have hl : lv_has ls 2 [(0, .ref h0), (1, .int p1)] := hl
  refine lv_aload_n hx hb dX10_settled_0 rfl (lv_at hl 0 rfl) ?_
  refine lv_iconst (v := 0) hx hb dX10_settled_1 (by decide) ?_
  refine va_put (D := D) (ci := 10) (v := .int 0) (ty := .int) (C := RX10) (T := TX10) (N := 56) hx hb hts (by decide +kernel) tyX10 tyX10_ok nmX10 hown hK hP hD hS 0 rfl rfl 32 (by decide) (hts (.fieldLink RX10 11 "TurnedFloorsModel" "undoMany" "I") (by decide +kernel)) (fun _ h9 => h9) rfl (by decide +kernel) rfl rfl (Nat.le_of_ble_eq_true rfl) dX10_settled_2 (fun H locs hp hd hs => ?_)
  refine kz_re (w2 := [(h0, .inr (10, [h0_v0, h0_v1, h0_v2, h0_v3, h0_v4, h0_v5, h0_v6, h0_v7, h0_v8, h0_v9, h0_v10, h0_v11, h0_v12, h0_v13, h0_v14, h0_v15, h0_v16, h0_v17, h0_v18, h0_v19, h0_v20, h0_v21, h0_v22, h0_v23, h0_v24, h0_v25, h0_v26, h0_v27, h0_v28, h0_v29, h0_v30, h0_v31, .int 0, h0_v33, h0_v34, h0_v35, h0_v36, h0_v37, h0_v38, h0_v39, h0_v40, h0_v41, h0_v42, h0_v43, h0_v44, h0_v45, h0_v46, h0_v47, h0_v48, h0_v49, h0_v50, h0_v51, h0_v52, h0_v53, h0_v54, h0_v55]))]) hp hd hs rfl ?_
  clear hp hd hs hP hD hS
  intro hP hD hS
  refine lv_aload_n hx hb dX10_settled_5 rfl (lv_at hl 0 rfl) ?_
  refine lv_iload_n hx hb dX10_settled_6 rfl (lv_at hl 1 rfl) ?_
  refine kz_ki (wc := [(h0, .inr (10, [h0_v0, h0_v1, h0_v2, h0_v3, h0_v4, h0_v5, h0_v6, h0_v7, h0_v8, h0_v9, h0_v10, h0_v11, h0_v12, h0_v13, h0_v14, h0_v15, h0_v16, h0_v17, h0_v18, h0_v19, h0_v20, h0_v21, h0_v22, h0_v23, h0_v24, h0_v25, h0_v26, h0_v27, h0_v28, h0_v29, h0_v30, h0_v31, .int 0, h0_v33, h0_v34, h0_v35, h0_v36, h0_v37, h0_v38, h0_v39, h0_v40, h0_v41, h0_v42, h0_v43, h0_v44, h0_v45, h0_v46, h0_v47, h0_v48, h0_v49, h0_v50, h0_v51, h0_v52, h0_v53, h0_v54, h0_v55]))]) (wr := []) (va_runV (As := [.int p1]) (rest := []) ⟨hx, hb, hml, hown, hts⟩ (kcX10_good l D ty eo _ h0 h0_v0 h0_v1 h0_v2 h0_v3 h0_v4 h0_v5 h0_v6 h0_v7 h0_v8 h0_v9 h0_v10 h0_v11 h0_v12 h0_v13 h0_v14 h0_v15 h0_v16 h0_v17 h0_v18 h0_v19 h0_v20 h0_v21 h0_v22 h0_v23 h0_v24 h0_v25 h0_v26 h0_v27 h0_v28 h0_v29 h0_v30 h0_v31 (.int 0) h0_v33 h0_v34 h0_v35 h0_v36 h0_v37 h0_v38 h0_v39 h0_v40 h0_v41 h0_v42 h0_v43 h0_v44 h0_v45 h0_v46 h0_v47 h0_v48 h0_v49 h0_v50 h0_v51 h0_v52 h0_v53 h0_v54 h0_v55 p1) (cwV 1 hts gX10_settled_X10_good rfl rfl rfl (by decide +kernel) ⟨Nat.le_of_ble_eq_true rfl, Nat.le_of_ble_eq_true rfl⟩) (kz_preV (ci := 10) (q0 := 0) hK hN hE hP hD hS hA rfl rfl [0] (by decide) rfl) rfl rfl hl.1 rfl (lv_room (Nat.le_of_ble_eq_true rfl)) dX10_settled_7 ⟨Nat.le_of_ble_eq_true rfl, Nat.le_of_ble_eq_true rfl⟩) hP hD hS hA [0] [] rfl rfl (by decide) (by decide) (fun r u H locs hw hp hd hs => ?_)
  obtain ⟨rfl, rfl⟩ := hw
  refine kz_re (w2 := [(h0, .inr (10, [.int 0, h0_v1, h0_v2, h0_v3, h0_v4, h0_v5, h0_v6, h0_v7, h0_v8, h0_v9, h0_v10, h0_v11, h0_v12, h0_v13, h0_v14, h0_v15, h0_v16, h0_v17, h0_v18, h0_v19, h0_v20, h0_v21, h0_v22, h0_v23, h0_v24, h0_v25, h0_v26, h0_v27, h0_v28, h0_v29, h0_v30, h0_v31, .int 0, h0_v33, h0_v34, h0_v35, h0_v36, h0_v37, h0_v38, h0_v39, h0_v40, h0_v41, h0_v42, h0_v43, h0_v44, h0_v45, h0_v46, h0_v47, h0_v48, h0_v49, h0_v50, h0_v51, h0_v52, h0_v53, h0_v54, h0_v55]))]) hp hd hs rfl ?_
  clear hp hd hs hP hD hS
  intro hP hD hS
  exact kz_iret hx hb hr hlocks hP hK hD hS dX10_settled_10 ⟨rfl, rfl⟩

set_option maxHeartbeats 4000000 in
set_option maxRecDepth 100000 in
theorem kcX10_isBit (l : Launch) (D : va_G) (ty : Nat → ClassId) (eo : Nat → Nat) (sz : Nat) (p1 : Int32) : Met l yX10_isBit wsX10_isBit ({ frames := 1, cells := 0, slots := 0, locals := 22 }) (va_Pc [.int p1] (kz_pre D ty eo [] sz)) (va_Qi (fun (r : Int32) (u : va_W) => (p1 < 0 ∧ 0 = r ∧ [] = u) ∨ (¬ p1 < 0 ∧ 1 < p1 ∧ 0 = r ∧ [] = u) ∨ (¬ p1 < 0 ∧ ¬ 1 < p1 ∧ 1 = r ∧ [] = u)) (kz_B D ty (va_A [] sz)) (va_A [] sz)) 0 0 (va_A [] sz) := by
  refine Met.ofW (cc := cX10_isBit) (maxL := 1) (ret := (some .boolean)) (by decide) rfl ?_
  intro p e s m args below meth c s₁ B hml hv
  obtain ⟨rfl, hsz, hP, hK, hD0, hN, hE⟩ := hv
  have hx := B.exec
  have hb := B.bytes
  have hr := B.returns
  have hts := atoms_spec (ws := wsX10_isBit) B.pre
  have hown : s.vm.findClass RX10 = some m.cls := findClass_of_methodNamed B.named
  have hlocks := B.notSynchronized
  subst hsz
  have hD := hD0.self (sz := s.heap.size)
  generalize hAe : va_A [] s.heap.size = A at hD hE ⊢
  have hA : ∀ q : Nat, s.heap.size ≤ q → A q := fun q h => by rw [← hAe]; exact Or.inr h
  have hS : va_S A s.heap s.heap [] := va_S.rf
  have hl := lv_entry ([.int p1]) (n := 1) (Nat.le_of_ble_eq_true rfl)
  rw [lg_entry_eq]
  generalize (lg_sl ([.int p1]) ++ List.replicate (1 - (lg_sl ([.int p1])).length) Slot.unset).toArray = ls at hl ⊢
  have hl : lv_has ls 1 [(0, .int p1)] := hl
  refine lv_iload_n hx hb dX10_isBit_0 rfl (lv_at hl 0 rfl) ?_
  refine lv_iconst (v := 0) hx hb dX10_isBit_1 (by decide) ?_
  refine lv_iconst (v := 1) hx hb dX10_isBit_2 (by decide) ?_
  refine kz_ki (wc := []) (wr := []) (va_runS (As := [.int p1, .int 0, .int 1]) (rest := []) ⟨hx, hb, hml, hown, hts⟩ (kcX10_lies l D ty eo _ p1 0 1) (va_cwS 3 hts gX10_isBit_X10_lies rfl rfl rfl (by decide +kernel) ⟨Nat.le_of_ble_eq_true rfl, Nat.le_of_ble_eq_true rfl⟩) (kz_preS hK hN hE hP hD hS hA [] (by decide) rfl) rfl rfl hl.1 rfl (lv_room (Nat.le_of_ble_eq_true rfl)) dX10_isBit_3 ⟨Nat.le_of_ble_eq_true rfl, Nat.le_of_ble_eq_true rfl⟩) hP hD hS hA [] [] rfl rfl (by decide) (by decide) (fun r u H locs hw hp hd hs => ?_)
  rcases hw with ⟨c_1, rfl, rfl⟩ | ⟨c_2, c_3, rfl, rfl⟩ | ⟨c_4, c_5, rfl, rfl⟩
  · refine kz_re (w2 := []) hp hd hs rfl ?_
    clear hp hd hs hP hD hS
    intro hP hD hS
    exact kz_zret hx hb hr hlocks rfl hP hK hD hS dX10_isBit_6 (Or.inl ⟨c_1, rfl, rfl⟩)
  · refine kz_re (w2 := []) hp hd hs rfl ?_
    clear hp hd hs hP hD hS
    intro hP hD hS
    exact kz_zret hx hb hr hlocks rfl hP hK hD hS dX10_isBit_6 (Or.inr (Or.inl ⟨c_2, c_3, rfl, rfl⟩))
  · refine kz_re (w2 := []) hp hd hs rfl ?_
    clear hp hd hs hP hD hS
    intro hP hD hS
    exact kz_zret hx hb hr hlocks rfl hP hK hD hS dX10_isBit_6 (Or.inr (Or.inr ⟨c_4, c_5, rfl, rfl⟩))

set_option maxHeartbeats 4000000 in
set_option maxRecDepth 100000 in
theorem kcX10_isRank (l : Launch) (D : va_G) (ty : Nat → ClassId) (eo : Nat → Nat) (sz : Nat) (p1 : Int32) : Met l yX10_isRank wsX10_isRank ({ frames := 1, cells := 0, slots := 0, locals := 22 }) (va_Pc [.int p1] (kz_pre D ty eo [] sz)) (va_Qi (fun (r : Int32) (u : va_W) => (p1 < 0 ∧ 0 = r ∧ [] = u) ∨ (¬ p1 < 0 ∧ 5 < p1 ∧ 0 = r ∧ [] = u) ∨ (¬ p1 < 0 ∧ ¬ 5 < p1 ∧ 1 = r ∧ [] = u)) (kz_B D ty (va_A [] sz)) (va_A [] sz)) 0 0 (va_A [] sz) := by
  refine Met.ofW (cc := cX10_isRank) (maxL := 1) (ret := (some .boolean)) (by decide) rfl ?_
  intro p e s m args below meth c s₁ B hml hv
  obtain ⟨rfl, hsz, hP, hK, hD0, hN, hE⟩ := hv
  have hx := B.exec
  have hb := B.bytes
  have hr := B.returns
  have hts := atoms_spec (ws := wsX10_isRank) B.pre
  have hown : s.vm.findClass RX10 = some m.cls := findClass_of_methodNamed B.named
  have hlocks := B.notSynchronized
  subst hsz
  have hD := hD0.self (sz := s.heap.size)
  generalize hAe : va_A [] s.heap.size = A at hD hE ⊢
  have hA : ∀ q : Nat, s.heap.size ≤ q → A q := fun q h => by rw [← hAe]; exact Or.inr h
  have hS : va_S A s.heap s.heap [] := va_S.rf
  have hl := lv_entry ([.int p1]) (n := 1) (Nat.le_of_ble_eq_true rfl)
  rw [lg_entry_eq]
  generalize (lg_sl ([.int p1]) ++ List.replicate (1 - (lg_sl ([.int p1])).length) Slot.unset).toArray = ls at hl ⊢
  have hl : lv_has ls 1 [(0, .int p1)] := hl
  refine lv_iload_n hx hb dX10_isRank_0 rfl (lv_at hl 0 rfl) ?_
  refine lv_iconst (v := 0) hx hb dX10_isRank_1 (by decide) ?_
  refine lv_iconst (v := 5) hx hb dX10_isRank_2 (by decide) ?_
  refine kz_ki (wc := []) (wr := []) (va_runS (As := [.int p1, .int 0, .int 5]) (rest := []) ⟨hx, hb, hml, hown, hts⟩ (kcX10_lies l D ty eo _ p1 0 5) (va_cwS 3 hts gX10_isRank_X10_lies rfl rfl rfl (by decide +kernel) ⟨Nat.le_of_ble_eq_true rfl, Nat.le_of_ble_eq_true rfl⟩) (kz_preS hK hN hE hP hD hS hA [] (by decide) rfl) rfl rfl hl.1 rfl (lv_room (Nat.le_of_ble_eq_true rfl)) dX10_isRank_3 ⟨Nat.le_of_ble_eq_true rfl, Nat.le_of_ble_eq_true rfl⟩) hP hD hS hA [] [] rfl rfl (by decide) (by decide) (fun r u H locs hw hp hd hs => ?_)
  rcases hw with ⟨c_1, rfl, rfl⟩ | ⟨c_2, c_3, rfl, rfl⟩ | ⟨c_4, c_5, rfl, rfl⟩
  · refine kz_re (w2 := []) hp hd hs rfl ?_
    clear hp hd hs hP hD hS
    intro hP hD hS
    exact kz_zret hx hb hr hlocks rfl hP hK hD hS dX10_isRank_6 (Or.inl ⟨c_1, rfl, rfl⟩)
  · refine kz_re (w2 := []) hp hd hs rfl ?_
    clear hp hd hs hP hD hS
    intro hP hD hS
    exact kz_zret hx hb hr hlocks rfl hP hK hD hS dX10_isRank_6 (Or.inr (Or.inl ⟨c_2, c_3, rfl, rfl⟩))
  · refine kz_re (w2 := []) hp hd hs rfl ?_
    clear hp hd hs hP hD hS
    intro hP hD hS
    exact kz_zret hx hb hr hlocks rfl hP hK hD hS dX10_isRank_6 (Or.inr (Or.inr ⟨c_4, c_5, rfl, rfl⟩))

set_option maxHeartbeats 4000000 in
set_option maxRecDepth 100000 in
theorem kcX10_sign (l : Launch) (D : va_G) (ty : Nat → ClassId) (eo : Nat → Nat) (sz : Nat) (p1 : Int32) : Met l yX10_sign wsX10_sign ({ frames := 0, cells := 0, slots := 0, locals := 0 }) (va_Pc [.int p1] (kz_pre D ty eo [] sz)) (va_Qi (fun (r : Int32) (u : va_W) => (100 + p1) = r ∧ [] = u) (kz_B D ty (va_A [] sz)) (va_A [] sz)) 0 0 (va_A [] sz) := by
  refine Met.ofW (cc := cX10_sign) (maxL := 1) (ret := (some .int)) (by decide) rfl ?_
  intro p e s m args below meth c s₁ B hml hv
  obtain ⟨rfl, hsz, hP, hK, hD0, hN, hE⟩ := hv
  have hx := B.exec
  have hb := B.bytes
  have hr := B.returns
  have hts := atoms_spec (ws := wsX10_sign) B.pre
  have hown : s.vm.findClass RX10 = some m.cls := findClass_of_methodNamed B.named
  have hlocks := B.notSynchronized
  subst hsz
  have hD := hD0.self (sz := s.heap.size)
  generalize hAe : va_A [] s.heap.size = A at hD hE ⊢
  have hA : ∀ q : Nat, s.heap.size ≤ q → A q := fun q h => by rw [← hAe]; exact Or.inr h
  have hS : va_S A s.heap s.heap [] := va_S.rf
  have hl := lv_entry ([.int p1]) (n := 1) (Nat.le_of_ble_eq_true rfl)
  rw [lg_entry_eq]
  generalize (lg_sl ([.int p1]) ++ List.replicate (1 - (lg_sl ([.int p1])).length) Slot.unset).toArray = ls at hl ⊢
  have hl : lv_has ls 1 [(0, .int p1)] := hl
  refine lv_bipush (v := 100) hx hb dX10_sign_0 (by decide) ?_
  refine lv_iload_n hx hb dX10_sign_2 rfl (lv_at hl 0 rfl) ?_
  refine lv_iadd hx hb dX10_sign_3 ?_
  exact kz_iret hx hb hr hlocks hP hK hD hS dX10_sign_4 ⟨rfl, rfl⟩

set_option maxHeartbeats 4000000 in
set_option maxRecDepth 100000 in
theorem kcX10_isIn (l : Launch) (D : va_G) (ty : Nat → ClassId) (eo : Nat → Nat) (sz : Nat) (p1 p2 : Int32) : Met l yX10_isIn wsX10_isIn ({ frames := 0, cells := 0, slots := 0, locals := 0 }) (va_Pc [.int p1, .int p2] (kz_pre D ty eo [] sz)) (va_Qi (fun (r : Int32) (u : va_W) => (¬ ((p1 >>> (p2 &&& 31)) &&& 1) = 1 ∧ 0 = r ∧ [] = u) ∨ (((p1 >>> (p2 &&& 31)) &&& 1) = 1 ∧ 1 = r ∧ [] = u)) (kz_B D ty (va_A [] sz)) (va_A [] sz)) 0 0 (va_A [] sz) := by
  refine Met.ofW (cc := cX10_isIn) (maxL := 2) (ret := (some .boolean)) (by decide) rfl ?_
  intro p e s m args below meth c s₁ B hml hv
  obtain ⟨rfl, hsz, hP, hK, hD0, hN, hE⟩ := hv
  have hx := B.exec
  have hb := B.bytes
  have hr := B.returns
  have hts := atoms_spec (ws := wsX10_isIn) B.pre
  have hown : s.vm.findClass RX10 = some m.cls := findClass_of_methodNamed B.named
  have hlocks := B.notSynchronized
  subst hsz
  have hD := hD0.self (sz := s.heap.size)
  generalize hAe : va_A [] s.heap.size = A at hD hE ⊢
  have hA : ∀ q : Nat, s.heap.size ≤ q → A q := fun q h => by rw [← hAe]; exact Or.inr h
  have hS : va_S A s.heap s.heap [] := va_S.rf
  have hl := lv_entry ([.int p1, .int p2]) (n := 2) (Nat.le_of_ble_eq_true rfl)
  rw [lg_entry_eq]
  generalize (lg_sl ([.int p1, .int p2]) ++ List.replicate (2 - (lg_sl ([.int p1, .int p2])).length) Slot.unset).toArray = ls at hl ⊢
  have hl : lv_has ls 2 [(0, .int p1), (1, .int p2)] := hl
  refine lv_iload_n hx hb dX10_isIn_0 rfl (lv_at hl 0 rfl) ?_
  refine lv_iload_n hx hb dX10_isIn_1 rfl (lv_at hl 1 rfl) ?_
  refine lv_ishr hx hb dX10_isIn_2 ?_
  refine lv_iconst (v := 1) hx hb dX10_isIn_3 (by decide) ?_
  refine lv_iand hx hb dX10_isIn_4 ?_
  refine lv_iconst (v := 1) hx hb dX10_isIn_5 (by decide) ?_
  refine lv_icmp_ne (tgt := 13) hx hb dX10_isIn_6 (by decide) (fun c_1 => ?_) (fun c_1 => ?_)
  · refine lv_iconst (v := 0) hx hb dX10_isIn_13 (by decide) ?_
    exact kz_zret hx hb hr hlocks rfl hP hK hD hS dX10_isIn_14 (Or.inl ⟨c_1, rfl, rfl⟩)
  · refine lv_iconst (v := 1) hx hb dX10_isIn_9 (by decide) ?_
    refine lv_goto (tgt := 14) hx hb dX10_isIn_10 (by decide) ?_
    exact kz_zret hx hb hr hlocks rfl hP hK hD hS dX10_isIn_14 (Or.inr ⟨c_1, rfl, rfl⟩)
