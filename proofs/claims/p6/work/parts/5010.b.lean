
set_option maxHeartbeats 4000000 in
set_option maxRecDepth 100000 in
/-- Arrays.fill: every place holds the number -/
theorem cJ7_fillI (l : Launch) (D : va_G) (ty : Nat → ClassId) (eo : Nat → Nat) (sz : Nat) (p1 p1_n : Nat) (p1_f : Nat → Int32) (p2 : Int32) (g_1 : p1_n < 2147483648) : Met l yJ7_fill_53178 wsJ7_fill_53178 ({ frames := 0, cells := 0, slots := 0, locals := 0 }) (va_Pc [.ref p1, .int p2] (kz_pre D ty eo [(p1, .inl (ty 0, p1_n, .inl p1_f))] sz)) (va_Qv (fun (u : va_W) => [(p1, .inl (ty 0, p1_n, .inl (kz_fl p1_f p1_n p2)))] = u) (kz_B D ty (va_A [(p1, .inl (ty 0, p1_n, .inl p1_f))] sz)) (va_A [(p1, .inl (ty 0, p1_n, .inl p1_f))] sz)) 0 0 (va_A [(p1, .inl (ty 0, p1_n, .inl p1_f))] sz) := by
  refine Met.ofW (cc := cJ7_fill_53178) (maxL := 4) (ret := none) (by decide) rfl ?_
  intro p e s m args below meth c s₁ B hml hv
  obtain ⟨rfl, hsz, hP, hK, hD0, hN, hE⟩ := hv
  have hx := B.exec
  have hb := B.bytes
  have hr := B.returns
  have hts := atoms_spec (ws := wsJ7_fill_53178) B.pre
  have hlocks := B.notSynchronized
  subst hsz
  have hD := hD0.self (sz := s.heap.size)
  generalize hAe : va_A [(p1, .inl (ty 0, p1_n, .inl p1_f))] s.heap.size = A at hD hE ⊢
  have hA : ∀ q : Nat, s.heap.size ≤ q → A q := fun q h => by rw [← hAe]; exact Or.inr h
  have hS : va_S A s.heap s.heap [] := va_S.rf
  have hl := lv_entry ([.ref p1, .int p2]) (n := 4) (Nat.le_of_ble_eq_true rfl)
  rw [lg_entry_eq]
  generalize (lg_sl ([.ref p1, .int p2]) ++ List.replicate (4 - (lg_sl ([.ref p1, .int p2])).length) Slot.unset).toArray = ls at hl ⊢
  have hl : lv_has ls 4 [(0, .ref p1), (1, .int p2)] := hl
  refine lv_iconst (v := 0) hx hb dJ7_fill_53178_0 (by decide) ?_
  refine lv_istore_n (lv' := [(2, .int 0), (0, .ref p1), (1, .int p2)]) hx hb dJ7_fill_53178_1 rfl hl (by decide) rfl (fun ls hl => ?_)
  refine lv_aload_n hx hb dJ7_fill_53178_2 rfl (lv_at hl 1 rfl) ?_
  refine va_alen (v := nI p1_n) hx hb hK hP 0 0 rfl rfl rfl dJ7_fill_53178_3 ?_
  refine lv_istore_n (lv' := [(3, .int (nI p1_n)), (2, .int 0), (0, .ref p1), (1, .int p2)]) hx hb dJ7_fill_53178_4 rfl hl (by decide) rfl (fun ls hl => ?_)
  refine kz_loop p1_n (fun i H locs ls => va_P D vwCl [(p1, .inl (ty 0, p1_n, .inl (kz_fl p1_f i p2)))] H ∧ va_D A [(p1, .inl (ty 0, p1_n, .inl (kz_fl p1_f i p2)))] ∧ va_S A s.heap H locs ∧ lv_has ls 4 [(2, .int (nI i)), (3, .int (nI p1_n)), (0, .ref p1), (1, .int p2)]) (fun i H locs ls hi hI ih => ?_) _ _ _ ⟨by rw [kz_fl_0]; exact hP, by rw [kz_fl_0]; exact hD, hS, lv_sub hl [1, 0, 2, 3] rfl⟩
  obtain ⟨hP, hD, hS, hl⟩ := hI
  refine lv_iload_n hx hb dJ7_fill_53178_5 rfl (lv_at hl 0 rfl) ?_
  refine lv_iload_n hx hb dJ7_fill_53178_6 rfl (lv_at hl 1 rfl) ?_
  refine lv_icmp_ge (tgt := 20) hx hb dJ7_fill_53178_7 (by decide) (fun h9 => ?_) (fun h9 => ?_)
  · have hie : i = p1_n := by
      rcases Nat.lt_or_ge i p1_n with q | q
      · exact absurd h9 (nI_ge q g_1)
      · omega
    subst hie
    exact kz_vret hx hb hr hlocks hP hK hD hS dJ7_fill_53178_20 rfl
  · have hlt : i < p1_n := by
      rcases Nat.lt_or_ge i p1_n with q | q
      · exact q
      · exact absurd (nI_le q (by omega)) h9
    refine lv_aload_n hx hb dJ7_fill_53178_10 rfl (lv_at hl 2 rfl) ?_
    refine lv_iload_n hx hb dJ7_fill_53178_11 rfl (lv_at hl 0 rfl) ?_
    refine lv_iload_n hx hb dJ7_fill_53178_12 rfl (lv_at hl 3 rfl) ?_
    refine va_iast hx hb hK hP hD hS 0 0 rfl rfl (vp_in_nI hlt g_1) dJ7_fill_53178_13 (fun H locs hP hD hS => ?_)
    rw [nI_clamp (show i < 2 ^ 31 by omega)] at hP hD
    have hP : va_P D vwCl [(p1, .inl (ty 0, p1_n, .inl (upd (kz_fl p1_f i p2) i p2)))] H := hP
    have hD : va_D A [(p1, .inl (ty 0, p1_n, .inl (upd (kz_fl p1_f i p2) i p2)))] := hD
    rw [kz_fl_s] at hP hD
    refine lv_iinc (v := nI (i + 1)) (lv' := [(2, .int (nI (i + 1))), (3, .int (nI p1_n)), (0, .ref p1), (1, .int p2)]) hx hb dJ7_fill_53178_14 hl (k := 0) rfl (nI_1 i) (by decide) rfl (fun ls hl => ?_)
    refine lv_goto (tgt := 5) hx hb dJ7_fill_53178_17 (by decide) ?_
    exact ih _ _ _ hlt ⟨hP, hD, hS, hl⟩
set_option maxHeartbeats 4000000 in
set_option maxRecDepth 100000 in
/-- Arrays.fill: every place holds the number -/
theorem cJ7_fillL (l : Launch) (D : va_G) (ty : Nat → ClassId) (eo : Nat → Nat) (sz : Nat) (p1 p1_n : Nat) (p1_f : Nat → Int64) (p2 : Int64) (g_1 : p1_n < 2147483648) : Met l yJ7_fill_d0a16 wsJ7_fill_d0a16 ({ frames := 0, cells := 0, slots := 0, locals := 0 }) (va_Pc [.ref p1, .long p2] (kz_pre D ty eo [(p1, .inl (ty 1, p1_n, .inr (.inl p1_f)))] sz)) (va_Qv (fun (u : va_W) => [(p1, .inl (ty 1, p1_n, .inr (.inl (kz_flL p1_f p1_n p2))))] = u) (kz_B D ty (va_A [(p1, .inl (ty 1, p1_n, .inr (.inl p1_f)))] sz)) (va_A [(p1, .inl (ty 1, p1_n, .inr (.inl p1_f)))] sz)) 0 0 (va_A [(p1, .inl (ty 1, p1_n, .inr (.inl p1_f)))] sz) := by
  refine Met.ofW (cc := cJ7_fill_d0a16) (maxL := 5) (ret := none) (by decide) rfl ?_
  intro p e s m args below meth c s₁ B hml hv
  obtain ⟨rfl, hsz, hP, hK, hD0, hN, hE⟩ := hv
  have hx := B.exec
  have hb := B.bytes
  have hr := B.returns
  have hts := atoms_spec (ws := wsJ7_fill_d0a16) B.pre
  have hlocks := B.notSynchronized
  subst hsz
  have hD := hD0.self (sz := s.heap.size)
  generalize hAe : va_A [(p1, .inl (ty 1, p1_n, .inr (.inl p1_f)))] s.heap.size = A at hD hE ⊢
  have hA : ∀ q : Nat, s.heap.size ≤ q → A q := fun q h => by rw [← hAe]; exact Or.inr h
  have hS : va_S A s.heap s.heap [] := va_S.rf
  have hl := lv_entry ([.ref p1, .long p2]) (n := 5) (Nat.le_of_ble_eq_true rfl)
  rw [lg_entry_eq]
  generalize (lg_sl ([.ref p1, .long p2]) ++ List.replicate (5 - (lg_sl ([.ref p1, .long p2])).length) Slot.unset).toArray = ls at hl ⊢
  have hl : lv_has ls 5 [(0, .ref p1), (1, .long p2)] := hl
  refine lv_iconst (v := 0) hx hb dJ7_fill_d0a16_0 (by decide) ?_
  refine lv_istore_n (lv' := [(3, .int 0), (0, .ref p1), (1, .long p2)]) hx hb dJ7_fill_d0a16_1 rfl hl (by decide) rfl (fun ls hl => ?_)
  refine lv_aload_n hx hb dJ7_fill_d0a16_2 rfl (lv_at hl 1 rfl) ?_
  refine va_alen (v := nI p1_n) hx hb hK hP 0 1 rfl rfl rfl dJ7_fill_d0a16_3 ?_
  refine lv_istore (lv' := [(4, .int (nI p1_n)), (3, .int 0), (0, .ref p1), (1, .long p2)]) hx hb dJ7_fill_d0a16_4 hl (by decide) rfl (fun ls hl => ?_)
  refine kz_loop p1_n (fun i H locs ls => va_P D vwCl [(p1, .inl (ty 1, p1_n, .inr (.inl (kz_flL p1_f i p2))))] H ∧ va_D A [(p1, .inl (ty 1, p1_n, .inr (.inl (kz_flL p1_f i p2))))] ∧ va_S A s.heap H locs ∧ lv_has ls 5 [(3, .int (nI i)), (4, .int (nI p1_n)), (0, .ref p1), (1, .long p2)]) (fun i H locs ls hi hI ih => ?_) _ _ _ ⟨by rw [kz_flL_0]; exact hP, by rw [kz_flL_0]; exact hD, hS, lv_sub hl [1, 0, 2, 3] rfl⟩
  obtain ⟨hP, hD, hS, hl⟩ := hI
  refine lv_iload_n hx hb dJ7_fill_d0a16_6 rfl (lv_at hl 0 rfl) ?_
  refine lv_iload hx hb dJ7_fill_d0a16_7 (lv_at hl 1 rfl) ?_
  refine lv_icmp_ge (tgt := 22) hx hb dJ7_fill_d0a16_9 (by decide) (fun h9 => ?_) (fun h9 => ?_)
  · have hie : i = p1_n := by
      rcases Nat.lt_or_ge i p1_n with q | q
      · exact absurd h9 (nI_ge q g_1)
      · omega
    subst hie
    exact kz_vret hx hb hr hlocks hP hK hD hS dJ7_fill_d0a16_22 rfl
  · have hlt : i < p1_n := by
      rcases Nat.lt_or_ge i p1_n with q | q
      · exact q
      · exact absurd (nI_le q (by omega)) h9
    refine lv_aload_n hx hb dJ7_fill_d0a16_12 rfl (lv_at hl 2 rfl) ?_
    refine lv_iload_n hx hb dJ7_fill_d0a16_13 rfl (lv_at hl 0 rfl) ?_
    refine lv_lload_n hx hb dJ7_fill_d0a16_14 rfl (lv_at hl 3 rfl) ?_
    refine va_last hx hb hK hP hD hS 0 1 rfl rfl (vp_in_nI hlt g_1) dJ7_fill_d0a16_15 (fun H locs hP hD hS => ?_)
    rw [nI_clamp (show i < 2 ^ 31 by omega)] at hP hD
    have hP : va_P D vwCl [(p1, .inl (ty 1, p1_n, .inr (.inl (vp_updL (kz_flL p1_f i p2) i p2))))] H := hP
    have hD : va_D A [(p1, .inl (ty 1, p1_n, .inr (.inl (vp_updL (kz_flL p1_f i p2) i p2))))] := hD
    rw [kz_flL_s] at hP hD
    refine lv_iinc (v := nI (i + 1)) (lv' := [(3, .int (nI (i + 1))), (4, .int (nI p1_n)), (0, .ref p1), (1, .long p2)]) hx hb dJ7_fill_d0a16_16 hl (k := 0) rfl (nI_1 i) (by decide) rfl (fun ls hl => ?_)
    refine lv_goto (tgt := 6) hx hb dJ7_fill_d0a16_19 (by decide) ?_
    exact ih _ _ _ hlt ⟨hP, hD, hS, hl⟩
