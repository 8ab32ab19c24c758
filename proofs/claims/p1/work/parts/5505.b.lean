set_option maxHeartbeats 4000000 in
set_option maxRecDepth 100000 in
theorem kX3_worstTowers_102 (l : Launch) (D : va_G) (ty : Nat → ClassId) (eo : Nat → Nat) (sz : Nat) (x_paper : Nat) (a1 : Int32) (x_paper_ranks x_paper_digits x_paper_barred x_paper_pays x_paper_measuredBarred x_paper_buckets q_7 q_8 q_9 q_3 q_4 q_5 q_6 : Nat) (g_1 : ¬ a1 < 0) (g_2 : a1 ≤ 2) : Met l yX3_worstTowers wsX3_worstTowers ({ frames := 2, cells := 0, slots := 0, locals := 65 }) (va_Pc [.ref x_paper, .int a1] (kz_pre D ty eo [(x_paper, .inr (3, [.ref x_paper_ranks, .ref x_paper_digits, .ref x_paper_barred, .ref x_paper_pays, .ref x_paper_measuredBarred, .ref x_paper_buckets, .ref q_7, .ref q_8, .ref q_9, .ref q_3, .ref q_4, .ref q_5, .ref q_6, .int 0, .int 1, .int 0, .int 0, .int (-1), .int (-1), .int 0])), (q_3, .inl (ty 0, 1, .inl (fun _ => 0))), (q_5, .inl (ty 0, 1, .inl (fun _ => 0))), (x_paper_barred, .inl (ty 0, 504, .inl (kz_fl (fun _ => 0) 504 0))), (x_paper_measuredBarred, .inl (ty 0, 504, .inl (fun _ => 0)))] sz)) (va_Qi (fun (r : Int32) (u : va_W) => (¬ a1 = 0 ∧ ¬ a1 = 1 ∧ 1 = r ∧ [(q_5, .inl (ty 0, 1, .inl (upd (fun _ => 0) 0 0))), (x_paper_barred, .inl (ty 0, 504, .inl (kz_fl (fun _ => 0) 504 0))), (x_paper_measuredBarred, .inl (ty 0, 504, .inl (va_cpy (kz_fl (fun _ => 0) 504 0) (fun _ => 0) 0 0 504))), (q_3, .inl (ty 0, 1, .inl (upd (kz_fl (fun _ => 0) 1 (-1)) 0 0))), (x_paper, .inr (3, [.ref x_paper_ranks, .ref x_paper_digits, .ref x_paper_barred, .ref x_paper_pays, .ref x_paper_measuredBarred, .ref x_paper_buckets, .ref q_7, .ref q_8, .ref q_9, .ref q_3, .ref q_4, .ref q_5, .ref q_6, .int 0, .int 1, .int 0, .int 0, .int 0, .int 0, .int 0]))] = u) ∨ (¬ a1 = 0 ∧ a1 = 1 ∧ 1 = r ∧ [(q_5, .inl (ty 0, 1, .inl (upd (fun _ => 0) 0 0))), (x_paper_barred, .inl (ty 0, 504, .inl (kz_fl (fun _ => 0) 504 0))), (x_paper_measuredBarred, .inl (ty 0, 504, .inl (va_cpy (kz_fl (fun _ => 0) 504 0) (fun _ => 0) 0 0 504))), (q_3, .inl (ty 0, 1, .inl (upd (kz_fl (fun _ => 0) 1 (-1)) 0 0))), (x_paper, .inr (3, [.ref x_paper_ranks, .ref x_paper_digits, .ref x_paper_barred, .ref x_paper_pays, .ref x_paper_measuredBarred, .ref x_paper_buckets, .ref q_7, .ref q_8, .ref q_9, .ref q_3, .ref q_4, .ref q_5, .ref q_6, .int 0, .int 1, .int 0, .int 0, .int 0, .int 0, .int 0]))] = u) ∨ (a1 = 0 ∧ 0 = r ∧ [(q_5, .inl (ty 0, 1, .inl (upd (fun _ => 0) 0 0))), (x_paper_barred, .inl (ty 0, 504, .inl (kz_fl (fun _ => 0) 504 0))), (x_paper_measuredBarred, .inl (ty 0, 504, .inl (va_cpy (kz_fl (fun _ => 0) 504 0) (fun _ => 0) 0 0 504))), (q_3, .inl (ty 0, 1, .inl (upd (kz_fl (fun _ => 0) 1 (-1)) 0 0))), (x_paper, .inr (3, [.ref x_paper_ranks, .ref x_paper_digits, .ref x_paper_barred, .ref x_paper_pays, .ref x_paper_measuredBarred, .ref x_paper_buckets, .ref q_7, .ref q_8, .ref q_9, .ref q_3, .ref q_4, .ref q_5, .ref q_6, .int 0, .int 1, .int 0, .int 0, .int 0, .int 0, .int 0]))] = u)) (kz_B D ty (va_A [(x_paper, .inr (3, [.ref x_paper_ranks, .ref x_paper_digits, .ref x_paper_barred, .ref x_paper_pays, .ref x_paper_measuredBarred, .ref x_paper_buckets, .ref q_7, .ref q_8, .ref q_9, .ref q_3, .ref q_4, .ref q_5, .ref q_6, .int 0, .int 1, .int 0, .int 0, .int (-1), .int (-1), .int 0])), (q_3, .inl (ty 0, 1, .inl (fun _ => 0))), (q_5, .inl (ty 0, 1, .inl (fun _ => 0))), (x_paper_barred, .inl (ty 0, 504, .inl (kz_fl (fun _ => 0) 504 0))), (x_paper_measuredBarred, .inl (ty 0, 504, .inl (fun _ => 0)))] sz)) (va_A [(x_paper, .inr (3, [.ref x_paper_ranks, .ref x_paper_digits, .ref x_paper_barred, .ref x_paper_pays, .ref x_paper_measuredBarred, .ref x_paper_buckets, .ref q_7, .ref q_8, .ref q_9, .ref q_3, .ref q_4, .ref q_5, .ref q_6, .int 0, .int 1, .int 0, .int 0, .int (-1), .int (-1), .int 0])), (q_3, .inl (ty 0, 1, .inl (fun _ => 0))), (q_5, .inl (ty 0, 1, .inl (fun _ => 0))), (x_paper_barred, .inl (ty 0, 504, .inl (kz_fl (fun _ => 0) 504 0))), (x_paper_measuredBarred, .inl (ty 0, 504, .inl (fun _ => 0)))] sz)) 0 0 (va_A [(x_paper, .inr (3, [.ref x_paper_ranks, .ref x_paper_digits, .ref x_paper_barred, .ref x_paper_pays, .ref x_paper_measuredBarred, .ref x_paper_buckets, .ref q_7, .ref q_8, .ref q_9, .ref q_3, .ref q_4, .ref q_5, .ref q_6, .int 0, .int 1, .int 0, .int 0, .int (-1), .int (-1), .int 0])), (q_3, .inl (ty 0, 1, .inl (fun _ => 0))), (q_5, .inl (ty 0, 1, .inl (fun _ => 0))), (x_paper_barred, .inl (ty 0, 504, .inl (kz_fl (fun _ => 0) 504 0))), (x_paper_measuredBarred, .inl (ty 0, 504, .inl (fun _ => 0)))] sz) := by
  refine Met.ofW (cc := cX3_worstTowers) (maxL := 7) (ret := (some .int)) (by decide) rfl ?_
  intro p e s m args below meth c s₁ B hml hv
  obtain ⟨rfl, hsz, hP, hK, hD0, hN, hE⟩ := hv
  have hx := B.exec
  have hb := B.bytes
  have hr := B.returns
  have hts := atoms_spec (ws := wsX3_worstTowers) B.pre
  have hown : s.vm.findClass RX3 = some m.cls := findClass_of_methodNamed B.named
  have hlocks := B.notSynchronized
  subst hsz
  have hD := hD0.self (sz := s.heap.size)
  generalize hAe : va_A [(x_paper, .inr (3, [.ref x_paper_ranks, .ref x_paper_digits, .ref x_paper_barred, .ref x_paper_pays, .ref x_paper_measuredBarred, .ref x_paper_buckets, .ref q_7, .ref q_8, .ref q_9, .ref q_3, .ref q_4, .ref q_5, .ref q_6, .int 0, .int 1, .int 0, .int 0, .int (-1), .int (-1), .int 0])), (q_3, .inl (ty 0, 1, .inl (fun _ => 0))), (q_5, .inl (ty 0, 1, .inl (fun _ => 0))), (x_paper_barred, .inl (ty 0, 504, .inl (kz_fl (fun _ => 0) 504 0))), (x_paper_measuredBarred, .inl (ty 0, 504, .inl (fun _ => 0)))] s.heap.size = A at hD hE ⊢
  have hA : ∀ q : Nat, s.heap.size ≤ q → A q := fun q h => by rw [← hAe]; exact Or.inr h
  have hS : va_S A s.heap s.heap [] := va_S.rf
  have hl := lv_entry ([.ref x_paper, .int a1]) (n := 7) (Nat.le_of_ble_eq_true rfl)
  rw [lg_entry_eq]
  generalize (lg_sl ([.ref x_paper, .int a1]) ++ List.replicate (7 - (lg_sl ([.ref x_paper, .int a1])).length) Slot.unset).toArray = ls at hl ⊢
  have hl : lv_has ls 7 [(0, .ref x_paper), (1, .int a1)] := hl
  refine lv_aload_n hx hb dX3_worstTowers_0 rfl (lv_at hl 0 rfl) ?_
  refine kz_kv (wc := [(x_paper, .inr (3, [.ref x_paper_ranks, .ref x_paper_digits, .ref x_paper_barred, .ref x_paper_pays, .ref x_paper_measuredBarred, .ref x_paper_buckets, .ref q_7, .ref q_8, .ref q_9, .ref q_3, .ref q_4, .ref q_5, .ref q_6, .int 0, .int 1, .int 0, .int 0, .int (-1), .int (-1), .int 0])), (q_3, .inl (ty 0, 1, .inl (fun _ => 0))), (q_5, .inl (ty 0, 1, .inl (fun _ => 0))), (x_paper_barred, .inl (ty 0, 504, .inl (kz_fl (fun _ => 0) 504 0))), (x_paper_measuredBarred, .inl (ty 0, 504, .inl (fun _ => 0)))]) (wr := []) (va_runV (As := []) (rest := []) ⟨hx, hb, hml, hown, hts⟩ (kX3_measure_90 l D ty eo _ x_paper x_paper_ranks x_paper_digits x_paper_barred x_paper_pays x_paper_measuredBarred x_paper_buckets q_7 q_8 q_9 q_3 q_4 q_5 q_6) (cwV 0 hts gX3_worstTowers_X3_measure rfl rfl rfl (by decide +kernel) ⟨Nat.le_of_ble_eq_true rfl, Nat.le_of_ble_eq_true rfl⟩) (kz_preV (ci := 3) (q0 := 0) hK hN hE hP hD hS hA rfl rfl [0, 1, 2, 3, 4] (by decide) rfl) rfl rfl hl.1 rfl (lv_room (Nat.le_of_ble_eq_true rfl)) dX3_worstTowers_1 ⟨Nat.le_of_ble_eq_true rfl, Nat.le_of_ble_eq_true rfl⟩) hP hD hS hA [0, 1, 2, 3, 4] [] rfl rfl (by decide) (by decide) (fun u H locs hw hp hd hs => ?_)
  obtain rfl := hw
  refine kz_re (w2 := [(q_5, .inl (ty 0, 1, .inl (upd (fun _ => 0) 0 0))), (x_paper_barred, .inl (ty 0, 504, .inl (kz_fl (fun _ => 0) 504 0))), (x_paper_measuredBarred, .inl (ty 0, 504, .inl (va_cpy (kz_fl (fun _ => 0) 504 0) (fun _ => 0) 0 0 504))), (q_3, .inl (ty 0, 1, .inl (upd (kz_fl (fun _ => 0) 1 (-1)) 0 0))), (x_paper, .inr (3, [.ref x_paper_ranks, .ref x_paper_digits, .ref x_paper_barred, .ref x_paper_pays, .ref x_paper_measuredBarred, .ref x_paper_buckets, .ref q_7, .ref q_8, .ref q_9, .ref q_3, .ref q_4, .ref q_5, .ref q_6, .int 0, .int 1, .int 0, .int 0, .int 0, .int 0, .int 0]))]) hp hd hs rfl ?_
  clear hp hd hs hP hD hS
  intro hP hD hS
  refine lv_iconst (v := 0) hx hb dX3_worstTowers_4 (by decide) ?_
  refine lv_istore_n (lv' := [(2, .int 0), (0, .ref x_paper), (1, .int a1)]) hx hb dX3_worstTowers_5 rfl hl (by decide) rfl (fun ls hl => ?_)
  refine lv_iconst (v := 0) hx hb dX3_worstTowers_6 (by decide) ?_
  refine lv_istore_n (lv' := [(3, .int 0), (2, .int 0), (0, .ref x_paper), (1, .int a1)]) hx hb dX3_worstTowers_7 rfl hl (by decide) rfl (fun ls hl => ?_)
  refine lv_iconst (v := 0) hx hb dX3_worstTowers_8 (by decide) ?_
  refine lv_istore (lv' := [(4, .int 0), (3, .int 0), (2, .int 0), (0, .ref x_paper), (1, .int a1)]) hx hb dX3_worstTowers_9 hl (by decide) rfl (fun ls hl => ?_)
  refine lv_iconst (v := 0) hx hb dX3_worstTowers_11 (by decide) ?_
  refine lv_istore (lv' := [(5, .int 0), (4, .int 0), (3, .int 0), (2, .int 0), (0, .ref x_paper), (1, .int a1)]) hx hb dX3_worstTowers_12 hl (by decide) rfl (fun ls hl => ?_)
  refine lv_iload hx hb dX3_worstTowers_14 (lv_at hl 0 rfl) ?_
  refine lv_aload_n hx hb dX3_worstTowers_16 rfl (lv_at hl 4 rfl) ?_
  refine va_get (D := D) (ci := 3) (v := .int 1) (C := RX3) (T := TX3) (N := 20) hx hb hts (by decide +kernel) hown hK hP 4 rfl rfl 14 (by decide) (hts (.fieldLink RX3 55 "TurnedFloors$Paper" "size" "I") (by decide +kernel)) (fun _ h9 => h9) rfl dX3_worstTowers_17 ?_
  refine lv_icmp_ge (tgt := 85) hx hb dX3_worstTowers_20 (by decide) (fun h => absurd h (by decide)) (fun _ => ?_)
  refine lv_aload_n hx hb dX3_worstTowers_23 rfl (lv_at hl 4 rfl) ?_
  refine va_get (D := D) (ci := 3) (v := .ref q_3) (C := RX3) (T := TX3) (N := 20) hx hb hts (by decide +kernel) hown hK hP 4 rfl rfl 9 (by decide) (hts (.fieldLink RX3 39 "TurnedFloors$Paper" "toOrder" "[I") (by decide +kernel)) (fun _ h9 => h9) rfl dX3_worstTowers_24 ?_
  refine lv_iload hx hb dX3_worstTowers_27 (lv_at hl 0 rfl) ?_
  refine va_iald hx hb hK hP 3 0 rfl rfl (by simp only [vp_in]; decide) dX3_worstTowers_29 ?_
  refine kz_topi 0 (by first | rfl | decide +kernel) ?_
  refine lv_istore (lv' := [(6, .int 0), (5, .int 0), (4, .int 0), (3, .int 0), (2, .int 0), (0, .ref x_paper), (1, .int a1)]) hx hb dX3_worstTowers_30 hl (by decide) rfl (fun ls hl => ?_)
  refine lv_iload hx hb dX3_worstTowers_32 (lv_at hl 0 rfl) ?_
  refine lv_iload_n hx hb dX3_worstTowers_34 rfl (lv_at hl 4 rfl) ?_
  refine lv_icmp_le (tgt := 43) hx hb dX3_worstTowers_35 (by decide) (fun _ => ?_) (fun h => absurd (by decide) h)
  refine lv_iload_n hx hb dX3_worstTowers_43 rfl (lv_at hl 3 rfl) ?_
  refine lv_iload hx hb dX3_worstTowers_44 (lv_at hl 0 rfl) ?_
  refine lv_iload_n hx hb dX3_worstTowers_46 rfl (lv_at hl 4 rfl) ?_
  refine lv_icmp_ne (tgt := 54) hx hb dX3_worstTowers_47 (by decide) (fun h => absurd (by decide) h) (fun _ => ?_)
  refine lv_iconst (v := 1) hx hb dX3_worstTowers_50 (by decide) ?_
  refine lv_goto (tgt := 55) hx hb dX3_worstTowers_51 (by decide) ?_
  refine kz_ki (wc := []) (wr := [(q_5, .inl (ty 0, 1, .inl (upd (fun _ => 0) 0 0))), (x_paper_barred, .inl (ty 0, 504, .inl (kz_fl (fun _ => 0) 504 0))), (x_paper_measuredBarred, .inl (ty 0, 504, .inl (va_cpy (kz_fl (fun _ => 0) 504 0) (fun _ => 0) 0 0 504))), (q_3, .inl (ty 0, 1, .inl (upd (kz_fl (fun _ => 0) 1 (-1)) 0 0))), (x_paper, .inr (3, [.ref x_paper_ranks, .ref x_paper_digits, .ref x_paper_barred, .ref x_paper_pays, .ref x_paper_measuredBarred, .ref x_paper_buckets, .ref q_7, .ref q_8, .ref q_9, .ref q_3, .ref q_4, .ref q_5, .ref q_6, .int 0, .int 1, .int 0, .int 0, .int 0, .int 0, .int 0]))]) (va_runSN (As := [.int 1]) (rest := [.int 0]) ⟨hx, hb, hml, hown, hts⟩ (kcX9_bit l D ty eo _ 1) ⟨va_cnB 1 hts gX3_worstTowers_X9_bit_n133 rfl rfl rfl (hN.1 _ (by decide +kernel : (.methodLinkNest "TurnedFloors$Paper" 133 yX9_bit "TurnedFloors" : Cond) ∈ kzN1)) (hts (.initialized RX9) (by decide +kernel)) (by decide +kernel) ⟨Nat.le_of_ble_eq_true rfl, Nat.le_of_ble_eq_true rfl⟩, hts (.static yX9_bit) (by decide +kernel), trivial⟩ (kz_preS hK hN hE hP hD hS hA [] (by decide) rfl) rfl rfl hl.1 rfl (lv_room (Nat.le_of_ble_eq_true rfl)) dX3_worstTowers_55 ⟨Nat.le_of_ble_eq_true rfl, Nat.le_of_ble_eq_true rfl⟩) hP hD hS hA [] [0, 1, 2, 3, 4] rfl rfl (by decide) (by decide) (fun r u H locs hw hp hd hs => ?_)
  rcases hw with ⟨c_1, rfl, rfl⟩ | ⟨c_2, rfl, rfl⟩
  · exact absurd c_1 (by decide)
  · refine kz_re (w2 := [(q_5, .inl (ty 0, 1, .inl (upd (fun _ => 0) 0 0))), (x_paper_barred, .inl (ty 0, 504, .inl (kz_fl (fun _ => 0) 504 0))), (x_paper_measuredBarred, .inl (ty 0, 504, .inl (va_cpy (kz_fl (fun _ => 0) 504 0) (fun _ => 0) 0 0 504))), (q_3, .inl (ty 0, 1, .inl (upd (kz_fl (fun _ => 0) 1 (-1)) 0 0))), (x_paper, .inr (3, [.ref x_paper_ranks, .ref x_paper_digits, .ref x_paper_barred, .ref x_paper_pays, .ref x_paper_measuredBarred, .ref x_paper_buckets, .ref q_7, .ref q_8, .ref q_9, .ref q_3, .ref q_4, .ref q_5, .ref q_6, .int 0, .int 1, .int 0, .int 0, .int 0, .int 0, .int 0]))]) hp hd hs rfl ?_
    clear hp hd hs hP hD hS
    intro hP hD hS
    refine lv_iadd hx hb dX3_worstTowers_58 ?_
    refine kz_topi 1 (by first | rfl | decide +kernel) ?_
    refine lv_istore_n (lv' := [(3, .int 1), (6, .int 0), (5, .int 0), (4, .int 0), (2, .int 0), (0, .ref x_paper), (1, .int a1)]) hx hb dX3_worstTowers_59 rfl hl (by decide) rfl (fun ls hl => ?_)
    refine lv_iload hx hb dX3_worstTowers_60 (lv_at hl 3 rfl) ?_
    refine lv_iload hx hb dX3_worstTowers_62 (lv_at hl 1 rfl) ?_
    refine lv_iconst (v := (-1)) hx hb dX3_worstTowers_64 (by decide) ?_
    refine lv_icmp_eq (tgt := 72) hx hb dX3_worstTowers_65 (by decide) (fun h => absurd h (by decide)) (fun _ => ?_)
    refine lv_iconst (v := 1) hx hb dX3_worstTowers_68 (by decide) ?_
    refine lv_goto (tgt := 73) hx hb dX3_worstTowers_69 (by decide) ?_
    refine kz_ki (wc := []) (wr := [(q_5, .inl (ty 0, 1, .inl (upd (fun _ => 0) 0 0))), (x_paper_barred, .inl (ty 0, 504, .inl (kz_fl (fun _ => 0) 504 0))), (x_paper_measuredBarred, .inl (ty 0, 504, .inl (va_cpy (kz_fl (fun _ => 0) 504 0) (fun _ => 0) 0 0 504))), (q_3, .inl (ty 0, 1, .inl (upd (kz_fl (fun _ => 0) 1 (-1)) 0 0))), (x_paper, .inr (3, [.ref x_paper_ranks, .ref x_paper_digits, .ref x_paper_barred, .ref x_paper_pays, .ref x_paper_measuredBarred, .ref x_paper_buckets, .ref q_7, .ref q_8, .ref q_9, .ref q_3, .ref q_4, .ref q_5, .ref q_6, .int 0, .int 1, .int 0, .int 0, .int 0, .int 0, .int 0]))]) (va_runSN (As := [.int 1]) (rest := [.int 0]) ⟨hx, hb, hml, hown, hts⟩ (kcX9_bit l D ty eo _ 1) ⟨va_cnB 1 hts gX3_worstTowers_X9_bit_n133 rfl rfl rfl (hN.1 _ (by decide +kernel : (.methodLinkNest "TurnedFloors$Paper" 133 yX9_bit "TurnedFloors" : Cond) ∈ kzN1)) (hts (.initialized RX9) (by decide +kernel)) (by decide +kernel) ⟨Nat.le_of_ble_eq_true rfl, Nat.le_of_ble_eq_true rfl⟩, hts (.static yX9_bit) (by decide +kernel), trivial⟩ (kz_preS hK hN hE hP hD hS hA [] (by decide) rfl) rfl rfl hl.1 rfl (lv_room (Nat.le_of_ble_eq_true rfl)) dX3_worstTowers_73 ⟨Nat.le_of_ble_eq_true rfl, Nat.le_of_ble_eq_true rfl⟩) hP hD hS hA [] [0, 1, 2, 3, 4] rfl rfl (by decide) (by decide) (fun r u H locs hw hp hd hs => ?_)
    rcases hw with ⟨c_3, rfl, rfl⟩ | ⟨c_4, rfl, rfl⟩
    · exact absurd c_3 (by decide)
    · refine kz_re (w2 := [(q_5, .inl (ty 0, 1, .inl (upd (fun _ => 0) 0 0))), (x_paper_barred, .inl (ty 0, 504, .inl (kz_fl (fun _ => 0) 504 0))), (x_paper_measuredBarred, .inl (ty 0, 504, .inl (va_cpy (kz_fl (fun _ => 0) 504 0) (fun _ => 0) 0 0 504))), (q_3, .inl (ty 0, 1, .inl (upd (kz_fl (fun _ => 0) 1 (-1)) 0 0))), (x_paper, .inr (3, [.ref x_paper_ranks, .ref x_paper_digits, .ref x_paper_barred, .ref x_paper_pays, .ref x_paper_measuredBarred, .ref x_paper_buckets, .ref q_7, .ref q_8, .ref q_9, .ref q_3, .ref q_4, .ref q_5, .ref q_6, .int 0, .int 1, .int 0, .int 0, .int 0, .int 0, .int 0]))]) hp hd hs rfl ?_
      clear hp hd hs hP hD hS
      intro hP hD hS
      refine lv_iadd hx hb dX3_worstTowers_76 ?_
      refine kz_topi 1 (by first | rfl | decide +kernel) ?_
      refine lv_istore (lv' := [(4, .int 1), (3, .int 1), (6, .int 0), (5, .int 0), (2, .int 0), (0, .ref x_paper), (1, .int a1)]) hx hb dX3_worstTowers_77 hl (by decide) rfl (fun ls hl => ?_)
      refine lv_iinc (v := 1) (lv' := [(5, .int 1), (4, .int 1), (3, .int 1), (6, .int 0), (2, .int 0), (0, .ref x_paper), (1, .int a1)]) hx hb dX3_worstTowers_79 hl (k := 3) rfl (by decide) (by decide) rfl (fun ls hl => ?_)
      refine lv_goto (tgt := 14) hx hb dX3_worstTowers_82 (by decide) ?_
      refine lv_iload hx hb dX3_worstTowers_14 (lv_at hl 0 rfl) ?_
      refine lv_aload_n hx hb dX3_worstTowers_16 rfl (lv_at hl 5 rfl) ?_
      refine va_get (D := D) (ci := 3) (v := .int 1) (C := RX3) (T := TX3) (N := 20) hx hb hts (by decide +kernel) hown hK hP 4 rfl rfl 14 (by decide) (hts (.fieldLink RX3 55 "TurnedFloors$Paper" "size" "I") (by decide +kernel)) (fun _ h9 => h9) rfl dX3_worstTowers_17 ?_
      refine lv_icmp_ge (tgt := 85) hx hb dX3_worstTowers_20 (by decide) (fun _ => ?_) (fun h => absurd (by decide) h)
      refine lv_iload_n hx hb dX3_worstTowers_85 rfl (lv_at hl 6 rfl) ?_
      refine lv_if_ne (tgt := 91) hx hb dX3_worstTowers_86 (by decide) (fun c_5 => ?_) (fun c_5 => ?_)
      · refine lv_iload_n hx hb dX3_worstTowers_91 rfl (lv_at hl 6 rfl) ?_
        refine lv_iconst (v := 1) hx hb dX3_worstTowers_92 (by decide) ?_
        refine lv_icmp_ne (tgt := 100) hx hb dX3_worstTowers_93 (by decide) (fun c_6 => ?_) (fun c_6 => ?_)
        · refine lv_iload hx hb dX3_worstTowers_100 (lv_at hl 1 rfl) ?_
          exact kz_iret hx hb hr hlocks hP hK hD hS dX3_worstTowers_102 (Or.inl ⟨c_5, c_6, rfl, rfl⟩)
        · refine lv_iload_n hx hb dX3_worstTowers_96 rfl (lv_at hl 2 rfl) ?_
          refine lv_goto (tgt := 102) hx hb dX3_worstTowers_97 (by decide) ?_
          exact kz_iret hx hb hr hlocks hP hK hD hS dX3_worstTowers_102 (Or.inr (Or.inl ⟨c_5, c_6, rfl, rfl⟩))
      · refine lv_iload_n hx hb dX3_worstTowers_89 rfl (lv_at hl 4 rfl) ?_
        exact kz_iret hx hb hr hlocks hP hK hD hS dX3_worstTowers_90 (Or.inr (Or.inr ⟨c_5, rfl, rfl⟩))

set_option maxHeartbeats 4000000 in
set_option maxRecDepth 100000 in
theorem fX9_worst (l : Launch) (D : va_G) (ty : Nat → ClassId) (eo : Nat → Nat) (sz : Nat) (x : Nat) (p1 : Int32) (x_state x_images x_kept x_history x_drawnTower x_machine x_judge x_runner x_reader x_draft x_paper x_tape x_chances x_refusals x_state_tower x_state_seenPlace x_state_seenRank x_state_laws x_judge_words x_state_tower_rank x_state_tower_head x_paper_ranks x_paper_digits x_paper_barred x_paper_pays x_paper_measuredBarred x_paper_buckets x_paper_orders x_paper_turnedOrders x_paper_turnedHeads x_paper_toOrder x_paper_marks x_paper_line x_paper_links : Nat) : Met l yX9_worst wsX9_worst ({ frames := 6, cells := 7, slots := 17, locals := 138 }) (va_Pc [.ref x, .int p1] (kz_pre D ty eo [(x, .inr (9, [.ref x_state, .ref x_images, .ref x_kept, .ref x_history, .ref x_drawnTower, .ref x_machine, .ref x_judge, .ref x_runner, .ref x_reader, .ref x_draft, .ref x_paper, .ref x_tape, .int 0, .int (-1), .int 0, .int (-1), .ref x_chances, .ref x_refusals, .int 0])), (x_state, .inr (6, [.ref x_state_tower, .int 1, .int 0, .int 0, .ref x_state_seenPlace, .ref x_state_seenRank, .int 0, .ref x_state_laws, .int 0, .int (-1)])), (x_judge, .inr (1, [.ref x_machine, .ref x_judge_words, .null])), (x_judge_words, .inl (ty 0, 9, .inl (fun _ => 0))), (x_state_tower, .inr (8, [.ref x_state_tower_rank, .ref x_state_tower_head, .int 0, .int 0, .int 0])), (x_paper, .inr (3, [.ref x_paper_ranks, .ref x_paper_digits, .ref x_paper_barred, .ref x_paper_pays, .ref x_paper_measuredBarred, .ref x_paper_buckets, .ref x_paper_orders, .ref x_paper_turnedOrders, .ref x_paper_turnedHeads, .ref x_paper_toOrder, .ref x_paper_marks, .ref x_paper_line, .ref x_paper_links, .int 0, .int 0, .int 0, .int 0, .int (-1), .int (-1), .int 0])), (x_paper_toOrder, .inl (ty 0, 0, .inl (fun _ => 0))), (x_paper_digits, .inl (ty 0, 6, .inl (fun _ => 0))), (x_paper_barred, .inl (ty 0, 504, .inl (fun _ => 0))), (x_paper_measuredBarred, .inl (ty 0, 504, .inl (fun _ => 0)))] sz)) (va_Qi (fun (r : Int32) (u : va_W) => (p1 < 0 ∧ (-1) = r ∧ [(x, .inr (9, [.ref x_state, .ref x_images, .ref x_kept, .ref x_history, .ref x_drawnTower, .ref x_machine, .ref x_judge, .ref x_runner, .ref x_reader, .ref x_draft, .ref x_paper, .ref x_tape, .int 0, .int (-1), .int 0, .int (-1), .ref x_chances, .ref x_refusals, .int 0])), (x_state, .inr (6, [.ref x_state_tower, .int 1, .int 0, .int 0, .ref x_state_seenPlace, .ref x_state_seenRank, .int 0, .ref x_state_laws, .int 0, .int (-1)])), (x_judge, .inr (1, [.ref x_machine, .ref x_judge_words, .null])), (x_judge_words, .inl (ty 0, 9, .inl (fun _ => 0))), (x_state_tower, .inr (8, [.ref x_state_tower_rank, .ref x_state_tower_head, .int 0, .int 0, .int 0])), (x_paper, .inr (3, [.ref x_paper_ranks, .ref x_paper_digits, .ref x_paper_barred, .ref x_paper_pays, .ref x_paper_measuredBarred, .ref x_paper_buckets, .ref x_paper_orders, .ref x_paper_turnedOrders, .ref x_paper_turnedHeads, .ref x_paper_toOrder, .ref x_paper_marks, .ref x_paper_line, .ref x_paper_links, .int 0, .int 0, .int 0, .int 0, .int (-1), .int (-1), .int 0])), (x_paper_toOrder, .inl (ty 0, 0, .inl (fun _ => 0))), (x_paper_digits, .inl (ty 0, 6, .inl (fun _ => 0))), (x_paper_barred, .inl (ty 0, 504, .inl (fun _ => 0))), (x_paper_measuredBarred, .inl (ty 0, 504, .inl (fun _ => 0)))] = u) ∨ (∃ q_3 q_4 q_5 q_6 q_7 q_8 q_9 : Nat, ¬ p1 < 0 ∧ p1 ≤ 2 ∧ ¬ p1 = 0 ∧ ¬ p1 = 1 ∧ 1 = r ∧ [(x, .inr (9, [.ref x_state, .ref x_images, .ref x_kept, .ref x_history, .ref x_drawnTower, .ref x_machine, .ref x_judge, .ref x_runner, .ref x_reader, .ref x_draft, .ref x_paper, .ref x_tape, .int 0, .int (-1), .int 0, .int (-1), .ref x_chances, .ref x_refusals, .int 0])), (x_state, .inr (6, [.ref x_state_tower, .int 1, .int 0, .int 0, .ref x_state_seenPlace, .ref x_state_seenRank, .int 0, .ref x_state_laws, .int 0, .int (-1)])), (x_paper_toOrder, .inl (ty 0, 0, .inl (fun _ => 0))), (q_4, .inl (ty 0, 1, .inl (fun _ => 0))), (q_6, .inl (ty 0, 1, .inl (fun _ => 0))), (q_8, .inl (ty 0, 6, .inl (fun _ => 0))), (q_9, .inl (ty 0, 6, .inl (fun _ => 0))), (q_7, .inl (ty 0, 1, .inl (upd (upd (upd (upd (upd (upd (fun _ => 0) 0 0) 0 8) 0 136) 0 1672) 0 18056) 0 181896))), (x_state_tower, .inr (8, [.ref x_state_tower_rank, .ref x_state_tower_head, .int 0, .int 0, .int 0])), (x_paper_digits, .inl (ty 0, 6, .inl (upd (upd (upd (upd (upd (upd (upd (upd (upd (upd (upd (upd (upd (upd (upd (upd (upd (upd (upd (upd (upd (upd (upd (upd (upd (upd (upd (fun _ => 0) 0 0) 0 0) 1 1) 0 0) 1 1) 2 2) 0 0) 1 1) 2 2) 3 3) 0 0) 1 1) 2 2) 3 3) 4 4) 0 0) 1 1) 2 2) 3 3) 4 4) 5 5) 0 0) 1 1) 2 2) 3 3) 4 4) 5 5))), (x_judge, .inr (1, [.ref x_machine, .ref x_judge_words, .null])), (x_judge_words, .inl (ty 0, 9, .inl (upd (upd (upd (fun _ => 0) 8 0) 4 0) 7 0))), (q_5, .inl (ty 0, 1, .inl (upd (fun _ => 0) 0 0))), (x_paper_barred, .inl (ty 0, 504, .inl (kz_fl (fun _ => 0) 504 0))), (x_paper_measuredBarred, .inl (ty 0, 504, .inl (va_cpy (kz_fl (fun _ => 0) 504 0) (fun _ => 0) 0 0 504))), (q_3, .inl (ty 0, 1, .inl (upd (kz_fl (fun _ => 0) 1 (-1)) 0 0))), (x_paper, .inr (3, [.ref x_paper_ranks, .ref x_paper_digits, .ref x_paper_barred, .ref x_paper_pays, .ref x_paper_measuredBarred, .ref x_paper_buckets, .ref q_7, .ref q_8, .ref q_9, .ref q_3, .ref q_4, .ref q_5, .ref q_6, .int 0, .int 1, .int 0, .int 0, .int 0, .int 0, .int 0]))] = u) ∨ (∃ q_3 q_4 q_5 q_6 q_7 q_8 q_9 : Nat, ¬ p1 < 0 ∧ p1 ≤ 2 ∧ ¬ p1 = 0 ∧ p1 = 1 ∧ 1 = r ∧ [(x, .inr (9, [.ref x_state, .ref x_images, .ref x_kept, .ref x_history, .ref x_drawnTower, .ref x_machine, .ref x_judge, .ref x_runner, .ref x_reader, .ref x_draft, .ref x_paper, .ref x_tape, .int 0, .int (-1), .int 0, .int (-1), .ref x_chances, .ref x_refusals, .int 0])), (x_state, .inr (6, [.ref x_state_tower, .int 1, .int 0, .int 0, .ref x_state_seenPlace, .ref x_state_seenRank, .int 0, .ref x_state_laws, .int 0, .int (-1)])), (x_paper_toOrder, .inl (ty 0, 0, .inl (fun _ => 0))), (q_4, .inl (ty 0, 1, .inl (fun _ => 0))), (q_6, .inl (ty 0, 1, .inl (fun _ => 0))), (q_8, .inl (ty 0, 6, .inl (fun _ => 0))), (q_9, .inl (ty 0, 6, .inl (fun _ => 0))), (q_7, .inl (ty 0, 1, .inl (upd (upd (upd (upd (upd (upd (fun _ => 0) 0 0) 0 8) 0 136) 0 1672) 0 18056) 0 181896))), (x_state_tower, .inr (8, [.ref x_state_tower_rank, .ref x_state_tower_head, .int 0, .int 0, .int 0])), (x_paper_digits, .inl (ty 0, 6, .inl (upd (upd (upd (upd (upd (upd (upd (upd (upd (upd (upd (upd (upd (upd (upd (upd (upd (upd (upd (upd (upd (upd (upd (upd (upd (upd (upd (fun _ => 0) 0 0) 0 0) 1 1) 0 0) 1 1) 2 2) 0 0) 1 1) 2 2) 3 3) 0 0) 1 1) 2 2) 3 3) 4 4) 0 0) 1 1) 2 2) 3 3) 4 4) 5 5) 0 0) 1 1) 2 2) 3 3) 4 4) 5 5))), (x_judge, .inr (1, [.ref x_machine, .ref x_judge_words, .null])), (x_judge_words, .inl (ty 0, 9, .inl (upd (upd (upd (fun _ => 0) 8 0) 4 0) 7 0))), (q_5, .inl (ty 0, 1, .inl (upd (fun _ => 0) 0 0))), (x_paper_barred, .inl (ty 0, 504, .inl (kz_fl (fun _ => 0) 504 0))), (x_paper_measuredBarred, .inl (ty 0, 504, .inl (va_cpy (kz_fl (fun _ => 0) 504 0) (fun _ => 0) 0 0 504))), (q_3, .inl (ty 0, 1, .inl (upd (kz_fl (fun _ => 0) 1 (-1)) 0 0))), (x_paper, .inr (3, [.ref x_paper_ranks, .ref x_paper_digits, .ref x_paper_barred, .ref x_paper_pays, .ref x_paper_measuredBarred, .ref x_paper_buckets, .ref q_7, .ref q_8, .ref q_9, .ref q_3, .ref q_4, .ref q_5, .ref q_6, .int 0, .int 1, .int 0, .int 0, .int 0, .int 0, .int 0]))] = u) ∨ (∃ q_3 q_4 q_5 q_6 q_7 q_8 q_9 : Nat, ¬ p1 < 0 ∧ p1 ≤ 2 ∧ p1 = 0 ∧ 0 = r ∧ [(x, .inr (9, [.ref x_state, .ref x_images, .ref x_kept, .ref x_history, .ref x_drawnTower, .ref x_machine, .ref x_judge, .ref x_runner, .ref x_reader, .ref x_draft, .ref x_paper, .ref x_tape, .int 0, .int (-1), .int 0, .int (-1), .ref x_chances, .ref x_refusals, .int 0])), (x_state, .inr (6, [.ref x_state_tower, .int 1, .int 0, .int 0, .ref x_state_seenPlace, .ref x_state_seenRank, .int 0, .ref x_state_laws, .int 0, .int (-1)])), (x_paper_toOrder, .inl (ty 0, 0, .inl (fun _ => 0))), (q_4, .inl (ty 0, 1, .inl (fun _ => 0))), (q_6, .inl (ty 0, 1, .inl (fun _ => 0))), (q_8, .inl (ty 0, 6, .inl (fun _ => 0))), (q_9, .inl (ty 0, 6, .inl (fun _ => 0))), (q_7, .inl (ty 0, 1, .inl (upd (upd (upd (upd (upd (upd (fun _ => 0) 0 0) 0 8) 0 136) 0 1672) 0 18056) 0 181896))), (x_state_tower, .inr (8, [.ref x_state_tower_rank, .ref x_state_tower_head, .int 0, .int 0, .int 0])), (x_paper_digits, .inl (ty 0, 6, .inl (upd (upd (upd (upd (upd (upd (upd (upd (upd (upd (upd (upd (upd (upd (upd (upd (upd (upd (upd (upd (upd (upd (upd (upd (upd (upd (upd (fun _ => 0) 0 0) 0 0) 1 1) 0 0) 1 1) 2 2) 0 0) 1 1) 2 2) 3 3) 0 0) 1 1) 2 2) 3 3) 4 4) 0 0) 1 1) 2 2) 3 3) 4 4) 5 5) 0 0) 1 1) 2 2) 3 3) 4 4) 5 5))), (x_judge, .inr (1, [.ref x_machine, .ref x_judge_words, .null])), (x_judge_words, .inl (ty 0, 9, .inl (upd (upd (upd (fun _ => 0) 8 0) 4 0) 7 0))), (q_5, .inl (ty 0, 1, .inl (upd (fun _ => 0) 0 0))), (x_paper_barred, .inl (ty 0, 504, .inl (kz_fl (fun _ => 0) 504 0))), (x_paper_measuredBarred, .inl (ty 0, 504, .inl (va_cpy (kz_fl (fun _ => 0) 504 0) (fun _ => 0) 0 0 504))), (q_3, .inl (ty 0, 1, .inl (upd (kz_fl (fun _ => 0) 1 (-1)) 0 0))), (x_paper, .inr (3, [.ref x_paper_ranks, .ref x_paper_digits, .ref x_paper_barred, .ref x_paper_pays, .ref x_paper_measuredBarred, .ref x_paper_buckets, .ref q_7, .ref q_8, .ref q_9, .ref q_3, .ref q_4, .ref q_5, .ref q_6, .int 0, .int 1, .int 0, .int 0, .int 0, .int 0, .int 0]))] = u) ∨ (¬ p1 < 0 ∧ ¬ p1 ≤ 2 ∧ (-1) = r ∧ [(x, .inr (9, [.ref x_state, .ref x_images, .ref x_kept, .ref x_history, .ref x_drawnTower, .ref x_machine, .ref x_judge, .ref x_runner, .ref x_reader, .ref x_draft, .ref x_paper, .ref x_tape, .int 0, .int (-1), .int 0, .int (-1), .ref x_chances, .ref x_refusals, .int 0])), (x_state, .inr (6, [.ref x_state_tower, .int 1, .int 0, .int 0, .ref x_state_seenPlace, .ref x_state_seenRank, .int 0, .ref x_state_laws, .int 0, .int (-1)])), (x_judge, .inr (1, [.ref x_machine, .ref x_judge_words, .null])), (x_judge_words, .inl (ty 0, 9, .inl (fun _ => 0))), (x_state_tower, .inr (8, [.ref x_state_tower_rank, .ref x_state_tower_head, .int 0, .int 0, .int 0])), (x_paper, .inr (3, [.ref x_paper_ranks, .ref x_paper_digits, .ref x_paper_barred, .ref x_paper_pays, .ref x_paper_measuredBarred, .ref x_paper_buckets, .ref x_paper_orders, .ref x_paper_turnedOrders, .ref x_paper_turnedHeads, .ref x_paper_toOrder, .ref x_paper_marks, .ref x_paper_line, .ref x_paper_links, .int 0, .int 0, .int 0, .int 0, .int (-1), .int (-1), .int 0])), (x_paper_toOrder, .inl (ty 0, 0, .inl (fun _ => 0))), (x_paper_digits, .inl (ty 0, 6, .inl (fun _ => 0))), (x_paper_barred, .inl (ty 0, 504, .inl (fun _ => 0))), (x_paper_measuredBarred, .inl (ty 0, 504, .inl (fun _ => 0)))] = u)) (kz_B D ty (va_A [(x, .inr (9, [.ref x_state, .ref x_images, .ref x_kept, .ref x_history, .ref x_drawnTower, .ref x_machine, .ref x_judge, .ref x_runner, .ref x_reader, .ref x_draft, .ref x_paper, .ref x_tape, .int 0, .int (-1), .int 0, .int (-1), .ref x_chances, .ref x_refusals, .int 0])), (x_state, .inr (6, [.ref x_state_tower, .int 1, .int 0, .int 0, .ref x_state_seenPlace, .ref x_state_seenRank, .int 0, .ref x_state_laws, .int 0, .int (-1)])), (x_judge, .inr (1, [.ref x_machine, .ref x_judge_words, .null])), (x_judge_words, .inl (ty 0, 9, .inl (fun _ => 0))), (x_state_tower, .inr (8, [.ref x_state_tower_rank, .ref x_state_tower_head, .int 0, .int 0, .int 0])), (x_paper, .inr (3, [.ref x_paper_ranks, .ref x_paper_digits, .ref x_paper_barred, .ref x_paper_pays, .ref x_paper_measuredBarred, .ref x_paper_buckets, .ref x_paper_orders, .ref x_paper_turnedOrders, .ref x_paper_turnedHeads, .ref x_paper_toOrder, .ref x_paper_marks, .ref x_paper_line, .ref x_paper_links, .int 0, .int 0, .int 0, .int 0, .int (-1), .int (-1), .int 0])), (x_paper_toOrder, .inl (ty 0, 0, .inl (fun _ => 0))), (x_paper_digits, .inl (ty 0, 6, .inl (fun _ => 0))), (x_paper_barred, .inl (ty 0, 504, .inl (fun _ => 0))), (x_paper_measuredBarred, .inl (ty 0, 504, .inl (fun _ => 0)))] sz)) (va_A [(x, .inr (9, [.ref x_state, .ref x_images, .ref x_kept, .ref x_history, .ref x_drawnTower, .ref x_machine, .ref x_judge, .ref x_runner, .ref x_reader, .ref x_draft, .ref x_paper, .ref x_tape, .int 0, .int (-1), .int 0, .int (-1), .ref x_chances, .ref x_refusals, .int 0])), (x_state, .inr (6, [.ref x_state_tower, .int 1, .int 0, .int 0, .ref x_state_seenPlace, .ref x_state_seenRank, .int 0, .ref x_state_laws, .int 0, .int (-1)])), (x_judge, .inr (1, [.ref x_machine, .ref x_judge_words, .null])), (x_judge_words, .inl (ty 0, 9, .inl (fun _ => 0))), (x_state_tower, .inr (8, [.ref x_state_tower_rank, .ref x_state_tower_head, .int 0, .int 0, .int 0])), (x_paper, .inr (3, [.ref x_paper_ranks, .ref x_paper_digits, .ref x_paper_barred, .ref x_paper_pays, .ref x_paper_measuredBarred, .ref x_paper_buckets, .ref x_paper_orders, .ref x_paper_turnedOrders, .ref x_paper_turnedHeads, .ref x_paper_toOrder, .ref x_paper_marks, .ref x_paper_line, .ref x_paper_links, .int 0, .int 0, .int 0, .int 0, .int (-1), .int (-1), .int 0])), (x_paper_toOrder, .inl (ty 0, 0, .inl (fun _ => 0))), (x_paper_digits, .inl (ty 0, 6, .inl (fun _ => 0))), (x_paper_barred, .inl (ty 0, 504, .inl (fun _ => 0))), (x_paper_measuredBarred, .inl (ty 0, 504, .inl (fun _ => 0)))] sz)) 7 17 (va_A [(x, .inr (9, [.ref x_state, .ref x_images, .ref x_kept, .ref x_history, .ref x_drawnTower, .ref x_machine, .ref x_judge, .ref x_runner, .ref x_reader, .ref x_draft, .ref x_paper, .ref x_tape, .int 0, .int (-1), .int 0, .int (-1), .ref x_chances, .ref x_refusals, .int 0])), (x_state, .inr (6, [.ref x_state_tower, .int 1, .int 0, .int 0, .ref x_state_seenPlace, .ref x_state_seenRank, .int 0, .ref x_state_laws, .int 0, .int (-1)])), (x_judge, .inr (1, [.ref x_machine, .ref x_judge_words, .null])), (x_judge_words, .inl (ty 0, 9, .inl (fun _ => 0))), (x_state_tower, .inr (8, [.ref x_state_tower_rank, .ref x_state_tower_head, .int 0, .int 0, .int 0])), (x_paper, .inr (3, [.ref x_paper_ranks, .ref x_paper_digits, .ref x_paper_barred, .ref x_paper_pays, .ref x_paper_measuredBarred, .ref x_paper_buckets, .ref x_paper_orders, .ref x_paper_turnedOrders, .ref x_paper_turnedHeads, .ref x_paper_toOrder, .ref x_paper_marks, .ref x_paper_line, .ref x_paper_links, .int 0, .int 0, .int 0, .int 0, .int (-1), .int (-1), .int 0])), (x_paper_toOrder, .inl (ty 0, 0, .inl (fun _ => 0))), (x_paper_digits, .inl (ty 0, 6, .inl (fun _ => 0))), (x_paper_barred, .inl (ty 0, 504, .inl (fun _ => 0))), (x_paper_measuredBarred, .inl (ty 0, 504, .inl (fun _ => 0)))] sz) := by
  refine Met.ofW (cc := cX9_worst) (maxL := 2) (ret := (some .int)) (by decide) rfl ?_
  intro p e s m args below meth c s₁ B hml hv
  obtain ⟨rfl, hsz, hP, hK, hD0, hN, hE⟩ := hv
  have hx := B.exec
  have hb := B.bytes
  have hr := B.returns
  have hts := atoms_spec (ws := wsX9_worst) B.pre
  have hown : s.vm.findClass RX9 = some m.cls := findClass_of_methodNamed B.named
  have hlocks := B.notSynchronized
  subst hsz
  have hD := hD0.self (sz := s.heap.size)
  generalize hAe : va_A [(x, .inr (9, [.ref x_state, .ref x_images, .ref x_kept, .ref x_history, .ref x_drawnTower, .ref x_machine, .ref x_judge, .ref x_runner, .ref x_reader, .ref x_draft, .ref x_paper, .ref x_tape, .int 0, .int (-1), .int 0, .int (-1), .ref x_chances, .ref x_refusals, .int 0])), (x_state, .inr (6, [.ref x_state_tower, .int 1, .int 0, .int 0, .ref x_state_seenPlace, .ref x_state_seenRank, .int 0, .ref x_state_laws, .int 0, .int (-1)])), (x_judge, .inr (1, [.ref x_machine, .ref x_judge_words, .null])), (x_judge_words, .inl (ty 0, 9, .inl (fun _ => 0))), (x_state_tower, .inr (8, [.ref x_state_tower_rank, .ref x_state_tower_head, .int 0, .int 0, .int 0])), (x_paper, .inr (3, [.ref x_paper_ranks, .ref x_paper_digits, .ref x_paper_barred, .ref x_paper_pays, .ref x_paper_measuredBarred, .ref x_paper_buckets, .ref x_paper_orders, .ref x_paper_turnedOrders, .ref x_paper_turnedHeads, .ref x_paper_toOrder, .ref x_paper_marks, .ref x_paper_line, .ref x_paper_links, .int 0, .int 0, .int 0, .int 0, .int (-1), .int (-1), .int 0])), (x_paper_toOrder, .inl (ty 0, 0, .inl (fun _ => 0))), (x_paper_digits, .inl (ty 0, 6, .inl (fun _ => 0))), (x_paper_barred, .inl (ty 0, 504, .inl (fun _ => 0))), (x_paper_measuredBarred, .inl (ty 0, 504, .inl (fun _ => 0)))] s.heap.size = A at hD hE ⊢
  have hA : ∀ q : Nat, s.heap.size ≤ q → A q := fun q h => by rw [← hAe]; exact Or.inr h
  have hS : va_S A s.heap s.heap [] := va_S.rf
  have hl := lv_entry ([.ref x, .int p1]) (n := 2) (Nat.le_of_ble_eq_true rfl)
  rw [lg_entry_eq]
  generalize (lg_sl ([.ref x, .int p1]) ++ List.replicate (2 - (lg_sl ([.ref x, .int p1])).length) Slot.unset).toArray = ls at hl ⊢
  have hl : lv_has ls 2 [(0, .ref x), (1, .int p1)] := hl
  refine lv_iload_n hx hb dX9_worst_0 rfl (lv_at hl 1 rfl) ?_
  refine lv_if_lt (tgt := 9) hx hb dX9_worst_1 (by decide) (fun c_1 => ?_) (fun c_1 => ?_)
  · refine lv_iconst (v := (-1)) hx hb dX9_worst_9 (by decide) ?_
    refine W.widen (k := 7) (n := 17) (Nat.le_of_ble_eq_true rfl) (Nat.le_of_ble_eq_true rfl) ?_
    exact kz_iret hx hb hr hlocks hP hK hD hS dX9_worst_10 (Or.inl ⟨c_1, rfl, rfl⟩)
  · refine lv_iload_n hx hb dX9_worst_4 rfl (lv_at hl 1 rfl) ?_
    refine lv_iconst (v := 2) hx hb dX9_worst_5 (by decide) ?_
    refine lv_icmp_le (tgt := 11) hx hb dX9_worst_6 (by decide) (fun c_2 => ?_) (fun c_2 => ?_)
    · refine lv_aload_n hx hb dX9_worst_11 rfl (lv_at hl 0 rfl) ?_
      refine lv_aload_n hx hb dX9_worst_12 rfl (lv_at hl 0 rfl) ?_
      refine kz_kq (wc := [(x, .inr (9, [.ref x_state, .ref x_images, .ref x_kept, .ref x_history, .ref x_drawnTower, .ref x_machine, .ref x_judge, .ref x_runner, .ref x_reader, .ref x_draft, .ref x_paper, .ref x_tape, .int 0, .int (-1), .int 0, .int (-1), .ref x_chances, .ref x_refusals, .int 0])), (x_state, .inr (6, [.ref x_state_tower, .int 1, .int 0, .int 0, .ref x_state_seenPlace, .ref x_state_seenRank, .int 0, .ref x_state_laws, .int 0, .int (-1)])), (x_judge, .inr (1, [.ref x_machine, .ref x_judge_words, .null])), (x_judge_words, .inl (ty 0, 9, .inl (fun _ => 0)))]) (wr := [(x_state_tower, .inr (8, [.ref x_state_tower_rank, .ref x_state_tower_head, .int 0, .int 0, .int 0])), (x_paper, .inr (3, [.ref x_paper_ranks, .ref x_paper_digits, .ref x_paper_barred, .ref x_paper_pays, .ref x_paper_measuredBarred, .ref x_paper_buckets, .ref x_paper_orders, .ref x_paper_turnedOrders, .ref x_paper_turnedHeads, .ref x_paper_toOrder, .ref x_paper_marks, .ref x_paper_line, .ref x_paper_links, .int 0, .int 0, .int 0, .int 0, .int (-1), .int (-1), .int 0])), (x_paper_toOrder, .inl (ty 0, 0, .inl (fun _ => 0))), (x_paper_digits, .inl (ty 0, 6, .inl (fun _ => 0))), (x_paper_barred, .inl (ty 0, 504, .inl (fun _ => 0))), (x_paper_measuredBarred, .inl (ty 0, 504, .inl (fun _ => 0)))]) (va_runV (As := []) (rest := [.ref x]) ⟨hx, hb, hml, hown, hts⟩ (kX9_seated_42 l D ty eo _ x x_state x_images x_kept x_history x_drawnTower x_machine x_judge x_runner x_reader x_draft x_paper x_tape x_chances x_refusals x_state_tower x_state_seenPlace x_state_seenRank x_state_laws x_judge_words) (cwV 0 hts gX9_worst_X9_seated rfl rfl rfl (by decide +kernel) ⟨Nat.le_of_ble_eq_true rfl, Nat.le_of_ble_eq_true rfl⟩) (kz_preV (ci := 9) (q0 := 0) hK hN hE hP hD hS hA rfl rfl [0, 1, 2, 3] (by decide) rfl) rfl rfl hl.1 rfl (lv_room (Nat.le_of_ble_eq_true rfl)) dX9_worst_13 ⟨Nat.le_of_ble_eq_true rfl, Nat.le_of_ble_eq_true rfl⟩) hP hD hS hA [0, 1, 2, 3] [4, 5, 6, 7, 8, 9] rfl rfl (by decide) (by decide) (fun r u H locs hw hp hd hs => ?_)
      obtain ⟨rfl, rfl⟩ := hw
      refine kz_re (w2 := [(x_state_tower, .inr (8, [.ref x_state_tower_rank, .ref x_state_tower_head, .int 0, .int 0, .int 0])), (x_paper, .inr (3, [.ref x_paper_ranks, .ref x_paper_digits, .ref x_paper_barred, .ref x_paper_pays, .ref x_paper_measuredBarred, .ref x_paper_buckets, .ref x_paper_orders, .ref x_paper_turnedOrders, .ref x_paper_turnedHeads, .ref x_paper_toOrder, .ref x_paper_marks, .ref x_paper_line, .ref x_paper_links, .int 0, .int 0, .int 0, .int 0, .int (-1), .int (-1), .int 0])), (x_paper_toOrder, .inl (ty 0, 0, .inl (fun _ => 0))), (x_paper_digits, .inl (ty 0, 6, .inl (fun _ => 0))), (x_paper_barred, .inl (ty 0, 504, .inl (fun _ => 0))), (x_paper_measuredBarred, .inl (ty 0, 504, .inl (fun _ => 0))), (x, .inr (9, [.ref x_state, .ref x_images, .ref x_kept, .ref x_history, .ref x_drawnTower, .ref x_machine, .ref x_judge, .ref x_runner, .ref x_reader, .ref x_draft, .ref x_paper, .ref x_tape, .int 0, .int (-1), .int 0, .int (-1), .ref x_chances, .ref x_refusals, .int 0])), (x_state, .inr (6, [.ref x_state_tower, .int 1, .int 0, .int 0, .ref x_state_seenPlace, .ref x_state_seenRank, .int 0, .ref x_state_laws, .int 0, .int (-1)])), (x_judge, .inr (1, [.ref x_machine, .ref x_judge_words, .null])), (x_judge_words, .inl (ty 0, 9, .inl (upd (fun _ => 0) 8 0)))]) hp hd hs rfl ?_
      clear hp hd hs hP hD hS
      intro hP hD hS
      refine kz_kv (wc := [(x, .inr (9, [.ref x_state, .ref x_images, .ref x_kept, .ref x_history, .ref x_drawnTower, .ref x_machine, .ref x_judge, .ref x_runner, .ref x_reader, .ref x_draft, .ref x_paper, .ref x_tape, .int 0, .int (-1), .int 0, .int (-1), .ref x_chances, .ref x_refusals, .int 0])), (x_state, .inr (6, [.ref x_state_tower, .int 1, .int 0, .int 0, .ref x_state_seenPlace, .ref x_state_seenRank, .int 0, .ref x_state_laws, .int 0, .int (-1)])), (x_state_tower, .inr (8, [.ref x_state_tower_rank, .ref x_state_tower_head, .int 0, .int 0, .int 0])), (x_paper, .inr (3, [.ref x_paper_ranks, .ref x_paper_digits, .ref x_paper_barred, .ref x_paper_pays, .ref x_paper_measuredBarred, .ref x_paper_buckets, .ref x_paper_orders, .ref x_paper_turnedOrders, .ref x_paper_turnedHeads, .ref x_paper_toOrder, .ref x_paper_marks, .ref x_paper_line, .ref x_paper_links, .int 0, .int 0, .int 0, .int 0, .int (-1), .int (-1), .int 0])), (x_paper_toOrder, .inl (ty 0, 0, .inl (fun _ => 0))), (x_paper_digits, .inl (ty 0, 6, .inl (fun _ => 0))), (x_paper_barred, .inl (ty 0, 504, .inl (fun _ => 0))), (x_judge, .inr (1, [.ref x_machine, .ref x_judge_words, .null])), (x_judge_words, .inl (ty 0, 9, .inl (upd (fun _ => 0) 8 0)))]) (wr := [(x_paper_measuredBarred, .inl (ty 0, 504, .inl (fun _ => 0)))]) (va_runV (As := [.ref x_judge]) (rest := []) ⟨hx, hb, hml, hown, hts⟩ (kX9_spread_73 l D ty eo _ x x_judge x_state x_images x_kept x_history x_drawnTower x_machine x_runner x_reader x_draft x_paper x_tape x_chances x_refusals x_state_tower x_state_seenPlace x_state_seenRank x_state_laws x_state_tower_rank x_state_tower_head x_paper_ranks x_paper_digits x_paper_barred x_paper_pays x_paper_measuredBarred x_paper_buckets x_paper_orders x_paper_turnedOrders x_paper_turnedHeads x_paper_toOrder x_paper_marks x_paper_line x_paper_links x_judge_words) (cwV 1 hts gX9_worst_X9_spread rfl rfl rfl (by decide +kernel) ⟨Nat.le_of_ble_eq_true rfl, Nat.le_of_ble_eq_true rfl⟩) (kz_preV (ci := 9) (q0 := 6) hK hN hE hP hD hS hA rfl rfl [6, 7, 0, 1, 2, 3, 4, 8, 9] (by decide) rfl) rfl rfl hl.1 rfl (lv_room (Nat.le_of_ble_eq_true rfl)) dX9_worst_16 ⟨Nat.le_of_ble_eq_true rfl, Nat.le_of_ble_eq_true rfl⟩) hP hD hS hA [6, 7, 0, 1, 2, 3, 4, 8, 9] [5] rfl rfl (by decide) (by decide) (fun u H locs hw hp hd hs => ?_)
      obtain ⟨q_3, q_4, q_5, q_6, q_7, q_8, q_9, rfl⟩ := hw
      refine kz_re (w2 := [(x_paper_measuredBarred, .inl (ty 0, 504, .inl (fun _ => 0))), (x, .inr (9, [.ref x_state, .ref x_images, .ref x_kept, .ref x_history, .ref x_drawnTower, .ref x_machine, .ref x_judge, .ref x_runner, .ref x_reader, .ref x_draft, .ref x_paper, .ref x_tape, .int 0, .int (-1), .int 0, .int (-1), .ref x_chances, .ref x_refusals, .int 0])), (x_state, .inr (6, [.ref x_state_tower, .int 1, .int 0, .int 0, .ref x_state_seenPlace, .ref x_state_seenRank, .int 0, .ref x_state_laws, .int 0, .int (-1)])), (x_paper_toOrder, .inl (ty 0, 0, .inl (fun _ => 0))), (q_3, .inl (ty 0, 1, .inl (fun _ => 0))), (q_4, .inl (ty 0, 1, .inl (fun _ => 0))), (q_5, .inl (ty 0, 1, .inl (fun _ => 0))), (q_6, .inl (ty 0, 1, .inl (fun _ => 0))), (q_8, .inl (ty 0, 6, .inl (fun _ => 0))), (q_9, .inl (ty 0, 6, .inl (fun _ => 0))), (q_7, .inl (ty 0, 1, .inl (upd (upd (upd (upd (upd (upd (fun _ => 0) 0 0) 0 8) 0 136) 0 1672) 0 18056) 0 181896))), (x_state_tower, .inr (8, [.ref x_state_tower_rank, .ref x_state_tower_head, .int 0, .int 0, .int 0])), (x_paper_digits, .inl (ty 0, 6, .inl (upd (upd (upd (upd (upd (upd (upd (upd (upd (upd (upd (upd (upd (upd (upd (upd (upd (upd (upd (upd (upd (upd (upd (upd (upd (upd (upd (fun _ => 0) 0 0) 0 0) 1 1) 0 0) 1 1) 2 2) 0 0) 1 1) 2 2) 3 3) 0 0) 1 1) 2 2) 3 3) 4 4) 0 0) 1 1) 2 2) 3 3) 4 4) 5 5) 0 0) 1 1) 2 2) 3 3) 4 4) 5 5))), (x_paper, .inr (3, [.ref x_paper_ranks, .ref x_paper_digits, .ref x_paper_barred, .ref x_paper_pays, .ref x_paper_measuredBarred, .ref x_paper_buckets, .ref q_7, .ref q_8, .ref q_9, .ref q_3, .ref q_4, .ref q_5, .ref q_6, .int 0, .int 1, .int 0, .int 0, .int (-1), .int (-1), .int 0])), (x_paper_barred, .inl (ty 0, 504, .inl (kz_fl (fun _ => 0) 504 0))), (x_judge, .inr (1, [.ref x_machine, .ref x_judge_words, .null])), (x_judge_words, .inl (ty 0, 9, .inl (upd (upd (upd (fun _ => 0) 8 0) 4 0) 7 0)))]) hp hd hs rfl ?_
      clear hp hd hs hP hD hS
      intro hP hD hS
      refine lv_aload_n hx hb dX9_worst_19 rfl (lv_at hl 0 rfl) ?_
      refine va_get (D := D) (ci := 9) (v := .ref x_paper) (C := RX9) (T := TX9) (N := 19) hx hb hts (by decide +kernel) hown hK hP 1 rfl rfl 10 (by decide) (hts (.fieldLink RX9 80 "TurnedFloors" "paper" "LTurnedFloors$Paper;") (by decide +kernel)) (fun _ h9 => h9) rfl dX9_worst_20 ?_
      refine lv_iload_n hx hb dX9_worst_23 rfl (lv_at hl 1 rfl) ?_
      refine kz_ki (wc := [(x_paper, .inr (3, [.ref x_paper_ranks, .ref x_paper_digits, .ref x_paper_barred, .ref x_paper_pays, .ref x_paper_measuredBarred, .ref x_paper_buckets, .ref q_7, .ref q_8, .ref q_9, .ref q_3, .ref q_4, .ref q_5, .ref q_6, .int 0, .int 1, .int 0, .int 0, .int (-1), .int (-1), .int 0])), (q_3, .inl (ty 0, 1, .inl (fun _ => 0))), (q_5, .inl (ty 0, 1, .inl (fun _ => 0))), (x_paper_barred, .inl (ty 0, 504, .inl (kz_fl (fun _ => 0) 504 0))), (x_paper_measuredBarred, .inl (ty 0, 504, .inl (fun _ => 0)))]) (wr := [(x, .inr (9, [.ref x_state, .ref x_images, .ref x_kept, .ref x_history, .ref x_drawnTower, .ref x_machine, .ref x_judge, .ref x_runner, .ref x_reader, .ref x_draft, .ref x_paper, .ref x_tape, .int 0, .int (-1), .int 0, .int (-1), .ref x_chances, .ref x_refusals, .int 0])), (x_state, .inr (6, [.ref x_state_tower, .int 1, .int 0, .int 0, .ref x_state_seenPlace, .ref x_state_seenRank, .int 0, .ref x_state_laws, .int 0, .int (-1)])), (x_paper_toOrder, .inl (ty 0, 0, .inl (fun _ => 0))), (q_4, .inl (ty 0, 1, .inl (fun _ => 0))), (q_6, .inl (ty 0, 1, .inl (fun _ => 0))), (q_8, .inl (ty 0, 6, .inl (fun _ => 0))), (q_9, .inl (ty 0, 6, .inl (fun _ => 0))), (q_7, .inl (ty 0, 1, .inl (upd (upd (upd (upd (upd (upd (fun _ => 0) 0 0) 0 8) 0 136) 0 1672) 0 18056) 0 181896))), (x_state_tower, .inr (8, [.ref x_state_tower_rank, .ref x_state_tower_head, .int 0, .int 0, .int 0])), (x_paper_digits, .inl (ty 0, 6, .inl (upd (upd (upd (upd (upd (upd (upd (upd (upd (upd (upd (upd (upd (upd (upd (upd (upd (upd (upd (upd (upd (upd (upd (upd (upd (upd (upd (fun _ => 0) 0 0) 0 0) 1 1) 0 0) 1 1) 2 2) 0 0) 1 1) 2 2) 3 3) 0 0) 1 1) 2 2) 3 3) 4 4) 0 0) 1 1) 2 2) 3 3) 4 4) 5 5) 0 0) 1 1) 2 2) 3 3) 4 4) 5 5))), (x_judge, .inr (1, [.ref x_machine, .ref x_judge_words, .null])), (x_judge_words, .inl (ty 0, 9, .inl (upd (upd (upd (fun _ => 0) 8 0) 4 0) 7 0)))]) (va_runV (As := [.int p1]) (rest := []) ⟨hx, hb, hml, hown, hts⟩ (kX3_worstTowers_102 l D ty eo _ x_paper p1 x_paper_ranks x_paper_digits x_paper_barred x_paper_pays x_paper_measuredBarred x_paper_buckets q_7 q_8 q_9 q_3 q_4 q_5 q_6 c_1 c_2) (cwV 1 hts gX9_worst_X3_worstTowers rfl rfl rfl (by decide +kernel) ⟨Nat.le_of_ble_eq_true rfl, Nat.le_of_ble_eq_true rfl⟩) (kz_preV (ci := 3) (q0 := 13) hK hN hE hP hD hS hA rfl rfl [13, 4, 6, 14, 0] (by decide) rfl) rfl rfl hl.1 rfl (lv_room (Nat.le_of_ble_eq_true rfl)) dX9_worst_24 ⟨Nat.le_of_ble_eq_true rfl, Nat.le_of_ble_eq_true rfl⟩) hP hD hS hA [13, 4, 6, 14, 0] [1, 2, 3, 5, 7, 8, 9, 10, 11, 12, 15, 16] rfl rfl (by decide) (by decide) (fun r u H locs hw hp hd hs => ?_)
      rcases hw with ⟨c_10, c_11, rfl, rfl⟩ | ⟨c_12, c_13, rfl, rfl⟩ | ⟨c_14, rfl, rfl⟩
      · refine kz_re (w2 := [(x, .inr (9, [.ref x_state, .ref x_images, .ref x_kept, .ref x_history, .ref x_drawnTower, .ref x_machine, .ref x_judge, .ref x_runner, .ref x_reader, .ref x_draft, .ref x_paper, .ref x_tape, .int 0, .int (-1), .int 0, .int (-1), .ref x_chances, .ref x_refusals, .int 0])), (x_state, .inr (6, [.ref x_state_tower, .int 1, .int 0, .int 0, .ref x_state_seenPlace, .ref x_state_seenRank, .int 0, .ref x_state_laws, .int 0, .int (-1)])), (x_paper_toOrder, .inl (ty 0, 0, .inl (fun _ => 0))), (q_4, .inl (ty 0, 1, .inl (fun _ => 0))), (q_6, .inl (ty 0, 1, .inl (fun _ => 0))), (q_8, .inl (ty 0, 6, .inl (fun _ => 0))), (q_9, .inl (ty 0, 6, .inl (fun _ => 0))), (q_7, .inl (ty 0, 1, .inl (upd (upd (upd (upd (upd (upd (fun _ => 0) 0 0) 0 8) 0 136) 0 1672) 0 18056) 0 181896))), (x_state_tower, .inr (8, [.ref x_state_tower_rank, .ref x_state_tower_head, .int 0, .int 0, .int 0])), (x_paper_digits, .inl (ty 0, 6, .inl (upd (upd (upd (upd (upd (upd (upd (upd (upd (upd (upd (upd (upd (upd (upd (upd (upd (upd (upd (upd (upd (upd (upd (upd (upd (upd (upd (fun _ => 0) 0 0) 0 0) 1 1) 0 0) 1 1) 2 2) 0 0) 1 1) 2 2) 3 3) 0 0) 1 1) 2 2) 3 3) 4 4) 0 0) 1 1) 2 2) 3 3) 4 4) 5 5) 0 0) 1 1) 2 2) 3 3) 4 4) 5 5))), (x_judge, .inr (1, [.ref x_machine, .ref x_judge_words, .null])), (x_judge_words, .inl (ty 0, 9, .inl (upd (upd (upd (fun _ => 0) 8 0) 4 0) 7 0))), (q_5, .inl (ty 0, 1, .inl (upd (fun _ => 0) 0 0))), (x_paper_barred, .inl (ty 0, 504, .inl (kz_fl (fun _ => 0) 504 0))), (x_paper_measuredBarred, .inl (ty 0, 504, .inl (va_cpy (kz_fl (fun _ => 0) 504 0) (fun _ => 0) 0 0 504))), (q_3, .inl (ty 0, 1, .inl (upd (kz_fl (fun _ => 0) 1 (-1)) 0 0))), (x_paper, .inr (3, [.ref x_paper_ranks, .ref x_paper_digits, .ref x_paper_barred, .ref x_paper_pays, .ref x_paper_measuredBarred, .ref x_paper_buckets, .ref q_7, .ref q_8, .ref q_9, .ref q_3, .ref q_4, .ref q_5, .ref q_6, .int 0, .int 1, .int 0, .int 0, .int 0, .int 0, .int 0]))]) hp hd hs rfl ?_
        clear hp hd hs hP hD hS
        intro hP hD hS
        refine W.widen (k := 7) (n := 17) (Nat.le_of_ble_eq_true rfl) (Nat.le_of_ble_eq_true rfl) ?_
        exact kz_iret hx hb hr hlocks hP hK hD hS dX9_worst_27 (Or.inr (Or.inl ⟨q_3, q_4, q_5, q_6, q_7, q_8, q_9, c_1, c_2, c_10, c_11, rfl, rfl⟩))
      · refine kz_re (w2 := [(x, .inr (9, [.ref x_state, .ref x_images, .ref x_kept, .ref x_history, .ref x_drawnTower, .ref x_machine, .ref x_judge, .ref x_runner, .ref x_reader, .ref x_draft, .ref x_paper, .ref x_tape, .int 0, .int (-1), .int 0, .int (-1), .ref x_chances, .ref x_refusals, .int 0])), (x_state, .inr (6, [.ref x_state_tower, .int 1, .int 0, .int 0, .ref x_state_seenPlace, .ref x_state_seenRank, .int 0, .ref x_state_laws, .int 0, .int (-1)])), (x_paper_toOrder, .inl (ty 0, 0, .inl (fun _ => 0))), (q_4, .inl (ty 0, 1, .inl (fun _ => 0))), (q_6, .inl (ty 0, 1, .inl (fun _ => 0))), (q_8, .inl (ty 0, 6, .inl (fun _ => 0))), (q_9, .inl (ty 0, 6, .inl (fun _ => 0))), (q_7, .inl (ty 0, 1, .inl (upd (upd (upd (upd (upd (upd (fun _ => 0) 0 0) 0 8) 0 136) 0 1672) 0 18056) 0 181896))), (x_state_tower, .inr (8, [.ref x_state_tower_rank, .ref x_state_tower_head, .int 0, .int 0, .int 0])), (x_paper_digits, .inl (ty 0, 6, .inl (upd (upd (upd (upd (upd (upd (upd (upd (upd (upd (upd (upd (upd (upd (upd (upd (upd (upd (upd (upd (upd (upd (upd (upd (upd (upd (upd (fun _ => 0) 0 0) 0 0) 1 1) 0 0) 1 1) 2 2) 0 0) 1 1) 2 2) 3 3) 0 0) 1 1) 2 2) 3 3) 4 4) 0 0) 1 1) 2 2) 3 3) 4 4) 5 5) 0 0) 1 1) 2 2) 3 3) 4 4) 5 5))), (x_judge, .inr (1, [.ref x_machine, .ref x_judge_words, .null])), (x_judge_words, .inl (ty 0, 9, .inl (upd (upd (upd (fun _ => 0) 8 0) 4 0) 7 0))), (q_5, .inl (ty 0, 1, .inl (upd (fun _ => 0) 0 0))), (x_paper_barred, .inl (ty 0, 504, .inl (kz_fl (fun _ => 0) 504 0))), (x_paper_measuredBarred, .inl (ty 0, 504, .inl (va_cpy (kz_fl (fun _ => 0) 504 0) (fun _ => 0) 0 0 504))), (q_3, .inl (ty 0, 1, .inl (upd (kz_fl (fun _ => 0) 1 (-1)) 0 0))), (x_paper, .inr (3, [.ref x_paper_ranks, .ref x_paper_digits, .ref x_paper_barred, .ref x_paper_pays, .ref x_paper_measuredBarred, .ref x_paper_buckets, .ref q_7, .ref q_8, .ref q_9, .ref q_3, .ref q_4, .ref q_5, .ref q_6, .int 0, .int 1, .int 0, .int 0, .int 0, .int 0, .int 0]))]) hp hd hs rfl ?_
        clear hp hd hs hP hD hS
        intro hP hD hS
        refine W.widen (k := 7) (n := 17) (Nat.le_of_ble_eq_true rfl) (Nat.le_of_ble_eq_true rfl) ?_
        exact kz_iret hx hb hr hlocks hP hK hD hS dX9_worst_27 (Or.inr (Or.inr (Or.inl ⟨q_3, q_4, q_5, q_6, q_7, q_8, q_9, c_1, c_2, c_12, c_13, rfl, rfl⟩)))
      · refine kz_re (w2 := [(x, .inr (9, [.ref x_state, .ref x_images, .ref x_kept, .ref x_history, .ref x_drawnTower, .ref x_machine, .ref x_judge, .ref x_runner, .ref x_reader, .ref x_draft, .ref x_paper, .ref x_tape, .int 0, .int (-1), .int 0, .int (-1), .ref x_chances, .ref x_refusals, .int 0])), (x_state, .inr (6, [.ref x_state_tower, .int 1, .int 0, .int 0, .ref x_state_seenPlace, .ref x_state_seenRank, .int 0, .ref x_state_laws, .int 0, .int (-1)])), (x_paper_toOrder, .inl (ty 0, 0, .inl (fun _ => 0))), (q_4, .inl (ty 0, 1, .inl (fun _ => 0))), (q_6, .inl (ty 0, 1, .inl (fun _ => 0))), (q_8, .inl (ty 0, 6, .inl (fun _ => 0))), (q_9, .inl (ty 0, 6, .inl (fun _ => 0))), (q_7, .inl (ty 0, 1, .inl (upd (upd (upd (upd (upd (upd (fun _ => 0) 0 0) 0 8) 0 136) 0 1672) 0 18056) 0 181896))), (x_state_tower, .inr (8, [.ref x_state_tower_rank, .ref x_state_tower_head, .int 0, .int 0, .int 0])), (x_paper_digits, .inl (ty 0, 6, .inl (upd (upd (upd (upd (upd (upd (upd (upd (upd (upd (upd (upd (upd (upd (upd (upd (upd (upd (upd (upd (upd (upd (upd (upd (upd (upd (upd (fun _ => 0) 0 0) 0 0) 1 1) 0 0) 1 1) 2 2) 0 0) 1 1) 2 2) 3 3) 0 0) 1 1) 2 2) 3 3) 4 4) 0 0) 1 1) 2 2) 3 3) 4 4) 5 5) 0 0) 1 1) 2 2) 3 3) 4 4) 5 5))), (x_judge, .inr (1, [.ref x_machine, .ref x_judge_words, .null])), (x_judge_words, .inl (ty 0, 9, .inl (upd (upd (upd (fun _ => 0) 8 0) 4 0) 7 0))), (q_5, .inl (ty 0, 1, .inl (upd (fun _ => 0) 0 0))), (x_paper_barred, .inl (ty 0, 504, .inl (kz_fl (fun _ => 0) 504 0))), (x_paper_measuredBarred, .inl (ty 0, 504, .inl (va_cpy (kz_fl (fun _ => 0) 504 0) (fun _ => 0) 0 0 504))), (q_3, .inl (ty 0, 1, .inl (upd (kz_fl (fun _ => 0) 1 (-1)) 0 0))), (x_paper, .inr (3, [.ref x_paper_ranks, .ref x_paper_digits, .ref x_paper_barred, .ref x_paper_pays, .ref x_paper_measuredBarred, .ref x_paper_buckets, .ref q_7, .ref q_8, .ref q_9, .ref q_3, .ref q_4, .ref q_5, .ref q_6, .int 0, .int 1, .int 0, .int 0, .int 0, .int 0, .int 0]))]) hp hd hs rfl ?_
        clear hp hd hs hP hD hS
        intro hP hD hS
        refine W.widen (k := 7) (n := 17) (Nat.le_of_ble_eq_true rfl) (Nat.le_of_ble_eq_true rfl) ?_
        exact kz_iret hx hb hr hlocks hP hK hD hS dX9_worst_27 (Or.inr (Or.inr (Or.inr (Or.inl ⟨q_3, q_4, q_5, q_6, q_7, q_8, q_9, c_1, c_2, c_14, rfl, rfl⟩))))
    · refine lv_iconst (v := (-1)) hx hb dX9_worst_9 (by decide) ?_
      refine W.widen (k := 7) (n := 17) (Nat.le_of_ble_eq_true rfl) (Nat.le_of_ble_eq_true rfl) ?_
      exact kz_iret hx hb hr hlocks hP hK hD hS dX9_worst_10 (Or.inr (Or.inr (Or.inr (Or.inr ⟨c_1, c_2, rfl, rfl⟩))))

set_option maxHeartbeats 4000000 in
set_option maxRecDepth 100000 in
theorem kX3_fits_106 (l : Launch) (D : va_G) (ty : Nat → ClassId) (eo : Nat → Nat) (sz : Nat) (x_paper x_paper_ranks x_paper_digits x_paper_barred x_paper_pays x_paper_measuredBarred x_paper_buckets q_5 q_6 q_7 q_1 q_2 q_3 q_4 : Nat) : Met l yX3_fits wsX3_fits ({ frames := 0, cells := 0, slots := 0, locals := 0 }) (va_Pc [.ref x_paper, .int 0, .int 0, .int 0] (kz_pre D ty eo [(x_paper, .inr (3, [.ref x_paper_ranks, .ref x_paper_digits, .ref x_paper_barred, .ref x_paper_pays, .ref x_paper_measuredBarred, .ref x_paper_buckets, .ref q_5, .ref q_6, .ref q_7, .ref q_1, .ref q_2, .ref q_3, .ref q_4, .int 0, .int 1, .int 0, .int 0, .int (-1), .int (-1), .int 1]))] sz)) (va_Qi (fun (r : Int32) (u : va_W) => 0 = r ∧ [(x_paper, .inr (3, [.ref x_paper_ranks, .ref x_paper_digits, .ref x_paper_barred, .ref x_paper_pays, .ref x_paper_measuredBarred, .ref x_paper_buckets, .ref q_5, .ref q_6, .ref q_7, .ref q_1, .ref q_2, .ref q_3, .ref q_4, .int 0, .int 1, .int 0, .int 0, .int (-1), .int (-1), .int 1]))] = u) (kz_B D ty (va_A [(x_paper, .inr (3, [.ref x_paper_ranks, .ref x_paper_digits, .ref x_paper_barred, .ref x_paper_pays, .ref x_paper_measuredBarred, .ref x_paper_buckets, .ref q_5, .ref q_6, .ref q_7, .ref q_1, .ref q_2, .ref q_3, .ref q_4, .int 0, .int 1, .int 0, .int 0, .int (-1), .int (-1), .int 1]))] sz)) (va_A [(x_paper, .inr (3, [.ref x_paper_ranks, .ref x_paper_digits, .ref x_paper_barred, .ref x_paper_pays, .ref x_paper_measuredBarred, .ref x_paper_buckets, .ref q_5, .ref q_6, .ref q_7, .ref q_1, .ref q_2, .ref q_3, .ref q_4, .int 0, .int 1, .int 0, .int 0, .int (-1), .int (-1), .int 1]))] sz)) 0 0 (va_A [(x_paper, .inr (3, [.ref x_paper_ranks, .ref x_paper_digits, .ref x_paper_barred, .ref x_paper_pays, .ref x_paper_measuredBarred, .ref x_paper_buckets, .ref q_5, .ref q_6, .ref q_7, .ref q_1, .ref q_2, .ref q_3, .ref q_4, .int 0, .int 1, .int 0, .int 0, .int (-1), .int (-1), .int 1]))] sz) := by
  refine Met.ofW (cc := cX3_fits) (maxL := 5) (ret := (some .boolean)) (by decide) rfl ?_
  intro p e s m args below meth c s₁ B hml hv
  obtain ⟨rfl, hsz, hP, hK, hD0, hN, hE⟩ := hv
  have hx := B.exec
  have hb := B.bytes
  have hr := B.returns
  have hts := atoms_spec (ws := wsX3_fits) B.pre
  have hown : s.vm.findClass RX3 = some m.cls := findClass_of_methodNamed B.named
  have hlocks := B.notSynchronized
  subst hsz
  have hD := hD0.self (sz := s.heap.size)
  generalize hAe : va_A [(x_paper, .inr (3, [.ref x_paper_ranks, .ref x_paper_digits, .ref x_paper_barred, .ref x_paper_pays, .ref x_paper_measuredBarred, .ref x_paper_buckets, .ref q_5, .ref q_6, .ref q_7, .ref q_1, .ref q_2, .ref q_3, .ref q_4, .int 0, .int 1, .int 0, .int 0, .int (-1), .int (-1), .int 1]))] s.heap.size = A at hD hE ⊢
  have hA : ∀ q : Nat, s.heap.size ≤ q → A q := fun q h => by rw [← hAe]; exact Or.inr h
  have hS : va_S A s.heap s.heap [] := va_S.rf
  have hl := lv_entry ([.ref x_paper, .int 0, .int 0, .int 0]) (n := 5) (Nat.le_of_ble_eq_true rfl)
  rw [lg_entry_eq]
  generalize (lg_sl ([.ref x_paper, .int 0, .int 0, .int 0]) ++ List.replicate (5 - (lg_sl ([.ref x_paper, .int 0, .int 0, .int 0])).length) Slot.unset).toArray = ls at hl ⊢
  have hl : lv_has ls 5 [(0, .ref x_paper), (1, .int 0), (2, .int 0), (3, .int 0)] := hl
  refine lv_iload_n hx hb dX3_fits_0 rfl (lv_at hl 1 rfl) ?_
  refine lv_aload_n hx hb dX3_fits_1 rfl (lv_at hl 0 rfl) ?_
  refine va_get (D := D) (ci := 3) (v := .int 0) (C := RX3) (T := TX3) (N := 20) hx hb hts (by decide +kernel) hown hK hP 0 rfl rfl 13 (by decide) (hts (.fieldLink RX3 51 "TurnedFloors$Paper" "floors" "I") (by decide +kernel)) (fun _ h9 => h9) rfl dX3_fits_2 ?_
  refine lv_ishr hx hb dX3_fits_5 ?_
  refine kz_topi 0 (by first | rfl | decide +kernel) ?_
  refine lv_istore (lv' := [(4, .int 0), (0, .ref x_paper), (1, .int 0), (2, .int 0), (3, .int 0)]) hx hb dX3_fits_6 hl (by decide) rfl (fun ls hl => ?_)
  refine lv_iload_n hx hb dX3_fits_8 rfl (lv_at hl 3 rfl) ?_
  refine lv_iconst (v := 1) hx hb dX3_fits_9 (by decide) ?_
  refine lv_icmp_ne (tgt := 25) hx hb dX3_fits_10 (by decide) (fun _ => ?_) (fun h => absurd h (by decide))
  refine lv_iload_n hx hb dX3_fits_25 rfl (lv_at hl 3 rfl) ?_
  refine lv_iconst (v := 2) hx hb dX3_fits_26 (by decide) ?_
  refine lv_icmp_ne (tgt := 48) hx hb dX3_fits_27 (by decide) (fun _ => ?_) (fun h => absurd h (by decide))
  refine lv_iconst (v := 0) hx hb dX3_fits_48 (by decide) ?_
  exact kz_zret hx hb hr hlocks rfl hP hK hD hS dX3_fits_49 ⟨rfl, rfl⟩

set_option maxHeartbeats 4000000 in
set_option maxRecDepth 100000 in
theorem kX3_nearest_105 (l : Launch) (D : va_G) (ty : Nat → ClassId) (eo : Nat → Nat) (sz : Nat) (x_paper x_paper_ranks x_paper_digits x_paper_barred x_paper_pays x_paper_measuredBarred x_paper_buckets q_5 q_6 q_7 q_1 q_2 q_3 q_4 : Nat) : Met l yX3_nearest wsX3_nearest ({ frames := 1, cells := 0, slots := 0, locals := 24 }) (va_Pc [.ref x_paper, .int 0, .int 0] (kz_pre D ty eo [(x_paper, .inr (3, [.ref x_paper_ranks, .ref x_paper_digits, .ref x_paper_barred, .ref x_paper_pays, .ref x_paper_measuredBarred, .ref x_paper_buckets, .ref q_5, .ref q_6, .ref q_7, .ref q_1, .ref q_2, .ref q_3, .ref q_4, .int 0, .int 1, .int 0, .int 0, .int (-1), .int (-1), .int 0])), (q_2, .inl (ty 0, 1, .inl (fun _ => 0))), (q_3, .inl (ty 0, 1, .inl (fun _ => 0)))] sz)) (va_Qi (fun (r : Int32) (u : va_W) => (-1) = r ∧ [(q_3, .inl (ty 0, 1, .inl (upd (fun _ => 0) 0 0))), (q_2, .inl (ty 0, 1, .inl (upd (kz_fl (fun _ => 0) 1 (-1)) 0 0))), (x_paper, .inr (3, [.ref x_paper_ranks, .ref x_paper_digits, .ref x_paper_barred, .ref x_paper_pays, .ref x_paper_measuredBarred, .ref x_paper_buckets, .ref q_5, .ref q_6, .ref q_7, .ref q_1, .ref q_2, .ref q_3, .ref q_4, .int 0, .int 1, .int 0, .int 0, .int (-1), .int (-1), .int 1]))] = u) (kz_B D ty (va_A [(x_paper, .inr (3, [.ref x_paper_ranks, .ref x_paper_digits, .ref x_paper_barred, .ref x_paper_pays, .ref x_paper_measuredBarred, .ref x_paper_buckets, .ref q_5, .ref q_6, .ref q_7, .ref q_1, .ref q_2, .ref q_3, .ref q_4, .int 0, .int 1, .int 0, .int 0, .int (-1), .int (-1), .int 0])), (q_2, .inl (ty 0, 1, .inl (fun _ => 0))), (q_3, .inl (ty 0, 1, .inl (fun _ => 0)))] sz)) (va_A [(x_paper, .inr (3, [.ref x_paper_ranks, .ref x_paper_digits, .ref x_paper_barred, .ref x_paper_pays, .ref x_paper_measuredBarred, .ref x_paper_buckets, .ref q_5, .ref q_6, .ref q_7, .ref q_1, .ref q_2, .ref q_3, .ref q_4, .int 0, .int 1, .int 0, .int 0, .int (-1), .int (-1), .int 0])), (q_2, .inl (ty 0, 1, .inl (fun _ => 0))), (q_3, .inl (ty 0, 1, .inl (fun _ => 0)))] sz)) 0 0 (va_A [(x_paper, .inr (3, [.ref x_paper_ranks, .ref x_paper_digits, .ref x_paper_barred, .ref x_paper_pays, .ref x_paper_measuredBarred, .ref x_paper_buckets, .ref q_5, .ref q_6, .ref q_7, .ref q_1, .ref q_2, .ref q_3, .ref q_4, .int 0, .int 1, .int 0, .int 0, .int (-1), .int (-1), .int 0])), (q_2, .inl (ty 0, 1, .inl (fun _ => 0))), (q_3, .inl (ty 0, 1, .inl (fun _ => 0)))] sz) := by
  refine Met.ofW (cc := cX3_nearest) (maxL := 7) (ret := (some .int)) (by decide) rfl ?_
  intro p e s m args below meth c s₁ B hml hv
  obtain ⟨rfl, hsz, hP, hK, hD0, hN, hE⟩ := hv
  have hx := B.exec
  have hb := B.bytes
  have hr := B.returns
  have hts := atoms_spec (ws := wsX3_nearest) B.pre
  have hown : s.vm.findClass RX3 = some m.cls := findClass_of_methodNamed B.named
  have hlocks := B.notSynchronized
  subst hsz
  have hD := hD0.self (sz := s.heap.size)
  generalize hAe : va_A [(x_paper, .inr (3, [.ref x_paper_ranks, .ref x_paper_digits, .ref x_paper_barred, .ref x_paper_pays, .ref x_paper_measuredBarred, .ref x_paper_buckets, .ref q_5, .ref q_6, .ref q_7, .ref q_1, .ref q_2, .ref q_3, .ref q_4, .int 0, .int 1, .int 0, .int 0, .int (-1), .int (-1), .int 0])), (q_2, .inl (ty 0, 1, .inl (fun _ => 0))), (q_3, .inl (ty 0, 1, .inl (fun _ => 0)))] s.heap.size = A at hD hE ⊢
  have hA : ∀ q : Nat, s.heap.size ≤ q → A q := fun q h => by rw [← hAe]; exact Or.inr h
  have hS : va_S A s.heap s.heap [] := va_S.rf
  have hl := lv_entry ([.ref x_paper, .int 0, .int 0]) (n := 7) (Nat.le_of_ble_eq_true rfl)
  rw [lg_entry_eq]
  generalize (lg_sl ([.ref x_paper, .int 0, .int 0]) ++ List.replicate (7 - (lg_sl ([.ref x_paper, .int 0, .int 0])).length) Slot.unset).toArray = ls at hl ⊢
  have hl : lv_has ls 7 [(0, .ref x_paper), (1, .int 0), (2, .int 0)] := hl
  refine lv_aload_n hx hb dX3_nearest_0 rfl (lv_at hl 0 rfl) ?_
  refine va_get (D := D) (ci := 3) (v := .ref q_2) (C := RX3) (T := TX3) (N := 20) hx hb hts (by decide +kernel) hown hK hP 0 rfl rfl 10 (by decide) (hts (.fieldLink RX3 42 "TurnedFloors$Paper" "marks" "[I") (by decide +kernel)) (fun _ h9 => h9) rfl dX3_nearest_1 ?_
  refine lv_iconst (v := (-1)) hx hb dX3_nearest_4 (by decide) ?_
  refine kz_kv (wc := [(q_2, .inl (ty 0, 1, .inl (fun _ => 0)))]) (wr := [(x_paper, .inr (3, [.ref x_paper_ranks, .ref x_paper_digits, .ref x_paper_barred, .ref x_paper_pays, .ref x_paper_measuredBarred, .ref x_paper_buckets, .ref q_5, .ref q_6, .ref q_7, .ref q_1, .ref q_2, .ref q_3, .ref q_4, .int 0, .int 1, .int 0, .int 0, .int (-1), .int (-1), .int 0])), (q_3, .inl (ty 0, 1, .inl (fun _ => 0)))]) (va_runS (As := [.ref q_2, .int (-1)]) (rest := []) ⟨hx, hb, hml, hown, hts⟩ (cJ7_fillI l D ty eo _ q_2 1 (fun _ => 0) (-1) (by decide)) (va_cwS 2 hts gX3_nearest_J7_fill_53178 rfl rfl rfl (by decide +kernel) ⟨Nat.le_of_ble_eq_true rfl, Nat.le_of_ble_eq_true rfl⟩) (kz_preS hK hN hE hP hD hS hA [1] (by decide) rfl) rfl rfl hl.1 rfl (lv_room (Nat.le_of_ble_eq_true rfl)) dX3_nearest_5 ⟨Nat.le_of_ble_eq_true rfl, Nat.le_of_ble_eq_true rfl⟩) hP hD hS hA [1] [0, 2] rfl rfl (by decide) (by decide) (fun u H locs hw hp hd hs => ?_)
  obtain rfl := hw
  refine kz_re (w2 := [(x_paper, .inr (3, [.ref x_paper_ranks, .ref x_paper_digits, .ref x_paper_barred, .ref x_paper_pays, .ref x_paper_measuredBarred, .ref x_paper_buckets, .ref q_5, .ref q_6, .ref q_7, .ref q_1, .ref q_2, .ref q_3, .ref q_4, .int 0, .int 1, .int 0, .int 0, .int (-1), .int (-1), .int 0])), (q_3, .inl (ty 0, 1, .inl (fun _ => 0))), (q_2, .inl (ty 0, 1, .inl (kz_fl (fun _ => 0) 1 (-1))))]) hp hd hs rfl ?_
  clear hp hd hs hP hD hS
  intro hP hD hS
  refine lv_aload_n hx hb dX3_nearest_8 rfl (lv_at hl 0 rfl) ?_
  refine va_get (D := D) (ci := 3) (v := .ref q_2) (C := RX3) (T := TX3) (N := 20) hx hb hts (by decide +kernel) hown hK hP 0 rfl rfl 10 (by decide) (hts (.fieldLink RX3 42 "TurnedFloors$Paper" "marks" "[I") (by decide +kernel)) (fun _ h9 => h9) rfl dX3_nearest_9 ?_
  refine lv_aload_n hx hb dX3_nearest_12 rfl (lv_at hl 0 rfl) ?_
  refine va_get (D := D) (ci := 3) (v := .int 0) (C := RX3) (T := TX3) (N := 20) hx hb hts (by decide +kernel) hown hK hP 0 rfl rfl 15 (by decide) (hts (.fieldLink RX3 58 "TurnedFloors$Paper" "start" "I") (by decide +kernel)) (fun _ h9 => h9) rfl dX3_nearest_13 ?_
  refine lv_iconst (v := 0) hx hb dX3_nearest_16 (by decide) ?_
  refine va_iast hx hb hK hP hD hS 2 0 rfl rfl (by simp only [vp_in]; decide) dX3_nearest_17 (fun H locs hp hd hs => ?_)
  refine kz_re (w2 := [(x_paper, .inr (3, [.ref x_paper_ranks, .ref x_paper_digits, .ref x_paper_barred, .ref x_paper_pays, .ref x_paper_measuredBarred, .ref x_paper_buckets, .ref q_5, .ref q_6, .ref q_7, .ref q_1, .ref q_2, .ref q_3, .ref q_4, .int 0, .int 1, .int 0, .int 0, .int (-1), .int (-1), .int 0])), (q_3, .inl (ty 0, 1, .inl (fun _ => 0))), (q_2, .inl (ty 0, 1, .inl (upd (kz_fl (fun _ => 0) 1 (-1)) 0 0)))]) hp hd hs rfl ?_
  clear hp hd hs hP hD hS
  intro hP hD hS
  refine lv_aload_n hx hb dX3_nearest_18 rfl (lv_at hl 0 rfl) ?_
  refine va_get (D := D) (ci := 3) (v := .ref q_3) (C := RX3) (T := TX3) (N := 20) hx hb hts (by decide +kernel) hown hK hP 0 rfl rfl 11 (by decide) (hts (.fieldLink RX3 45 "TurnedFloors$Paper" "line" "[I") (by decide +kernel)) (fun _ h9 => h9) rfl dX3_nearest_19 ?_
  refine lv_iconst (v := 0) hx hb dX3_nearest_22 (by decide) ?_
  refine lv_aload_n hx hb dX3_nearest_23 rfl (lv_at hl 0 rfl) ?_
  refine va_get (D := D) (ci := 3) (v := .int 0) (C := RX3) (T := TX3) (N := 20) hx hb hts (by decide +kernel) hown hK hP 0 rfl rfl 15 (by decide) (hts (.fieldLink RX3 58 "TurnedFloors$Paper" "start" "I") (by decide +kernel)) (fun _ h9 => h9) rfl dX3_nearest_24 ?_
  refine va_iast hx hb hK hP hD hS 1 0 rfl rfl (by simp only [vp_in]; decide) dX3_nearest_27 (fun H locs hp hd hs => ?_)
  refine kz_re (w2 := [(x_paper, .inr (3, [.ref x_paper_ranks, .ref x_paper_digits, .ref x_paper_barred, .ref x_paper_pays, .ref x_paper_measuredBarred, .ref x_paper_buckets, .ref q_5, .ref q_6, .ref q_7, .ref q_1, .ref q_2, .ref q_3, .ref q_4, .int 0, .int 1, .int 0, .int 0, .int (-1), .int (-1), .int 0])), (q_3, .inl (ty 0, 1, .inl (upd (fun _ => 0) 0 0))), (q_2, .inl (ty 0, 1, .inl (upd (kz_fl (fun _ => 0) 1 (-1)) 0 0)))]) hp hd hs rfl ?_
  clear hp hd hs hP hD hS
  intro hP hD hS
  refine lv_aload_n hx hb dX3_nearest_28 rfl (lv_at hl 0 rfl) ?_
  refine lv_iconst (v := 1) hx hb dX3_nearest_29 (by decide) ?_
  refine va_put (D := D) (ci := 3) (v := .int 1) (ty := .int) (C := RX3) (T := TX3) (N := 20) hx hb hts (by decide +kernel) tyX3 tyX3_ok nmX3 hown hK hP hD hS 0 rfl rfl 19 (by decide) (hts (.fieldLink RX3 70 "TurnedFloors$Paper" "visited" "I") (by decide +kernel)) (fun _ h9 => h9) rfl (by decide +kernel) rfl rfl (Nat.le_of_ble_eq_true rfl) dX3_nearest_30 (fun H locs hp hd hs => ?_)
  refine kz_re (w2 := [(x_paper, .inr (3, [.ref x_paper_ranks, .ref x_paper_digits, .ref x_paper_barred, .ref x_paper_pays, .ref x_paper_measuredBarred, .ref x_paper_buckets, .ref q_5, .ref q_6, .ref q_7, .ref q_1, .ref q_2, .ref q_3, .ref q_4, .int 0, .int 1, .int 0, .int 0, .int (-1), .int (-1), .int 1])), (q_3, .inl (ty 0, 1, .inl (upd (fun _ => 0) 0 0))), (q_2, .inl (ty 0, 1, .inl (upd (kz_fl (fun _ => 0) 1 (-1)) 0 0)))]) hp hd hs rfl ?_
  clear hp hd hs hP hD hS
  intro hP hD hS
  refine lv_iconst (v := 0) hx hb dX3_nearest_33 (by decide) ?_
  refine lv_istore_n (lv' := [(3, .int 0), (0, .ref x_paper), (1, .int 0), (2, .int 0)]) hx hb dX3_nearest_34 rfl hl (by decide) rfl (fun ls hl => ?_)
  refine lv_iload_n hx hb dX3_nearest_35 rfl (lv_at hl 0 rfl) ?_
  refine lv_aload_n hx hb dX3_nearest_36 rfl (lv_at hl 1 rfl) ?_
  refine va_get (D := D) (ci := 3) (v := .int 1) (C := RX3) (T := TX3) (N := 20) hx hb hts (by decide +kernel) hown hK hP 0 rfl rfl 14 (by decide) (hts (.fieldLink RX3 55 "TurnedFloors$Paper" "size" "I") (by decide +kernel)) (fun _ h9 => h9) rfl dX3_nearest_37 ?_
  refine lv_icmp_ge (tgt := 187) hx hb dX3_nearest_40 (by decide) (fun h => absurd h (by decide)) (fun _ => ?_)
  refine lv_iload_n hx hb dX3_nearest_43 rfl (lv_at hl 0 rfl) ?_
  refine lv_aload_n hx hb dX3_nearest_44 rfl (lv_at hl 1 rfl) ?_
  refine va_get (D := D) (ci := 3) (v := .int 1) (C := RX3) (T := TX3) (N := 20) hx hb hts (by decide +kernel) hown hK hP 0 rfl rfl 19 (by decide) (hts (.fieldLink RX3 70 "TurnedFloors$Paper" "visited" "I") (by decide +kernel)) (fun _ h9 => h9) rfl dX3_nearest_45 ?_
  refine lv_icmp_ge (tgt := 187) hx hb dX3_nearest_48 (by decide) (fun h => absurd h (by decide)) (fun _ => ?_)
  refine lv_aload_n hx hb dX3_nearest_51 rfl (lv_at hl 1 rfl) ?_
  refine va_get (D := D) (ci := 3) (v := .ref q_3) (C := RX3) (T := TX3) (N := 20) hx hb hts (by decide +kernel) hown hK hP 0 rfl rfl 11 (by decide) (hts (.fieldLink RX3 45 "TurnedFloors$Paper" "line" "[I") (by decide +kernel)) (fun _ h9 => h9) rfl dX3_nearest_52 ?_
  refine lv_iload_n hx hb dX3_nearest_55 rfl (lv_at hl 0 rfl) ?_
  refine va_iald hx hb hK hP 1 0 rfl rfl (by simp only [vp_in]; decide) dX3_nearest_56 ?_
  refine kz_topi 0 (by first | rfl | decide +kernel) ?_
  refine lv_istore (lv' := [(4, .int 0), (3, .int 0), (0, .ref x_paper), (1, .int 0), (2, .int 0)]) hx hb dX3_nearest_57 hl (by decide) rfl (fun ls hl => ?_)
  refine lv_aload_n hx hb dX3_nearest_59 rfl (lv_at hl 2 rfl) ?_
  refine lv_iload hx hb dX3_nearest_60 (lv_at hl 0 rfl) ?_
  refine lv_iload_n hx hb dX3_nearest_62 rfl (lv_at hl 3 rfl) ?_
  refine lv_iload_n hx hb dX3_nearest_63 rfl (lv_at hl 4 rfl) ?_
  refine kz_ki (wc := [(x_paper, .inr (3, [.ref x_paper_ranks, .ref x_paper_digits, .ref x_paper_barred, .ref x_paper_pays, .ref x_paper_measuredBarred, .ref x_paper_buckets, .ref q_5, .ref q_6, .ref q_7, .ref q_1, .ref q_2, .ref q_3, .ref q_4, .int 0, .int 1, .int 0, .int 0, .int (-1), .int (-1), .int 1]))]) (wr := [(q_3, .inl (ty 0, 1, .inl (upd (fun _ => 0) 0 0))), (q_2, .inl (ty 0, 1, .inl (upd (kz_fl (fun _ => 0) 1 (-1)) 0 0)))]) (va_runV (As := [.int 0, .int 0, .int 0]) (rest := []) ⟨hx, hb, hml, hown, hts⟩ (kX3_fits_106 l D ty eo _ x_paper x_paper_ranks x_paper_digits x_paper_barred x_paper_pays x_paper_measuredBarred x_paper_buckets q_5 q_6 q_7 q_1 q_2 q_3 q_4) (cwV 3 hts gX3_nearest_X3_fits rfl rfl rfl (by decide +kernel) ⟨Nat.le_of_ble_eq_true rfl, Nat.le_of_ble_eq_true rfl⟩) (kz_preV (ci := 3) (q0 := 0) hK hN hE hP hD hS hA rfl rfl [0] (by decide) rfl) rfl rfl hl.1 rfl (lv_room (Nat.le_of_ble_eq_true rfl)) dX3_nearest_64 ⟨Nat.le_of_ble_eq_true rfl, Nat.le_of_ble_eq_true rfl⟩) hP hD hS hA [0] [1, 2] rfl rfl (by decide) (by decide) (fun r u H locs hw hp hd hs => ?_)
  obtain ⟨rfl, rfl⟩ := hw
  refine kz_re (w2 := [(q_3, .inl (ty 0, 1, .inl (upd (fun _ => 0) 0 0))), (q_2, .inl (ty 0, 1, .inl (upd (kz_fl (fun _ => 0) 1 (-1)) 0 0))), (x_paper, .inr (3, [.ref x_paper_ranks, .ref x_paper_digits, .ref x_paper_barred, .ref x_paper_pays, .ref x_paper_measuredBarred, .ref x_paper_buckets, .ref q_5, .ref q_6, .ref q_7, .ref q_1, .ref q_2, .ref q_3, .ref q_4, .int 0, .int 1, .int 0, .int 0, .int (-1), .int (-1), .int 1]))]) hp hd hs rfl ?_
  clear hp hd hs hP hD hS
  intro hP hD hS
  refine lv_if_eq (tgt := 78) hx hb dX3_nearest_67 (by decide) (fun _ => ?_) (fun h => absurd (by decide) h)
  refine lv_iconst (v := 1) hx hb dX3_nearest_78 (by decide) ?_
  refine lv_istore (lv' := [(5, .int 1), (4, .int 0), (3, .int 0), (0, .ref x_paper), (1, .int 0), (2, .int 0)]) hx hb dX3_nearest_79 hl (by decide) rfl (fun ls hl => ?_)
  refine lv_iload hx hb dX3_nearest_81 (lv_at hl 0 rfl) ?_
  refine lv_aload_n hx hb dX3_nearest_83 rfl (lv_at hl 3 rfl) ?_
  refine va_get (D := D) (ci := 3) (v := .int 0) (C := RX3) (T := TX3) (N := 20) hx hb hts (by decide +kernel) hown hK hP 2 rfl rfl 13 (by decide) (hts (.fieldLink RX3 51 "TurnedFloors$Paper" "floors" "I") (by decide +kernel)) (fun _ h9 => h9) rfl dX3_nearest_84 ?_
  refine lv_icmp_gt (tgt := 181) hx hb dX3_nearest_87 (by decide) (fun _ => ?_) (fun h => absurd (by decide) h)
  refine lv_iinc (v := 1) (lv' := [(3, .int 1), (5, .int 1), (4, .int 0), (0, .ref x_paper), (1, .int 0), (2, .int 0)]) hx hb dX3_nearest_181 hl (k := 2) rfl (by decide) (by decide) rfl (fun ls hl => ?_)
  refine lv_goto (tgt := 35) hx hb dX3_nearest_184 (by decide) ?_
  refine lv_iload_n hx hb dX3_nearest_35 rfl (lv_at hl 0 rfl) ?_
  refine lv_aload_n hx hb dX3_nearest_36 rfl (lv_at hl 3 rfl) ?_
  refine va_get (D := D) (ci := 3) (v := .int 1) (C := RX3) (T := TX3) (N := 20) hx hb hts (by decide +kernel) hown hK hP 2 rfl rfl 14 (by decide) (hts (.fieldLink RX3 55 "TurnedFloors$Paper" "size" "I") (by decide +kernel)) (fun _ h9 => h9) rfl dX3_nearest_37 ?_
  refine lv_icmp_ge (tgt := 187) hx hb dX3_nearest_40 (by decide) (fun _ => ?_) (fun h => absurd (by decide) h)
  refine lv_iconst (v := (-1)) hx hb dX3_nearest_187 (by decide) ?_
  exact kz_iret hx hb hr hlocks hP hK hD hS dX3_nearest_188 ⟨rfl, rfl⟩

set_option maxHeartbeats 4000000 in
set_option maxRecDepth 100000 in
theorem kX3_towersReached_104 (l : Launch) (D : va_G) (ty : Nat → ClassId) (eo : Nat → Nat) (sz : Nat) (x_paper x_paper_ranks x_paper_digits x_paper_barred x_paper_pays x_paper_measuredBarred x_paper_buckets q_5 q_6 q_7 q_1 q_2 q_3 q_4 : Nat) : Met l yX3_towersReached wsX3_towersReached ({ frames := 2, cells := 0, slots := 0, locals := 50 }) (va_Pc [.ref x_paper] (kz_pre D ty eo [(x_paper, .inr (3, [.ref x_paper_ranks, .ref x_paper_digits, .ref x_paper_barred, .ref x_paper_pays, .ref x_paper_measuredBarred, .ref x_paper_buckets, .ref q_5, .ref q_6, .ref q_7, .ref q_1, .ref q_2, .ref q_3, .ref q_4, .int 0, .int 1, .int 0, .int 0, .int (-1), .int (-1), .int 0])), (q_2, .inl (ty 0, 1, .inl (fun _ => 0))), (q_3, .inl (ty 0, 1, .inl (fun _ => 0)))] sz)) (va_Qi (fun (r : Int32) (u : va_W) => 1 = r ∧ [(q_3, .inl (ty 0, 1, .inl (upd (fun _ => 0) 0 0))), (q_2, .inl (ty 0, 1, .inl (upd (kz_fl (fun _ => 0) 1 (-1)) 0 0))), (x_paper, .inr (3, [.ref x_paper_ranks, .ref x_paper_digits, .ref x_paper_barred, .ref x_paper_pays, .ref x_paper_measuredBarred, .ref x_paper_buckets, .ref q_5, .ref q_6, .ref q_7, .ref q_1, .ref q_2, .ref q_3, .ref q_4, .int 0, .int 1, .int 0, .int 0, .int (-1), .int (-1), .int 1]))] = u) (kz_B D ty (va_A [(x_paper, .inr (3, [.ref x_paper_ranks, .ref x_paper_digits, .ref x_paper_barred, .ref x_paper_pays, .ref x_paper_measuredBarred, .ref x_paper_buckets, .ref q_5, .ref q_6, .ref q_7, .ref q_1, .ref q_2, .ref q_3, .ref q_4, .int 0, .int 1, .int 0, .int 0, .int (-1), .int (-1), .int 0])), (q_2, .inl (ty 0, 1, .inl (fun _ => 0))), (q_3, .inl (ty 0, 1, .inl (fun _ => 0)))] sz)) (va_A [(x_paper, .inr (3, [.ref x_paper_ranks, .ref x_paper_digits, .ref x_paper_barred, .ref x_paper_pays, .ref x_paper_measuredBarred, .ref x_paper_buckets, .ref q_5, .ref q_6, .ref q_7, .ref q_1, .ref q_2, .ref q_3, .ref q_4, .int 0, .int 1, .int 0, .int 0, .int (-1), .int (-1), .int 0])), (q_2, .inl (ty 0, 1, .inl (fun _ => 0))), (q_3, .inl (ty 0, 1, .inl (fun _ => 0)))] sz)) 0 0 (va_A [(x_paper, .inr (3, [.ref x_paper_ranks, .ref x_paper_digits, .ref x_paper_barred, .ref x_paper_pays, .ref x_paper_measuredBarred, .ref x_paper_buckets, .ref q_5, .ref q_6, .ref q_7, .ref q_1, .ref q_2, .ref q_3, .ref q_4, .int 0, .int 1, .int 0, .int 0, .int (-1), .int (-1), .int 0])), (q_2, .inl (ty 0, 1, .inl (fun _ => 0))), (q_3, .inl (ty 0, 1, .inl (fun _ => 0)))] sz) := by
  refine Met.ofW (cc := cX3_towersReached) (maxL := 1) (ret := (some .int)) (by decide) rfl ?_
  intro p e s m args below meth c s₁ B hml hv
  obtain ⟨rfl, hsz, hP, hK, hD0, hN, hE⟩ := hv
  have hx := B.exec
  have hb := B.bytes
  have hr := B.returns
  have hts := atoms_spec (ws := wsX3_towersReached) B.pre
  have hown : s.vm.findClass RX3 = some m.cls := findClass_of_methodNamed B.named
  have hlocks := B.notSynchronized
  subst hsz
  have hD := hD0.self (sz := s.heap.size)
  generalize hAe : va_A [(x_paper, .inr (3, [.ref x_paper_ranks, .ref x_paper_digits, .ref x_paper_barred, .ref x_paper_pays, .ref x_paper_measuredBarred, .ref x_paper_buckets, .ref q_5, .ref q_6, .ref q_7, .ref q_1, .ref q_2, .ref q_3, .ref q_4, .int 0, .int 1, .int 0, .int 0, .int (-1), .int (-1), .int 0])), (q_2, .inl (ty 0, 1, .inl (fun _ => 0))), (q_3, .inl (ty 0, 1, .inl (fun _ => 0)))] s.heap.size = A at hD hE ⊢
  have hA : ∀ q : Nat, s.heap.size ≤ q → A q := fun q h => by rw [← hAe]; exact Or.inr h
  have hS : va_S A s.heap s.heap [] := va_S.rf
  have hl := lv_entry ([.ref x_paper]) (n := 1) (Nat.le_of_ble_eq_true rfl)
  rw [lg_entry_eq]
  generalize (lg_sl ([.ref x_paper]) ++ List.replicate (1 - (lg_sl ([.ref x_paper])).length) Slot.unset).toArray = ls at hl ⊢
  have hl : lv_has ls 1 [(0, .ref x_paper)] := hl
  refine lv_aload_n hx hb dX3_towersReached_0 rfl (lv_at hl 0 rfl) ?_
  refine lv_iconst (v := 0) hx hb dX3_towersReached_1 (by decide) ?_
  refine lv_iconst (v := 0) hx hb dX3_towersReached_2 (by decide) ?_
  refine kz_ki (wc := [(x_paper, .inr (3, [.ref x_paper_ranks, .ref x_paper_digits, .ref x_paper_barred, .ref x_paper_pays, .ref x_paper_measuredBarred, .ref x_paper_buckets, .ref q_5, .ref q_6, .ref q_7, .ref q_1, .ref q_2, .ref q_3, .ref q_4, .int 0, .int 1, .int 0, .int 0, .int (-1), .int (-1), .int 0])), (q_2, .inl (ty 0, 1, .inl (fun _ => 0))), (q_3, .inl (ty 0, 1, .inl (fun _ => 0)))]) (wr := []) (va_runV (As := [.int 0, .int 0]) (rest := []) ⟨hx, hb, hml, hown, hts⟩ (kX3_nearest_105 l D ty eo _ x_paper x_paper_ranks x_paper_digits x_paper_barred x_paper_pays x_paper_measuredBarred x_paper_buckets q_5 q_6 q_7 q_1 q_2 q_3 q_4) (cwV 2 hts gX3_towersReached_X3_nearest rfl rfl rfl (by decide +kernel) ⟨Nat.le_of_ble_eq_true rfl, Nat.le_of_ble_eq_true rfl⟩) (kz_preV (ci := 3) (q0 := 0) hK hN hE hP hD hS hA rfl rfl [0, 1, 2] (by decide) rfl) rfl rfl hl.1 rfl (lv_room (Nat.le_of_ble_eq_true rfl)) dX3_towersReached_3 ⟨Nat.le_of_ble_eq_true rfl, Nat.le_of_ble_eq_true rfl⟩) hP hD hS hA [0, 1, 2] [] rfl rfl (by decide) (by decide) (fun r u H locs hw hp hd hs => ?_)
  obtain ⟨rfl, rfl⟩ := hw
  refine kz_re (w2 := [(q_3, .inl (ty 0, 1, .inl (upd (fun _ => 0) 0 0))), (q_2, .inl (ty 0, 1, .inl (upd (kz_fl (fun _ => 0) 1 (-1)) 0 0))), (x_paper, .inr (3, [.ref x_paper_ranks, .ref x_paper_digits, .ref x_paper_barred, .ref x_paper_pays, .ref x_paper_measuredBarred, .ref x_paper_buckets, .ref q_5, .ref q_6, .ref q_7, .ref q_1, .ref q_2, .ref q_3, .ref q_4, .int 0, .int 1, .int 0, .int 0, .int (-1), .int (-1), .int 1]))]) hp hd hs rfl ?_
  clear hp hd hs hP hD hS
  intro hP hD hS
  refine lv_pop hx hb dX3_towersReached_6 rfl ?_
  refine lv_aload_n hx hb dX3_towersReached_7 rfl (lv_at hl 0 rfl) ?_
  refine va_get (D := D) (ci := 3) (v := .int 1) (C := RX3) (T := TX3) (N := 20) hx hb hts (by decide +kernel) hown hK hP 2 rfl rfl 19 (by decide) (hts (.fieldLink RX3 70 "TurnedFloors$Paper" "visited" "I") (by decide +kernel)) (fun _ h9 => h9) rfl dX3_towersReached_8 ?_
  exact kz_iret hx hb hr hlocks hP hK hD hS dX3_towersReached_11 ⟨rfl, rfl⟩

set_option maxHeartbeats 4000000 in
set_option maxRecDepth 100000 in
theorem fX9_reach (l : Launch) (D : va_G) (ty : Nat → ClassId) (eo : Nat → Nat) (sz : Nat) (x x_state x_images x_kept x_history x_drawnTower x_machine x_judge x_runner x_reader x_draft x_paper x_tape x_chances x_refusals x_state_tower x_state_seenPlace x_state_seenRank x_state_laws x_judge_words x_state_tower_rank x_state_tower_head x_paper_ranks x_paper_digits x_paper_barred x_paper_pays x_paper_measuredBarred x_paper_buckets x_paper_orders x_paper_turnedOrders x_paper_turnedHeads x_paper_toOrder x_paper_marks x_paper_line x_paper_links : Nat) : Met l yX9_reach wsX9_reach ({ frames := 6, cells := 7, slots := 17, locals := 138 }) (va_Pc [.ref x] (kz_pre D ty eo [(x, .inr (9, [.ref x_state, .ref x_images, .ref x_kept, .ref x_history, .ref x_drawnTower, .ref x_machine, .ref x_judge, .ref x_runner, .ref x_reader, .ref x_draft, .ref x_paper, .ref x_tape, .int 0, .int (-1), .int 0, .int (-1), .ref x_chances, .ref x_refusals, .int 0])), (x_state, .inr (6, [.ref x_state_tower, .int 1, .int 0, .int 0, .ref x_state_seenPlace, .ref x_state_seenRank, .int 0, .ref x_state_laws, .int 0, .int (-1)])), (x_judge, .inr (1, [.ref x_machine, .ref x_judge_words, .null])), (x_judge_words, .inl (ty 0, 9, .inl (fun _ => 0))), (x_state_tower, .inr (8, [.ref x_state_tower_rank, .ref x_state_tower_head, .int 0, .int 0, .int 0])), (x_paper, .inr (3, [.ref x_paper_ranks, .ref x_paper_digits, .ref x_paper_barred, .ref x_paper_pays, .ref x_paper_measuredBarred, .ref x_paper_buckets, .ref x_paper_orders, .ref x_paper_turnedOrders, .ref x_paper_turnedHeads, .ref x_paper_toOrder, .ref x_paper_marks, .ref x_paper_line, .ref x_paper_links, .int 0, .int 0, .int 0, .int 0, .int (-1), .int (-1), .int 0])), (x_paper_toOrder, .inl (ty 0, 0, .inl (fun _ => 0))), (x_paper_digits, .inl (ty 0, 6, .inl (fun _ => 0))), (x_paper_barred, .inl (ty 0, 504, .inl (fun _ => 0)))] sz)) (va_Qi (fun (r : Int32) (u : va_W) => ∃ q_1 q_2 q_3 q_4 q_5 q_6 q_7 : Nat, 1 = r ∧ [(x, .inr (9, [.ref x_state, .ref x_images, .ref x_kept, .ref x_history, .ref x_drawnTower, .ref x_machine, .ref x_judge, .ref x_runner, .ref x_reader, .ref x_draft, .ref x_paper, .ref x_tape, .int 0, .int (-1), .int 0, .int (-1), .ref x_chances, .ref x_refusals, .int 0])), (x_state, .inr (6, [.ref x_state_tower, .int 1, .int 0, .int 0, .ref x_state_seenPlace, .ref x_state_seenRank, .int 0, .ref x_state_laws, .int 0, .int (-1)])), (x_paper_toOrder, .inl (ty 0, 0, .inl (fun _ => 0))), (q_1, .inl (ty 0, 1, .inl (fun _ => 0))), (q_4, .inl (ty 0, 1, .inl (fun _ => 0))), (q_6, .inl (ty 0, 6, .inl (fun _ => 0))), (q_7, .inl (ty 0, 6, .inl (fun _ => 0))), (q_5, .inl (ty 0, 1, .inl (upd (upd (upd (upd (upd (upd (fun _ => 0) 0 0) 0 8) 0 136) 0 1672) 0 18056) 0 181896))), (x_state_tower, .inr (8, [.ref x_state_tower_rank, .ref x_state_tower_head, .int 0, .int 0, .int 0])), (x_paper_digits, .inl (ty 0, 6, .inl (upd (upd (upd (upd (upd (upd (upd (upd (upd (upd (upd (upd (upd (upd (upd (upd (upd (upd (upd (upd (upd (upd (upd (upd (upd (upd (upd (fun _ => 0) 0 0) 0 0) 1 1) 0 0) 1 1) 2 2) 0 0) 1 1) 2 2) 3 3) 0 0) 1 1) 2 2) 3 3) 4 4) 0 0) 1 1) 2 2) 3 3) 4 4) 5 5) 0 0) 1 1) 2 2) 3 3) 4 4) 5 5))), (x_paper_barred, .inl (ty 0, 504, .inl (kz_fl (fun _ => 0) 504 0))), (x_judge, .inr (1, [.ref x_machine, .ref x_judge_words, .null])), (x_judge_words, .inl (ty 0, 9, .inl (upd (upd (upd (fun _ => 0) 8 0) 4 0) 7 0))), (q_3, .inl (ty 0, 1, .inl (upd (fun _ => 0) 0 0))), (q_2, .inl (ty 0, 1, .inl (upd (kz_fl (fun _ => 0) 1 (-1)) 0 0))), (x_paper, .inr (3, [.ref x_paper_ranks, .ref x_paper_digits, .ref x_paper_barred, .ref x_paper_pays, .ref x_paper_measuredBarred, .ref x_paper_buckets, .ref q_5, .ref q_6, .ref q_7, .ref q_1, .ref q_2, .ref q_3, .ref q_4, .int 0, .int 1, .int 0, .int 0, .int (-1), .int (-1), .int 1]))] = u) (kz_B D ty (va_A [(x, .inr (9, [.ref x_state, .ref x_images, .ref x_kept, .ref x_history, .ref x_drawnTower, .ref x_machine, .ref x_judge, .ref x_runner, .ref x_reader, .ref x_draft, .ref x_paper, .ref x_tape, .int 0, .int (-1), .int 0, .int (-1), .ref x_chances, .ref x_refusals, .int 0])), (x_state, .inr (6, [.ref x_state_tower, .int 1, .int 0, .int 0, .ref x_state_seenPlace, .ref x_state_seenRank, .int 0, .ref x_state_laws, .int 0, .int (-1)])), (x_judge, .inr (1, [.ref x_machine, .ref x_judge_words, .null])), (x_judge_words, .inl (ty 0, 9, .inl (fun _ => 0))), (x_state_tower, .inr (8, [.ref x_state_tower_rank, .ref x_state_tower_head, .int 0, .int 0, .int 0])), (x_paper, .inr (3, [.ref x_paper_ranks, .ref x_paper_digits, .ref x_paper_barred, .ref x_paper_pays, .ref x_paper_measuredBarred, .ref x_paper_buckets, .ref x_paper_orders, .ref x_paper_turnedOrders, .ref x_paper_turnedHeads, .ref x_paper_toOrder, .ref x_paper_marks, .ref x_paper_line, .ref x_paper_links, .int 0, .int 0, .int 0, .int 0, .int (-1), .int (-1), .int 0])), (x_paper_toOrder, .inl (ty 0, 0, .inl (fun _ => 0))), (x_paper_digits, .inl (ty 0, 6, .inl (fun _ => 0))), (x_paper_barred, .inl (ty 0, 504, .inl (fun _ => 0)))] sz)) (va_A [(x, .inr (9, [.ref x_state, .ref x_images, .ref x_kept, .ref x_history, .ref x_drawnTower, .ref x_machine, .ref x_judge, .ref x_runner, .ref x_reader, .ref x_draft, .ref x_paper, .ref x_tape, .int 0, .int (-1), .int 0, .int (-1), .ref x_chances, .ref x_refusals, .int 0])), (x_state, .inr (6, [.ref x_state_tower, .int 1, .int 0, .int 0, .ref x_state_seenPlace, .ref x_state_seenRank, .int 0, .ref x_state_laws, .int 0, .int (-1)])), (x_judge, .inr (1, [.ref x_machine, .ref x_judge_words, .null])), (x_judge_words, .inl (ty 0, 9, .inl (fun _ => 0))), (x_state_tower, .inr (8, [.ref x_state_tower_rank, .ref x_state_tower_head, .int 0, .int 0, .int 0])), (x_paper, .inr (3, [.ref x_paper_ranks, .ref x_paper_digits, .ref x_paper_barred, .ref x_paper_pays, .ref x_paper_measuredBarred, .ref x_paper_buckets, .ref x_paper_orders, .ref x_paper_turnedOrders, .ref x_paper_turnedHeads, .ref x_paper_toOrder, .ref x_paper_marks, .ref x_paper_line, .ref x_paper_links, .int 0, .int 0, .int 0, .int 0, .int (-1), .int (-1), .int 0])), (x_paper_toOrder, .inl (ty 0, 0, .inl (fun _ => 0))), (x_paper_digits, .inl (ty 0, 6, .inl (fun _ => 0))), (x_paper_barred, .inl (ty 0, 504, .inl (fun _ => 0)))] sz)) 7 17 (va_A [(x, .inr (9, [.ref x_state, .ref x_images, .ref x_kept, .ref x_history, .ref x_drawnTower, .ref x_machine, .ref x_judge, .ref x_runner, .ref x_reader, .ref x_draft, .ref x_paper, .ref x_tape, .int 0, .int (-1), .int 0, .int (-1), .ref x_chances, .ref x_refusals, .int 0])), (x_state, .inr (6, [.ref x_state_tower, .int 1, .int 0, .int 0, .ref x_state_seenPlace, .ref x_state_seenRank, .int 0, .ref x_state_laws, .int 0, .int (-1)])), (x_judge, .inr (1, [.ref x_machine, .ref x_judge_words, .null])), (x_judge_words, .inl (ty 0, 9, .inl (fun _ => 0))), (x_state_tower, .inr (8, [.ref x_state_tower_rank, .ref x_state_tower_head, .int 0, .int 0, .int 0])), (x_paper, .inr (3, [.ref x_paper_ranks, .ref x_paper_digits, .ref x_paper_barred, .ref x_paper_pays, .ref x_paper_measuredBarred, .ref x_paper_buckets, .ref x_paper_orders, .ref x_paper_turnedOrders, .ref x_paper_turnedHeads, .ref x_paper_toOrder, .ref x_paper_marks, .ref x_paper_line, .ref x_paper_links, .int 0, .int 0, .int 0, .int 0, .int (-1), .int (-1), .int 0])), (x_paper_toOrder, .inl (ty 0, 0, .inl (fun _ => 0))), (x_paper_digits, .inl (ty 0, 6, .inl (fun _ => 0))), (x_paper_barred, .inl (ty 0, 504, .inl (fun _ => 0)))] sz) := by
  refine Met.ofW (cc := cX9_reach) (maxL := 1) (ret := (some .int)) (by decide) rfl ?_
  intro p e s m args below meth c s₁ B hml hv
  obtain ⟨rfl, hsz, hP, hK, hD0, hN, hE⟩ := hv
  have hx := B.exec
  have hb := B.bytes
  have hr := B.returns
  have hts := atoms_spec (ws := wsX9_reach) B.pre
  have hown : s.vm.findClass RX9 = some m.cls := findClass_of_methodNamed B.named
  have hlocks := B.notSynchronized
  subst hsz
  have hD := hD0.self (sz := s.heap.size)
  generalize hAe : va_A [(x, .inr (9, [.ref x_state, .ref x_images, .ref x_kept, .ref x_history, .ref x_drawnTower, .ref x_machine, .ref x_judge, .ref x_runner, .ref x_reader, .ref x_draft, .ref x_paper, .ref x_tape, .int 0, .int (-1), .int 0, .int (-1), .ref x_chances, .ref x_refusals, .int 0])), (x_state, .inr (6, [.ref x_state_tower, .int 1, .int 0, .int 0, .ref x_state_seenPlace, .ref x_state_seenRank, .int 0, .ref x_state_laws, .int 0, .int (-1)])), (x_judge, .inr (1, [.ref x_machine, .ref x_judge_words, .null])), (x_judge_words, .inl (ty 0, 9, .inl (fun _ => 0))), (x_state_tower, .inr (8, [.ref x_state_tower_rank, .ref x_state_tower_head, .int 0, .int 0, .int 0])), (x_paper, .inr (3, [.ref x_paper_ranks, .ref x_paper_digits, .ref x_paper_barred, .ref x_paper_pays, .ref x_paper_measuredBarred, .ref x_paper_buckets, .ref x_paper_orders, .ref x_paper_turnedOrders, .ref x_paper_turnedHeads, .ref x_paper_toOrder, .ref x_paper_marks, .ref x_paper_line, .ref x_paper_links, .int 0, .int 0, .int 0, .int 0, .int (-1), .int (-1), .int 0])), (x_paper_toOrder, .inl (ty 0, 0, .inl (fun _ => 0))), (x_paper_digits, .inl (ty 0, 6, .inl (fun _ => 0))), (x_paper_barred, .inl (ty 0, 504, .inl (fun _ => 0)))] s.heap.size = A at hD hE ⊢
  have hA : ∀ q : Nat, s.heap.size ≤ q → A q := fun q h => by rw [← hAe]; exact Or.inr h
  have hS : va_S A s.heap s.heap [] := va_S.rf
  have hl := lv_entry ([.ref x]) (n := 1) (Nat.le_of_ble_eq_true rfl)
  rw [lg_entry_eq]
  generalize (lg_sl ([.ref x]) ++ List.replicate (1 - (lg_sl ([.ref x])).length) Slot.unset).toArray = ls at hl ⊢
  have hl : lv_has ls 1 [(0, .ref x)] := hl
  refine lv_aload_n hx hb dX9_reach_0 rfl (lv_at hl 0 rfl) ?_
  refine lv_aload_n hx hb dX9_reach_1 rfl (lv_at hl 0 rfl) ?_
  refine kz_kq (wc := [(x, .inr (9, [.ref x_state, .ref x_images, .ref x_kept, .ref x_history, .ref x_drawnTower, .ref x_machine, .ref x_judge, .ref x_runner, .ref x_reader, .ref x_draft, .ref x_paper, .ref x_tape, .int 0, .int (-1), .int 0, .int (-1), .ref x_chances, .ref x_refusals, .int 0])), (x_state, .inr (6, [.ref x_state_tower, .int 1, .int 0, .int 0, .ref x_state_seenPlace, .ref x_state_seenRank, .int 0, .ref x_state_laws, .int 0, .int (-1)])), (x_judge, .inr (1, [.ref x_machine, .ref x_judge_words, .null])), (x_judge_words, .inl (ty 0, 9, .inl (fun _ => 0)))]) (wr := [(x_state_tower, .inr (8, [.ref x_state_tower_rank, .ref x_state_tower_head, .int 0, .int 0, .int 0])), (x_paper, .inr (3, [.ref x_paper_ranks, .ref x_paper_digits, .ref x_paper_barred, .ref x_paper_pays, .ref x_paper_measuredBarred, .ref x_paper_buckets, .ref x_paper_orders, .ref x_paper_turnedOrders, .ref x_paper_turnedHeads, .ref x_paper_toOrder, .ref x_paper_marks, .ref x_paper_line, .ref x_paper_links, .int 0, .int 0, .int 0, .int 0, .int (-1), .int (-1), .int 0])), (x_paper_toOrder, .inl (ty 0, 0, .inl (fun _ => 0))), (x_paper_digits, .inl (ty 0, 6, .inl (fun _ => 0))), (x_paper_barred, .inl (ty 0, 504, .inl (fun _ => 0)))]) (va_runV (As := []) (rest := [.ref x]) ⟨hx, hb, hml, hown, hts⟩ (kX9_seated_42 l D ty eo _ x x_state x_images x_kept x_history x_drawnTower x_machine x_judge x_runner x_reader x_draft x_paper x_tape x_chances x_refusals x_state_tower x_state_seenPlace x_state_seenRank x_state_laws x_judge_words) (cwV 0 hts gX9_reach_X9_seated rfl rfl rfl (by decide +kernel) ⟨Nat.le_of_ble_eq_true rfl, Nat.le_of_ble_eq_true rfl⟩) (kz_preV (ci := 9) (q0 := 0) hK hN hE hP hD hS hA rfl rfl [0, 1, 2, 3] (by decide) rfl) rfl rfl hl.1 rfl (lv_room (Nat.le_of_ble_eq_true rfl)) dX9_reach_2 ⟨Nat.le_of_ble_eq_true rfl, Nat.le_of_ble_eq_true rfl⟩) hP hD hS hA [0, 1, 2, 3] [4, 5, 6, 7, 8] rfl rfl (by decide) (by decide) (fun r u H locs hw hp hd hs => ?_)
  obtain ⟨rfl, rfl⟩ := hw
  refine kz_re (w2 := [(x_state_tower, .inr (8, [.ref x_state_tower_rank, .ref x_state_tower_head, .int 0, .int 0, .int 0])), (x_paper, .inr (3, [.ref x_paper_ranks, .ref x_paper_digits, .ref x_paper_barred, .ref x_paper_pays, .ref x_paper_measuredBarred, .ref x_paper_buckets, .ref x_paper_orders, .ref x_paper_turnedOrders, .ref x_paper_turnedHeads, .ref x_paper_toOrder, .ref x_paper_marks, .ref x_paper_line, .ref x_paper_links, .int 0, .int 0, .int 0, .int 0, .int (-1), .int (-1), .int 0])), (x_paper_toOrder, .inl (ty 0, 0, .inl (fun _ => 0))), (x_paper_digits, .inl (ty 0, 6, .inl (fun _ => 0))), (x_paper_barred, .inl (ty 0, 504, .inl (fun _ => 0))), (x, .inr (9, [.ref x_state, .ref x_images, .ref x_kept, .ref x_history, .ref x_drawnTower, .ref x_machine, .ref x_judge, .ref x_runner, .ref x_reader, .ref x_draft, .ref x_paper, .ref x_tape, .int 0, .int (-1), .int 0, .int (-1), .ref x_chances, .ref x_refusals, .int 0])), (x_state, .inr (6, [.ref x_state_tower, .int 1, .int 0, .int 0, .ref x_state_seenPlace, .ref x_state_seenRank, .int 0, .ref x_state_laws, .int 0, .int (-1)])), (x_judge, .inr (1, [.ref x_machine, .ref x_judge_words, .null])), (x_judge_words, .inl (ty 0, 9, .inl (upd (fun _ => 0) 8 0)))]) hp hd hs rfl ?_
  clear hp hd hs hP hD hS
  intro hP hD hS
  refine kz_kv (wc := [(x, .inr (9, [.ref x_state, .ref x_images, .ref x_kept, .ref x_history, .ref x_drawnTower, .ref x_machine, .ref x_judge, .ref x_runner, .ref x_reader, .ref x_draft, .ref x_paper, .ref x_tape, .int 0, .int (-1), .int 0, .int (-1), .ref x_chances, .ref x_refusals, .int 0])), (x_state, .inr (6, [.ref x_state_tower, .int 1, .int 0, .int 0, .ref x_state_seenPlace, .ref x_state_seenRank, .int 0, .ref x_state_laws, .int 0, .int (-1)])), (x_state_tower, .inr (8, [.ref x_state_tower_rank, .ref x_state_tower_head, .int 0, .int 0, .int 0])), (x_paper, .inr (3, [.ref x_paper_ranks, .ref x_paper_digits, .ref x_paper_barred, .ref x_paper_pays, .ref x_paper_measuredBarred, .ref x_paper_buckets, .ref x_paper_orders, .ref x_paper_turnedOrders, .ref x_paper_turnedHeads, .ref x_paper_toOrder, .ref x_paper_marks, .ref x_paper_line, .ref x_paper_links, .int 0, .int 0, .int 0, .int 0, .int (-1), .int (-1), .int 0])), (x_paper_toOrder, .inl (ty 0, 0, .inl (fun _ => 0))), (x_paper_digits, .inl (ty 0, 6, .inl (fun _ => 0))), (x_paper_barred, .inl (ty 0, 504, .inl (fun _ => 0))), (x_judge, .inr (1, [.ref x_machine, .ref x_judge_words, .null])), (x_judge_words, .inl (ty 0, 9, .inl (upd (fun _ => 0) 8 0)))]) (wr := []) (va_runV (As := [.ref x_judge]) (rest := []) ⟨hx, hb, hml, hown, hts⟩ (kX9_spread_73 l D ty eo _ x x_judge x_state x_images x_kept x_history x_drawnTower x_machine x_runner x_reader x_draft x_paper x_tape x_chances x_refusals x_state_tower x_state_seenPlace x_state_seenRank x_state_laws x_state_tower_rank x_state_tower_head x_paper_ranks x_paper_digits x_paper_barred x_paper_pays x_paper_measuredBarred x_paper_buckets x_paper_orders x_paper_turnedOrders x_paper_turnedHeads x_paper_toOrder x_paper_marks x_paper_line x_paper_links x_judge_words) (cwV 1 hts gX9_reach_X9_spread rfl rfl rfl (by decide +kernel) ⟨Nat.le_of_ble_eq_true rfl, Nat.le_of_ble_eq_true rfl⟩) (kz_preV (ci := 9) (q0 := 5) hK hN hE hP hD hS hA rfl rfl [5, 6, 0, 1, 2, 3, 4, 7, 8] (by decide) rfl) rfl rfl hl.1 rfl (lv_room (Nat.le_of_ble_eq_true rfl)) dX9_reach_5 ⟨Nat.le_of_ble_eq_true rfl, Nat.le_of_ble_eq_true rfl⟩) hP hD hS hA [5, 6, 0, 1, 2, 3, 4, 7, 8] [] rfl rfl (by decide) (by decide) (fun u H locs hw hp hd hs => ?_)
  obtain ⟨q_1, q_2, q_3, q_4, q_5, q_6, q_7, rfl⟩ := hw
  refine kz_re (w2 := [(x, .inr (9, [.ref x_state, .ref x_images, .ref x_kept, .ref x_history, .ref x_drawnTower, .ref x_machine, .ref x_judge, .ref x_runner, .ref x_reader, .ref x_draft, .ref x_paper, .ref x_tape, .int 0, .int (-1), .int 0, .int (-1), .ref x_chances, .ref x_refusals, .int 0])), (x_state, .inr (6, [.ref x_state_tower, .int 1, .int 0, .int 0, .ref x_state_seenPlace, .ref x_state_seenRank, .int 0, .ref x_state_laws, .int 0, .int (-1)])), (x_paper_toOrder, .inl (ty 0, 0, .inl (fun _ => 0))), (q_1, .inl (ty 0, 1, .inl (fun _ => 0))), (q_2, .inl (ty 0, 1, .inl (fun _ => 0))), (q_3, .inl (ty 0, 1, .inl (fun _ => 0))), (q_4, .inl (ty 0, 1, .inl (fun _ => 0))), (q_6, .inl (ty 0, 6, .inl (fun _ => 0))), (q_7, .inl (ty 0, 6, .inl (fun _ => 0))), (q_5, .inl (ty 0, 1, .inl (upd (upd (upd (upd (upd (upd (fun _ => 0) 0 0) 0 8) 0 136) 0 1672) 0 18056) 0 181896))), (x_state_tower, .inr (8, [.ref x_state_tower_rank, .ref x_state_tower_head, .int 0, .int 0, .int 0])), (x_paper_digits, .inl (ty 0, 6, .inl (upd (upd (upd (upd (upd (upd (upd (upd (upd (upd (upd (upd (upd (upd (upd (upd (upd (upd (upd (upd (upd (upd (upd (upd (upd (upd (upd (fun _ => 0) 0 0) 0 0) 1 1) 0 0) 1 1) 2 2) 0 0) 1 1) 2 2) 3 3) 0 0) 1 1) 2 2) 3 3) 4 4) 0 0) 1 1) 2 2) 3 3) 4 4) 5 5) 0 0) 1 1) 2 2) 3 3) 4 4) 5 5))), (x_paper, .inr (3, [.ref x_paper_ranks, .ref x_paper_digits, .ref x_paper_barred, .ref x_paper_pays, .ref x_paper_measuredBarred, .ref x_paper_buckets, .ref q_5, .ref q_6, .ref q_7, .ref q_1, .ref q_2, .ref q_3, .ref q_4, .int 0, .int 1, .int 0, .int 0, .int (-1), .int (-1), .int 0])), (x_paper_barred, .inl (ty 0, 504, .inl (kz_fl (fun _ => 0) 504 0))), (x_judge, .inr (1, [.ref x_machine, .ref x_judge_words, .null])), (x_judge_words, .inl (ty 0, 9, .inl (upd (upd (upd (fun _ => 0) 8 0) 4 0) 7 0)))]) hp hd hs rfl ?_
  clear hp hd hs hP hD hS
  intro hP hD hS
  refine lv_aload_n hx hb dX9_reach_8 rfl (lv_at hl 0 rfl) ?_
  refine va_get (D := D) (ci := 9) (v := .ref x_paper) (C := RX9) (T := TX9) (N := 19) hx hb hts (by decide +kernel) hown hK hP 0 rfl rfl 10 (by decide) (hts (.fieldLink RX9 80 "TurnedFloors" "paper" "LTurnedFloors$Paper;") (by decide +kernel)) (fun _ h9 => h9) rfl dX9_reach_9 ?_
  refine kz_ki (wc := [(x_paper, .inr (3, [.ref x_paper_ranks, .ref x_paper_digits, .ref x_paper_barred, .ref x_paper_pays, .ref x_paper_measuredBarred, .ref x_paper_buckets, .ref q_5, .ref q_6, .ref q_7, .ref q_1, .ref q_2, .ref q_3, .ref q_4, .int 0, .int 1, .int 0, .int 0, .int (-1), .int (-1), .int 0])), (q_2, .inl (ty 0, 1, .inl (fun _ => 0))), (q_3, .inl (ty 0, 1, .inl (fun _ => 0)))]) (wr := [(x, .inr (9, [.ref x_state, .ref x_images, .ref x_kept, .ref x_history, .ref x_drawnTower, .ref x_machine, .ref x_judge, .ref x_runner, .ref x_reader, .ref x_draft, .ref x_paper, .ref x_tape, .int 0, .int (-1), .int 0, .int (-1), .ref x_chances, .ref x_refusals, .int 0])), (x_state, .inr (6, [.ref x_state_tower, .int 1, .int 0, .int 0, .ref x_state_seenPlace, .ref x_state_seenRank, .int 0, .ref x_state_laws, .int 0, .int (-1)])), (x_paper_toOrder, .inl (ty 0, 0, .inl (fun _ => 0))), (q_1, .inl (ty 0, 1, .inl (fun _ => 0))), (q_4, .inl (ty 0, 1, .inl (fun _ => 0))), (q_6, .inl (ty 0, 6, .inl (fun _ => 0))), (q_7, .inl (ty 0, 6, .inl (fun _ => 0))), (q_5, .inl (ty 0, 1, .inl (upd (upd (upd (upd (upd (upd (fun _ => 0) 0 0) 0 8) 0 136) 0 1672) 0 18056) 0 181896))), (x_state_tower, .inr (8, [.ref x_state_tower_rank, .ref x_state_tower_head, .int 0, .int 0, .int 0])), (x_paper_digits, .inl (ty 0, 6, .inl (upd (upd (upd (upd (upd (upd (upd (upd (upd (upd (upd (upd (upd (upd (upd (upd (upd (upd (upd (upd (upd (upd (upd (upd (upd (upd (upd (fun _ => 0) 0 0) 0 0) 1 1) 0 0) 1 1) 2 2) 0 0) 1 1) 2 2) 3 3) 0 0) 1 1) 2 2) 3 3) 4 4) 0 0) 1 1) 2 2) 3 3) 4 4) 5 5) 0 0) 1 1) 2 2) 3 3) 4 4) 5 5))), (x_paper_barred, .inl (ty 0, 504, .inl (kz_fl (fun _ => 0) 504 0))), (x_judge, .inr (1, [.ref x_machine, .ref x_judge_words, .null])), (x_judge_words, .inl (ty 0, 9, .inl (upd (upd (upd (fun _ => 0) 8 0) 4 0) 7 0)))]) (va_runV (As := []) (rest := []) ⟨hx, hb, hml, hown, hts⟩ (kX3_towersReached_104 l D ty eo _ x_paper x_paper_ranks x_paper_digits x_paper_barred x_paper_pays x_paper_measuredBarred x_paper_buckets q_5 q_6 q_7 q_1 q_2 q_3 q_4) (cwV 0 hts gX9_reach_X3_towersReached rfl rfl rfl (by decide +kernel) ⟨Nat.le_of_ble_eq_true rfl, Nat.le_of_ble_eq_true rfl⟩) (kz_preV (ci := 3) (q0 := 12) hK hN hE hP hD hS hA rfl rfl [12, 4, 5] (by decide) rfl) rfl rfl hl.1 rfl (lv_room (Nat.le_of_ble_eq_true rfl)) dX9_reach_12 ⟨Nat.le_of_ble_eq_true rfl, Nat.le_of_ble_eq_true rfl⟩) hP hD hS hA [12, 4, 5] [0, 1, 2, 3, 6, 7, 8, 9, 10, 11, 13, 14, 15] rfl rfl (by decide) (by decide) (fun r u H locs hw hp hd hs => ?_)
  obtain ⟨rfl, rfl⟩ := hw
  refine kz_re (w2 := [(x, .inr (9, [.ref x_state, .ref x_images, .ref x_kept, .ref x_history, .ref x_drawnTower, .ref x_machine, .ref x_judge, .ref x_runner, .ref x_reader, .ref x_draft, .ref x_paper, .ref x_tape, .int 0, .int (-1), .int 0, .int (-1), .ref x_chances, .ref x_refusals, .int 0])), (x_state, .inr (6, [.ref x_state_tower, .int 1, .int 0, .int 0, .ref x_state_seenPlace, .ref x_state_seenRank, .int 0, .ref x_state_laws, .int 0, .int (-1)])), (x_paper_toOrder, .inl (ty 0, 0, .inl (fun _ => 0))), (q_1, .inl (ty 0, 1, .inl (fun _ => 0))), (q_4, .inl (ty 0, 1, .inl (fun _ => 0))), (q_6, .inl (ty 0, 6, .inl (fun _ => 0))), (q_7, .inl (ty 0, 6, .inl (fun _ => 0))), (q_5, .inl (ty 0, 1, .inl (upd (upd (upd (upd (upd (upd (fun _ => 0) 0 0) 0 8) 0 136) 0 1672) 0 18056) 0 181896))), (x_state_tower, .inr (8, [.ref x_state_tower_rank, .ref x_state_tower_head, .int 0, .int 0, .int 0])), (x_paper_digits, .inl (ty 0, 6, .inl (upd (upd (upd (upd (upd (upd (upd (upd (upd (upd (upd (upd (upd (upd (upd (upd (upd (upd (upd (upd (upd (upd (upd (upd (upd (upd (upd (fun _ => 0) 0 0) 0 0) 1 1) 0 0) 1 1) 2 2) 0 0) 1 1) 2 2) 3 3) 0 0) 1 1) 2 2) 3 3) 4 4) 0 0) 1 1) 2 2) 3 3) 4 4) 5 5) 0 0) 1 1) 2 2) 3 3) 4 4) 5 5))), (x_paper_barred, .inl (ty 0, 504, .inl (kz_fl (fun _ => 0) 504 0))), (x_judge, .inr (1, [.ref x_machine, .ref x_judge_words, .null])), (x_judge_words, .inl (ty 0, 9, .inl (upd (upd (upd (fun _ => 0) 8 0) 4 0) 7 0))), (q_3, .inl (ty 0, 1, .inl (upd (fun _ => 0) 0 0))), (q_2, .inl (ty 0, 1, .inl (upd (kz_fl (fun _ => 0) 1 (-1)) 0 0))), (x_paper, .inr (3, [.ref x_paper_ranks, .ref x_paper_digits, .ref x_paper_barred, .ref x_paper_pays, .ref x_paper_measuredBarred, .ref x_paper_buckets, .ref q_5, .ref q_6, .ref q_7, .ref q_1, .ref q_2, .ref q_3, .ref q_4, .int 0, .int 1, .int 0, .int 0, .int (-1), .int (-1), .int 1]))]) hp hd hs rfl ?_
  clear hp hd hs hP hD hS
  intro hP hD hS
  refine W.widen (k := 7) (n := 17) (Nat.le_of_ble_eq_true rfl) (Nat.le_of_ble_eq_true rfl) ?_
  exact kz_iret hx hb hr hlocks hP hK hD hS dX9_reach_15 ⟨q_1, q_2, q_3, q_4, q_5, q_6, q_7, rfl, rfl⟩

set_option maxHeartbeats 4000000 in
set_option maxRecDepth 100000 in
theorem kX8_gapCount_107 (l : Launch) (D : va_G) (ty : Nat → ClassId) (eo : Nat → Nat) (sz : Nat) (x_state_tower x_state_tower_rank x_state_tower_head : Nat) : Met l yX8_gapCount wsX8_gapCount ({ frames := 0, cells := 0, slots := 0, locals := 0 }) (va_Pc [.ref x_state_tower] (kz_pre D ty eo [(x_state_tower, .inr (8, [.ref x_state_tower_rank, .ref x_state_tower_head, .int 0, .int 0, .int 0]))] sz)) (va_Qi (fun (r : Int32) (u : va_W) => 0 = r ∧ [(x_state_tower, .inr (8, [.ref x_state_tower_rank, .ref x_state_tower_head, .int 0, .int 0, .int 0]))] = u) (kz_B D ty (va_A [(x_state_tower, .inr (8, [.ref x_state_tower_rank, .ref x_state_tower_head, .int 0, .int 0, .int 0]))] sz)) (va_A [(x_state_tower, .inr (8, [.ref x_state_tower_rank, .ref x_state_tower_head, .int 0, .int 0, .int 0]))] sz)) 0 0 (va_A [(x_state_tower, .inr (8, [.ref x_state_tower_rank, .ref x_state_tower_head, .int 0, .int 0, .int 0]))] sz) := by
  refine Met.ofW (cc := cX8_gapCount) (maxL := 3) (ret := (some .int)) (by decide) rfl ?_
  intro p e s m args below meth c s₁ B hml hv
  obtain ⟨rfl, hsz, hP, hK, hD0, hN, hE⟩ := hv
  have hx := B.exec
  have hb := B.bytes
  have hr := B.returns
  have hts := atoms_spec (ws := wsX8_gapCount) B.pre
  have hown : s.vm.findClass RX8 = some m.cls := findClass_of_methodNamed B.named
  have hlocks := B.notSynchronized
  subst hsz
  have hD := hD0.self (sz := s.heap.size)
  generalize hAe : va_A [(x_state_tower, .inr (8, [.ref x_state_tower_rank, .ref x_state_tower_head, .int 0, .int 0, .int 0]))] s.heap.size = A at hD hE ⊢
  have hA : ∀ q : Nat, s.heap.size ≤ q → A q := fun q h => by rw [← hAe]; exact Or.inr h
  have hS : va_S A s.heap s.heap [] := va_S.rf
  have hl := lv_entry ([.ref x_state_tower]) (n := 3) (Nat.le_of_ble_eq_true rfl)
  rw [lg_entry_eq]
  generalize (lg_sl ([.ref x_state_tower]) ++ List.replicate (3 - (lg_sl ([.ref x_state_tower])).length) Slot.unset).toArray = ls at hl ⊢
  have hl : lv_has ls 3 [(0, .ref x_state_tower)] := hl
  refine lv_iconst (v := 0) hx hb dX8_gapCount_0 (by decide) ?_
  refine lv_istore_n (lv' := [(1, .int 0), (0, .ref x_state_tower)]) hx hb dX8_gapCount_1 rfl hl (by decide) rfl (fun ls hl => ?_)
  refine lv_iconst (v := 0) hx hb dX8_gapCount_2 (by decide) ?_
  refine lv_istore_n (lv' := [(2, .int 0), (1, .int 0), (0, .ref x_state_tower)]) hx hb dX8_gapCount_3 rfl hl (by decide) rfl (fun ls hl => ?_)
  refine lv_iload_n hx hb dX8_gapCount_4 rfl (lv_at hl 0 rfl) ?_
  refine lv_iconst (v := 1) hx hb dX8_gapCount_5 (by decide) ?_
  refine lv_iadd hx hb dX8_gapCount_6 ?_
  refine kz_topi 1 (by first | rfl | decide +kernel) ?_
  refine lv_aload_n hx hb dX8_gapCount_7 rfl (lv_at hl 2 rfl) ?_
  refine va_get (D := D) (ci := 8) (v := .int 0) (C := RX8) (T := TX8) (N := 5) hx hb hts (by decide +kernel) hown hK hP 0 rfl rfl 2 (by decide) (hts (.fieldLink RX8 18 "TurnedFloors$Tower" "floors" "I") (by decide +kernel)) (fun _ h9 => h9) rfl dX8_gapCount_8 ?_
  refine lv_icmp_ge (tgt := 64) hx hb dX8_gapCount_11 (by decide) (fun _ => ?_) (fun h => absurd (by decide) h)
  refine lv_aload_n hx hb dX8_gapCount_64 rfl (lv_at hl 2 rfl) ?_
  refine va_get (D := D) (ci := 8) (v := .int 0) (C := RX8) (T := TX8) (N := 5) hx hb hts (by decide +kernel) hown hK hP 0 rfl rfl 2 (by decide) (hts (.fieldLink RX8 18 "TurnedFloors$Tower" "floors" "I") (by decide +kernel)) (fun _ h9 => h9) rfl dX8_gapCount_65 ?_
  refine lv_if_ne (tgt := 75) hx hb dX8_gapCount_68 (by decide) (fun h => absurd (by decide) h) (fun _ => ?_)
  refine lv_iconst (v := 0) hx hb dX8_gapCount_71 (by decide) ?_
  refine lv_goto (tgt := 97) hx hb dX8_gapCount_72 (by decide) ?_
  exact kz_iret hx hb hr hlocks hP hK hD hS dX8_gapCount_97 ⟨rfl, rfl⟩

set_option maxHeartbeats 4000000 in
set_option maxRecDepth 100000 in
theorem fX9_gaps (l : Launch) (D : va_G) (ty : Nat → ClassId) (eo : Nat → Nat) (sz : Nat) (x x_state x_images x_kept x_history x_drawnTower x_machine x_judge x_runner x_reader x_draft x_paper x_tape x_chances x_refusals x_state_tower x_state_seenPlace x_state_seenRank x_state_laws x_state_tower_rank x_state_tower_head : Nat) : Met l yX9_gaps wsX9_gaps ({ frames := 1, cells := 0, slots := 0, locals := 22 }) (va_Pc [.ref x] (kz_pre D ty eo [(x, .inr (9, [.ref x_state, .ref x_images, .ref x_kept, .ref x_history, .ref x_drawnTower, .ref x_machine, .ref x_judge, .ref x_runner, .ref x_reader, .ref x_draft, .ref x_paper, .ref x_tape, .int 0, .int (-1), .int 0, .int (-1), .ref x_chances, .ref x_refusals, .int 0])), (x_state, .inr (6, [.ref x_state_tower, .int 1, .int 0, .int 0, .ref x_state_seenPlace, .ref x_state_seenRank, .int 0, .ref x_state_laws, .int 0, .int (-1)])), (x_state_tower, .inr (8, [.ref x_state_tower_rank, .ref x_state_tower_head, .int 0, .int 0, .int 0]))] sz)) (va_Qi (fun (r : Int32) (u : va_W) => 0 = r ∧ [(x, .inr (9, [.ref x_state, .ref x_images, .ref x_kept, .ref x_history, .ref x_drawnTower, .ref x_machine, .ref x_judge, .ref x_runner, .ref x_reader, .ref x_draft, .ref x_paper, .ref x_tape, .int 0, .int (-1), .int 0, .int (-1), .ref x_chances, .ref x_refusals, .int 0])), (x_state, .inr (6, [.ref x_state_tower, .int 1, .int 0, .int 0, .ref x_state_seenPlace, .ref x_state_seenRank, .int 0, .ref x_state_laws, .int 0, .int (-1)])), (x_state_tower, .inr (8, [.ref x_state_tower_rank, .ref x_state_tower_head, .int 0, .int 0, .int 0]))] = u) (kz_B D ty (va_A [(x, .inr (9, [.ref x_state, .ref x_images, .ref x_kept, .ref x_history, .ref x_drawnTower, .ref x_machine, .ref x_judge, .ref x_runner, .ref x_reader, .ref x_draft, .ref x_paper, .ref x_tape, .int 0, .int (-1), .int 0, .int (-1), .ref x_chances, .ref x_refusals, .int 0])), (x_state, .inr (6, [.ref x_state_tower, .int 1, .int 0, .int 0, .ref x_state_seenPlace, .ref x_state_seenRank, .int 0, .ref x_state_laws, .int 0, .int (-1)])), (x_state_tower, .inr (8, [.ref x_state_tower_rank, .ref x_state_tower_head, .int 0, .int 0, .int 0]))] sz)) (va_A [(x, .inr (9, [.ref x_state, .ref x_images, .ref x_kept, .ref x_history, .ref x_drawnTower, .ref x_machine, .ref x_judge, .ref x_runner, .ref x_reader, .ref x_draft, .ref x_paper, .ref x_tape, .int 0, .int (-1), .int 0, .int (-1), .ref x_chances, .ref x_refusals, .int 0])), (x_state, .inr (6, [.ref x_state_tower, .int 1, .int 0, .int 0, .ref x_state_seenPlace, .ref x_state_seenRank, .int 0, .ref x_state_laws, .int 0, .int (-1)])), (x_state_tower, .inr (8, [.ref x_state_tower_rank, .ref x_state_tower_head, .int 0, .int 0, .int 0]))] sz)) 0 0 (va_A [(x, .inr (9, [.ref x_state, .ref x_images, .ref x_kept, .ref x_history, .ref x_drawnTower, .ref x_machine, .ref x_judge, .ref x_runner, .ref x_reader, .ref x_draft, .ref x_paper, .ref x_tape, .int 0, .int (-1), .int 0, .int (-1), .ref x_chances, .ref x_refusals, .int 0])), (x_state, .inr (6, [.ref x_state_tower, .int 1, .int 0, .int 0, .ref x_state_seenPlace, .ref x_state_seenRank, .int 0, .ref x_state_laws, .int 0, .int (-1)])), (x_state_tower, .inr (8, [.ref x_state_tower_rank, .ref x_state_tower_head, .int 0, .int 0, .int 0]))] sz) := by
  refine Met.ofW (cc := cX9_gaps) (maxL := 1) (ret := (some .int)) (by decide) rfl ?_
  intro p e s m args below meth c s₁ B hml hv
  obtain ⟨rfl, hsz, hP, hK, hD0, hN, hE⟩ := hv
  have hx := B.exec
  have hb := B.bytes
  have hr := B.returns
  have hts := atoms_spec (ws := wsX9_gaps) B.pre
  have hown : s.vm.findClass RX9 = some m.cls := findClass_of_methodNamed B.named
  have hlocks := B.notSynchronized
  subst hsz
  have hD := hD0.self (sz := s.heap.size)
  generalize hAe : va_A [(x, .inr (9, [.ref x_state, .ref x_images, .ref x_kept, .ref x_history, .ref x_drawnTower, .ref x_machine, .ref x_judge, .ref x_runner, .ref x_reader, .ref x_draft, .ref x_paper, .ref x_tape, .int 0, .int (-1), .int 0, .int (-1), .ref x_chances, .ref x_refusals, .int 0])), (x_state, .inr (6, [.ref x_state_tower, .int 1, .int 0, .int 0, .ref x_state_seenPlace, .ref x_state_seenRank, .int 0, .ref x_state_laws, .int 0, .int (-1)])), (x_state_tower, .inr (8, [.ref x_state_tower_rank, .ref x_state_tower_head, .int 0, .int 0, .int 0]))] s.heap.size = A at hD hE ⊢
  have hA : ∀ q : Nat, s.heap.size ≤ q → A q := fun q h => by rw [← hAe]; exact Or.inr h
  have hS : va_S A s.heap s.heap [] := va_S.rf
  have hl := lv_entry ([.ref x]) (n := 1) (Nat.le_of_ble_eq_true rfl)
  rw [lg_entry_eq]
  generalize (lg_sl ([.ref x]) ++ List.replicate (1 - (lg_sl ([.ref x])).length) Slot.unset).toArray = ls at hl ⊢
  have hl : lv_has ls 1 [(0, .ref x)] := hl
  refine lv_aload_n hx hb dX9_gaps_0 rfl (lv_at hl 0 rfl) ?_
  refine va_get (D := D) (ci := 9) (v := .ref x_state) (C := RX9) (T := TX9) (N := 19) hx hb hts (by decide +kernel) hown hK hP 0 rfl rfl 0 (by decide) (hts (.fieldLink RX9 10 "TurnedFloors" "state" "LTurnedFloors$State;") (by decide +kernel)) (fun _ h9 => h9) rfl dX9_gaps_1 ?_
  refine va_getN (D := D) (ci := 6) (v := .ref x_state_tower) (C := RX6) (T := TX6) (N := 10) hx hb hts (by decide +kernel) hown hK hP 1 rfl rfl 0 (by decide) (hN.use (.fieldLinkNest "TurnedFloors" 122 "TurnedFloors$State" "tower" "LTurnedFloors$Tower;" "TurnedFloors") (by decide +kernel)) (fun _ h9 => h9) rfl dX9_gaps_4 ?_
  refine kz_ki (wc := [(x_state_tower, .inr (8, [.ref x_state_tower_rank, .ref x_state_tower_head, .int 0, .int 0, .int 0]))]) (wr := [(x, .inr (9, [.ref x_state, .ref x_images, .ref x_kept, .ref x_history, .ref x_drawnTower, .ref x_machine, .ref x_judge, .ref x_runner, .ref x_reader, .ref x_draft, .ref x_paper, .ref x_tape, .int 0, .int (-1), .int 0, .int (-1), .ref x_chances, .ref x_refusals, .int 0])), (x_state, .inr (6, [.ref x_state_tower, .int 1, .int 0, .int 0, .ref x_state_seenPlace, .ref x_state_seenRank, .int 0, .ref x_state_laws, .int 0, .int (-1)]))]) (va_runV (As := []) (rest := []) ⟨hx, hb, hml, hown, hts⟩ (kX8_gapCount_107 l D ty eo _ x_state_tower x_state_tower_rank x_state_tower_head) (cwV 0 hts gX9_gaps_X8_gapCount rfl rfl rfl (by decide +kernel) ⟨Nat.le_of_ble_eq_true rfl, Nat.le_of_ble_eq_true rfl⟩) (kz_preV (ci := 8) (q0 := 2) hK hN hE hP hD hS hA rfl rfl [2] (by decide) rfl) rfl rfl hl.1 rfl (lv_room (Nat.le_of_ble_eq_true rfl)) dX9_gaps_7 ⟨Nat.le_of_ble_eq_true rfl, Nat.le_of_ble_eq_true rfl⟩) hP hD hS hA [2] [0, 1] rfl rfl (by decide) (by decide) (fun r u H locs hw hp hd hs => ?_)
  obtain ⟨rfl, rfl⟩ := hw
  refine kz_re (w2 := [(x, .inr (9, [.ref x_state, .ref x_images, .ref x_kept, .ref x_history, .ref x_drawnTower, .ref x_machine, .ref x_judge, .ref x_runner, .ref x_reader, .ref x_draft, .ref x_paper, .ref x_tape, .int 0, .int (-1), .int 0, .int (-1), .ref x_chances, .ref x_refusals, .int 0])), (x_state, .inr (6, [.ref x_state_tower, .int 1, .int 0, .int 0, .ref x_state_seenPlace, .ref x_state_seenRank, .int 0, .ref x_state_laws, .int 0, .int (-1)])), (x_state_tower, .inr (8, [.ref x_state_tower_rank, .ref x_state_tower_head, .int 0, .int 0, .int 0]))]) hp hd hs rfl ?_
  clear hp hd hs hP hD hS
  intro hP hD hS
  exact kz_iret hx hb hr hlocks hP hK hD hS dX9_gaps_10 ⟨rfl, rfl⟩

set_option maxHeartbeats 4000000 in
set_option maxRecDepth 100000 in
theorem kX3_numberOfOrder_108 (l : Launch) (D : va_G) (ty : Nat → ClassId) (eo : Nat → Nat) (sz : Nat) (h0 h0_ranks h0_digits h0_barred h0_pays h0_measuredBarred h0_buckets h0_orders h0_turnedOrders h0_turnedHeads h0_toOrder h0_marks h0_line h0_links : Nat) (h0_floors : Int32) (h0_v14 h0_v15 h0_v16 h0_v17 h0_v18 h0_v19 : Value) (h0_digits_f : Nat → Int32) : Met l yX3_numberOfOrder wsX3_numberOfOrder ({ frames := 1, cells := 0, slots := 0, locals := 20 }) (va_Pc [.ref h0] (kz_pre D ty eo [(h0, .inr (3, [.ref h0_ranks, .ref h0_digits, .ref h0_barred, .ref h0_pays, .ref h0_measuredBarred, .ref h0_buckets, .ref h0_orders, .ref h0_turnedOrders, .ref h0_turnedHeads, .ref h0_toOrder, .ref h0_marks, .ref h0_line, .ref h0_links, .int h0_floors, h0_v14, h0_v15, h0_v16, h0_v17, h0_v18, h0_v19])), (h0_digits, .inl (ty 0, 6, .inl (upd (upd (upd (upd (upd (upd h0_digits_f 5 5) 4 4) 3 3) 2 2) 1 1) 0 0)))] sz)) (va_Qi (fun (r : Int32) (u : va_W) => 0 = r ∧ [(h0, .inr (3, [.ref h0_ranks, .ref h0_digits, .ref h0_barred, .ref h0_pays, .ref h0_measuredBarred, .ref h0_buckets, .ref h0_orders, .ref h0_turnedOrders, .ref h0_turnedHeads, .ref h0_toOrder, .ref h0_marks, .ref h0_line, .ref h0_links, .int h0_floors, h0_v14, h0_v15, h0_v16, h0_v17, h0_v18, h0_v19])), (h0_digits, .inl (ty 0, 6, .inl (upd (upd (upd (upd (upd (upd h0_digits_f 5 5) 4 4) 3 3) 2 2) 1 1) 0 0)))] = u) (kz_B D ty (va_A [(h0, .inr (3, [.ref h0_ranks, .ref h0_digits, .ref h0_barred, .ref h0_pays, .ref h0_measuredBarred, .ref h0_buckets, .ref h0_orders, .ref h0_turnedOrders, .ref h0_turnedHeads, .ref h0_toOrder, .ref h0_marks, .ref h0_line, .ref h0_links, .int h0_floors, h0_v14, h0_v15, h0_v16, h0_v17, h0_v18, h0_v19])), (h0_digits, .inl (ty 0, 6, .inl (upd (upd (upd (upd (upd (upd h0_digits_f 5 5) 4 4) 3 3) 2 2) 1 1) 0 0)))] sz)) (va_A [(h0, .inr (3, [.ref h0_ranks, .ref h0_digits, .ref h0_barred, .ref h0_pays, .ref h0_measuredBarred, .ref h0_buckets, .ref h0_orders, .ref h0_turnedOrders, .ref h0_turnedHeads, .ref h0_toOrder, .ref h0_marks, .ref h0_line, .ref h0_links, .int h0_floors, h0_v14, h0_v15, h0_v16, h0_v17, h0_v18, h0_v19])), (h0_digits, .inl (ty 0, 6, .inl (upd (upd (upd (upd (upd (upd h0_digits_f 5 5) 4 4) 3 3) 2 2) 1 1) 0 0)))] sz)) 0 0 (va_A [(h0, .inr (3, [.ref h0_ranks, .ref h0_digits, .ref h0_barred, .ref h0_pays, .ref h0_measuredBarred, .ref h0_buckets, .ref h0_orders, .ref h0_turnedOrders, .ref h0_turnedHeads, .ref h0_toOrder, .ref h0_marks, .ref h0_line, .ref h0_links, .int h0_floors, h0_v14, h0_v15, h0_v16, h0_v17, h0_v18, h0_v19])), (h0_digits, .inl (ty 0, 6, .inl (upd (upd (upd (upd (upd (upd h0_digits_f 5 5) 4 4) 3 3) 2 2) 1 1) 0 0)))] sz) := by
  refine Met.ofW (cc := cX3_numberOfOrder) (maxL := 5) (ret := (some .int)) (by decide) rfl ?_
  intro p e s m args below meth c s₁ B hml hv
  obtain ⟨rfl, hsz, hP, hK, hD0, hN, hE⟩ := hv
  have hx := B.exec
  have hb := B.bytes
  have hr := B.returns
  have hts := atoms_spec (ws := wsX3_numberOfOrder) B.pre
  have hown : s.vm.findClass RX3 = some m.cls := findClass_of_methodNamed B.named
  have hlocks := B.notSynchronized
  subst hsz
  have hD := hD0.self (sz := s.heap.size)
  generalize hAe : va_A [(h0, .inr (3, [.ref h0_ranks, .ref h0_digits, .ref h0_barred, .ref h0_pays, .ref h0_measuredBarred, .ref h0_buckets, .ref h0_orders, .ref h0_turnedOrders, .ref h0_turnedHeads, .ref h0_toOrder, .ref h0_marks, .ref h0_line, .ref h0_links, .int h0_floors, h0_v14, h0_v15, h0_v16, h0_v17, h0_v18, h0_v19])), (h0_digits, .inl (ty 0, 6, .inl (upd (upd (upd (upd (upd (upd h0_digits_f 5 5) 4 4) 3 3) 2 2) 1 1) 0 0)))] s.heap.size = A at hD hE ⊢
  have hA : ∀ q : Nat, s.heap.size ≤ q → A q := fun q h => by rw [← hAe]; exact Or.inr h
  have hS : va_S A s.heap s.heap [] := va_S.rf
  have hl := lv_entry ([.ref h0]) (n := 5) (Nat.le_of_ble_eq_true rfl)
  rw [lg_entry_eq]
  generalize (lg_sl ([.ref h0]) ++ List.replicate (5 - (lg_sl ([.ref h0])).length) Slot.unset).toArray = ls at hl ⊢
  have hl : lv_has ls 5 [(0, .ref h0)] := hl
  refine lv_iconst (v := 0) hx hb dX3_numberOfOrder_0 (by decide) ?_
  refine lv_istore_n (lv' := [(1, .int 0), (0, .ref h0)]) hx hb dX3_numberOfOrder_1 rfl hl (by decide) rfl (fun ls hl => ?_)
  refine lv_iconst (v := 0) hx hb dX3_numberOfOrder_2 (by decide) ?_
  refine lv_istore_n (lv' := [(2, .int 0), (1, .int 0), (0, .ref h0)]) hx hb dX3_numberOfOrder_3 rfl hl (by decide) rfl (fun ls hl => ?_)
  refine lv_iload_n hx hb dX3_numberOfOrder_4 rfl (lv_at hl 0 rfl) ?_
  refine lv_bipush (v := 6) hx hb dX3_numberOfOrder_5 (by decide) ?_
  refine lv_icmp_ge (tgt := 70) hx hb dX3_numberOfOrder_7 (by decide) (fun h => absurd h (by decide)) (fun _ => ?_)
  refine lv_iconst (v := 0) hx hb dX3_numberOfOrder_10 (by decide) ?_
  refine lv_istore_n (lv' := [(3, .int 0), (2, .int 0), (1, .int 0), (0, .ref h0)]) hx hb dX3_numberOfOrder_11 rfl hl (by decide) rfl (fun ls hl => ?_)
  refine lv_iconst (v := 0) hx hb dX3_numberOfOrder_12 (by decide) ?_
  refine lv_istore (lv' := [(4, .int 0), (3, .int 0), (2, .int 0), (1, .int 0), (0, .ref h0)]) hx hb dX3_numberOfOrder_13 hl (by decide) rfl (fun ls hl => ?_)
  refine lv_iload hx hb dX3_numberOfOrder_15 (lv_at hl 0 rfl) ?_
  refine lv_iload_n hx hb dX3_numberOfOrder_17 rfl (lv_at hl 2 rfl) ?_
  refine lv_icmp_ge (tgt := 54) hx hb dX3_numberOfOrder_18 (by decide) (fun _ => ?_) (fun h => absurd (by decide) h)
  refine lv_iload_n hx hb dX3_numberOfOrder_54 rfl (lv_at hl 3 rfl) ?_
  refine lv_iload_n hx hb dX3_numberOfOrder_55 rfl (lv_at hl 1 rfl) ?_
  refine va_gets hx hb hE.1 hS hown (hts (.fieldLink RX3 76 "TurnedFloors$Paper" "FACTORIALS" "[I") (by decide +kernel)) (fun _ h9 => h9) dX3_numberOfOrder_56 ?_
  refine lv_iload_n hx hb dX3_numberOfOrder_59 rfl (lv_at hl 2 rfl) ?_
  refine va_ti (v := .int 1) hx hb hE.2.1 hS (by simp only [vp_in]; decide) rfl dX3_numberOfOrder_60 ?_
  refine lv_imul hx hb dX3_numberOfOrder_61 ?_
  refine kz_topi 0 (by first | rfl | decide +kernel) ?_
  refine lv_iadd hx hb dX3_numberOfOrder_62 ?_
  refine kz_topi 0 (by first | rfl | decide +kernel) ?_
  refine lv_istore_n (lv' := [(1, .int 0), (4, .int 0), (3, .int 0), (2, .int 0), (0, .ref h0)]) hx hb dX3_numberOfOrder_63 rfl hl (by decide) rfl (fun ls hl => ?_)
  refine lv_iinc (v := 1) (lv' := [(2, .int 1), (1, .int 0), (4, .int 0), (3, .int 0), (0, .ref h0)]) hx hb dX3_numberOfOrder_64 hl (k := 3) rfl (by decide) (by decide) rfl (fun ls hl => ?_)
  refine lv_goto (tgt := 4) hx hb dX3_numberOfOrder_67 (by decide) ?_
  refine lv_iload_n hx hb dX3_numberOfOrder_4 rfl (lv_at hl 0 rfl) ?_
  refine lv_bipush (v := 6) hx hb dX3_numberOfOrder_5 (by decide) ?_
  refine lv_icmp_ge (tgt := 70) hx hb dX3_numberOfOrder_7 (by decide) (fun h => absurd h (by decide)) (fun _ => ?_)
  refine lv_iconst (v := 0) hx hb dX3_numberOfOrder_10 (by decide) ?_
  refine lv_istore_n (lv' := [(3, .int 0), (2, .int 1), (1, .int 0), (4, .int 0), (0, .ref h0)]) hx hb dX3_numberOfOrder_11 rfl hl (by decide) rfl (fun ls hl => ?_)
  refine lv_iconst (v := 0) hx hb dX3_numberOfOrder_12 (by decide) ?_
  refine lv_istore (lv' := [(4, .int 0), (3, .int 0), (2, .int 1), (1, .int 0), (0, .ref h0)]) hx hb dX3_numberOfOrder_13 hl (by decide) rfl (fun ls hl => ?_)
  refine lv_iload hx hb dX3_numberOfOrder_15 (lv_at hl 0 rfl) ?_
  refine lv_iload_n hx hb dX3_numberOfOrder_17 rfl (lv_at hl 2 rfl) ?_
  refine lv_icmp_ge (tgt := 54) hx hb dX3_numberOfOrder_18 (by decide) (fun h => absurd h (by decide)) (fun _ => ?_)
  refine lv_iload_n hx hb dX3_numberOfOrder_21 rfl (lv_at hl 1 rfl) ?_
  refine lv_aload_n hx hb dX3_numberOfOrder_22 rfl (lv_at hl 4 rfl) ?_
  refine va_get (D := D) (ci := 3) (v := .ref h0_digits) (C := RX3) (T := TX3) (N := 20) hx hb hts (by decide +kernel) hown hK hP 0 rfl rfl 1 (by decide) (hts (.fieldLink RX3 15 "TurnedFloors$Paper" "digits" "[I") (by decide +kernel)) (fun _ h9 => h9) rfl dX3_numberOfOrder_23 ?_
  refine lv_iload hx hb dX3_numberOfOrder_26 (lv_at hl 0 rfl) ?_
  refine va_iald hx hb hK hP 1 0 rfl rfl (by simp only [vp_in]; decide) dX3_numberOfOrder_28 ?_
  refine kz_topi 0 (by first | rfl | decide +kernel) ?_
  refine lv_aload_n hx hb dX3_numberOfOrder_29 rfl (lv_at hl 4 rfl) ?_
  refine va_get (D := D) (ci := 3) (v := .ref h0_digits) (C := RX3) (T := TX3) (N := 20) hx hb hts (by decide +kernel) hown hK hP 0 rfl rfl 1 (by decide) (hts (.fieldLink RX3 15 "TurnedFloors$Paper" "digits" "[I") (by decide +kernel)) (fun _ h9 => h9) rfl dX3_numberOfOrder_30 ?_
  refine lv_iload_n hx hb dX3_numberOfOrder_33 rfl (lv_at hl 2 rfl) ?_
  refine va_iald hx hb hK hP 1 0 rfl rfl (by simp only [vp_in]; decide) dX3_numberOfOrder_34 ?_
  refine kz_topi 1 (by first | rfl | decide +kernel) ?_
  refine lv_icmp_le (tgt := 42) hx hb dX3_numberOfOrder_35 (by decide) (fun _ => ?_) (fun h => absurd (by decide) h)
  refine lv_iconst (v := 0) hx hb dX3_numberOfOrder_42 (by decide) ?_
  refine kz_ki (wc := []) (wr := [(h0, .inr (3, [.ref h0_ranks, .ref h0_digits, .ref h0_barred, .ref h0_pays, .ref h0_measuredBarred, .ref h0_buckets, .ref h0_orders, .ref h0_turnedOrders, .ref h0_turnedHeads, .ref h0_toOrder, .ref h0_marks, .ref h0_line, .ref h0_links, .int h0_floors, h0_v14, h0_v15, h0_v16, h0_v17, h0_v18, h0_v19])), (h0_digits, .inl (ty 0, 6, .inl (upd (upd (upd (upd (upd (upd h0_digits_f 5 5) 4 4) 3 3) 2 2) 1 1) 0 0)))]) (va_runSN (As := [.int 0]) (rest := [.int 0]) ⟨hx, hb, hml, hown, hts⟩ (kcX9_bit l D ty eo _ 0) ⟨va_cnB 1 hts gX3_numberOfOrder_X9_bit_n133 rfl rfl rfl (hN.1 _ (by decide +kernel : (.methodLinkNest "TurnedFloors$Paper" 133 yX9_bit "TurnedFloors" : Cond) ∈ kzN1)) (hts (.initialized RX9) (by decide +kernel)) (by decide +kernel) ⟨Nat.le_of_ble_eq_true rfl, Nat.le_of_ble_eq_true rfl⟩, hts (.static yX9_bit) (by decide +kernel), trivial⟩ (kz_preS hK hN hE hP hD hS hA [] (by decide) rfl) rfl rfl hl.1 rfl (lv_room (Nat.le_of_ble_eq_true rfl)) dX3_numberOfOrder_43 ⟨Nat.le_of_ble_eq_true rfl, Nat.le_of_ble_eq_true rfl⟩) hP hD hS hA [] [0, 1] rfl rfl (by decide) (by decide) (fun r u H locs hw hp hd hs => ?_)
  rcases hw with ⟨c_1, rfl, rfl⟩ | ⟨c_2, rfl, rfl⟩
  · refine kz_re (w2 := [(h0, .inr (3, [.ref h0_ranks, .ref h0_digits, .ref h0_barred, .ref h0_pays, .ref h0_measuredBarred, .ref h0_buckets, .ref h0_orders, .ref h0_turnedOrders, .ref h0_turnedHeads, .ref h0_toOrder, .ref h0_marks, .ref h0_line, .ref h0_links, .int h0_floors, h0_v14, h0_v15, h0_v16, h0_v17, h0_v18, h0_v19])), (h0_digits, .inl (ty 0, 6, .inl (upd (upd (upd (upd (upd (upd h0_digits_f 5 5) 4 4) 3 3) 2 2) 1 1) 0 0)))]) hp hd hs rfl ?_
    clear hp hd hs hP hD hS
    intro hP hD hS
    refine lv_iadd hx hb dX3_numberOfOrder_46 ?_
    refine kz_topi 0 (by first | rfl | decide +kernel) ?_
    refine lv_istore_n (lv' := [(3, .int 0), (4, .int 0), (2, .int 1), (1, .int 0), (0, .ref h0)]) hx hb dX3_numberOfOrder_47 rfl hl (by decide) rfl (fun ls hl => ?_)
    refine lv_iinc (v := 1) (lv' := [(4, .int 1), (3, .int 0), (2, .int 1), (1, .int 0), (0, .ref h0)]) hx hb dX3_numberOfOrder_48 hl (k := 1) rfl (by decide) (by decide) rfl (fun ls hl => ?_)
    refine lv_goto (tgt := 15) hx hb dX3_numberOfOrder_51 (by decide) ?_
    refine lv_iload hx hb dX3_numberOfOrder_15 (lv_at hl 0 rfl) ?_
    refine lv_iload_n hx hb dX3_numberOfOrder_17 rfl (lv_at hl 2 rfl) ?_
    refine lv_icmp_ge (tgt := 54) hx hb dX3_numberOfOrder_18 (by decide) (fun _ => ?_) (fun h => absurd (by decide) h)
    refine lv_iload_n hx hb dX3_numberOfOrder_54 rfl (lv_at hl 3 rfl) ?_
    refine lv_iload_n hx hb dX3_numberOfOrder_55 rfl (lv_at hl 1 rfl) ?_
    refine va_gets hx hb hE.1 hS hown (hts (.fieldLink RX3 76 "TurnedFloors$Paper" "FACTORIALS" "[I") (by decide +kernel)) (fun _ h9 => h9) dX3_numberOfOrder_56 ?_
    refine lv_iload_n hx hb dX3_numberOfOrder_59 rfl (lv_at hl 2 rfl) ?_
    refine va_ti (v := .int 1) hx hb hE.2.1 hS (by simp only [vp_in]; decide) rfl dX3_numberOfOrder_60 ?_
    refine lv_imul hx hb dX3_numberOfOrder_61 ?_
    refine kz_topi 0 (by first | rfl | decide +kernel) ?_
    refine lv_iadd hx hb dX3_numberOfOrder_62 ?_
    refine kz_topi 0 (by first | rfl | decide +kernel) ?_
    refine lv_istore_n (lv' := [(1, .int 0), (4, .int 1), (3, .int 0), (2, .int 1), (0, .ref h0)]) hx hb dX3_numberOfOrder_63 rfl hl (by decide) rfl (fun ls hl => ?_)
    refine lv_iinc (v := 2) (lv' := [(2, .int 2), (1, .int 0), (4, .int 1), (3, .int 0), (0, .ref h0)]) hx hb dX3_numberOfOrder_64 hl (k := 3) rfl (by decide) (by decide) rfl (fun ls hl => ?_)
    refine lv_goto (tgt := 4) hx hb dX3_numberOfOrder_67 (by decide) ?_
    refine lv_iload_n hx hb dX3_numberOfOrder_4 rfl (lv_at hl 0 rfl) ?_
    refine lv_bipush (v := 6) hx hb dX3_numberOfOrder_5 (by decide) ?_
    refine lv_icmp_ge (tgt := 70) hx hb dX3_numberOfOrder_7 (by decide) (fun h => absurd h (by decide)) (fun _ => ?_)
    refine lv_iconst (v := 0) hx hb dX3_numberOfOrder_10 (by decide) ?_
    refine lv_istore_n (lv' := [(3, .int 0), (2, .int 2), (1, .int 0), (4, .int 1), (0, .ref h0)]) hx hb dX3_numberOfOrder_11 rfl hl (by decide) rfl (fun ls hl => ?_)
    refine lv_iconst (v := 0) hx hb dX3_numberOfOrder_12 (by decide) ?_
    refine lv_istore (lv' := [(4, .int 0), (3, .int 0), (2, .int 2), (1, .int 0), (0, .ref h0)]) hx hb dX3_numberOfOrder_13 hl (by decide) rfl (fun ls hl => ?_)
    refine lv_iload hx hb dX3_numberOfOrder_15 (lv_at hl 0 rfl) ?_
    refine lv_iload_n hx hb dX3_numberOfOrder_17 rfl (lv_at hl 2 rfl) ?_
    refine lv_icmp_ge (tgt := 54) hx hb dX3_numberOfOrder_18 (by decide) (fun h => absurd h (by decide)) (fun _ => ?_)
    refine lv_iload_n hx hb dX3_numberOfOrder_21 rfl (lv_at hl 1 rfl) ?_
    refine lv_aload_n hx hb dX3_numberOfOrder_22 rfl (lv_at hl 4 rfl) ?_
    refine va_get (D := D) (ci := 3) (v := .ref h0_digits) (C := RX3) (T := TX3) (N := 20) hx hb hts (by decide +kernel) hown hK hP 0 rfl rfl 1 (by decide) (hts (.fieldLink RX3 15 "TurnedFloors$Paper" "digits" "[I") (by decide +kernel)) (fun _ h9 => h9) rfl dX3_numberOfOrder_23 ?_
    refine lv_iload hx hb dX3_numberOfOrder_26 (lv_at hl 0 rfl) ?_
    refine va_iald hx hb hK hP 1 0 rfl rfl (by simp only [vp_in]; decide) dX3_numberOfOrder_28 ?_
    refine kz_topi 0 (by first | rfl | decide +kernel) ?_
    refine lv_aload_n hx hb dX3_numberOfOrder_29 rfl (lv_at hl 4 rfl) ?_
    refine va_get (D := D) (ci := 3) (v := .ref h0_digits) (C := RX3) (T := TX3) (N := 20) hx hb hts (by decide +kernel) hown hK hP 0 rfl rfl 1 (by decide) (hts (.fieldLink RX3 15 "TurnedFloors$Paper" "digits" "[I") (by decide +kernel)) (fun _ h9 => h9) rfl dX3_numberOfOrder_30 ?_
    refine lv_iload_n hx hb dX3_numberOfOrder_33 rfl (lv_at hl 2 rfl) ?_
    refine va_iald hx hb hK hP 1 0 rfl rfl (by simp only [vp_in]; decide) dX3_numberOfOrder_34 ?_
    refine kz_topi 2 (by first | rfl | decide +kernel) ?_
    refine lv_icmp_le (tgt := 42) hx hb dX3_numberOfOrder_35 (by decide) (fun _ => ?_) (fun h => absurd (by decide) h)
    refine lv_iconst (v := 0) hx hb dX3_numberOfOrder_42 (by decide) ?_
    refine kz_ki (wc := []) (wr := [(h0, .inr (3, [.ref h0_ranks, .ref h0_digits, .ref h0_barred, .ref h0_pays, .ref h0_measuredBarred, .ref h0_buckets, .ref h0_orders, .ref h0_turnedOrders, .ref h0_turnedHeads, .ref h0_toOrder, .ref h0_marks, .ref h0_line, .ref h0_links, .int h0_floors, h0_v14, h0_v15, h0_v16, h0_v17, h0_v18, h0_v19])), (h0_digits, .inl (ty 0, 6, .inl (upd (upd (upd (upd (upd (upd h0_digits_f 5 5) 4 4) 3 3) 2 2) 1 1) 0 0)))]) (va_runSN (As := [.int 0]) (rest := [.int 0]) ⟨hx, hb, hml, hown, hts⟩ (kcX9_bit l D ty eo _ 0) ⟨va_cnB 1 hts gX3_numberOfOrder_X9_bit_n133 rfl rfl rfl (hN.1 _ (by decide +kernel : (.methodLinkNest "TurnedFloors$Paper" 133 yX9_bit "TurnedFloors" : Cond) ∈ kzN1)) (hts (.initialized RX9) (by decide +kernel)) (by decide +kernel) ⟨Nat.le_of_ble_eq_true rfl, Nat.le_of_ble_eq_true rfl⟩, hts (.static yX9_bit) (by decide +kernel), trivial⟩ (kz_preS hK hN hE hP hD hS hA [] (by decide) rfl) rfl rfl hl.1 rfl (lv_room (Nat.le_of_ble_eq_true rfl)) dX3_numberOfOrder_43 ⟨Nat.le_of_ble_eq_true rfl, Nat.le_of_ble_eq_true rfl⟩) hP hD hS hA [] [0, 1] rfl rfl (by decide) (by decide) (fun r u H locs hw hp hd hs => ?_)
    rcases hw with ⟨c_3, rfl, rfl⟩ | ⟨c_4, rfl, rfl⟩
    · refine kz_re (w2 := [(h0, .inr (3, [.ref h0_ranks, .ref h0_digits, .ref h0_barred, .ref h0_pays, .ref h0_measuredBarred, .ref h0_buckets, .ref h0_orders, .ref h0_turnedOrders, .ref h0_turnedHeads, .ref h0_toOrder, .ref h0_marks, .ref h0_line, .ref h0_links, .int h0_floors, h0_v14, h0_v15, h0_v16, h0_v17, h0_v18, h0_v19])), (h0_digits, .inl (ty 0, 6, .inl (upd (upd (upd (upd (upd (upd h0_digits_f 5 5) 4 4) 3 3) 2 2) 1 1) 0 0)))]) hp hd hs rfl ?_
      clear hp hd hs hP hD hS
      intro hP hD hS
      refine lv_iadd hx hb dX3_numberOfOrder_46 ?_
      refine kz_topi 0 (by first | rfl | decide +kernel) ?_
      refine lv_istore_n (lv' := [(3, .int 0), (4, .int 0), (2, .int 2), (1, .int 0), (0, .ref h0)]) hx hb dX3_numberOfOrder_47 rfl hl (by decide) rfl (fun ls hl => ?_)
      refine lv_iinc (v := 1) (lv' := [(4, .int 1), (3, .int 0), (2, .int 2), (1, .int 0), (0, .ref h0)]) hx hb dX3_numberOfOrder_48 hl (k := 1) rfl (by decide) (by decide) rfl (fun ls hl => ?_)
      refine lv_goto (tgt := 15) hx hb dX3_numberOfOrder_51 (by decide) ?_
      refine lv_iload hx hb dX3_numberOfOrder_15 (lv_at hl 0 rfl) ?_
      refine lv_iload_n hx hb dX3_numberOfOrder_17 rfl (lv_at hl 2 rfl) ?_
      refine lv_icmp_ge (tgt := 54) hx hb dX3_numberOfOrder_18 (by decide) (fun h => absurd h (by decide)) (fun _ => ?_)
      refine lv_iload_n hx hb dX3_numberOfOrder_21 rfl (lv_at hl 1 rfl) ?_
      refine lv_aload_n hx hb dX3_numberOfOrder_22 rfl (lv_at hl 4 rfl) ?_
      refine va_get (D := D) (ci := 3) (v := .ref h0_digits) (C := RX3) (T := TX3) (N := 20) hx hb hts (by decide +kernel) hown hK hP 0 rfl rfl 1 (by decide) (hts (.fieldLink RX3 15 "TurnedFloors$Paper" "digits" "[I") (by decide +kernel)) (fun _ h9 => h9) rfl dX3_numberOfOrder_23 ?_
      refine lv_iload hx hb dX3_numberOfOrder_26 (lv_at hl 0 rfl) ?_
      refine va_iald hx hb hK hP 1 0 rfl rfl (by simp only [vp_in]; decide) dX3_numberOfOrder_28 ?_
      refine kz_topi 1 (by first | rfl | decide +kernel) ?_
      refine lv_aload_n hx hb dX3_numberOfOrder_29 rfl (lv_at hl 4 rfl) ?_
      refine va_get (D := D) (ci := 3) (v := .ref h0_digits) (C := RX3) (T := TX3) (N := 20) hx hb hts (by decide +kernel) hown hK hP 0 rfl rfl 1 (by decide) (hts (.fieldLink RX3 15 "TurnedFloors$Paper" "digits" "[I") (by decide +kernel)) (fun _ h9 => h9) rfl dX3_numberOfOrder_30 ?_
      refine lv_iload_n hx hb dX3_numberOfOrder_33 rfl (lv_at hl 2 rfl) ?_
      refine va_iald hx hb hK hP 1 0 rfl rfl (by simp only [vp_in]; decide) dX3_numberOfOrder_34 ?_
      refine kz_topi 2 (by first | rfl | decide +kernel) ?_
      refine lv_icmp_le (tgt := 42) hx hb dX3_numberOfOrder_35 (by decide) (fun _ => ?_) (fun h => absurd (by decide) h)
      refine lv_iconst (v := 0) hx hb dX3_numberOfOrder_42 (by decide) ?_
      refine kz_ki (wc := []) (wr := [(h0, .inr (3, [.ref h0_ranks, .ref h0_digits, .ref h0_barred, .ref h0_pays, .ref h0_measuredBarred, .ref h0_buckets, .ref h0_orders, .ref h0_turnedOrders, .ref h0_turnedHeads, .ref h0_toOrder, .ref h0_marks, .ref h0_line, .ref h0_links, .int h0_floors, h0_v14, h0_v15, h0_v16, h0_v17, h0_v18, h0_v19])), (h0_digits, .inl (ty 0, 6, .inl (upd (upd (upd (upd (upd (upd h0_digits_f 5 5) 4 4) 3 3) 2 2) 1 1) 0 0)))]) (va_runSN (As := [.int 0]) (rest := [.int 0]) ⟨hx, hb, hml, hown, hts⟩ (kcX9_bit l D ty eo _ 0) ⟨va_cnB 1 hts gX3_numberOfOrder_X9_bit_n133 rfl rfl rfl (hN.1 _ (by decide +kernel : (.methodLinkNest "TurnedFloors$Paper" 133 yX9_bit "TurnedFloors" : Cond) ∈ kzN1)) (hts (.initialized RX9) (by decide +kernel)) (by decide +kernel) ⟨Nat.le_of_ble_eq_true rfl, Nat.le_of_ble_eq_true rfl⟩, hts (.static yX9_bit) (by decide +kernel), trivial⟩ (kz_preS hK hN hE hP hD hS hA [] (by decide) rfl) rfl rfl hl.1 rfl (lv_room (Nat.le_of_ble_eq_true rfl)) dX3_numberOfOrder_43 ⟨Nat.le_of_ble_eq_true rfl, Nat.le_of_ble_eq_true rfl⟩) hP hD hS hA [] [0, 1] rfl rfl (by decide) (by decide) (fun r u H locs hw hp hd hs => ?_)
      rcases hw with ⟨c_5, rfl, rfl⟩ | ⟨c_6, rfl, rfl⟩
      · refine kz_re (w2 := [(h0, .inr (3, [.ref h0_ranks, .ref h0_digits, .ref h0_barred, .ref h0_pays, .ref h0_measuredBarred, .ref h0_buckets, .ref h0_orders, .ref h0_turnedOrders, .ref h0_turnedHeads, .ref h0_toOrder, .ref h0_marks, .ref h0_line, .ref h0_links, .int h0_floors, h0_v14, h0_v15, h0_v16, h0_v17, h0_v18, h0_v19])), (h0_digits, .inl (ty 0, 6, .inl (upd (upd (upd (upd (upd (upd h0_digits_f 5 5) 4 4) 3 3) 2 2) 1 1) 0 0)))]) hp hd hs rfl ?_
        clear hp hd hs hP hD hS
        intro hP hD hS
        refine lv_iadd hx hb dX3_numberOfOrder_46 ?_
        refine kz_topi 0 (by first | rfl | decide +kernel) ?_
        refine lv_istore_n (lv' := [(3, .int 0), (4, .int 1), (2, .int 2), (1, .int 0), (0, .ref h0)]) hx hb dX3_numberOfOrder_47 rfl hl (by decide) rfl (fun ls hl => ?_)
        refine lv_iinc (v := 2) (lv' := [(4, .int 2), (3, .int 0), (2, .int 2), (1, .int 0), (0, .ref h0)]) hx hb dX3_numberOfOrder_48 hl (k := 1) rfl (by decide) (by decide) rfl (fun ls hl => ?_)
        refine lv_goto (tgt := 15) hx hb dX3_numberOfOrder_51 (by decide) ?_
        refine lv_iload hx hb dX3_numberOfOrder_15 (lv_at hl 0 rfl) ?_
        refine lv_iload_n hx hb dX3_numberOfOrder_17 rfl (lv_at hl 2 rfl) ?_
        refine lv_icmp_ge (tgt := 54) hx hb dX3_numberOfOrder_18 (by decide) (fun _ => ?_) (fun h => absurd (by decide) h)
        refine lv_iload_n hx hb dX3_numberOfOrder_54 rfl (lv_at hl 3 rfl) ?_
        refine lv_iload_n hx hb dX3_numberOfOrder_55 rfl (lv_at hl 1 rfl) ?_
        refine va_gets hx hb hE.1 hS hown (hts (.fieldLink RX3 76 "TurnedFloors$Paper" "FACTORIALS" "[I") (by decide +kernel)) (fun _ h9 => h9) dX3_numberOfOrder_56 ?_
        refine lv_iload_n hx hb dX3_numberOfOrder_59 rfl (lv_at hl 2 rfl) ?_
        refine va_ti (v := .int 2) hx hb hE.2.1 hS (by simp only [vp_in]; decide) rfl dX3_numberOfOrder_60 ?_
        refine lv_imul hx hb dX3_numberOfOrder_61 ?_
        refine kz_topi 0 (by first | rfl | decide +kernel) ?_
        refine lv_iadd hx hb dX3_numberOfOrder_62 ?_
        refine kz_topi 0 (by first | rfl | decide +kernel) ?_
        refine lv_istore_n (lv' := [(1, .int 0), (4, .int 2), (3, .int 0), (2, .int 2), (0, .ref h0)]) hx hb dX3_numberOfOrder_63 rfl hl (by decide) rfl (fun ls hl => ?_)
        refine lv_iinc (v := 3) (lv' := [(2, .int 3), (1, .int 0), (4, .int 2), (3, .int 0), (0, .ref h0)]) hx hb dX3_numberOfOrder_64 hl (k := 3) rfl (by decide) (by decide) rfl (fun ls hl => ?_)
        refine lv_goto (tgt := 4) hx hb dX3_numberOfOrder_67 (by decide) ?_
        refine lv_iload_n hx hb dX3_numberOfOrder_4 rfl (lv_at hl 0 rfl) ?_
        refine lv_bipush (v := 6) hx hb dX3_numberOfOrder_5 (by decide) ?_
        refine lv_icmp_ge (tgt := 70) hx hb dX3_numberOfOrder_7 (by decide) (fun h => absurd h (by decide)) (fun _ => ?_)
        refine lv_iconst (v := 0) hx hb dX3_numberOfOrder_10 (by decide) ?_
        refine lv_istore_n (lv' := [(3, .int 0), (2, .int 3), (1, .int 0), (4, .int 2), (0, .ref h0)]) hx hb dX3_numberOfOrder_11 rfl hl (by decide) rfl (fun ls hl => ?_)
        refine lv_iconst (v := 0) hx hb dX3_numberOfOrder_12 (by decide) ?_
        refine lv_istore (lv' := [(4, .int 0), (3, .int 0), (2, .int 3), (1, .int 0), (0, .ref h0)]) hx hb dX3_numberOfOrder_13 hl (by decide) rfl (fun ls hl => ?_)
        refine lv_iload hx hb dX3_numberOfOrder_15 (lv_at hl 0 rfl) ?_
        refine lv_iload_n hx hb dX3_numberOfOrder_17 rfl (lv_at hl 2 rfl) ?_
        refine lv_icmp_ge (tgt := 54) hx hb dX3_numberOfOrder_18 (by decide) (fun h => absurd h (by decide)) (fun _ => ?_)
        refine lv_iload_n hx hb dX3_numberOfOrder_21 rfl (lv_at hl 1 rfl) ?_
        refine lv_aload_n hx hb dX3_numberOfOrder_22 rfl (lv_at hl 4 rfl) ?_
        refine va_get (D := D) (ci := 3) (v := .ref h0_digits) (C := RX3) (T := TX3) (N := 20) hx hb hts (by decide +kernel) hown hK hP 0 rfl rfl 1 (by decide) (hts (.fieldLink RX3 15 "TurnedFloors$Paper" "digits" "[I") (by decide +kernel)) (fun _ h9 => h9) rfl dX3_numberOfOrder_23 ?_
        refine lv_iload hx hb dX3_numberOfOrder_26 (lv_at hl 0 rfl) ?_
        refine va_iald hx hb hK hP 1 0 rfl rfl (by simp only [vp_in]; decide) dX3_numberOfOrder_28 ?_
        refine kz_topi 0 (by first | rfl | decide +kernel) ?_
        refine lv_aload_n hx hb dX3_numberOfOrder_29 rfl (lv_at hl 4 rfl) ?_
        refine va_get (D := D) (ci := 3) (v := .ref h0_digits) (C := RX3) (T := TX3) (N := 20) hx hb hts (by decide +kernel) hown hK hP 0 rfl rfl 1 (by decide) (hts (.fieldLink RX3 15 "TurnedFloors$Paper" "digits" "[I") (by decide +kernel)) (fun _ h9 => h9) rfl dX3_numberOfOrder_30 ?_
        refine lv_iload_n hx hb dX3_numberOfOrder_33 rfl (lv_at hl 2 rfl) ?_
        refine va_iald hx hb hK hP 1 0 rfl rfl (by simp only [vp_in]; decide) dX3_numberOfOrder_34 ?_
        refine kz_topi 3 (by first | rfl | decide +kernel) ?_
        refine lv_icmp_le (tgt := 42) hx hb dX3_numberOfOrder_35 (by decide) (fun _ => ?_) (fun h => absurd (by decide) h)
        refine lv_iconst (v := 0) hx hb dX3_numberOfOrder_42 (by decide) ?_
        refine kz_ki (wc := []) (wr := [(h0, .inr (3, [.ref h0_ranks, .ref h0_digits, .ref h0_barred, .ref h0_pays, .ref h0_measuredBarred, .ref h0_buckets, .ref h0_orders, .ref h0_turnedOrders, .ref h0_turnedHeads, .ref h0_toOrder, .ref h0_marks, .ref h0_line, .ref h0_links, .int h0_floors, h0_v14, h0_v15, h0_v16, h0_v17, h0_v18, h0_v19])), (h0_digits, .inl (ty 0, 6, .inl (upd (upd (upd (upd (upd (upd h0_digits_f 5 5) 4 4) 3 3) 2 2) 1 1) 0 0)))]) (va_runSN (As := [.int 0]) (rest := [.int 0]) ⟨hx, hb, hml, hown, hts⟩ (kcX9_bit l D ty eo _ 0) ⟨va_cnB 1 hts gX3_numberOfOrder_X9_bit_n133 rfl rfl rfl (hN.1 _ (by decide +kernel : (.methodLinkNest "TurnedFloors$Paper" 133 yX9_bit "TurnedFloors" : Cond) ∈ kzN1)) (hts (.initialized RX9) (by decide +kernel)) (by decide +kernel) ⟨Nat.le_of_ble_eq_true rfl, Nat.le_of_ble_eq_true rfl⟩, hts (.static yX9_bit) (by decide +kernel), trivial⟩ (kz_preS hK hN hE hP hD hS hA [] (by decide) rfl) rfl rfl hl.1 rfl (lv_room (Nat.le_of_ble_eq_true rfl)) dX3_numberOfOrder_43 ⟨Nat.le_of_ble_eq_true rfl, Nat.le_of_ble_eq_true rfl⟩) hP hD hS hA [] [0, 1] rfl rfl (by decide) (by decide) (fun r u H locs hw hp hd hs => ?_)
        rcases hw with ⟨c_7, rfl, rfl⟩ | ⟨c_8, rfl, rfl⟩
        · refine kz_re (w2 := [(h0, .inr (3, [.ref h0_ranks, .ref h0_digits, .ref h0_barred, .ref h0_pays, .ref h0_measuredBarred, .ref h0_buckets, .ref h0_orders, .ref h0_turnedOrders, .ref h0_turnedHeads, .ref h0_toOrder, .ref h0_marks, .ref h0_line, .ref h0_links, .int h0_floors, h0_v14, h0_v15, h0_v16, h0_v17, h0_v18, h0_v19])), (h0_digits, .inl (ty 0, 6, .inl (upd (upd (upd (upd (upd (upd h0_digits_f 5 5) 4 4) 3 3) 2 2) 1 1) 0 0)))]) hp hd hs rfl ?_
          clear hp hd hs hP hD hS
          intro hP hD hS
          refine lv_iadd hx hb dX3_numberOfOrder_46 ?_
          refine kz_topi 0 (by first | rfl | decide +kernel) ?_
          refine lv_istore_n (lv' := [(3, .int 0), (4, .int 0), (2, .int 3), (1, .int 0), (0, .ref h0)]) hx hb dX3_numberOfOrder_47 rfl hl (by decide) rfl (fun ls hl => ?_)
          refine lv_iinc (v := 1) (lv' := [(4, .int 1), (3, .int 0), (2, .int 3), (1, .int 0), (0, .ref h0)]) hx hb dX3_numberOfOrder_48 hl (k := 1) rfl (by decide) (by decide) rfl (fun ls hl => ?_)
          refine lv_goto (tgt := 15) hx hb dX3_numberOfOrder_51 (by decide) ?_
          refine lv_iload hx hb dX3_numberOfOrder_15 (lv_at hl 0 rfl) ?_
          refine lv_iload_n hx hb dX3_numberOfOrder_17 rfl (lv_at hl 2 rfl) ?_
          refine lv_icmp_ge (tgt := 54) hx hb dX3_numberOfOrder_18 (by decide) (fun h => absurd h (by decide)) (fun _ => ?_)
          refine lv_iload_n hx hb dX3_numberOfOrder_21 rfl (lv_at hl 1 rfl) ?_
          refine lv_aload_n hx hb dX3_numberOfOrder_22 rfl (lv_at hl 4 rfl) ?_
          refine va_get (D := D) (ci := 3) (v := .ref h0_digits) (C := RX3) (T := TX3) (N := 20) hx hb hts (by decide +kernel) hown hK hP 0 rfl rfl 1 (by decide) (hts (.fieldLink RX3 15 "TurnedFloors$Paper" "digits" "[I") (by decide +kernel)) (fun _ h9 => h9) rfl dX3_numberOfOrder_23 ?_
          refine lv_iload hx hb dX3_numberOfOrder_26 (lv_at hl 0 rfl) ?_
          refine va_iald hx hb hK hP 1 0 rfl rfl (by simp only [vp_in]; decide) dX3_numberOfOrder_28 ?_
          refine kz_topi 1 (by first | rfl | decide +kernel) ?_
          refine lv_aload_n hx hb dX3_numberOfOrder_29 rfl (lv_at hl 4 rfl) ?_
          refine va_get (D := D) (ci := 3) (v := .ref h0_digits) (C := RX3) (T := TX3) (N := 20) hx hb hts (by decide +kernel) hown hK hP 0 rfl rfl 1 (by decide) (hts (.fieldLink RX3 15 "TurnedFloors$Paper" "digits" "[I") (by decide +kernel)) (fun _ h9 => h9) rfl dX3_numberOfOrder_30 ?_
          refine lv_iload_n hx hb dX3_numberOfOrder_33 rfl (lv_at hl 2 rfl) ?_
          refine va_iald hx hb hK hP 1 0 rfl rfl (by simp only [vp_in]; decide) dX3_numberOfOrder_34 ?_
          refine kz_topi 3 (by first | rfl | decide +kernel) ?_
          refine lv_icmp_le (tgt := 42) hx hb dX3_numberOfOrder_35 (by decide) (fun _ => ?_) (fun h => absurd (by decide) h)
          refine lv_iconst (v := 0) hx hb dX3_numberOfOrder_42 (by decide) ?_
          refine kz_ki (wc := []) (wr := [(h0, .inr (3, [.ref h0_ranks, .ref h0_digits, .ref h0_barred, .ref h0_pays, .ref h0_measuredBarred, .ref h0_buckets, .ref h0_orders, .ref h0_turnedOrders, .ref h0_turnedHeads, .ref h0_toOrder, .ref h0_marks, .ref h0_line, .ref h0_links, .int h0_floors, h0_v14, h0_v15, h0_v16, h0_v17, h0_v18, h0_v19])), (h0_digits, .inl (ty 0, 6, .inl (upd (upd (upd (upd (upd (upd h0_digits_f 5 5) 4 4) 3 3) 2 2) 1 1) 0 0)))]) (va_runSN (As := [.int 0]) (rest := [.int 0]) ⟨hx, hb, hml, hown, hts⟩ (kcX9_bit l D ty eo _ 0) ⟨va_cnB 1 hts gX3_numberOfOrder_X9_bit_n133 rfl rfl rfl (hN.1 _ (by decide +kernel : (.methodLinkNest "TurnedFloors$Paper" 133 yX9_bit "TurnedFloors" : Cond) ∈ kzN1)) (hts (.initialized RX9) (by decide +kernel)) (by decide +kernel) ⟨Nat.le_of_ble_eq_true rfl, Nat.le_of_ble_eq_true rfl⟩, hts (.static yX9_bit) (by decide +kernel), trivial⟩ (kz_preS hK hN hE hP hD hS hA [] (by decide) rfl) rfl rfl hl.1 rfl (lv_room (Nat.le_of_ble_eq_true rfl)) dX3_numberOfOrder_43 ⟨Nat.le_of_ble_eq_true rfl, Nat.le_of_ble_eq_true rfl⟩) hP hD hS hA [] [0, 1] rfl rfl (by decide) (by decide) (fun r u H locs hw hp hd hs => ?_)
          rcases hw with ⟨c_9, rfl, rfl⟩ | ⟨c_10, rfl, rfl⟩
          · refine kz_re (w2 := [(h0, .inr (3, [.ref h0_ranks, .ref h0_digits, .ref h0_barred, .ref h0_pays, .ref h0_measuredBarred, .ref h0_buckets, .ref h0_orders, .ref h0_turnedOrders, .ref h0_turnedHeads, .ref h0_toOrder, .ref h0_marks, .ref h0_line, .ref h0_links, .int h0_floors, h0_v14, h0_v15, h0_v16, h0_v17, h0_v18, h0_v19])), (h0_digits, .inl (ty 0, 6, .inl (upd (upd (upd (upd (upd (upd h0_digits_f 5 5) 4 4) 3 3) 2 2) 1 1) 0 0)))]) hp hd hs rfl ?_
            clear hp hd hs hP hD hS
            intro hP hD hS
            refine lv_iadd hx hb dX3_numberOfOrder_46 ?_
            refine kz_topi 0 (by first | rfl | decide +kernel) ?_
            refine lv_istore_n (lv' := [(3, .int 0), (4, .int 1), (2, .int 3), (1, .int 0), (0, .ref h0)]) hx hb dX3_numberOfOrder_47 rfl hl (by decide) rfl (fun ls hl => ?_)
            refine lv_iinc (v := 2) (lv' := [(4, .int 2), (3, .int 0), (2, .int 3), (1, .int 0), (0, .ref h0)]) hx hb dX3_numberOfOrder_48 hl (k := 1) rfl (by decide) (by decide) rfl (fun ls hl => ?_)
            refine lv_goto (tgt := 15) hx hb dX3_numberOfOrder_51 (by decide) ?_
            refine lv_iload hx hb dX3_numberOfOrder_15 (lv_at hl 0 rfl) ?_
            refine lv_iload_n hx hb dX3_numberOfOrder_17 rfl (lv_at hl 2 rfl) ?_
            refine lv_icmp_ge (tgt := 54) hx hb dX3_numberOfOrder_18 (by decide) (fun h => absurd h (by decide)) (fun _ => ?_)
            refine lv_iload_n hx hb dX3_numberOfOrder_21 rfl (lv_at hl 1 rfl) ?_
            refine lv_aload_n hx hb dX3_numberOfOrder_22 rfl (lv_at hl 4 rfl) ?_
            refine va_get (D := D) (ci := 3) (v := .ref h0_digits) (C := RX3) (T := TX3) (N := 20) hx hb hts (by decide +kernel) hown hK hP 0 rfl rfl 1 (by decide) (hts (.fieldLink RX3 15 "TurnedFloors$Paper" "digits" "[I") (by decide +kernel)) (fun _ h9 => h9) rfl dX3_numberOfOrder_23 ?_
            refine lv_iload hx hb dX3_numberOfOrder_26 (lv_at hl 0 rfl) ?_
            refine va_iald hx hb hK hP 1 0 rfl rfl (by simp only [vp_in]; decide) dX3_numberOfOrder_28 ?_
            refine kz_topi 2 (by first | rfl | decide +kernel) ?_
            refine lv_aload_n hx hb dX3_numberOfOrder_29 rfl (lv_at hl 4 rfl) ?_
            refine va_get (D := D) (ci := 3) (v := .ref h0_digits) (C := RX3) (T := TX3) (N := 20) hx hb hts (by decide +kernel) hown hK hP 0 rfl rfl 1 (by decide) (hts (.fieldLink RX3 15 "TurnedFloors$Paper" "digits" "[I") (by decide +kernel)) (fun _ h9 => h9) rfl dX3_numberOfOrder_30 ?_
            refine lv_iload_n hx hb dX3_numberOfOrder_33 rfl (lv_at hl 2 rfl) ?_
            refine va_iald hx hb hK hP 1 0 rfl rfl (by simp only [vp_in]; decide) dX3_numberOfOrder_34 ?_
            refine kz_topi 3 (by first | rfl | decide +kernel) ?_
            refine lv_icmp_le (tgt := 42) hx hb dX3_numberOfOrder_35 (by decide) (fun _ => ?_) (fun h => absurd (by decide) h)
            refine lv_iconst (v := 0) hx hb dX3_numberOfOrder_42 (by decide) ?_
            refine kz_ki (wc := []) (wr := [(h0, .inr (3, [.ref h0_ranks, .ref h0_digits, .ref h0_barred, .ref h0_pays, .ref h0_measuredBarred, .ref h0_buckets, .ref h0_orders, .ref h0_turnedOrders, .ref h0_turnedHeads, .ref h0_toOrder, .ref h0_marks, .ref h0_line, .ref h0_links, .int h0_floors, h0_v14, h0_v15, h0_v16, h0_v17, h0_v18, h0_v19])), (h0_digits, .inl (ty 0, 6, .inl (upd (upd (upd (upd (upd (upd h0_digits_f 5 5) 4 4) 3 3) 2 2) 1 1) 0 0)))]) (va_runSN (As := [.int 0]) (rest := [.int 0]) ⟨hx, hb, hml, hown, hts⟩ (kcX9_bit l D ty eo _ 0) ⟨va_cnB 1 hts gX3_numberOfOrder_X9_bit_n133 rfl rfl rfl (hN.1 _ (by decide +kernel : (.methodLinkNest "TurnedFloors$Paper" 133 yX9_bit "TurnedFloors" : Cond) ∈ kzN1)) (hts (.initialized RX9) (by decide +kernel)) (by decide +kernel) ⟨Nat.le_of_ble_eq_true rfl, Nat.le_of_ble_eq_true rfl⟩, hts (.static yX9_bit) (by decide +kernel), trivial⟩ (kz_preS hK hN hE hP hD hS hA [] (by decide) rfl) rfl rfl hl.1 rfl (lv_room (Nat.le_of_ble_eq_true rfl)) dX3_numberOfOrder_43 ⟨Nat.le_of_ble_eq_true rfl, Nat.le_of_ble_eq_true rfl⟩) hP hD hS hA [] [0, 1] rfl rfl (by decide) (by decide) (fun r u H locs hw hp hd hs => ?_)
            rcases hw with ⟨c_11, rfl, rfl⟩ | ⟨c_12, rfl, rfl⟩
            · refine kz_re (w2 := [(h0, .inr (3, [.ref h0_ranks, .ref h0_digits, .ref h0_barred, .ref h0_pays, .ref h0_measuredBarred, .ref h0_buckets, .ref h0_orders, .ref h0_turnedOrders, .ref h0_turnedHeads, .ref h0_toOrder, .ref h0_marks, .ref h0_line, .ref h0_links, .int h0_floors, h0_v14, h0_v15, h0_v16, h0_v17, h0_v18, h0_v19])), (h0_digits, .inl (ty 0, 6, .inl (upd (upd (upd (upd (upd (upd h0_digits_f 5 5) 4 4) 3 3) 2 2) 1 1) 0 0)))]) hp hd hs rfl ?_
              clear hp hd hs hP hD hS
              intro hP hD hS
              refine lv_iadd hx hb dX3_numberOfOrder_46 ?_
              refine kz_topi 0 (by first | rfl | decide +kernel) ?_
              refine lv_istore_n (lv' := [(3, .int 0), (4, .int 2), (2, .int 3), (1, .int 0), (0, .ref h0)]) hx hb dX3_numberOfOrder_47 rfl hl (by decide) rfl (fun ls hl => ?_)
              refine lv_iinc (v := 3) (lv' := [(4, .int 3), (3, .int 0), (2, .int 3), (1, .int 0), (0, .ref h0)]) hx hb dX3_numberOfOrder_48 hl (k := 1) rfl (by decide) (by decide) rfl (fun ls hl => ?_)
              refine lv_goto (tgt := 15) hx hb dX3_numberOfOrder_51 (by decide) ?_
              refine lv_iload hx hb dX3_numberOfOrder_15 (lv_at hl 0 rfl) ?_
              refine lv_iload_n hx hb dX3_numberOfOrder_17 rfl (lv_at hl 2 rfl) ?_
              refine lv_icmp_ge (tgt := 54) hx hb dX3_numberOfOrder_18 (by decide) (fun _ => ?_) (fun h => absurd (by decide) h)
              refine lv_iload_n hx hb dX3_numberOfOrder_54 rfl (lv_at hl 3 rfl) ?_
              refine lv_iload_n hx hb dX3_numberOfOrder_55 rfl (lv_at hl 1 rfl) ?_
              refine va_gets hx hb hE.1 hS hown (hts (.fieldLink RX3 76 "TurnedFloors$Paper" "FACTORIALS" "[I") (by decide +kernel)) (fun _ h9 => h9) dX3_numberOfOrder_56 ?_
              refine lv_iload_n hx hb dX3_numberOfOrder_59 rfl (lv_at hl 2 rfl) ?_
              refine va_ti (v := .int 6) hx hb hE.2.1 hS (by simp only [vp_in]; decide) rfl dX3_numberOfOrder_60 ?_
              refine lv_imul hx hb dX3_numberOfOrder_61 ?_
              refine kz_topi 0 (by first | rfl | decide +kernel) ?_
              refine lv_iadd hx hb dX3_numberOfOrder_62 ?_
              refine kz_topi 0 (by first | rfl | decide +kernel) ?_
              refine lv_istore_n (lv' := [(1, .int 0), (4, .int 3), (3, .int 0), (2, .int 3), (0, .ref h0)]) hx hb dX3_numberOfOrder_63 rfl hl (by decide) rfl (fun ls hl => ?_)
              refine lv_iinc (v := 4) (lv' := [(2, .int 4), (1, .int 0), (4, .int 3), (3, .int 0), (0, .ref h0)]) hx hb dX3_numberOfOrder_64 hl (k := 3) rfl (by decide) (by decide) rfl (fun ls hl => ?_)
              refine lv_goto (tgt := 4) hx hb dX3_numberOfOrder_67 (by decide) ?_
              refine lv_iload_n hx hb dX3_numberOfOrder_4 rfl (lv_at hl 0 rfl) ?_
              refine lv_bipush (v := 6) hx hb dX3_numberOfOrder_5 (by decide) ?_
              refine lv_icmp_ge (tgt := 70) hx hb dX3_numberOfOrder_7 (by decide) (fun h => absurd h (by decide)) (fun _ => ?_)
              refine lv_iconst (v := 0) hx hb dX3_numberOfOrder_10 (by decide) ?_
              refine lv_istore_n (lv' := [(3, .int 0), (2, .int 4), (1, .int 0), (4, .int 3), (0, .ref h0)]) hx hb dX3_numberOfOrder_11 rfl hl (by decide) rfl (fun ls hl => ?_)
              refine lv_iconst (v := 0) hx hb dX3_numberOfOrder_12 (by decide) ?_
              refine lv_istore (lv' := [(4, .int 0), (3, .int 0), (2, .int 4), (1, .int 0), (0, .ref h0)]) hx hb dX3_numberOfOrder_13 hl (by decide) rfl (fun ls hl => ?_)
              refine lv_iload hx hb dX3_numberOfOrder_15 (lv_at hl 0 rfl) ?_
              refine lv_iload_n hx hb dX3_numberOfOrder_17 rfl (lv_at hl 2 rfl) ?_
              refine lv_icmp_ge (tgt := 54) hx hb dX3_numberOfOrder_18 (by decide) (fun h => absurd h (by decide)) (fun _ => ?_)
              refine lv_iload_n hx hb dX3_numberOfOrder_21 rfl (lv_at hl 1 rfl) ?_
              refine lv_aload_n hx hb dX3_numberOfOrder_22 rfl (lv_at hl 4 rfl) ?_
              refine va_get (D := D) (ci := 3) (v := .ref h0_digits) (C := RX3) (T := TX3) (N := 20) hx hb hts (by decide +kernel) hown hK hP 0 rfl rfl 1 (by decide) (hts (.fieldLink RX3 15 "TurnedFloors$Paper" "digits" "[I") (by decide +kernel)) (fun _ h9 => h9) rfl dX3_numberOfOrder_23 ?_
              refine lv_iload hx hb dX3_numberOfOrder_26 (lv_at hl 0 rfl) ?_
              refine va_iald hx hb hK hP 1 0 rfl rfl (by simp only [vp_in]; decide) dX3_numberOfOrder_28 ?_
              refine kz_topi 0 (by first | rfl | decide +kernel) ?_
              refine lv_aload_n hx hb dX3_numberOfOrder_29 rfl (lv_at hl 4 rfl) ?_
              refine va_get (D := D) (ci := 3) (v := .ref h0_digits) (C := RX3) (T := TX3) (N := 20) hx hb hts (by decide +kernel) hown hK hP 0 rfl rfl 1 (by decide) (hts (.fieldLink RX3 15 "TurnedFloors$Paper" "digits" "[I") (by decide +kernel)) (fun _ h9 => h9) rfl dX3_numberOfOrder_30 ?_
              refine lv_iload_n hx hb dX3_numberOfOrder_33 rfl (lv_at hl 2 rfl) ?_
              refine va_iald hx hb hK hP 1 0 rfl rfl (by simp only [vp_in]; decide) dX3_numberOfOrder_34 ?_
              refine kz_topi 4 (by first | rfl | decide +kernel) ?_
              refine lv_icmp_le (tgt := 42) hx hb dX3_numberOfOrder_35 (by decide) (fun _ => ?_) (fun h => absurd (by decide) h)
              refine lv_iconst (v := 0) hx hb dX3_numberOfOrder_42 (by decide) ?_
              refine kz_ki (wc := []) (wr := [(h0, .inr (3, [.ref h0_ranks, .ref h0_digits, .ref h0_barred, .ref h0_pays, .ref h0_measuredBarred, .ref h0_buckets, .ref h0_orders, .ref h0_turnedOrders, .ref h0_turnedHeads, .ref h0_toOrder, .ref h0_marks, .ref h0_line, .ref h0_links, .int h0_floors, h0_v14, h0_v15, h0_v16, h0_v17, h0_v18, h0_v19])), (h0_digits, .inl (ty 0, 6, .inl (upd (upd (upd (upd (upd (upd h0_digits_f 5 5) 4 4) 3 3) 2 2) 1 1) 0 0)))]) (va_runSN (As := [.int 0]) (rest := [.int 0]) ⟨hx, hb, hml, hown, hts⟩ (kcX9_bit l D ty eo _ 0) ⟨va_cnB 1 hts gX3_numberOfOrder_X9_bit_n133 rfl rfl rfl (hN.1 _ (by decide +kernel : (.methodLinkNest "TurnedFloors$Paper" 133 yX9_bit "TurnedFloors" : Cond) ∈ kzN1)) (hts (.initialized RX9) (by decide +kernel)) (by decide +kernel) ⟨Nat.le_of_ble_eq_true rfl, Nat.le_of_ble_eq_true rfl⟩, hts (.static yX9_bit) (by decide +kernel), trivial⟩ (kz_preS hK hN hE hP hD hS hA [] (by decide) rfl) rfl rfl hl.1 rfl (lv_room (Nat.le_of_ble_eq_true rfl)) dX3_numberOfOrder_43 ⟨Nat.le_of_ble_eq_true rfl, Nat.le_of_ble_eq_true rfl⟩) hP hD hS hA [] [0, 1] rfl rfl (by decide) (by decide) (fun r u H locs hw hp hd hs => ?_)
              rcases hw with ⟨c_13, rfl, rfl⟩ | ⟨c_14, rfl, rfl⟩
              · refine kz_re (w2 := [(h0, .inr (3, [.ref h0_ranks, .ref h0_digits, .ref h0_barred, .ref h0_pays, .ref h0_measuredBarred, .ref h0_buckets, .ref h0_orders, .ref h0_turnedOrders, .ref h0_turnedHeads, .ref h0_toOrder, .ref h0_marks, .ref h0_line, .ref h0_links, .int h0_floors, h0_v14, h0_v15, h0_v16, h0_v17, h0_v18, h0_v19])), (h0_digits, .inl (ty 0, 6, .inl (upd (upd (upd (upd (upd (upd h0_digits_f 5 5) 4 4) 3 3) 2 2) 1 1) 0 0)))]) hp hd hs rfl ?_
                clear hp hd hs hP hD hS
                intro hP hD hS
                refine lv_iadd hx hb dX3_numberOfOrder_46 ?_
                refine kz_topi 0 (by first | rfl | decide +kernel) ?_
                refine lv_istore_n (lv' := [(3, .int 0), (4, .int 0), (2, .int 4), (1, .int 0), (0, .ref h0)]) hx hb dX3_numberOfOrder_47 rfl hl (by decide) rfl (fun ls hl => ?_)
                refine lv_iinc (v := 1) (lv' := [(4, .int 1), (3, .int 0), (2, .int 4), (1, .int 0), (0, .ref h0)]) hx hb dX3_numberOfOrder_48 hl (k := 1) rfl (by decide) (by decide) rfl (fun ls hl => ?_)
                refine lv_goto (tgt := 15) hx hb dX3_numberOfOrder_51 (by decide) ?_
                refine lv_iload hx hb dX3_numberOfOrder_15 (lv_at hl 0 rfl) ?_
                refine lv_iload_n hx hb dX3_numberOfOrder_17 rfl (lv_at hl 2 rfl) ?_
                refine lv_icmp_ge (tgt := 54) hx hb dX3_numberOfOrder_18 (by decide) (fun h => absurd h (by decide)) (fun _ => ?_)
                refine lv_iload_n hx hb dX3_numberOfOrder_21 rfl (lv_at hl 1 rfl) ?_
                refine lv_aload_n hx hb dX3_numberOfOrder_22 rfl (lv_at hl 4 rfl) ?_
                refine va_get (D := D) (ci := 3) (v := .ref h0_digits) (C := RX3) (T := TX3) (N := 20) hx hb hts (by decide +kernel) hown hK hP 0 rfl rfl 1 (by decide) (hts (.fieldLink RX3 15 "TurnedFloors$Paper" "digits" "[I") (by decide +kernel)) (fun _ h9 => h9) rfl dX3_numberOfOrder_23 ?_
                refine lv_iload hx hb dX3_numberOfOrder_26 (lv_at hl 0 rfl) ?_
                refine va_iald hx hb hK hP 1 0 rfl rfl (by simp only [vp_in]; decide) dX3_numberOfOrder_28 ?_
                refine kz_topi 1 (by first | rfl | decide +kernel) ?_
                refine lv_aload_n hx hb dX3_numberOfOrder_29 rfl (lv_at hl 4 rfl) ?_
                refine va_get (D := D) (ci := 3) (v := .ref h0_digits) (C := RX3) (T := TX3) (N := 20) hx hb hts (by decide +kernel) hown hK hP 0 rfl rfl 1 (by decide) (hts (.fieldLink RX3 15 "TurnedFloors$Paper" "digits" "[I") (by decide +kernel)) (fun _ h9 => h9) rfl dX3_numberOfOrder_30 ?_
                refine lv_iload_n hx hb dX3_numberOfOrder_33 rfl (lv_at hl 2 rfl) ?_
                refine va_iald hx hb hK hP 1 0 rfl rfl (by simp only [vp_in]; decide) dX3_numberOfOrder_34 ?_
                refine kz_topi 4 (by first | rfl | decide +kernel) ?_
                refine lv_icmp_le (tgt := 42) hx hb dX3_numberOfOrder_35 (by decide) (fun _ => ?_) (fun h => absurd (by decide) h)
                refine lv_iconst (v := 0) hx hb dX3_numberOfOrder_42 (by decide) ?_
                refine kz_ki (wc := []) (wr := [(h0, .inr (3, [.ref h0_ranks, .ref h0_digits, .ref h0_barred, .ref h0_pays, .ref h0_measuredBarred, .ref h0_buckets, .ref h0_orders, .ref h0_turnedOrders, .ref h0_turnedHeads, .ref h0_toOrder, .ref h0_marks, .ref h0_line, .ref h0_links, .int h0_floors, h0_v14, h0_v15, h0_v16, h0_v17, h0_v18, h0_v19])), (h0_digits, .inl (ty 0, 6, .inl (upd (upd (upd (upd (upd (upd h0_digits_f 5 5) 4 4) 3 3) 2 2) 1 1) 0 0)))]) (va_runSN (As := [.int 0]) (rest := [.int 0]) ⟨hx, hb, hml, hown, hts⟩ (kcX9_bit l D ty eo _ 0) ⟨va_cnB 1 hts gX3_numberOfOrder_X9_bit_n133 rfl rfl rfl (hN.1 _ (by decide +kernel : (.methodLinkNest "TurnedFloors$Paper" 133 yX9_bit "TurnedFloors" : Cond) ∈ kzN1)) (hts (.initialized RX9) (by decide +kernel)) (by decide +kernel) ⟨Nat.le_of_ble_eq_true rfl, Nat.le_of_ble_eq_true rfl⟩, hts (.static yX9_bit) (by decide +kernel), trivial⟩ (kz_preS hK hN hE hP hD hS hA [] (by decide) rfl) rfl rfl hl.1 rfl (lv_room (Nat.le_of_ble_eq_true rfl)) dX3_numberOfOrder_43 ⟨Nat.le_of_ble_eq_true rfl, Nat.le_of_ble_eq_true rfl⟩) hP hD hS hA [] [0, 1] rfl rfl (by decide) (by decide) (fun r u H locs hw hp hd hs => ?_)
                rcases hw with ⟨c_15, rfl, rfl⟩ | ⟨c_16, rfl, rfl⟩
                · refine kz_re (w2 := [(h0, .inr (3, [.ref h0_ranks, .ref h0_digits, .ref h0_barred, .ref h0_pays, .ref h0_measuredBarred, .ref h0_buckets, .ref h0_orders, .ref h0_turnedOrders, .ref h0_turnedHeads, .ref h0_toOrder, .ref h0_marks, .ref h0_line, .ref h0_links, .int h0_floors, h0_v14, h0_v15, h0_v16, h0_v17, h0_v18, h0_v19])), (h0_digits, .inl (ty 0, 6, .inl (upd (upd (upd (upd (upd (upd h0_digits_f 5 5) 4 4) 3 3) 2 2) 1 1) 0 0)))]) hp hd hs rfl ?_
                  clear hp hd hs hP hD hS
                  intro hP hD hS
                  refine lv_iadd hx hb dX3_numberOfOrder_46 ?_
                  refine kz_topi 0 (by first | rfl | decide +kernel) ?_
                  refine lv_istore_n (lv' := [(3, .int 0), (4, .int 1), (2, .int 4), (1, .int 0), (0, .ref h0)]) hx hb dX3_numberOfOrder_47 rfl hl (by decide) rfl (fun ls hl => ?_)
                  refine lv_iinc (v := 2) (lv' := [(4, .int 2), (3, .int 0), (2, .int 4), (1, .int 0), (0, .ref h0)]) hx hb dX3_numberOfOrder_48 hl (k := 1) rfl (by decide) (by decide) rfl (fun ls hl => ?_)
                  refine lv_goto (tgt := 15) hx hb dX3_numberOfOrder_51 (by decide) ?_
                  refine lv_iload hx hb dX3_numberOfOrder_15 (lv_at hl 0 rfl) ?_
                  refine lv_iload_n hx hb dX3_numberOfOrder_17 rfl (lv_at hl 2 rfl) ?_
                  refine lv_icmp_ge (tgt := 54) hx hb dX3_numberOfOrder_18 (by decide) (fun h => absurd h (by decide)) (fun _ => ?_)
                  refine lv_iload_n hx hb dX3_numberOfOrder_21 rfl (lv_at hl 1 rfl) ?_
                  refine lv_aload_n hx hb dX3_numberOfOrder_22 rfl (lv_at hl 4 rfl) ?_
                  refine va_get (D := D) (ci := 3) (v := .ref h0_digits) (C := RX3) (T := TX3) (N := 20) hx hb hts (by decide +kernel) hown hK hP 0 rfl rfl 1 (by decide) (hts (.fieldLink RX3 15 "TurnedFloors$Paper" "digits" "[I") (by decide +kernel)) (fun _ h9 => h9) rfl dX3_numberOfOrder_23 ?_
                  refine lv_iload hx hb dX3_numberOfOrder_26 (lv_at hl 0 rfl) ?_
                  refine va_iald hx hb hK hP 1 0 rfl rfl (by simp only [vp_in]; decide) dX3_numberOfOrder_28 ?_
                  refine kz_topi 2 (by first | rfl | decide +kernel) ?_
                  refine lv_aload_n hx hb dX3_numberOfOrder_29 rfl (lv_at hl 4 rfl) ?_
                  refine va_get (D := D) (ci := 3) (v := .ref h0_digits) (C := RX3) (T := TX3) (N := 20) hx hb hts (by decide +kernel) hown hK hP 0 rfl rfl 1 (by decide) (hts (.fieldLink RX3 15 "TurnedFloors$Paper" "digits" "[I") (by decide +kernel)) (fun _ h9 => h9) rfl dX3_numberOfOrder_30 ?_
                  refine lv_iload_n hx hb dX3_numberOfOrder_33 rfl (lv_at hl 2 rfl) ?_
                  refine va_iald hx hb hK hP 1 0 rfl rfl (by simp only [vp_in]; decide) dX3_numberOfOrder_34 ?_
                  refine kz_topi 4 (by first | rfl | decide +kernel) ?_
                  refine lv_icmp_le (tgt := 42) hx hb dX3_numberOfOrder_35 (by decide) (fun _ => ?_) (fun h => absurd (by decide) h)
                  refine lv_iconst (v := 0) hx hb dX3_numberOfOrder_42 (by decide) ?_
                  refine kz_ki (wc := []) (wr := [(h0, .inr (3, [.ref h0_ranks, .ref h0_digits, .ref h0_barred, .ref h0_pays, .ref h0_measuredBarred, .ref h0_buckets, .ref h0_orders, .ref h0_turnedOrders, .ref h0_turnedHeads, .ref h0_toOrder, .ref h0_marks, .ref h0_line, .ref h0_links, .int h0_floors, h0_v14, h0_v15, h0_v16, h0_v17, h0_v18, h0_v19])), (h0_digits, .inl (ty 0, 6, .inl (upd (upd (upd (upd (upd (upd h0_digits_f 5 5) 4 4) 3 3) 2 2) 1 1) 0 0)))]) (va_runSN (As := [.int 0]) (rest := [.int 0]) ⟨hx, hb, hml, hown, hts⟩ (kcX9_bit l D ty eo _ 0) ⟨va_cnB 1 hts gX3_numberOfOrder_X9_bit_n133 rfl rfl rfl (hN.1 _ (by decide +kernel : (.methodLinkNest "TurnedFloors$Paper" 133 yX9_bit "TurnedFloors" : Cond) ∈ kzN1)) (hts (.initialized RX9) (by decide +kernel)) (by decide +kernel) ⟨Nat.le_of_ble_eq_true rfl, Nat.le_of_ble_eq_true rfl⟩, hts (.static yX9_bit) (by decide +kernel), trivial⟩ (kz_preS hK hN hE hP hD hS hA [] (by decide) rfl) rfl rfl hl.1 rfl (lv_room (Nat.le_of_ble_eq_true rfl)) dX3_numberOfOrder_43 ⟨Nat.le_of_ble_eq_true rfl, Nat.le_of_ble_eq_true rfl⟩) hP hD hS hA [] [0, 1] rfl rfl (by decide) (by decide) (fun r u H locs hw hp hd hs => ?_)
                  rcases hw with ⟨c_17, rfl, rfl⟩ | ⟨c_18, rfl, rfl⟩
                  · refine kz_re (w2 := [(h0, .inr (3, [.ref h0_ranks, .ref h0_digits, .ref h0_barred, .ref h0_pays, .ref h0_measuredBarred, .ref h0_buckets, .ref h0_orders, .ref h0_turnedOrders, .ref h0_turnedHeads, .ref h0_toOrder, .ref h0_marks, .ref h0_line, .ref h0_links, .int h0_floors, h0_v14, h0_v15, h0_v16, h0_v17, h0_v18, h0_v19])), (h0_digits, .inl (ty 0, 6, .inl (upd (upd (upd (upd (upd (upd h0_digits_f 5 5) 4 4) 3 3) 2 2) 1 1) 0 0)))]) hp hd hs rfl ?_
                    clear hp hd hs hP hD hS
                    intro hP hD hS
                    refine lv_iadd hx hb dX3_numberOfOrder_46 ?_
                    refine kz_topi 0 (by first | rfl | decide +kernel) ?_
                    refine lv_istore_n (lv' := [(3, .int 0), (4, .int 2), (2, .int 4), (1, .int 0), (0, .ref h0)]) hx hb dX3_numberOfOrder_47 rfl hl (by decide) rfl (fun ls hl => ?_)
                    refine lv_iinc (v := 3) (lv' := [(4, .int 3), (3, .int 0), (2, .int 4), (1, .int 0), (0, .ref h0)]) hx hb dX3_numberOfOrder_48 hl (k := 1) rfl (by decide) (by decide) rfl (fun ls hl => ?_)
                    refine lv_goto (tgt := 15) hx hb dX3_numberOfOrder_51 (by decide) ?_
                    refine lv_iload hx hb dX3_numberOfOrder_15 (lv_at hl 0 rfl) ?_
                    refine lv_iload_n hx hb dX3_numberOfOrder_17 rfl (lv_at hl 2 rfl) ?_
                    refine lv_icmp_ge (tgt := 54) hx hb dX3_numberOfOrder_18 (by decide) (fun h => absurd h (by decide)) (fun _ => ?_)
                    refine lv_iload_n hx hb dX3_numberOfOrder_21 rfl (lv_at hl 1 rfl) ?_
                    refine lv_aload_n hx hb dX3_numberOfOrder_22 rfl (lv_at hl 4 rfl) ?_
                    refine va_get (D := D) (ci := 3) (v := .ref h0_digits) (C := RX3) (T := TX3) (N := 20) hx hb hts (by decide +kernel) hown hK hP 0 rfl rfl 1 (by decide) (hts (.fieldLink RX3 15 "TurnedFloors$Paper" "digits" "[I") (by decide +kernel)) (fun _ h9 => h9) rfl dX3_numberOfOrder_23 ?_
                    refine lv_iload hx hb dX3_numberOfOrder_26 (lv_at hl 0 rfl) ?_
                    refine va_iald hx hb hK hP 1 0 rfl rfl (by simp only [vp_in]; decide) dX3_numberOfOrder_28 ?_
                    refine kz_topi 3 (by first | rfl | decide +kernel) ?_
                    refine lv_aload_n hx hb dX3_numberOfOrder_29 rfl (lv_at hl 4 rfl) ?_
                    refine va_get (D := D) (ci := 3) (v := .ref h0_digits) (C := RX3) (T := TX3) (N := 20) hx hb hts (by decide +kernel) hown hK hP 0 rfl rfl 1 (by decide) (hts (.fieldLink RX3 15 "TurnedFloors$Paper" "digits" "[I") (by decide +kernel)) (fun _ h9 => h9) rfl dX3_numberOfOrder_30 ?_
                    refine lv_iload_n hx hb dX3_numberOfOrder_33 rfl (lv_at hl 2 rfl) ?_
                    refine va_iald hx hb hK hP 1 0 rfl rfl (by simp only [vp_in]; decide) dX3_numberOfOrder_34 ?_
                    refine kz_topi 4 (by first | rfl | decide +kernel) ?_
                    refine lv_icmp_le (tgt := 42) hx hb dX3_numberOfOrder_35 (by decide) (fun _ => ?_) (fun h => absurd (by decide) h)
                    refine lv_iconst (v := 0) hx hb dX3_numberOfOrder_42 (by decide) ?_
                    refine kz_ki (wc := []) (wr := [(h0, .inr (3, [.ref h0_ranks, .ref h0_digits, .ref h0_barred, .ref h0_pays, .ref h0_measuredBarred, .ref h0_buckets, .ref h0_orders, .ref h0_turnedOrders, .ref h0_turnedHeads, .ref h0_toOrder, .ref h0_marks, .ref h0_line, .ref h0_links, .int h0_floors, h0_v14, h0_v15, h0_v16, h0_v17, h0_v18, h0_v19])), (h0_digits, .inl (ty 0, 6, .inl (upd (upd (upd (upd (upd (upd h0_digits_f 5 5) 4 4) 3 3) 2 2) 1 1) 0 0)))]) (va_runSN (As := [.int 0]) (rest := [.int 0]) ⟨hx, hb, hml, hown, hts⟩ (kcX9_bit l D ty eo _ 0) ⟨va_cnB 1 hts gX3_numberOfOrder_X9_bit_n133 rfl rfl rfl (hN.1 _ (by decide +kernel : (.methodLinkNest "TurnedFloors$Paper" 133 yX9_bit "TurnedFloors" : Cond) ∈ kzN1)) (hts (.initialized RX9) (by decide +kernel)) (by decide +kernel) ⟨Nat.le_of_ble_eq_true rfl, Nat.le_of_ble_eq_true rfl⟩, hts (.static yX9_bit) (by decide +kernel), trivial⟩ (kz_preS hK hN hE hP hD hS hA [] (by decide) rfl) rfl rfl hl.1 rfl (lv_room (Nat.le_of_ble_eq_true rfl)) dX3_numberOfOrder_43 ⟨Nat.le_of_ble_eq_true rfl, Nat.le_of_ble_eq_true rfl⟩) hP hD hS hA [] [0, 1] rfl rfl (by decide) (by decide) (fun r u H locs hw hp hd hs => ?_)
                    rcases hw with ⟨c_19, rfl, rfl⟩ | ⟨c_20, rfl, rfl⟩
                    · refine kz_re (w2 := [(h0, .inr (3, [.ref h0_ranks, .ref h0_digits, .ref h0_barred, .ref h0_pays, .ref h0_measuredBarred, .ref h0_buckets, .ref h0_orders, .ref h0_turnedOrders, .ref h0_turnedHeads, .ref h0_toOrder, .ref h0_marks, .ref h0_line, .ref h0_links, .int h0_floors, h0_v14, h0_v15, h0_v16, h0_v17, h0_v18, h0_v19])), (h0_digits, .inl (ty 0, 6, .inl (upd (upd (upd (upd (upd (upd h0_digits_f 5 5) 4 4) 3 3) 2 2) 1 1) 0 0)))]) hp hd hs rfl ?_
                      clear hp hd hs hP hD hS
                      intro hP hD hS
                      refine lv_iadd hx hb dX3_numberOfOrder_46 ?_
                      refine kz_topi 0 (by first | rfl | decide +kernel) ?_
                      refine lv_istore_n (lv' := [(3, .int 0), (4, .int 3), (2, .int 4), (1, .int 0), (0, .ref h0)]) hx hb dX3_numberOfOrder_47 rfl hl (by decide) rfl (fun ls hl => ?_)
                      refine lv_iinc (v := 4) (lv' := [(4, .int 4), (3, .int 0), (2, .int 4), (1, .int 0), (0, .ref h0)]) hx hb dX3_numberOfOrder_48 hl (k := 1) rfl (by decide) (by decide) rfl (fun ls hl => ?_)
                      refine lv_goto (tgt := 15) hx hb dX3_numberOfOrder_51 (by decide) ?_
                      refine lv_iload hx hb dX3_numberOfOrder_15 (lv_at hl 0 rfl) ?_
                      refine lv_iload_n hx hb dX3_numberOfOrder_17 rfl (lv_at hl 2 rfl) ?_
                      refine lv_icmp_ge (tgt := 54) hx hb dX3_numberOfOrder_18 (by decide) (fun _ => ?_) (fun h => absurd (by decide) h)
                      refine lv_iload_n hx hb dX3_numberOfOrder_54 rfl (lv_at hl 3 rfl) ?_
                      refine lv_iload_n hx hb dX3_numberOfOrder_55 rfl (lv_at hl 1 rfl) ?_
                      refine va_gets hx hb hE.1 hS hown (hts (.fieldLink RX3 76 "TurnedFloors$Paper" "FACTORIALS" "[I") (by decide +kernel)) (fun _ h9 => h9) dX3_numberOfOrder_56 ?_
                      refine lv_iload_n hx hb dX3_numberOfOrder_59 rfl (lv_at hl 2 rfl) ?_
                      refine va_ti (v := .int 24) hx hb hE.2.1 hS (by simp only [vp_in]; decide) rfl dX3_numberOfOrder_60 ?_
                      refine lv_imul hx hb dX3_numberOfOrder_61 ?_
                      refine kz_topi 0 (by first | rfl | decide +kernel) ?_
                      refine lv_iadd hx hb dX3_numberOfOrder_62 ?_
                      refine kz_topi 0 (by first | rfl | decide +kernel) ?_
                      refine lv_istore_n (lv' := [(1, .int 0), (4, .int 4), (3, .int 0), (2, .int 4), (0, .ref h0)]) hx hb dX3_numberOfOrder_63 rfl hl (by decide) rfl (fun ls hl => ?_)
                      refine lv_iinc (v := 5) (lv' := [(2, .int 5), (1, .int 0), (4, .int 4), (3, .int 0), (0, .ref h0)]) hx hb dX3_numberOfOrder_64 hl (k := 3) rfl (by decide) (by decide) rfl (fun ls hl => ?_)
                      refine lv_goto (tgt := 4) hx hb dX3_numberOfOrder_67 (by decide) ?_
                      refine lv_iload_n hx hb dX3_numberOfOrder_4 rfl (lv_at hl 0 rfl) ?_
                      refine lv_bipush (v := 6) hx hb dX3_numberOfOrder_5 (by decide) ?_
                      refine lv_icmp_ge (tgt := 70) hx hb dX3_numberOfOrder_7 (by decide) (fun h => absurd h (by decide)) (fun _ => ?_)
                      refine lv_iconst (v := 0) hx hb dX3_numberOfOrder_10 (by decide) ?_
                      refine lv_istore_n (lv' := [(3, .int 0), (2, .int 5), (1, .int 0), (4, .int 4), (0, .ref h0)]) hx hb dX3_numberOfOrder_11 rfl hl (by decide) rfl (fun ls hl => ?_)
                      refine lv_iconst (v := 0) hx hb dX3_numberOfOrder_12 (by decide) ?_
                      refine lv_istore (lv' := [(4, .int 0), (3, .int 0), (2, .int 5), (1, .int 0), (0, .ref h0)]) hx hb dX3_numberOfOrder_13 hl (by decide) rfl (fun ls hl => ?_)
                      refine lv_iload hx hb dX3_numberOfOrder_15 (lv_at hl 0 rfl) ?_
                      refine lv_iload_n hx hb dX3_numberOfOrder_17 rfl (lv_at hl 2 rfl) ?_
                      refine lv_icmp_ge (tgt := 54) hx hb dX3_numberOfOrder_18 (by decide) (fun h => absurd h (by decide)) (fun _ => ?_)
                      refine lv_iload_n hx hb dX3_numberOfOrder_21 rfl (lv_at hl 1 rfl) ?_
                      refine lv_aload_n hx hb dX3_numberOfOrder_22 rfl (lv_at hl 4 rfl) ?_
                      refine va_get (D := D) (ci := 3) (v := .ref h0_digits) (C := RX3) (T := TX3) (N := 20) hx hb hts (by decide +kernel) hown hK hP 0 rfl rfl 1 (by decide) (hts (.fieldLink RX3 15 "TurnedFloors$Paper" "digits" "[I") (by decide +kernel)) (fun _ h9 => h9) rfl dX3_numberOfOrder_23 ?_
                      refine lv_iload hx hb dX3_numberOfOrder_26 (lv_at hl 0 rfl) ?_
                      refine va_iald hx hb hK hP 1 0 rfl rfl (by simp only [vp_in]; decide) dX3_numberOfOrder_28 ?_
                      refine kz_topi 0 (by first | rfl | decide +kernel) ?_
                      refine lv_aload_n hx hb dX3_numberOfOrder_29 rfl (lv_at hl 4 rfl) ?_
                      refine va_get (D := D) (ci := 3) (v := .ref h0_digits) (C := RX3) (T := TX3) (N := 20) hx hb hts (by decide +kernel) hown hK hP 0 rfl rfl 1 (by decide) (hts (.fieldLink RX3 15 "TurnedFloors$Paper" "digits" "[I") (by decide +kernel)) (fun _ h9 => h9) rfl dX3_numberOfOrder_30 ?_
                      refine lv_iload_n hx hb dX3_numberOfOrder_33 rfl (lv_at hl 2 rfl) ?_
                      refine va_iald hx hb hK hP 1 0 rfl rfl (by simp only [vp_in]; decide) dX3_numberOfOrder_34 ?_
                      refine kz_topi 5 (by first | rfl | decide +kernel) ?_
                      refine lv_icmp_le (tgt := 42) hx hb dX3_numberOfOrder_35 (by decide) (fun _ => ?_) (fun h => absurd (by decide) h)
                      refine lv_iconst (v := 0) hx hb dX3_numberOfOrder_42 (by decide) ?_
                      refine kz_ki (wc := []) (wr := [(h0, .inr (3, [.ref h0_ranks, .ref h0_digits, .ref h0_barred, .ref h0_pays, .ref h0_measuredBarred, .ref h0_buckets, .ref h0_orders, .ref h0_turnedOrders, .ref h0_turnedHeads, .ref h0_toOrder, .ref h0_marks, .ref h0_line, .ref h0_links, .int h0_floors, h0_v14, h0_v15, h0_v16, h0_v17, h0_v18, h0_v19])), (h0_digits, .inl (ty 0, 6, .inl (upd (upd (upd (upd (upd (upd h0_digits_f 5 5) 4 4) 3 3) 2 2) 1 1) 0 0)))]) (va_runSN (As := [.int 0]) (rest := [.int 0]) ⟨hx, hb, hml, hown, hts⟩ (kcX9_bit l D ty eo _ 0) ⟨va_cnB 1 hts gX3_numberOfOrder_X9_bit_n133 rfl rfl rfl (hN.1 _ (by decide +kernel : (.methodLinkNest "TurnedFloors$Paper" 133 yX9_bit "TurnedFloors" : Cond) ∈ kzN1)) (hts (.initialized RX9) (by decide +kernel)) (by decide +kernel) ⟨Nat.le_of_ble_eq_true rfl, Nat.le_of_ble_eq_true rfl⟩, hts (.static yX9_bit) (by decide +kernel), trivial⟩ (kz_preS hK hN hE hP hD hS hA [] (by decide) rfl) rfl rfl hl.1 rfl (lv_room (Nat.le_of_ble_eq_true rfl)) dX3_numberOfOrder_43 ⟨Nat.le_of_ble_eq_true rfl, Nat.le_of_ble_eq_true rfl⟩) hP hD hS hA [] [0, 1] rfl rfl (by decide) (by decide) (fun r u H locs hw hp hd hs => ?_)
                      rcases hw with ⟨c_21, rfl, rfl⟩ | ⟨c_22, rfl, rfl⟩
                      · refine kz_re (w2 := [(h0, .inr (3, [.ref h0_ranks, .ref h0_digits, .ref h0_barred, .ref h0_pays, .ref h0_measuredBarred, .ref h0_buckets, .ref h0_orders, .ref h0_turnedOrders, .ref h0_turnedHeads, .ref h0_toOrder, .ref h0_marks, .ref h0_line, .ref h0_links, .int h0_floors, h0_v14, h0_v15, h0_v16, h0_v17, h0_v18, h0_v19])), (h0_digits, .inl (ty 0, 6, .inl (upd (upd (upd (upd (upd (upd h0_digits_f 5 5) 4 4) 3 3) 2 2) 1 1) 0 0)))]) hp hd hs rfl ?_
                        clear hp hd hs hP hD hS
                        intro hP hD hS
                        refine lv_iadd hx hb dX3_numberOfOrder_46 ?_
                        refine kz_topi 0 (by first | rfl | decide +kernel) ?_
                        refine lv_istore_n (lv' := [(3, .int 0), (4, .int 0), (2, .int 5), (1, .int 0), (0, .ref h0)]) hx hb dX3_numberOfOrder_47 rfl hl (by decide) rfl (fun ls hl => ?_)
                        refine lv_iinc (v := 1) (lv' := [(4, .int 1), (3, .int 0), (2, .int 5), (1, .int 0), (0, .ref h0)]) hx hb dX3_numberOfOrder_48 hl (k := 1) rfl (by decide) (by decide) rfl (fun ls hl => ?_)
                        refine lv_goto (tgt := 15) hx hb dX3_numberOfOrder_51 (by decide) ?_
                        refine lv_iload hx hb dX3_numberOfOrder_15 (lv_at hl 0 rfl) ?_
                        refine lv_iload_n hx hb dX3_numberOfOrder_17 rfl (lv_at hl 2 rfl) ?_
                        refine lv_icmp_ge (tgt := 54) hx hb dX3_numberOfOrder_18 (by decide) (fun h => absurd h (by decide)) (fun _ => ?_)
                        refine lv_iload_n hx hb dX3_numberOfOrder_21 rfl (lv_at hl 1 rfl) ?_
                        refine lv_aload_n hx hb dX3_numberOfOrder_22 rfl (lv_at hl 4 rfl) ?_
                        refine va_get (D := D) (ci := 3) (v := .ref h0_digits) (C := RX3) (T := TX3) (N := 20) hx hb hts (by decide +kernel) hown hK hP 0 rfl rfl 1 (by decide) (hts (.fieldLink RX3 15 "TurnedFloors$Paper" "digits" "[I") (by decide +kernel)) (fun _ h9 => h9) rfl dX3_numberOfOrder_23 ?_
                        refine lv_iload hx hb dX3_numberOfOrder_26 (lv_at hl 0 rfl) ?_
                        refine va_iald hx hb hK hP 1 0 rfl rfl (by simp only [vp_in]; decide) dX3_numberOfOrder_28 ?_
                        refine kz_topi 1 (by first | rfl | decide +kernel) ?_
                        refine lv_aload_n hx hb dX3_numberOfOrder_29 rfl (lv_at hl 4 rfl) ?_
                        refine va_get (D := D) (ci := 3) (v := .ref h0_digits) (C := RX3) (T := TX3) (N := 20) hx hb hts (by decide +kernel) hown hK hP 0 rfl rfl 1 (by decide) (hts (.fieldLink RX3 15 "TurnedFloors$Paper" "digits" "[I") (by decide +kernel)) (fun _ h9 => h9) rfl dX3_numberOfOrder_30 ?_
                        refine lv_iload_n hx hb dX3_numberOfOrder_33 rfl (lv_at hl 2 rfl) ?_
                        refine va_iald hx hb hK hP 1 0 rfl rfl (by simp only [vp_in]; decide) dX3_numberOfOrder_34 ?_
                        refine kz_topi 5 (by first | rfl | decide +kernel) ?_
                        refine lv_icmp_le (tgt := 42) hx hb dX3_numberOfOrder_35 (by decide) (fun _ => ?_) (fun h => absurd (by decide) h)
                        refine lv_iconst (v := 0) hx hb dX3_numberOfOrder_42 (by decide) ?_
                        refine kz_ki (wc := []) (wr := [(h0, .inr (3, [.ref h0_ranks, .ref h0_digits, .ref h0_barred, .ref h0_pays, .ref h0_measuredBarred, .ref h0_buckets, .ref h0_orders, .ref h0_turnedOrders, .ref h0_turnedHeads, .ref h0_toOrder, .ref h0_marks, .ref h0_line, .ref h0_links, .int h0_floors, h0_v14, h0_v15, h0_v16, h0_v17, h0_v18, h0_v19])), (h0_digits, .inl (ty 0, 6, .inl (upd (upd (upd (upd (upd (upd h0_digits_f 5 5) 4 4) 3 3) 2 2) 1 1) 0 0)))]) (va_runSN (As := [.int 0]) (rest := [.int 0]) ⟨hx, hb, hml, hown, hts⟩ (kcX9_bit l D ty eo _ 0) ⟨va_cnB 1 hts gX3_numberOfOrder_X9_bit_n133 rfl rfl rfl (hN.1 _ (by decide +kernel : (.methodLinkNest "TurnedFloors$Paper" 133 yX9_bit "TurnedFloors" : Cond) ∈ kzN1)) (hts (.initialized RX9) (by decide +kernel)) (by decide +kernel) ⟨Nat.le_of_ble_eq_true rfl, Nat.le_of_ble_eq_true rfl⟩, hts (.static yX9_bit) (by decide +kernel), trivial⟩ (kz_preS hK hN hE hP hD hS hA [] (by decide) rfl) rfl rfl hl.1 rfl (lv_room (Nat.le_of_ble_eq_true rfl)) dX3_numberOfOrder_43 ⟨Nat.le_of_ble_eq_true rfl, Nat.le_of_ble_eq_true rfl⟩) hP hD hS hA [] [0, 1] rfl rfl (by decide) (by decide) (fun r u H locs hw hp hd hs => ?_)
                        rcases hw with ⟨c_23, rfl, rfl⟩ | ⟨c_24, rfl, rfl⟩
                        · refine kz_re (w2 := [(h0, .inr (3, [.ref h0_ranks, .ref h0_digits, .ref h0_barred, .ref h0_pays, .ref h0_measuredBarred, .ref h0_buckets, .ref h0_orders, .ref h0_turnedOrders, .ref h0_turnedHeads, .ref h0_toOrder, .ref h0_marks, .ref h0_line, .ref h0_links, .int h0_floors, h0_v14, h0_v15, h0_v16, h0_v17, h0_v18, h0_v19])), (h0_digits, .inl (ty 0, 6, .inl (upd (upd (upd (upd (upd (upd h0_digits_f 5 5) 4 4) 3 3) 2 2) 1 1) 0 0)))]) hp hd hs rfl ?_
                          clear hp hd hs hP hD hS
                          intro hP hD hS
                          refine lv_iadd hx hb dX3_numberOfOrder_46 ?_
                          refine kz_topi 0 (by first | rfl | decide +kernel) ?_
                          refine lv_istore_n (lv' := [(3, .int 0), (4, .int 1), (2, .int 5), (1, .int 0), (0, .ref h0)]) hx hb dX3_numberOfOrder_47 rfl hl (by decide) rfl (fun ls hl => ?_)
                          refine lv_iinc (v := 2) (lv' := [(4, .int 2), (3, .int 0), (2, .int 5), (1, .int 0), (0, .ref h0)]) hx hb dX3_numberOfOrder_48 hl (k := 1) rfl (by decide) (by decide) rfl (fun ls hl => ?_)
                          refine lv_goto (tgt := 15) hx hb dX3_numberOfOrder_51 (by decide) ?_
                          refine lv_iload hx hb dX3_numberOfOrder_15 (lv_at hl 0 rfl) ?_
                          refine lv_iload_n hx hb dX3_numberOfOrder_17 rfl (lv_at hl 2 rfl) ?_
                          refine lv_icmp_ge (tgt := 54) hx hb dX3_numberOfOrder_18 (by decide) (fun h => absurd h (by decide)) (fun _ => ?_)
                          refine lv_iload_n hx hb dX3_numberOfOrder_21 rfl (lv_at hl 1 rfl) ?_
                          refine lv_aload_n hx hb dX3_numberOfOrder_22 rfl (lv_at hl 4 rfl) ?_
                          refine va_get (D := D) (ci := 3) (v := .ref h0_digits) (C := RX3) (T := TX3) (N := 20) hx hb hts (by decide +kernel) hown hK hP 0 rfl rfl 1 (by decide) (hts (.fieldLink RX3 15 "TurnedFloors$Paper" "digits" "[I") (by decide +kernel)) (fun _ h9 => h9) rfl dX3_numberOfOrder_23 ?_
                          refine lv_iload hx hb dX3_numberOfOrder_26 (lv_at hl 0 rfl) ?_
                          refine va_iald hx hb hK hP 1 0 rfl rfl (by simp only [vp_in]; decide) dX3_numberOfOrder_28 ?_
                          refine kz_topi 2 (by first | rfl | decide +kernel) ?_
                          refine lv_aload_n hx hb dX3_numberOfOrder_29 rfl (lv_at hl 4 rfl) ?_
                          refine va_get (D := D) (ci := 3) (v := .ref h0_digits) (C := RX3) (T := TX3) (N := 20) hx hb hts (by decide +kernel) hown hK hP 0 rfl rfl 1 (by decide) (hts (.fieldLink RX3 15 "TurnedFloors$Paper" "digits" "[I") (by decide +kernel)) (fun _ h9 => h9) rfl dX3_numberOfOrder_30 ?_
                          refine lv_iload_n hx hb dX3_numberOfOrder_33 rfl (lv_at hl 2 rfl) ?_
                          refine va_iald hx hb hK hP 1 0 rfl rfl (by simp only [vp_in]; decide) dX3_numberOfOrder_34 ?_
                          refine kz_topi 5 (by first | rfl | decide +kernel) ?_
                          refine lv_icmp_le (tgt := 42) hx hb dX3_numberOfOrder_35 (by decide) (fun _ => ?_) (fun h => absurd (by decide) h)
                          refine lv_iconst (v := 0) hx hb dX3_numberOfOrder_42 (by decide) ?_
                          refine kz_ki (wc := []) (wr := [(h0, .inr (3, [.ref h0_ranks, .ref h0_digits, .ref h0_barred, .ref h0_pays, .ref h0_measuredBarred, .ref h0_buckets, .ref h0_orders, .ref h0_turnedOrders, .ref h0_turnedHeads, .ref h0_toOrder, .ref h0_marks, .ref h0_line, .ref h0_links, .int h0_floors, h0_v14, h0_v15, h0_v16, h0_v17, h0_v18, h0_v19])), (h0_digits, .inl (ty 0, 6, .inl (upd (upd (upd (upd (upd (upd h0_digits_f 5 5) 4 4) 3 3) 2 2) 1 1) 0 0)))]) (va_runSN (As := [.int 0]) (rest := [.int 0]) ⟨hx, hb, hml, hown, hts⟩ (kcX9_bit l D ty eo _ 0) ⟨va_cnB 1 hts gX3_numberOfOrder_X9_bit_n133 rfl rfl rfl (hN.1 _ (by decide +kernel : (.methodLinkNest "TurnedFloors$Paper" 133 yX9_bit "TurnedFloors" : Cond) ∈ kzN1)) (hts (.initialized RX9) (by decide +kernel)) (by decide +kernel) ⟨Nat.le_of_ble_eq_true rfl, Nat.le_of_ble_eq_true rfl⟩, hts (.static yX9_bit) (by decide +kernel), trivial⟩ (kz_preS hK hN hE hP hD hS hA [] (by decide) rfl) rfl rfl hl.1 rfl (lv_room (Nat.le_of_ble_eq_true rfl)) dX3_numberOfOrder_43 ⟨Nat.le_of_ble_eq_true rfl, Nat.le_of_ble_eq_true rfl⟩) hP hD hS hA [] [0, 1] rfl rfl (by decide) (by decide) (fun r u H locs hw hp hd hs => ?_)
                          rcases hw with ⟨c_25, rfl, rfl⟩ | ⟨c_26, rfl, rfl⟩
                          · refine kz_re (w2 := [(h0, .inr (3, [.ref h0_ranks, .ref h0_digits, .ref h0_barred, .ref h0_pays, .ref h0_measuredBarred, .ref h0_buckets, .ref h0_orders, .ref h0_turnedOrders, .ref h0_turnedHeads, .ref h0_toOrder, .ref h0_marks, .ref h0_line, .ref h0_links, .int h0_floors, h0_v14, h0_v15, h0_v16, h0_v17, h0_v18, h0_v19])), (h0_digits, .inl (ty 0, 6, .inl (upd (upd (upd (upd (upd (upd h0_digits_f 5 5) 4 4) 3 3) 2 2) 1 1) 0 0)))]) hp hd hs rfl ?_
                            clear hp hd hs hP hD hS
                            intro hP hD hS
                            refine lv_iadd hx hb dX3_numberOfOrder_46 ?_
                            refine kz_topi 0 (by first | rfl | decide +kernel) ?_
                            refine lv_istore_n (lv' := [(3, .int 0), (4, .int 2), (2, .int 5), (1, .int 0), (0, .ref h0)]) hx hb dX3_numberOfOrder_47 rfl hl (by decide) rfl (fun ls hl => ?_)
                            refine lv_iinc (v := 3) (lv' := [(4, .int 3), (3, .int 0), (2, .int 5), (1, .int 0), (0, .ref h0)]) hx hb dX3_numberOfOrder_48 hl (k := 1) rfl (by decide) (by decide) rfl (fun ls hl => ?_)
                            refine lv_goto (tgt := 15) hx hb dX3_numberOfOrder_51 (by decide) ?_
                            refine lv_iload hx hb dX3_numberOfOrder_15 (lv_at hl 0 rfl) ?_
                            refine lv_iload_n hx hb dX3_numberOfOrder_17 rfl (lv_at hl 2 rfl) ?_
                            refine lv_icmp_ge (tgt := 54) hx hb dX3_numberOfOrder_18 (by decide) (fun h => absurd h (by decide)) (fun _ => ?_)
                            refine lv_iload_n hx hb dX3_numberOfOrder_21 rfl (lv_at hl 1 rfl) ?_
                            refine lv_aload_n hx hb dX3_numberOfOrder_22 rfl (lv_at hl 4 rfl) ?_
                            refine va_get (D := D) (ci := 3) (v := .ref h0_digits) (C := RX3) (T := TX3) (N := 20) hx hb hts (by decide +kernel) hown hK hP 0 rfl rfl 1 (by decide) (hts (.fieldLink RX3 15 "TurnedFloors$Paper" "digits" "[I") (by decide +kernel)) (fun _ h9 => h9) rfl dX3_numberOfOrder_23 ?_
                            refine lv_iload hx hb dX3_numberOfOrder_26 (lv_at hl 0 rfl) ?_
                            refine va_iald hx hb hK hP 1 0 rfl rfl (by simp only [vp_in]; decide) dX3_numberOfOrder_28 ?_
                            refine kz_topi 3 (by first | rfl | decide +kernel) ?_
                            refine lv_aload_n hx hb dX3_numberOfOrder_29 rfl (lv_at hl 4 rfl) ?_
                            refine va_get (D := D) (ci := 3) (v := .ref h0_digits) (C := RX3) (T := TX3) (N := 20) hx hb hts (by decide +kernel) hown hK hP 0 rfl rfl 1 (by decide) (hts (.fieldLink RX3 15 "TurnedFloors$Paper" "digits" "[I") (by decide +kernel)) (fun _ h9 => h9) rfl dX3_numberOfOrder_30 ?_
                            refine lv_iload_n hx hb dX3_numberOfOrder_33 rfl (lv_at hl 2 rfl) ?_
                            refine va_iald hx hb hK hP 1 0 rfl rfl (by simp only [vp_in]; decide) dX3_numberOfOrder_34 ?_
                            refine kz_topi 5 (by first | rfl | decide +kernel) ?_
                            refine lv_icmp_le (tgt := 42) hx hb dX3_numberOfOrder_35 (by decide) (fun _ => ?_) (fun h => absurd (by decide) h)
                            refine lv_iconst (v := 0) hx hb dX3_numberOfOrder_42 (by decide) ?_
                            refine kz_ki (wc := []) (wr := [(h0, .inr (3, [.ref h0_ranks, .ref h0_digits, .ref h0_barred, .ref h0_pays, .ref h0_measuredBarred, .ref h0_buckets, .ref h0_orders, .ref h0_turnedOrders, .ref h0_turnedHeads, .ref h0_toOrder, .ref h0_marks, .ref h0_line, .ref h0_links, .int h0_floors, h0_v14, h0_v15, h0_v16, h0_v17, h0_v18, h0_v19])), (h0_digits, .inl (ty 0, 6, .inl (upd (upd (upd (upd (upd (upd h0_digits_f 5 5) 4 4) 3 3) 2 2) 1 1) 0 0)))]) (va_runSN (As := [.int 0]) (rest := [.int 0]) ⟨hx, hb, hml, hown, hts⟩ (kcX9_bit l D ty eo _ 0) ⟨va_cnB 1 hts gX3_numberOfOrder_X9_bit_n133 rfl rfl rfl (hN.1 _ (by decide +kernel : (.methodLinkNest "TurnedFloors$Paper" 133 yX9_bit "TurnedFloors" : Cond) ∈ kzN1)) (hts (.initialized RX9) (by decide +kernel)) (by decide +kernel) ⟨Nat.le_of_ble_eq_true rfl, Nat.le_of_ble_eq_true rfl⟩, hts (.static yX9_bit) (by decide +kernel), trivial⟩ (kz_preS hK hN hE hP hD hS hA [] (by decide) rfl) rfl rfl hl.1 rfl (lv_room (Nat.le_of_ble_eq_true rfl)) dX3_numberOfOrder_43 ⟨Nat.le_of_ble_eq_true rfl, Nat.le_of_ble_eq_true rfl⟩) hP hD hS hA [] [0, 1] rfl rfl (by decide) (by decide) (fun r u H locs hw hp hd hs => ?_)
                            rcases hw with ⟨c_27, rfl, rfl⟩ | ⟨c_28, rfl, rfl⟩
                            · refine kz_re (w2 := [(h0, .inr (3, [.ref h0_ranks, .ref h0_digits, .ref h0_barred, .ref h0_pays, .ref h0_measuredBarred, .ref h0_buckets, .ref h0_orders, .ref h0_turnedOrders, .ref h0_turnedHeads, .ref h0_toOrder, .ref h0_marks, .ref h0_line, .ref h0_links, .int h0_floors, h0_v14, h0_v15, h0_v16, h0_v17, h0_v18, h0_v19])), (h0_digits, .inl (ty 0, 6, .inl (upd (upd (upd (upd (upd (upd h0_digits_f 5 5) 4 4) 3 3) 2 2) 1 1) 0 0)))]) hp hd hs rfl ?_
                              clear hp hd hs hP hD hS
                              intro hP hD hS
                              refine lv_iadd hx hb dX3_numberOfOrder_46 ?_
                              refine kz_topi 0 (by first | rfl | decide +kernel) ?_
                              refine lv_istore_n (lv' := [(3, .int 0), (4, .int 3), (2, .int 5), (1, .int 0), (0, .ref h0)]) hx hb dX3_numberOfOrder_47 rfl hl (by decide) rfl (fun ls hl => ?_)
                              refine lv_iinc (v := 4) (lv' := [(4, .int 4), (3, .int 0), (2, .int 5), (1, .int 0), (0, .ref h0)]) hx hb dX3_numberOfOrder_48 hl (k := 1) rfl (by decide) (by decide) rfl (fun ls hl => ?_)
                              refine lv_goto (tgt := 15) hx hb dX3_numberOfOrder_51 (by decide) ?_
                              refine lv_iload hx hb dX3_numberOfOrder_15 (lv_at hl 0 rfl) ?_
                              refine lv_iload_n hx hb dX3_numberOfOrder_17 rfl (lv_at hl 2 rfl) ?_
                              refine lv_icmp_ge (tgt := 54) hx hb dX3_numberOfOrder_18 (by decide) (fun h => absurd h (by decide)) (fun _ => ?_)
                              refine lv_iload_n hx hb dX3_numberOfOrder_21 rfl (lv_at hl 1 rfl) ?_
                              refine lv_aload_n hx hb dX3_numberOfOrder_22 rfl (lv_at hl 4 rfl) ?_
                              refine va_get (D := D) (ci := 3) (v := .ref h0_digits) (C := RX3) (T := TX3) (N := 20) hx hb hts (by decide +kernel) hown hK hP 0 rfl rfl 1 (by decide) (hts (.fieldLink RX3 15 "TurnedFloors$Paper" "digits" "[I") (by decide +kernel)) (fun _ h9 => h9) rfl dX3_numberOfOrder_23 ?_
                              refine lv_iload hx hb dX3_numberOfOrder_26 (lv_at hl 0 rfl) ?_
                              refine va_iald hx hb hK hP 1 0 rfl rfl (by simp only [vp_in]; decide) dX3_numberOfOrder_28 ?_
                              refine kz_topi 4 (by first | rfl | decide +kernel) ?_
                              refine lv_aload_n hx hb dX3_numberOfOrder_29 rfl (lv_at hl 4 rfl) ?_
                              refine va_get (D := D) (ci := 3) (v := .ref h0_digits) (C := RX3) (T := TX3) (N := 20) hx hb hts (by decide +kernel) hown hK hP 0 rfl rfl 1 (by decide) (hts (.fieldLink RX3 15 "TurnedFloors$Paper" "digits" "[I") (by decide +kernel)) (fun _ h9 => h9) rfl dX3_numberOfOrder_30 ?_
                              refine lv_iload_n hx hb dX3_numberOfOrder_33 rfl (lv_at hl 2 rfl) ?_
                              refine va_iald hx hb hK hP 1 0 rfl rfl (by simp only [vp_in]; decide) dX3_numberOfOrder_34 ?_
                              refine kz_topi 5 (by first | rfl | decide +kernel) ?_
                              refine lv_icmp_le (tgt := 42) hx hb dX3_numberOfOrder_35 (by decide) (fun _ => ?_) (fun h => absurd (by decide) h)
                              refine lv_iconst (v := 0) hx hb dX3_numberOfOrder_42 (by decide) ?_
                              refine kz_ki (wc := []) (wr := [(h0, .inr (3, [.ref h0_ranks, .ref h0_digits, .ref h0_barred, .ref h0_pays, .ref h0_measuredBarred, .ref h0_buckets, .ref h0_orders, .ref h0_turnedOrders, .ref h0_turnedHeads, .ref h0_toOrder, .ref h0_marks, .ref h0_line, .ref h0_links, .int h0_floors, h0_v14, h0_v15, h0_v16, h0_v17, h0_v18, h0_v19])), (h0_digits, .inl (ty 0, 6, .inl (upd (upd (upd (upd (upd (upd h0_digits_f 5 5) 4 4) 3 3) 2 2) 1 1) 0 0)))]) (va_runSN (As := [.int 0]) (rest := [.int 0]) ⟨hx, hb, hml, hown, hts⟩ (kcX9_bit l D ty eo _ 0) ⟨va_cnB 1 hts gX3_numberOfOrder_X9_bit_n133 rfl rfl rfl (hN.1 _ (by decide +kernel : (.methodLinkNest "TurnedFloors$Paper" 133 yX9_bit "TurnedFloors" : Cond) ∈ kzN1)) (hts (.initialized RX9) (by decide +kernel)) (by decide +kernel) ⟨Nat.le_of_ble_eq_true rfl, Nat.le_of_ble_eq_true rfl⟩, hts (.static yX9_bit) (by decide +kernel), trivial⟩ (kz_preS hK hN hE hP hD hS hA [] (by decide) rfl) rfl rfl hl.1 rfl (lv_room (Nat.le_of_ble_eq_true rfl)) dX3_numberOfOrder_43 ⟨Nat.le_of_ble_eq_true rfl, Nat.le_of_ble_eq_true rfl⟩) hP hD hS hA [] [0, 1] rfl rfl (by decide) (by decide) (fun r u H locs hw hp hd hs => ?_)
                              rcases hw with ⟨c_29, rfl, rfl⟩ | ⟨c_30, rfl, rfl⟩
                              · refine kz_re (w2 := [(h0, .inr (3, [.ref h0_ranks, .ref h0_digits, .ref h0_barred, .ref h0_pays, .ref h0_measuredBarred, .ref h0_buckets, .ref h0_orders, .ref h0_turnedOrders, .ref h0_turnedHeads, .ref h0_toOrder, .ref h0_marks, .ref h0_line, .ref h0_links, .int h0_floors, h0_v14, h0_v15, h0_v16, h0_v17, h0_v18, h0_v19])), (h0_digits, .inl (ty 0, 6, .inl (upd (upd (upd (upd (upd (upd h0_digits_f 5 5) 4 4) 3 3) 2 2) 1 1) 0 0)))]) hp hd hs rfl ?_
                                clear hp hd hs hP hD hS
                                intro hP hD hS
                                refine lv_iadd hx hb dX3_numberOfOrder_46 ?_
                                refine kz_topi 0 (by first | rfl | decide +kernel) ?_
                                refine lv_istore_n (lv' := [(3, .int 0), (4, .int 4), (2, .int 5), (1, .int 0), (0, .ref h0)]) hx hb dX3_numberOfOrder_47 rfl hl (by decide) rfl (fun ls hl => ?_)
                                refine lv_iinc (v := 5) (lv' := [(4, .int 5), (3, .int 0), (2, .int 5), (1, .int 0), (0, .ref h0)]) hx hb dX3_numberOfOrder_48 hl (k := 1) rfl (by decide) (by decide) rfl (fun ls hl => ?_)
                                refine lv_goto (tgt := 15) hx hb dX3_numberOfOrder_51 (by decide) ?_
                                refine lv_iload hx hb dX3_numberOfOrder_15 (lv_at hl 0 rfl) ?_
                                refine lv_iload_n hx hb dX3_numberOfOrder_17 rfl (lv_at hl 2 rfl) ?_
                                refine lv_icmp_ge (tgt := 54) hx hb dX3_numberOfOrder_18 (by decide) (fun _ => ?_) (fun h => absurd (by decide) h)
                                refine lv_iload_n hx hb dX3_numberOfOrder_54 rfl (lv_at hl 3 rfl) ?_
                                refine lv_iload_n hx hb dX3_numberOfOrder_55 rfl (lv_at hl 1 rfl) ?_
                                refine va_gets hx hb hE.1 hS hown (hts (.fieldLink RX3 76 "TurnedFloors$Paper" "FACTORIALS" "[I") (by decide +kernel)) (fun _ h9 => h9) dX3_numberOfOrder_56 ?_
                                refine lv_iload_n hx hb dX3_numberOfOrder_59 rfl (lv_at hl 2 rfl) ?_
                                refine va_ti (v := .int 120) hx hb hE.2.1 hS (by simp only [vp_in]; decide) rfl dX3_numberOfOrder_60 ?_
                                refine lv_imul hx hb dX3_numberOfOrder_61 ?_
                                refine kz_topi 0 (by first | rfl | decide +kernel) ?_
                                refine lv_iadd hx hb dX3_numberOfOrder_62 ?_
                                refine kz_topi 0 (by first | rfl | decide +kernel) ?_
                                refine lv_istore_n (lv' := [(1, .int 0), (4, .int 5), (3, .int 0), (2, .int 5), (0, .ref h0)]) hx hb dX3_numberOfOrder_63 rfl hl (by decide) rfl (fun ls hl => ?_)
                                refine lv_iinc (v := 6) (lv' := [(2, .int 6), (1, .int 0), (4, .int 5), (3, .int 0), (0, .ref h0)]) hx hb dX3_numberOfOrder_64 hl (k := 3) rfl (by decide) (by decide) rfl (fun ls hl => ?_)
                                refine lv_goto (tgt := 4) hx hb dX3_numberOfOrder_67 (by decide) ?_
                                refine lv_iload_n hx hb dX3_numberOfOrder_4 rfl (lv_at hl 0 rfl) ?_
                                refine lv_bipush (v := 6) hx hb dX3_numberOfOrder_5 (by decide) ?_
                                refine lv_icmp_ge (tgt := 70) hx hb dX3_numberOfOrder_7 (by decide) (fun _ => ?_) (fun h => absurd (by decide) h)
                                refine lv_iload_n hx hb dX3_numberOfOrder_70 rfl (lv_at hl 1 rfl) ?_
                                exact kz_iret hx hb hr hlocks hP hK hD hS dX3_numberOfOrder_71 ⟨rfl, rfl⟩
                              · exact absurd c_30 (by decide)
                            · exact absurd c_28 (by decide)
                          · exact absurd c_26 (by decide)
                        · exact absurd c_24 (by decide)
                      · exact absurd c_22 (by decide)
                    · exact absurd c_20 (by decide)
                  · exact absurd c_18 (by decide)
                · exact absurd c_16 (by decide)
              · exact absurd c_14 (by decide)
            · exact absurd c_12 (by decide)
          · exact absurd c_10 (by decide)
        · exact absurd c_8 (by decide)
      · exact absurd c_6 (by decide)
    · exact absurd c_4 (by decide)
  · exact absurd c_2 (by decide)

set_option maxHeartbeats 4000000 in
set_option maxRecDepth 100000 in
theorem kX3_numberOfOrder_111 (l : Launch) (D : va_G) (ty : Nat → ClassId) (eo : Nat → Nat) (sz : Nat) (x_paper x_paper_ranks x_paper_digits x_paper_barred x_paper_pays x_paper_measuredBarred x_paper_buckets q_5 q_6 q_7 q_1 q_2 q_3 q_4 : Nat) : Met l yX3_numberOfOrder wsX3_numberOfOrder ({ frames := 1, cells := 0, slots := 0, locals := 20 }) (va_Pc [.ref x_paper] (kz_pre D ty eo [(x_paper, .inr (3, [.ref x_paper_ranks, .ref x_paper_digits, .ref x_paper_barred, .ref x_paper_pays, .ref x_paper_measuredBarred, .ref x_paper_buckets, .ref q_5, .ref q_6, .ref q_7, .ref q_1, .ref q_2, .ref q_3, .ref q_4, .int 0, .int 1, .int 0, .int 0, .int (-1), .int (-1), .int 0])), (x_paper_digits, .inl (ty 0, 6, .inl (upd (upd (upd (upd (upd (upd (upd (upd (upd (upd (upd (upd (upd (upd (upd (upd (upd (upd (upd (upd (upd (upd (upd (upd (upd (upd (upd (upd (upd (upd (upd (upd (upd (fun _ => 0) 0 0) 0 0) 1 1) 0 0) 1 1) 2 2) 0 0) 1 1) 2 2) 3 3) 0 0) 1 1) 2 2) 3 3) 4 4) 0 0) 1 1) 2 2) 3 3) 4 4) 5 5) 0 0) 1 1) 2 2) 3 3) 4 4) 5 5) 5 5) 4 4) 3 3) 2 2) 1 1) 0 0)))] sz)) (va_Qi (fun (r : Int32) (u : va_W) => 0 = r ∧ [(x_paper, .inr (3, [.ref x_paper_ranks, .ref x_paper_digits, .ref x_paper_barred, .ref x_paper_pays, .ref x_paper_measuredBarred, .ref x_paper_buckets, .ref q_5, .ref q_6, .ref q_7, .ref q_1, .ref q_2, .ref q_3, .ref q_4, .int 0, .int 1, .int 0, .int 0, .int (-1), .int (-1), .int 0])), (x_paper_digits, .inl (ty 0, 6, .inl (upd (upd (upd (upd (upd (upd (upd (upd (upd (upd (upd (upd (upd (upd (upd (upd (upd (upd (upd (upd (upd (upd (upd (upd (upd (upd (upd (upd (upd (upd (upd (upd (upd (fun _ => 0) 0 0) 0 0) 1 1) 0 0) 1 1) 2 2) 0 0) 1 1) 2 2) 3 3) 0 0) 1 1) 2 2) 3 3) 4 4) 0 0) 1 1) 2 2) 3 3) 4 4) 5 5) 0 0) 1 1) 2 2) 3 3) 4 4) 5 5) 5 5) 4 4) 3 3) 2 2) 1 1) 0 0)))] = u) (kz_B D ty (va_A [(x_paper, .inr (3, [.ref x_paper_ranks, .ref x_paper_digits, .ref x_paper_barred, .ref x_paper_pays, .ref x_paper_measuredBarred, .ref x_paper_buckets, .ref q_5, .ref q_6, .ref q_7, .ref q_1, .ref q_2, .ref q_3, .ref q_4, .int 0, .int 1, .int 0, .int 0, .int (-1), .int (-1), .int 0])), (x_paper_digits, .inl (ty 0, 6, .inl (upd (upd (upd (upd (upd (upd (upd (upd (upd (upd (upd (upd (upd (upd (upd (upd (upd (upd (upd (upd (upd (upd (upd (upd (upd (upd (upd (upd (upd (upd (upd (upd (upd (fun _ => 0) 0 0) 0 0) 1 1) 0 0) 1 1) 2 2) 0 0) 1 1) 2 2) 3 3) 0 0) 1 1) 2 2) 3 3) 4 4) 0 0) 1 1) 2 2) 3 3) 4 4) 5 5) 0 0) 1 1) 2 2) 3 3) 4 4) 5 5) 5 5) 4 4) 3 3) 2 2) 1 1) 0 0)))] sz)) (va_A [(x_paper, .inr (3, [.ref x_paper_ranks, .ref x_paper_digits, .ref x_paper_barred, .ref x_paper_pays, .ref x_paper_measuredBarred, .ref x_paper_buckets, .ref q_5, .ref q_6, .ref q_7, .ref q_1, .ref q_2, .ref q_3, .ref q_4, .int 0, .int 1, .int 0, .int 0, .int (-1), .int (-1), .int 0])), (x_paper_digits, .inl (ty 0, 6, .inl (upd (upd (upd (upd (upd (upd (upd (upd (upd (upd (upd (upd (upd (upd (upd (upd (upd (upd (upd (upd (upd (upd (upd (upd (upd (upd (upd (upd (upd (upd (upd (upd (upd (fun _ => 0) 0 0) 0 0) 1 1) 0 0) 1 1) 2 2) 0 0) 1 1) 2 2) 3 3) 0 0) 1 1) 2 2) 3 3) 4 4) 0 0) 1 1) 2 2) 3 3) 4 4) 5 5) 0 0) 1 1) 2 2) 3 3) 4 4) 5 5) 5 5) 4 4) 3 3) 2 2) 1 1) 0 0)))] sz)) 0 0 (va_A [(x_paper, .inr (3, [.ref x_paper_ranks, .ref x_paper_digits, .ref x_paper_barred, .ref x_paper_pays, .ref x_paper_measuredBarred, .ref x_paper_buckets, .ref q_5, .ref q_6, .ref q_7, .ref q_1, .ref q_2, .ref q_3, .ref q_4, .int 0, .int 1, .int 0, .int 0, .int (-1), .int (-1), .int 0])), (x_paper_digits, .inl (ty 0, 6, .inl (upd (upd (upd (upd (upd (upd (upd (upd (upd (upd (upd (upd (upd (upd (upd (upd (upd (upd (upd (upd (upd (upd (upd (upd (upd (upd (upd (upd (upd (upd (upd (upd (upd (fun _ => 0) 0 0) 0 0) 1 1) 0 0) 1 1) 2 2) 0 0) 1 1) 2 2) 3 3) 0 0) 1 1) 2 2) 3 3) 4 4) 0 0) 1 1) 2 2) 3 3) 4 4) 5 5) 0 0) 1 1) 2 2) 3 3) 4 4) 5 5) 5 5) 4 4) 3 3) 2 2) 1 1) 0 0)))] sz) := by
  refine Met.ofW (cc := cX3_numberOfOrder) (maxL := 5) (ret := (some .int)) (by decide) rfl ?_
  intro p e s m args below meth c s₁ B hml hv
  obtain ⟨rfl, hsz, hP, hK, hD0, hN, hE⟩ := hv
  have hx := B.exec
  have hb := B.bytes
  have hr := B.returns
  have hts := atoms_spec (ws := wsX3_numberOfOrder) B.pre
  have hown : s.vm.findClass RX3 = some m.cls := findClass_of_methodNamed B.named
  have hlocks := B.notSynchronized
  subst hsz
  have hD := hD0.self (sz := s.heap.size)
  generalize hAe : va_A [(x_paper, .inr (3, [.ref x_paper_ranks, .ref x_paper_digits, .ref x_paper_barred, .ref x_paper_pays, .ref x_paper_measuredBarred, .ref x_paper_buckets, .ref q_5, .ref q_6, .ref q_7, .ref q_1, .ref q_2, .ref q_3, .ref q_4, .int 0, .int 1, .int 0, .int 0, .int (-1), .int (-1), .int 0])), (x_paper_digits, .inl (ty 0, 6, .inl (upd (upd (upd (upd (upd (upd (upd (upd (upd (upd (upd (upd (upd (upd (upd (upd (upd (upd (upd (upd (upd (upd (upd (upd (upd (upd (upd (upd (upd (upd (upd (upd (upd (fun _ => 0) 0 0) 0 0) 1 1) 0 0) 1 1) 2 2) 0 0) 1 1) 2 2) 3 3) 0 0) 1 1) 2 2) 3 3) 4 4) 0 0) 1 1) 2 2) 3 3) 4 4) 5 5) 0 0) 1 1) 2 2) 3 3) 4 4) 5 5) 5 5) 4 4) 3 3) 2 2) 1 1) 0 0)))] s.heap.size = A at hD hE ⊢
  have hA : ∀ q : Nat, s.heap.size ≤ q → A q := fun q h => by rw [← hAe]; exact Or.inr h
  have hS : va_S A s.heap s.heap [] := va_S.rf
  have hl := lv_entry ([.ref x_paper]) (n := 5) (Nat.le_of_ble_eq_true rfl)
  rw [lg_entry_eq]
  generalize (lg_sl ([.ref x_paper]) ++ List.replicate (5 - (lg_sl ([.ref x_paper])).length) Slot.unset).toArray = ls at hl ⊢
  have hl : lv_has ls 5 [(0, .ref x_paper)] := hl
  refine lv_iconst (v := 0) hx hb dX3_numberOfOrder_0 (by decide) ?_
  refine lv_istore_n (lv' := [(1, .int 0), (0, .ref x_paper)]) hx hb dX3_numberOfOrder_1 rfl hl (by decide) rfl (fun ls hl => ?_)
  refine lv_iconst (v := 0) hx hb dX3_numberOfOrder_2 (by decide) ?_
  refine lv_istore_n (lv' := [(2, .int 0), (1, .int 0), (0, .ref x_paper)]) hx hb dX3_numberOfOrder_3 rfl hl (by decide) rfl (fun ls hl => ?_)
  refine lv_iload_n hx hb dX3_numberOfOrder_4 rfl (lv_at hl 0 rfl) ?_
  refine lv_bipush (v := 6) hx hb dX3_numberOfOrder_5 (by decide) ?_
  refine lv_icmp_ge (tgt := 70) hx hb dX3_numberOfOrder_7 (by decide) (fun h => absurd h (by decide)) (fun _ => ?_)
  refine lv_iconst (v := 0) hx hb dX3_numberOfOrder_10 (by decide) ?_
  refine lv_istore_n (lv' := [(3, .int 0), (2, .int 0), (1, .int 0), (0, .ref x_paper)]) hx hb dX3_numberOfOrder_11 rfl hl (by decide) rfl (fun ls hl => ?_)
  refine lv_iconst (v := 0) hx hb dX3_numberOfOrder_12 (by decide) ?_
  refine lv_istore (lv' := [(4, .int 0), (3, .int 0), (2, .int 0), (1, .int 0), (0, .ref x_paper)]) hx hb dX3_numberOfOrder_13 hl (by decide) rfl (fun ls hl => ?_)
  refine lv_iload hx hb dX3_numberOfOrder_15 (lv_at hl 0 rfl) ?_
  refine lv_iload_n hx hb dX3_numberOfOrder_17 rfl (lv_at hl 2 rfl) ?_
  refine lv_icmp_ge (tgt := 54) hx hb dX3_numberOfOrder_18 (by decide) (fun _ => ?_) (fun h => absurd (by decide) h)
  refine lv_iload_n hx hb dX3_numberOfOrder_54 rfl (lv_at hl 3 rfl) ?_
  refine lv_iload_n hx hb dX3_numberOfOrder_55 rfl (lv_at hl 1 rfl) ?_
  refine va_gets hx hb hE.1 hS hown (hts (.fieldLink RX3 76 "TurnedFloors$Paper" "FACTORIALS" "[I") (by decide +kernel)) (fun _ h9 => h9) dX3_numberOfOrder_56 ?_
  refine lv_iload_n hx hb dX3_numberOfOrder_59 rfl (lv_at hl 2 rfl) ?_
  refine va_ti (v := .int 1) hx hb hE.2.1 hS (by simp only [vp_in]; decide) rfl dX3_numberOfOrder_60 ?_
  refine lv_imul hx hb dX3_numberOfOrder_61 ?_
  refine kz_topi 0 (by first | rfl | decide +kernel) ?_
  refine lv_iadd hx hb dX3_numberOfOrder_62 ?_
  refine kz_topi 0 (by first | rfl | decide +kernel) ?_
  refine lv_istore_n (lv' := [(1, .int 0), (4, .int 0), (3, .int 0), (2, .int 0), (0, .ref x_paper)]) hx hb dX3_numberOfOrder_63 rfl hl (by decide) rfl (fun ls hl => ?_)
  refine lv_iinc (v := 1) (lv' := [(2, .int 1), (1, .int 0), (4, .int 0), (3, .int 0), (0, .ref x_paper)]) hx hb dX3_numberOfOrder_64 hl (k := 3) rfl (by decide) (by decide) rfl (fun ls hl => ?_)
  refine lv_goto (tgt := 4) hx hb dX3_numberOfOrder_67 (by decide) ?_
  refine lv_iload_n hx hb dX3_numberOfOrder_4 rfl (lv_at hl 0 rfl) ?_
  refine lv_bipush (v := 6) hx hb dX3_numberOfOrder_5 (by decide) ?_
  refine lv_icmp_ge (tgt := 70) hx hb dX3_numberOfOrder_7 (by decide) (fun h => absurd h (by decide)) (fun _ => ?_)
  refine lv_iconst (v := 0) hx hb dX3_numberOfOrder_10 (by decide) ?_
  refine lv_istore_n (lv' := [(3, .int 0), (2, .int 1), (1, .int 0), (4, .int 0), (0, .ref x_paper)]) hx hb dX3_numberOfOrder_11 rfl hl (by decide) rfl (fun ls hl => ?_)
  refine lv_iconst (v := 0) hx hb dX3_numberOfOrder_12 (by decide) ?_
  refine lv_istore (lv' := [(4, .int 0), (3, .int 0), (2, .int 1), (1, .int 0), (0, .ref x_paper)]) hx hb dX3_numberOfOrder_13 hl (by decide) rfl (fun ls hl => ?_)
  refine lv_iload hx hb dX3_numberOfOrder_15 (lv_at hl 0 rfl) ?_
  refine lv_iload_n hx hb dX3_numberOfOrder_17 rfl (lv_at hl 2 rfl) ?_
  refine lv_icmp_ge (tgt := 54) hx hb dX3_numberOfOrder_18 (by decide) (fun h => absurd h (by decide)) (fun _ => ?_)
  refine lv_iload_n hx hb dX3_numberOfOrder_21 rfl (lv_at hl 1 rfl) ?_
  refine lv_aload_n hx hb dX3_numberOfOrder_22 rfl (lv_at hl 4 rfl) ?_
  refine va_get (D := D) (ci := 3) (v := .ref x_paper_digits) (C := RX3) (T := TX3) (N := 20) hx hb hts (by decide +kernel) hown hK hP 0 rfl rfl 1 (by decide) (hts (.fieldLink RX3 15 "TurnedFloors$Paper" "digits" "[I") (by decide +kernel)) (fun _ h9 => h9) rfl dX3_numberOfOrder_23 ?_
  refine lv_iload hx hb dX3_numberOfOrder_26 (lv_at hl 0 rfl) ?_
  refine va_iald hx hb hK hP 1 0 rfl rfl (by simp only [vp_in]; decide) dX3_numberOfOrder_28 ?_
  refine kz_topi 0 (by first | rfl | decide +kernel) ?_
  refine lv_aload_n hx hb dX3_numberOfOrder_29 rfl (lv_at hl 4 rfl) ?_
  refine va_get (D := D) (ci := 3) (v := .ref x_paper_digits) (C := RX3) (T := TX3) (N := 20) hx hb hts (by decide +kernel) hown hK hP 0 rfl rfl 1 (by decide) (hts (.fieldLink RX3 15 "TurnedFloors$Paper" "digits" "[I") (by decide +kernel)) (fun _ h9 => h9) rfl dX3_numberOfOrder_30 ?_
  refine lv_iload_n hx hb dX3_numberOfOrder_33 rfl (lv_at hl 2 rfl) ?_
  refine va_iald hx hb hK hP 1 0 rfl rfl (by simp only [vp_in]; decide) dX3_numberOfOrder_34 ?_
  refine kz_topi 1 (by first | rfl | decide +kernel) ?_
  refine lv_icmp_le (tgt := 42) hx hb dX3_numberOfOrder_35 (by decide) (fun _ => ?_) (fun h => absurd (by decide) h)
  refine lv_iconst (v := 0) hx hb dX3_numberOfOrder_42 (by decide) ?_
  refine kz_ki (wc := []) (wr := [(x_paper, .inr (3, [.ref x_paper_ranks, .ref x_paper_digits, .ref x_paper_barred, .ref x_paper_pays, .ref x_paper_measuredBarred, .ref x_paper_buckets, .ref q_5, .ref q_6, .ref q_7, .ref q_1, .ref q_2, .ref q_3, .ref q_4, .int 0, .int 1, .int 0, .int 0, .int (-1), .int (-1), .int 0])), (x_paper_digits, .inl (ty 0, 6, .inl (upd (upd (upd (upd (upd (upd (upd (upd (upd (upd (upd (upd (upd (upd (upd (upd (upd (upd (upd (upd (upd (upd (upd (upd (upd (upd (upd (upd (upd (upd (upd (upd (upd (fun _ => 0) 0 0) 0 0) 1 1) 0 0) 1 1) 2 2) 0 0) 1 1) 2 2) 3 3) 0 0) 1 1) 2 2) 3 3) 4 4) 0 0) 1 1) 2 2) 3 3) 4 4) 5 5) 0 0) 1 1) 2 2) 3 3) 4 4) 5 5) 5 5) 4 4) 3 3) 2 2) 1 1) 0 0)))]) (va_runSN (As := [.int 0]) (rest := [.int 0]) ⟨hx, hb, hml, hown, hts⟩ (kcX9_bit l D ty eo _ 0) ⟨va_cnB 1 hts gX3_numberOfOrder_X9_bit_n133 rfl rfl rfl (hN.1 _ (by decide +kernel : (.methodLinkNest "TurnedFloors$Paper" 133 yX9_bit "TurnedFloors" : Cond) ∈ kzN1)) (hts (.initialized RX9) (by decide +kernel)) (by decide +kernel) ⟨Nat.le_of_ble_eq_true rfl, Nat.le_of_ble_eq_true rfl⟩, hts (.static yX9_bit) (by decide +kernel), trivial⟩ (kz_preS hK hN hE hP hD hS hA [] (by decide) rfl) rfl rfl hl.1 rfl (lv_room (Nat.le_of_ble_eq_true rfl)) dX3_numberOfOrder_43 ⟨Nat.le_of_ble_eq_true rfl, Nat.le_of_ble_eq_true rfl⟩) hP hD hS hA [] [0, 1] rfl rfl (by decide) (by decide) (fun r u H locs hw hp hd hs => ?_)
  rcases hw with ⟨c_1, rfl, rfl⟩ | ⟨c_2, rfl, rfl⟩
  · refine kz_re (w2 := [(x_paper, .inr (3, [.ref x_paper_ranks, .ref x_paper_digits, .ref x_paper_barred, .ref x_paper_pays, .ref x_paper_measuredBarred, .ref x_paper_buckets, .ref q_5, .ref q_6, .ref q_7, .ref q_1, .ref q_2, .ref q_3, .ref q_4, .int 0, .int 1, .int 0, .int 0, .int (-1), .int (-1), .int 0])), (x_paper_digits, .inl (ty 0, 6, .inl (upd (upd (upd (upd (upd (upd (upd (upd (upd (upd (upd (upd (upd (upd (upd (upd (upd (upd (upd (upd (upd (upd (upd (upd (upd (upd (upd (upd (upd (upd (upd (upd (upd (fun _ => 0) 0 0) 0 0) 1 1) 0 0) 1 1) 2 2) 0 0) 1 1) 2 2) 3 3) 0 0) 1 1) 2 2) 3 3) 4 4) 0 0) 1 1) 2 2) 3 3) 4 4) 5 5) 0 0) 1 1) 2 2) 3 3) 4 4) 5 5) 5 5) 4 4) 3 3) 2 2) 1 1) 0 0)))]) hp hd hs rfl ?_
    clear hp hd hs hP hD hS
    intro hP hD hS
    refine lv_iadd hx hb dX3_numberOfOrder_46 ?_
    refine kz_topi 0 (by first | rfl | decide +kernel) ?_
    refine lv_istore_n (lv' := [(3, .int 0), (4, .int 0), (2, .int 1), (1, .int 0), (0, .ref x_paper)]) hx hb dX3_numberOfOrder_47 rfl hl (by decide) rfl (fun ls hl => ?_)
    refine lv_iinc (v := 1) (lv' := [(4, .int 1), (3, .int 0), (2, .int 1), (1, .int 0), (0, .ref x_paper)]) hx hb dX3_numberOfOrder_48 hl (k := 1) rfl (by decide) (by decide) rfl (fun ls hl => ?_)
    refine lv_goto (tgt := 15) hx hb dX3_numberOfOrder_51 (by decide) ?_
    refine lv_iload hx hb dX3_numberOfOrder_15 (lv_at hl 0 rfl) ?_
    refine lv_iload_n hx hb dX3_numberOfOrder_17 rfl (lv_at hl 2 rfl) ?_
    refine lv_icmp_ge (tgt := 54) hx hb dX3_numberOfOrder_18 (by decide) (fun _ => ?_) (fun h => absurd (by decide) h)
    refine lv_iload_n hx hb dX3_numberOfOrder_54 rfl (lv_at hl 3 rfl) ?_
    refine lv_iload_n hx hb dX3_numberOfOrder_55 rfl (lv_at hl 1 rfl) ?_
    refine va_gets hx hb hE.1 hS hown (hts (.fieldLink RX3 76 "TurnedFloors$Paper" "FACTORIALS" "[I") (by decide +kernel)) (fun _ h9 => h9) dX3_numberOfOrder_56 ?_
    refine lv_iload_n hx hb dX3_numberOfOrder_59 rfl (lv_at hl 2 rfl) ?_
    refine va_ti (v := .int 1) hx hb hE.2.1 hS (by simp only [vp_in]; decide) rfl dX3_numberOfOrder_60 ?_
    refine lv_imul hx hb dX3_numberOfOrder_61 ?_
    refine kz_topi 0 (by first | rfl | decide +kernel) ?_
    refine lv_iadd hx hb dX3_numberOfOrder_62 ?_
    refine kz_topi 0 (by first | rfl | decide +kernel) ?_
    refine lv_istore_n (lv' := [(1, .int 0), (4, .int 1), (3, .int 0), (2, .int 1), (0, .ref x_paper)]) hx hb dX3_numberOfOrder_63 rfl hl (by decide) rfl (fun ls hl => ?_)
    refine lv_iinc (v := 2) (lv' := [(2, .int 2), (1, .int 0), (4, .int 1), (3, .int 0), (0, .ref x_paper)]) hx hb dX3_numberOfOrder_64 hl (k := 3) rfl (by decide) (by decide) rfl (fun ls hl => ?_)
    refine lv_goto (tgt := 4) hx hb dX3_numberOfOrder_67 (by decide) ?_
    refine lv_iload_n hx hb dX3_numberOfOrder_4 rfl (lv_at hl 0 rfl) ?_
    refine lv_bipush (v := 6) hx hb dX3_numberOfOrder_5 (by decide) ?_
    refine lv_icmp_ge (tgt := 70) hx hb dX3_numberOfOrder_7 (by decide) (fun h => absurd h (by decide)) (fun _ => ?_)
    refine lv_iconst (v := 0) hx hb dX3_numberOfOrder_10 (by decide) ?_
    refine lv_istore_n (lv' := [(3, .int 0), (2, .int 2), (1, .int 0), (4, .int 1), (0, .ref x_paper)]) hx hb dX3_numberOfOrder_11 rfl hl (by decide) rfl (fun ls hl => ?_)
    refine lv_iconst (v := 0) hx hb dX3_numberOfOrder_12 (by decide) ?_
    refine lv_istore (lv' := [(4, .int 0), (3, .int 0), (2, .int 2), (1, .int 0), (0, .ref x_paper)]) hx hb dX3_numberOfOrder_13 hl (by decide) rfl (fun ls hl => ?_)
    refine lv_iload hx hb dX3_numberOfOrder_15 (lv_at hl 0 rfl) ?_
    refine lv_iload_n hx hb dX3_numberOfOrder_17 rfl (lv_at hl 2 rfl) ?_
    refine lv_icmp_ge (tgt := 54) hx hb dX3_numberOfOrder_18 (by decide) (fun h => absurd h (by decide)) (fun _ => ?_)
    refine lv_iload_n hx hb dX3_numberOfOrder_21 rfl (lv_at hl 1 rfl) ?_
    refine lv_aload_n hx hb dX3_numberOfOrder_22 rfl (lv_at hl 4 rfl) ?_
    refine va_get (D := D) (ci := 3) (v := .ref x_paper_digits) (C := RX3) (T := TX3) (N := 20) hx hb hts (by decide +kernel) hown hK hP 0 rfl rfl 1 (by decide) (hts (.fieldLink RX3 15 "TurnedFloors$Paper" "digits" "[I") (by decide +kernel)) (fun _ h9 => h9) rfl dX3_numberOfOrder_23 ?_
    refine lv_iload hx hb dX3_numberOfOrder_26 (lv_at hl 0 rfl) ?_
    refine va_iald hx hb hK hP 1 0 rfl rfl (by simp only [vp_in]; decide) dX3_numberOfOrder_28 ?_
    refine kz_topi 0 (by first | rfl | decide +kernel) ?_
    refine lv_aload_n hx hb dX3_numberOfOrder_29 rfl (lv_at hl 4 rfl) ?_
    refine va_get (D := D) (ci := 3) (v := .ref x_paper_digits) (C := RX3) (T := TX3) (N := 20) hx hb hts (by decide +kernel) hown hK hP 0 rfl rfl 1 (by decide) (hts (.fieldLink RX3 15 "TurnedFloors$Paper" "digits" "[I") (by decide +kernel)) (fun _ h9 => h9) rfl dX3_numberOfOrder_30 ?_
    refine lv_iload_n hx hb dX3_numberOfOrder_33 rfl (lv_at hl 2 rfl) ?_
    refine va_iald hx hb hK hP 1 0 rfl rfl (by simp only [vp_in]; decide) dX3_numberOfOrder_34 ?_
    refine kz_topi 2 (by first | rfl | decide +kernel) ?_
    refine lv_icmp_le (tgt := 42) hx hb dX3_numberOfOrder_35 (by decide) (fun _ => ?_) (fun h => absurd (by decide) h)
    refine lv_iconst (v := 0) hx hb dX3_numberOfOrder_42 (by decide) ?_
    refine kz_ki (wc := []) (wr := [(x_paper, .inr (3, [.ref x_paper_ranks, .ref x_paper_digits, .ref x_paper_barred, .ref x_paper_pays, .ref x_paper_measuredBarred, .ref x_paper_buckets, .ref q_5, .ref q_6, .ref q_7, .ref q_1, .ref q_2, .ref q_3, .ref q_4, .int 0, .int 1, .int 0, .int 0, .int (-1), .int (-1), .int 0])), (x_paper_digits, .inl (ty 0, 6, .inl (upd (upd (upd (upd (upd (upd (upd (upd (upd (upd (upd (upd (upd (upd (upd (upd (upd (upd (upd (upd (upd (upd (upd (upd (upd (upd (upd (upd (upd (upd (upd (upd (upd (fun _ => 0) 0 0) 0 0) 1 1) 0 0) 1 1) 2 2) 0 0) 1 1) 2 2) 3 3) 0 0) 1 1) 2 2) 3 3) 4 4) 0 0) 1 1) 2 2) 3 3) 4 4) 5 5) 0 0) 1 1) 2 2) 3 3) 4 4) 5 5) 5 5) 4 4) 3 3) 2 2) 1 1) 0 0)))]) (va_runSN (As := [.int 0]) (rest := [.int 0]) ⟨hx, hb, hml, hown, hts⟩ (kcX9_bit l D ty eo _ 0) ⟨va_cnB 1 hts gX3_numberOfOrder_X9_bit_n133 rfl rfl rfl (hN.1 _ (by decide +kernel : (.methodLinkNest "TurnedFloors$Paper" 133 yX9_bit "TurnedFloors" : Cond) ∈ kzN1)) (hts (.initialized RX9) (by decide +kernel)) (by decide +kernel) ⟨Nat.le_of_ble_eq_true rfl, Nat.le_of_ble_eq_true rfl⟩, hts (.static yX9_bit) (by decide +kernel), trivial⟩ (kz_preS hK hN hE hP hD hS hA [] (by decide) rfl) rfl rfl hl.1 rfl (lv_room (Nat.le_of_ble_eq_true rfl)) dX3_numberOfOrder_43 ⟨Nat.le_of_ble_eq_true rfl, Nat.le_of_ble_eq_true rfl⟩) hP hD hS hA [] [0, 1] rfl rfl (by decide) (by decide) (fun r u H locs hw hp hd hs => ?_)
    rcases hw with ⟨c_3, rfl, rfl⟩ | ⟨c_4, rfl, rfl⟩
    · refine kz_re (w2 := [(x_paper, .inr (3, [.ref x_paper_ranks, .ref x_paper_digits, .ref x_paper_barred, .ref x_paper_pays, .ref x_paper_measuredBarred, .ref x_paper_buckets, .ref q_5, .ref q_6, .ref q_7, .ref q_1, .ref q_2, .ref q_3, .ref q_4, .int 0, .int 1, .int 0, .int 0, .int (-1), .int (-1), .int 0])), (x_paper_digits, .inl (ty 0, 6, .inl (upd (upd (upd (upd (upd (upd (upd (upd (upd (upd (upd (upd (upd (upd (upd (upd (upd (upd (upd (upd (upd (upd (upd (upd (upd (upd (upd (upd (upd (upd (upd (upd (upd (fun _ => 0) 0 0) 0 0) 1 1) 0 0) 1 1) 2 2) 0 0) 1 1) 2 2) 3 3) 0 0) 1 1) 2 2) 3 3) 4 4) 0 0) 1 1) 2 2) 3 3) 4 4) 5 5) 0 0) 1 1) 2 2) 3 3) 4 4) 5 5) 5 5) 4 4) 3 3) 2 2) 1 1) 0 0)))]) hp hd hs rfl ?_
      clear hp hd hs hP hD hS
      intro hP hD hS
      refine lv_iadd hx hb dX3_numberOfOrder_46 ?_
      refine kz_topi 0 (by first | rfl | decide +kernel) ?_
      refine lv_istore_n (lv' := [(3, .int 0), (4, .int 0), (2, .int 2), (1, .int 0), (0, .ref x_paper)]) hx hb dX3_numberOfOrder_47 rfl hl (by decide) rfl (fun ls hl => ?_)
      refine lv_iinc (v := 1) (lv' := [(4, .int 1), (3, .int 0), (2, .int 2), (1, .int 0), (0, .ref x_paper)]) hx hb dX3_numberOfOrder_48 hl (k := 1) rfl (by decide) (by decide) rfl (fun ls hl => ?_)
      refine lv_goto (tgt := 15) hx hb dX3_numberOfOrder_51 (by decide) ?_
      refine lv_iload hx hb dX3_numberOfOrder_15 (lv_at hl 0 rfl) ?_
      refine lv_iload_n hx hb dX3_numberOfOrder_17 rfl (lv_at hl 2 rfl) ?_
      refine lv_icmp_ge (tgt := 54) hx hb dX3_numberOfOrder_18 (by decide) (fun h => absurd h (by decide)) (fun _ => ?_)
      refine lv_iload_n hx hb dX3_numberOfOrder_21 rfl (lv_at hl 1 rfl) ?_
      refine lv_aload_n hx hb dX3_numberOfOrder_22 rfl (lv_at hl 4 rfl) ?_
      refine va_get (D := D) (ci := 3) (v := .ref x_paper_digits) (C := RX3) (T := TX3) (N := 20) hx hb hts (by decide +kernel) hown hK hP 0 rfl rfl 1 (by decide) (hts (.fieldLink RX3 15 "TurnedFloors$Paper" "digits" "[I") (by decide +kernel)) (fun _ h9 => h9) rfl dX3_numberOfOrder_23 ?_
      refine lv_iload hx hb dX3_numberOfOrder_26 (lv_at hl 0 rfl) ?_
      refine va_iald hx hb hK hP 1 0 rfl rfl (by simp only [vp_in]; decide) dX3_numberOfOrder_28 ?_
      refine kz_topi 1 (by first | rfl | decide +kernel) ?_
      refine lv_aload_n hx hb dX3_numberOfOrder_29 rfl (lv_at hl 4 rfl) ?_
      refine va_get (D := D) (ci := 3) (v := .ref x_paper_digits) (C := RX3) (T := TX3) (N := 20) hx hb hts (by decide +kernel) hown hK hP 0 rfl rfl 1 (by decide) (hts (.fieldLink RX3 15 "TurnedFloors$Paper" "digits" "[I") (by decide +kernel)) (fun _ h9 => h9) rfl dX3_numberOfOrder_30 ?_
      refine lv_iload_n hx hb dX3_numberOfOrder_33 rfl (lv_at hl 2 rfl) ?_
      refine va_iald hx hb hK hP 1 0 rfl rfl (by simp only [vp_in]; decide) dX3_numberOfOrder_34 ?_
      refine kz_topi 2 (by first | rfl | decide +kernel) ?_
      refine lv_icmp_le (tgt := 42) hx hb dX3_numberOfOrder_35 (by decide) (fun _ => ?_) (fun h => absurd (by decide) h)
      refine lv_iconst (v := 0) hx hb dX3_numberOfOrder_42 (by decide) ?_
      refine kz_ki (wc := []) (wr := [(x_paper, .inr (3, [.ref x_paper_ranks, .ref x_paper_digits, .ref x_paper_barred, .ref x_paper_pays, .ref x_paper_measuredBarred, .ref x_paper_buckets, .ref q_5, .ref q_6, .ref q_7, .ref q_1, .ref q_2, .ref q_3, .ref q_4, .int 0, .int 1, .int 0, .int 0, .int (-1), .int (-1), .int 0])), (x_paper_digits, .inl (ty 0, 6, .inl (upd (upd (upd (upd (upd (upd (upd (upd (upd (upd (upd (upd (upd (upd (upd (upd (upd (upd (upd (upd (upd (upd (upd (upd (upd (upd (upd (upd (upd (upd (upd (upd (upd (fun _ => 0) 0 0) 0 0) 1 1) 0 0) 1 1) 2 2) 0 0) 1 1) 2 2) 3 3) 0 0) 1 1) 2 2) 3 3) 4 4) 0 0) 1 1) 2 2) 3 3) 4 4) 5 5) 0 0) 1 1) 2 2) 3 3) 4 4) 5 5) 5 5) 4 4) 3 3) 2 2) 1 1) 0 0)))]) (va_runSN (As := [.int 0]) (rest := [.int 0]) ⟨hx, hb, hml, hown, hts⟩ (kcX9_bit l D ty eo _ 0) ⟨va_cnB 1 hts gX3_numberOfOrder_X9_bit_n133 rfl rfl rfl (hN.1 _ (by decide +kernel : (.methodLinkNest "TurnedFloors$Paper" 133 yX9_bit "TurnedFloors" : Cond) ∈ kzN1)) (hts (.initialized RX9) (by decide +kernel)) (by decide +kernel) ⟨Nat.le_of_ble_eq_true rfl, Nat.le_of_ble_eq_true rfl⟩, hts (.static yX9_bit) (by decide +kernel), trivial⟩ (kz_preS hK hN hE hP hD hS hA [] (by decide) rfl) rfl rfl hl.1 rfl (lv_room (Nat.le_of_ble_eq_true rfl)) dX3_numberOfOrder_43 ⟨Nat.le_of_ble_eq_true rfl, Nat.le_of_ble_eq_true rfl⟩) hP hD hS hA [] [0, 1] rfl rfl (by decide) (by decide) (fun r u H locs hw hp hd hs => ?_)
      rcases hw with ⟨c_5, rfl, rfl⟩ | ⟨c_6, rfl, rfl⟩
      · refine kz_re (w2 := [(x_paper, .inr (3, [.ref x_paper_ranks, .ref x_paper_digits, .ref x_paper_barred, .ref x_paper_pays, .ref x_paper_measuredBarred, .ref x_paper_buckets, .ref q_5, .ref q_6, .ref q_7, .ref q_1, .ref q_2, .ref q_3, .ref q_4, .int 0, .int 1, .int 0, .int 0, .int (-1), .int (-1), .int 0])), (x_paper_digits, .inl (ty 0, 6, .inl (upd (upd (upd (upd (upd (upd (upd (upd (upd (upd (upd (upd (upd (upd (upd (upd (upd (upd (upd (upd (upd (upd (upd (upd (upd (upd (upd (upd (upd (upd (upd (upd (upd (fun _ => 0) 0 0) 0 0) 1 1) 0 0) 1 1) 2 2) 0 0) 1 1) 2 2) 3 3) 0 0) 1 1) 2 2) 3 3) 4 4) 0 0) 1 1) 2 2) 3 3) 4 4) 5 5) 0 0) 1 1) 2 2) 3 3) 4 4) 5 5) 5 5) 4 4) 3 3) 2 2) 1 1) 0 0)))]) hp hd hs rfl ?_
        clear hp hd hs hP hD hS
        intro hP hD hS
        refine lv_iadd hx hb dX3_numberOfOrder_46 ?_
        refine kz_topi 0 (by first | rfl | decide +kernel) ?_
        refine lv_istore_n (lv' := [(3, .int 0), (4, .int 1), (2, .int 2), (1, .int 0), (0, .ref x_paper)]) hx hb dX3_numberOfOrder_47 rfl hl (by decide) rfl (fun ls hl => ?_)
        refine lv_iinc (v := 2) (lv' := [(4, .int 2), (3, .int 0), (2, .int 2), (1, .int 0), (0, .ref x_paper)]) hx hb dX3_numberOfOrder_48 hl (k := 1) rfl (by decide) (by decide) rfl (fun ls hl => ?_)
        refine lv_goto (tgt := 15) hx hb dX3_numberOfOrder_51 (by decide) ?_
        refine lv_iload hx hb dX3_numberOfOrder_15 (lv_at hl 0 rfl) ?_
        refine lv_iload_n hx hb dX3_numberOfOrder_17 rfl (lv_at hl 2 rfl) ?_
        refine lv_icmp_ge (tgt := 54) hx hb dX3_numberOfOrder_18 (by decide) (fun _ => ?_) (fun h => absurd (by decide) h)
        refine lv_iload_n hx hb dX3_numberOfOrder_54 rfl (lv_at hl 3 rfl) ?_
        refine lv_iload_n hx hb dX3_numberOfOrder_55 rfl (lv_at hl 1 rfl) ?_
        refine va_gets hx hb hE.1 hS hown (hts (.fieldLink RX3 76 "TurnedFloors$Paper" "FACTORIALS" "[I") (by decide +kernel)) (fun _ h9 => h9) dX3_numberOfOrder_56 ?_
        refine lv_iload_n hx hb dX3_numberOfOrder_59 rfl (lv_at hl 2 rfl) ?_
        refine va_ti (v := .int 2) hx hb hE.2.1 hS (by simp only [vp_in]; decide) rfl dX3_numberOfOrder_60 ?_
        refine lv_imul hx hb dX3_numberOfOrder_61 ?_
        refine kz_topi 0 (by first | rfl | decide +kernel) ?_
        refine lv_iadd hx hb dX3_numberOfOrder_62 ?_
        refine kz_topi 0 (by first | rfl | decide +kernel) ?_
        refine lv_istore_n (lv' := [(1, .int 0), (4, .int 2), (3, .int 0), (2, .int 2), (0, .ref x_paper)]) hx hb dX3_numberOfOrder_63 rfl hl (by decide) rfl (fun ls hl => ?_)
        refine lv_iinc (v := 3) (lv' := [(2, .int 3), (1, .int 0), (4, .int 2), (3, .int 0), (0, .ref x_paper)]) hx hb dX3_numberOfOrder_64 hl (k := 3) rfl (by decide) (by decide) rfl (fun ls hl => ?_)
        refine lv_goto (tgt := 4) hx hb dX3_numberOfOrder_67 (by decide) ?_
        refine lv_iload_n hx hb dX3_numberOfOrder_4 rfl (lv_at hl 0 rfl) ?_
        refine lv_bipush (v := 6) hx hb dX3_numberOfOrder_5 (by decide) ?_
        refine lv_icmp_ge (tgt := 70) hx hb dX3_numberOfOrder_7 (by decide) (fun h => absurd h (by decide)) (fun _ => ?_)
        refine lv_iconst (v := 0) hx hb dX3_numberOfOrder_10 (by decide) ?_
        refine lv_istore_n (lv' := [(3, .int 0), (2, .int 3), (1, .int 0), (4, .int 2), (0, .ref x_paper)]) hx hb dX3_numberOfOrder_11 rfl hl (by decide) rfl (fun ls hl => ?_)
        refine lv_iconst (v := 0) hx hb dX3_numberOfOrder_12 (by decide) ?_
        refine lv_istore (lv' := [(4, .int 0), (3, .int 0), (2, .int 3), (1, .int 0), (0, .ref x_paper)]) hx hb dX3_numberOfOrder_13 hl (by decide) rfl (fun ls hl => ?_)
        refine lv_iload hx hb dX3_numberOfOrder_15 (lv_at hl 0 rfl) ?_
        refine lv_iload_n hx hb dX3_numberOfOrder_17 rfl (lv_at hl 2 rfl) ?_
        refine lv_icmp_ge (tgt := 54) hx hb dX3_numberOfOrder_18 (by decide) (fun h => absurd h (by decide)) (fun _ => ?_)
        refine lv_iload_n hx hb dX3_numberOfOrder_21 rfl (lv_at hl 1 rfl) ?_
        refine lv_aload_n hx hb dX3_numberOfOrder_22 rfl (lv_at hl 4 rfl) ?_
        refine va_get (D := D) (ci := 3) (v := .ref x_paper_digits) (C := RX3) (T := TX3) (N := 20) hx hb hts (by decide +kernel) hown hK hP 0 rfl rfl 1 (by decide) (hts (.fieldLink RX3 15 "TurnedFloors$Paper" "digits" "[I") (by decide +kernel)) (fun _ h9 => h9) rfl dX3_numberOfOrder_23 ?_
        refine lv_iload hx hb dX3_numberOfOrder_26 (lv_at hl 0 rfl) ?_
        refine va_iald hx hb hK hP 1 0 rfl rfl (by simp only [vp_in]; decide) dX3_numberOfOrder_28 ?_
        refine kz_topi 0 (by first | rfl | decide +kernel) ?_
        refine lv_aload_n hx hb dX3_numberOfOrder_29 rfl (lv_at hl 4 rfl) ?_
        refine va_get (D := D) (ci := 3) (v := .ref x_paper_digits) (C := RX3) (T := TX3) (N := 20) hx hb hts (by decide +kernel) hown hK hP 0 rfl rfl 1 (by decide) (hts (.fieldLink RX3 15 "TurnedFloors$Paper" "digits" "[I") (by decide +kernel)) (fun _ h9 => h9) rfl dX3_numberOfOrder_30 ?_
        refine lv_iload_n hx hb dX3_numberOfOrder_33 rfl (lv_at hl 2 rfl) ?_
        refine va_iald hx hb hK hP 1 0 rfl rfl (by simp only [vp_in]; decide) dX3_numberOfOrder_34 ?_
        refine kz_topi 3 (by first | rfl | decide +kernel) ?_
        refine lv_icmp_le (tgt := 42) hx hb dX3_numberOfOrder_35 (by decide) (fun _ => ?_) (fun h => absurd (by decide) h)
        refine lv_iconst (v := 0) hx hb dX3_numberOfOrder_42 (by decide) ?_
        refine kz_ki (wc := []) (wr := [(x_paper, .inr (3, [.ref x_paper_ranks, .ref x_paper_digits, .ref x_paper_barred, .ref x_paper_pays, .ref x_paper_measuredBarred, .ref x_paper_buckets, .ref q_5, .ref q_6, .ref q_7, .ref q_1, .ref q_2, .ref q_3, .ref q_4, .int 0, .int 1, .int 0, .int 0, .int (-1), .int (-1), .int 0])), (x_paper_digits, .inl (ty 0, 6, .inl (upd (upd (upd (upd (upd (upd (upd (upd (upd (upd (upd (upd (upd (upd (upd (upd (upd (upd (upd (upd (upd (upd (upd (upd (upd (upd (upd (upd (upd (upd (upd (upd (upd (fun _ => 0) 0 0) 0 0) 1 1) 0 0) 1 1) 2 2) 0 0) 1 1) 2 2) 3 3) 0 0) 1 1) 2 2) 3 3) 4 4) 0 0) 1 1) 2 2) 3 3) 4 4) 5 5) 0 0) 1 1) 2 2) 3 3) 4 4) 5 5) 5 5) 4 4) 3 3) 2 2) 1 1) 0 0)))]) (va_runSN (As := [.int 0]) (rest := [.int 0]) ⟨hx, hb, hml, hown, hts⟩ (kcX9_bit l D ty eo _ 0) ⟨va_cnB 1 hts gX3_numberOfOrder_X9_bit_n133 rfl rfl rfl (hN.1 _ (by decide +kernel : (.methodLinkNest "TurnedFloors$Paper" 133 yX9_bit "TurnedFloors" : Cond) ∈ kzN1)) (hts (.initialized RX9) (by decide +kernel)) (by decide +kernel) ⟨Nat.le_of_ble_eq_true rfl, Nat.le_of_ble_eq_true rfl⟩, hts (.static yX9_bit) (by decide +kernel), trivial⟩ (kz_preS hK hN hE hP hD hS hA [] (by decide) rfl) rfl rfl hl.1 rfl (lv_room (Nat.le_of_ble_eq_true rfl)) dX3_numberOfOrder_43 ⟨Nat.le_of_ble_eq_true rfl, Nat.le_of_ble_eq_true rfl⟩) hP hD hS hA [] [0, 1] rfl rfl (by decide) (by decide) (fun r u H locs hw hp hd hs => ?_)
        rcases hw with ⟨c_7, rfl, rfl⟩ | ⟨c_8, rfl, rfl⟩
        · refine kz_re (w2 := [(x_paper, .inr (3, [.ref x_paper_ranks, .ref x_paper_digits, .ref x_paper_barred, .ref x_paper_pays, .ref x_paper_measuredBarred, .ref x_paper_buckets, .ref q_5, .ref q_6, .ref q_7, .ref q_1, .ref q_2, .ref q_3, .ref q_4, .int 0, .int 1, .int 0, .int 0, .int (-1), .int (-1), .int 0])), (x_paper_digits, .inl (ty 0, 6, .inl (upd (upd (upd (upd (upd (upd (upd (upd (upd (upd (upd (upd (upd (upd (upd (upd (upd (upd (upd (upd (upd (upd (upd (upd (upd (upd (upd (upd (upd (upd (upd (upd (upd (fun _ => 0) 0 0) 0 0) 1 1) 0 0) 1 1) 2 2) 0 0) 1 1) 2 2) 3 3) 0 0) 1 1) 2 2) 3 3) 4 4) 0 0) 1 1) 2 2) 3 3) 4 4) 5 5) 0 0) 1 1) 2 2) 3 3) 4 4) 5 5) 5 5) 4 4) 3 3) 2 2) 1 1) 0 0)))]) hp hd hs rfl ?_
          clear hp hd hs hP hD hS
          intro hP hD hS
          refine lv_iadd hx hb dX3_numberOfOrder_46 ?_
          refine kz_topi 0 (by first | rfl | decide +kernel) ?_
          refine lv_istore_n (lv' := [(3, .int 0), (4, .int 0), (2, .int 3), (1, .int 0), (0, .ref x_paper)]) hx hb dX3_numberOfOrder_47 rfl hl (by decide) rfl (fun ls hl => ?_)
          refine lv_iinc (v := 1) (lv' := [(4, .int 1), (3, .int 0), (2, .int 3), (1, .int 0), (0, .ref x_paper)]) hx hb dX3_numberOfOrder_48 hl (k := 1) rfl (by decide) (by decide) rfl (fun ls hl => ?_)
          refine lv_goto (tgt := 15) hx hb dX3_numberOfOrder_51 (by decide) ?_
          refine lv_iload hx hb dX3_numberOfOrder_15 (lv_at hl 0 rfl) ?_
          refine lv_iload_n hx hb dX3_numberOfOrder_17 rfl (lv_at hl 2 rfl) ?_
          refine lv_icmp_ge (tgt := 54) hx hb dX3_numberOfOrder_18 (by decide) (fun h => absurd h (by decide)) (fun _ => ?_)
          refine lv_iload_n hx hb dX3_numberOfOrder_21 rfl (lv_at hl 1 rfl) ?_
          refine lv_aload_n hx hb dX3_numberOfOrder_22 rfl (lv_at hl 4 rfl) ?_
          refine va_get (D := D) (ci := 3) (v := .ref x_paper_digits) (C := RX3) (T := TX3) (N := 20) hx hb hts (by decide +kernel) hown hK hP 0 rfl rfl 1 (by decide) (hts (.fieldLink RX3 15 "TurnedFloors$Paper" "digits" "[I") (by decide +kernel)) (fun _ h9 => h9) rfl dX3_numberOfOrder_23 ?_
          refine lv_iload hx hb dX3_numberOfOrder_26 (lv_at hl 0 rfl) ?_
          refine va_iald hx hb hK hP 1 0 rfl rfl (by simp only [vp_in]; decide) dX3_numberOfOrder_28 ?_
          refine kz_topi 1 (by first | rfl | decide +kernel) ?_
          refine lv_aload_n hx hb dX3_numberOfOrder_29 rfl (lv_at hl 4 rfl) ?_
          refine va_get (D := D) (ci := 3) (v := .ref x_paper_digits) (C := RX3) (T := TX3) (N := 20) hx hb hts (by decide +kernel) hown hK hP 0 rfl rfl 1 (by decide) (hts (.fieldLink RX3 15 "TurnedFloors$Paper" "digits" "[I") (by decide +kernel)) (fun _ h9 => h9) rfl dX3_numberOfOrder_30 ?_
          refine lv_iload_n hx hb dX3_numberOfOrder_33 rfl (lv_at hl 2 rfl) ?_
          refine va_iald hx hb hK hP 1 0 rfl rfl (by simp only [vp_in]; decide) dX3_numberOfOrder_34 ?_
          refine kz_topi 3 (by first | rfl | decide +kernel) ?_
          refine lv_icmp_le (tgt := 42) hx hb dX3_numberOfOrder_35 (by decide) (fun _ => ?_) (fun h => absurd (by decide) h)
          refine lv_iconst (v := 0) hx hb dX3_numberOfOrder_42 (by decide) ?_
          refine kz_ki (wc := []) (wr := [(x_paper, .inr (3, [.ref x_paper_ranks, .ref x_paper_digits, .ref x_paper_barred, .ref x_paper_pays, .ref x_paper_measuredBarred, .ref x_paper_buckets, .ref q_5, .ref q_6, .ref q_7, .ref q_1, .ref q_2, .ref q_3, .ref q_4, .int 0, .int 1, .int 0, .int 0, .int (-1), .int (-1), .int 0])), (x_paper_digits, .inl (ty 0, 6, .inl (upd (upd (upd (upd (upd (upd (upd (upd (upd (upd (upd (upd (upd (upd (upd (upd (upd (upd (upd (upd (upd (upd (upd (upd (upd (upd (upd (upd (upd (upd (upd (upd (upd (fun _ => 0) 0 0) 0 0) 1 1) 0 0) 1 1) 2 2) 0 0) 1 1) 2 2) 3 3) 0 0) 1 1) 2 2) 3 3) 4 4) 0 0) 1 1) 2 2) 3 3) 4 4) 5 5) 0 0) 1 1) 2 2) 3 3) 4 4) 5 5) 5 5) 4 4) 3 3) 2 2) 1 1) 0 0)))]) (va_runSN (As := [.int 0]) (rest := [.int 0]) ⟨hx, hb, hml, hown, hts⟩ (kcX9_bit l D ty eo _ 0) ⟨va_cnB 1 hts gX3_numberOfOrder_X9_bit_n133 rfl rfl rfl (hN.1 _ (by decide +kernel : (.methodLinkNest "TurnedFloors$Paper" 133 yX9_bit "TurnedFloors" : Cond) ∈ kzN1)) (hts (.initialized RX9) (by decide +kernel)) (by decide +kernel) ⟨Nat.le_of_ble_eq_true rfl, Nat.le_of_ble_eq_true rfl⟩, hts (.static yX9_bit) (by decide +kernel), trivial⟩ (kz_preS hK hN hE hP hD hS hA [] (by decide) rfl) rfl rfl hl.1 rfl (lv_room (Nat.le_of_ble_eq_true rfl)) dX3_numberOfOrder_43 ⟨Nat.le_of_ble_eq_true rfl, Nat.le_of_ble_eq_true rfl⟩) hP hD hS hA [] [0, 1] rfl rfl (by decide) (by decide) (fun r u H locs hw hp hd hs => ?_)
          rcases hw with ⟨c_9, rfl, rfl⟩ | ⟨c_10, rfl, rfl⟩
          · refine kz_re (w2 := [(x_paper, .inr (3, [.ref x_paper_ranks, .ref x_paper_digits, .ref x_paper_barred, .ref x_paper_pays, .ref x_paper_measuredBarred, .ref x_paper_buckets, .ref q_5, .ref q_6, .ref q_7, .ref q_1, .ref q_2, .ref q_3, .ref q_4, .int 0, .int 1, .int 0, .int 0, .int (-1), .int (-1), .int 0])), (x_paper_digits, .inl (ty 0, 6, .inl (upd (upd (upd (upd (upd (upd (upd (upd (upd (upd (upd (upd (upd (upd (upd (upd (upd (upd (upd (upd (upd (upd (upd (upd (upd (upd (upd (upd (upd (upd (upd (upd (upd (fun _ => 0) 0 0) 0 0) 1 1) 0 0) 1 1) 2 2) 0 0) 1 1) 2 2) 3 3) 0 0) 1 1) 2 2) 3 3) 4 4) 0 0) 1 1) 2 2) 3 3) 4 4) 5 5) 0 0) 1 1) 2 2) 3 3) 4 4) 5 5) 5 5) 4 4) 3 3) 2 2) 1 1) 0 0)))]) hp hd hs rfl ?_
            clear hp hd hs hP hD hS
            intro hP hD hS
            refine lv_iadd hx hb dX3_numberOfOrder_46 ?_
            refine kz_topi 0 (by first | rfl | decide +kernel) ?_
            refine lv_istore_n (lv' := [(3, .int 0), (4, .int 1), (2, .int 3), (1, .int 0), (0, .ref x_paper)]) hx hb dX3_numberOfOrder_47 rfl hl (by decide) rfl (fun ls hl => ?_)
            refine lv_iinc (v := 2) (lv' := [(4, .int 2), (3, .int 0), (2, .int 3), (1, .int 0), (0, .ref x_paper)]) hx hb dX3_numberOfOrder_48 hl (k := 1) rfl (by decide) (by decide) rfl (fun ls hl => ?_)
            refine lv_goto (tgt := 15) hx hb dX3_numberOfOrder_51 (by decide) ?_
            refine lv_iload hx hb dX3_numberOfOrder_15 (lv_at hl 0 rfl) ?_
            refine lv_iload_n hx hb dX3_numberOfOrder_17 rfl (lv_at hl 2 rfl) ?_
            refine lv_icmp_ge (tgt := 54) hx hb dX3_numberOfOrder_18 (by decide) (fun h => absurd h (by decide)) (fun _ => ?_)
            refine lv_iload_n hx hb dX3_numberOfOrder_21 rfl (lv_at hl 1 rfl) ?_
            refine lv_aload_n hx hb dX3_numberOfOrder_22 rfl (lv_at hl 4 rfl) ?_
            refine va_get (D := D) (ci := 3) (v := .ref x_paper_digits) (C := RX3) (T := TX3) (N := 20) hx hb hts (by decide +kernel) hown hK hP 0 rfl rfl 1 (by decide) (hts (.fieldLink RX3 15 "TurnedFloors$Paper" "digits" "[I") (by decide +kernel)) (fun _ h9 => h9) rfl dX3_numberOfOrder_23 ?_
            refine lv_iload hx hb dX3_numberOfOrder_26 (lv_at hl 0 rfl) ?_
            refine va_iald hx hb hK hP 1 0 rfl rfl (by simp only [vp_in]; decide) dX3_numberOfOrder_28 ?_
            refine kz_topi 2 (by first | rfl | decide +kernel) ?_
            refine lv_aload_n hx hb dX3_numberOfOrder_29 rfl (lv_at hl 4 rfl) ?_
            refine va_get (D := D) (ci := 3) (v := .ref x_paper_digits) (C := RX3) (T := TX3) (N := 20) hx hb hts (by decide +kernel) hown hK hP 0 rfl rfl 1 (by decide) (hts (.fieldLink RX3 15 "TurnedFloors$Paper" "digits" "[I") (by decide +kernel)) (fun _ h9 => h9) rfl dX3_numberOfOrder_30 ?_
            refine lv_iload_n hx hb dX3_numberOfOrder_33 rfl (lv_at hl 2 rfl) ?_
            refine va_iald hx hb hK hP 1 0 rfl rfl (by simp only [vp_in]; decide) dX3_numberOfOrder_34 ?_
            refine kz_topi 3 (by first | rfl | decide +kernel) ?_
            refine lv_icmp_le (tgt := 42) hx hb dX3_numberOfOrder_35 (by decide) (fun _ => ?_) (fun h => absurd (by decide) h)
            refine lv_iconst (v := 0) hx hb dX3_numberOfOrder_42 (by decide) ?_
            refine kz_ki (wc := []) (wr := [(x_paper, .inr (3, [.ref x_paper_ranks, .ref x_paper_digits, .ref x_paper_barred, .ref x_paper_pays, .ref x_paper_measuredBarred, .ref x_paper_buckets, .ref q_5, .ref q_6, .ref q_7, .ref q_1, .ref q_2, .ref q_3, .ref q_4, .int 0, .int 1, .int 0, .int 0, .int (-1), .int (-1), .int 0])), (x_paper_digits, .inl (ty 0, 6, .inl (upd (upd (upd (upd (upd (upd (upd (upd (upd (upd (upd (upd (upd (upd (upd (upd (upd (upd (upd (upd (upd (upd (upd (upd (upd (upd (upd (upd (upd (upd (upd (upd (upd (fun _ => 0) 0 0) 0 0) 1 1) 0 0) 1 1) 2 2) 0 0) 1 1) 2 2) 3 3) 0 0) 1 1) 2 2) 3 3) 4 4) 0 0) 1 1) 2 2) 3 3) 4 4) 5 5) 0 0) 1 1) 2 2) 3 3) 4 4) 5 5) 5 5) 4 4) 3 3) 2 2) 1 1) 0 0)))]) (va_runSN (As := [.int 0]) (rest := [.int 0]) ⟨hx, hb, hml, hown, hts⟩ (kcX9_bit l D ty eo _ 0) ⟨va_cnB 1 hts gX3_numberOfOrder_X9_bit_n133 rfl rfl rfl (hN.1 _ (by decide +kernel : (.methodLinkNest "TurnedFloors$Paper" 133 yX9_bit "TurnedFloors" : Cond) ∈ kzN1)) (hts (.initialized RX9) (by decide +kernel)) (by decide +kernel) ⟨Nat.le_of_ble_eq_true rfl, Nat.le_of_ble_eq_true rfl⟩, hts (.static yX9_bit) (by decide +kernel), trivial⟩ (kz_preS hK hN hE hP hD hS hA [] (by decide) rfl) rfl rfl hl.1 rfl (lv_room (Nat.le_of_ble_eq_true rfl)) dX3_numberOfOrder_43 ⟨Nat.le_of_ble_eq_true rfl, Nat.le_of_ble_eq_true rfl⟩) hP hD hS hA [] [0, 1] rfl rfl (by decide) (by decide) (fun r u H locs hw hp hd hs => ?_)
            rcases hw with ⟨c_11, rfl, rfl⟩ | ⟨c_12, rfl, rfl⟩
            · refine kz_re (w2 := [(x_paper, .inr (3, [.ref x_paper_ranks, .ref x_paper_digits, .ref x_paper_barred, .ref x_paper_pays, .ref x_paper_measuredBarred, .ref x_paper_buckets, .ref q_5, .ref q_6, .ref q_7, .ref q_1, .ref q_2, .ref q_3, .ref q_4, .int 0, .int 1, .int 0, .int 0, .int (-1), .int (-1), .int 0])), (x_paper_digits, .inl (ty 0, 6, .inl (upd (upd (upd (upd (upd (upd (upd (upd (upd (upd (upd (upd (upd (upd (upd (upd (upd (upd (upd (upd (upd (upd (upd (upd (upd (upd (upd (upd (upd (upd (upd (upd (upd (fun _ => 0) 0 0) 0 0) 1 1) 0 0) 1 1) 2 2) 0 0) 1 1) 2 2) 3 3) 0 0) 1 1) 2 2) 3 3) 4 4) 0 0) 1 1) 2 2) 3 3) 4 4) 5 5) 0 0) 1 1) 2 2) 3 3) 4 4) 5 5) 5 5) 4 4) 3 3) 2 2) 1 1) 0 0)))]) hp hd hs rfl ?_
              clear hp hd hs hP hD hS
              intro hP hD hS
              refine lv_iadd hx hb dX3_numberOfOrder_46 ?_
              refine kz_topi 0 (by first | rfl | decide +kernel) ?_
              refine lv_istore_n (lv' := [(3, .int 0), (4, .int 2), (2, .int 3), (1, .int 0), (0, .ref x_paper)]) hx hb dX3_numberOfOrder_47 rfl hl (by decide) rfl (fun ls hl => ?_)
              refine lv_iinc (v := 3) (lv' := [(4, .int 3), (3, .int 0), (2, .int 3), (1, .int 0), (0, .ref x_paper)]) hx hb dX3_numberOfOrder_48 hl (k := 1) rfl (by decide) (by decide) rfl (fun ls hl => ?_)
              refine lv_goto (tgt := 15) hx hb dX3_numberOfOrder_51 (by decide) ?_
              refine lv_iload hx hb dX3_numberOfOrder_15 (lv_at hl 0 rfl) ?_
              refine lv_iload_n hx hb dX3_numberOfOrder_17 rfl (lv_at hl 2 rfl) ?_
              refine lv_icmp_ge (tgt := 54) hx hb dX3_numberOfOrder_18 (by decide) (fun _ => ?_) (fun h => absurd (by decide) h)
              refine lv_iload_n hx hb dX3_numberOfOrder_54 rfl (lv_at hl 3 rfl) ?_
              refine lv_iload_n hx hb dX3_numberOfOrder_55 rfl (lv_at hl 1 rfl) ?_
              refine va_gets hx hb hE.1 hS hown (hts (.fieldLink RX3 76 "TurnedFloors$Paper" "FACTORIALS" "[I") (by decide +kernel)) (fun _ h9 => h9) dX3_numberOfOrder_56 ?_
              refine lv_iload_n hx hb dX3_numberOfOrder_59 rfl (lv_at hl 2 rfl) ?_
              refine va_ti (v := .int 6) hx hb hE.2.1 hS (by simp only [vp_in]; decide) rfl dX3_numberOfOrder_60 ?_
              refine lv_imul hx hb dX3_numberOfOrder_61 ?_
              refine kz_topi 0 (by first | rfl | decide +kernel) ?_
              refine lv_iadd hx hb dX3_numberOfOrder_62 ?_
              refine kz_topi 0 (by first | rfl | decide +kernel) ?_
              refine lv_istore_n (lv' := [(1, .int 0), (4, .int 3), (3, .int 0), (2, .int 3), (0, .ref x_paper)]) hx hb dX3_numberOfOrder_63 rfl hl (by decide) rfl (fun ls hl => ?_)
              refine lv_iinc (v := 4) (lv' := [(2, .int 4), (1, .int 0), (4, .int 3), (3, .int 0), (0, .ref x_paper)]) hx hb dX3_numberOfOrder_64 hl (k := 3) rfl (by decide) (by decide) rfl (fun ls hl => ?_)
              refine lv_goto (tgt := 4) hx hb dX3_numberOfOrder_67 (by decide) ?_
              refine lv_iload_n hx hb dX3_numberOfOrder_4 rfl (lv_at hl 0 rfl) ?_
              refine lv_bipush (v := 6) hx hb dX3_numberOfOrder_5 (by decide) ?_
              refine lv_icmp_ge (tgt := 70) hx hb dX3_numberOfOrder_7 (by decide) (fun h => absurd h (by decide)) (fun _ => ?_)
              refine lv_iconst (v := 0) hx hb dX3_numberOfOrder_10 (by decide) ?_
              refine lv_istore_n (lv' := [(3, .int 0), (2, .int 4), (1, .int 0), (4, .int 3), (0, .ref x_paper)]) hx hb dX3_numberOfOrder_11 rfl hl (by decide) rfl (fun ls hl => ?_)
              refine lv_iconst (v := 0) hx hb dX3_numberOfOrder_12 (by decide) ?_
              refine lv_istore (lv' := [(4, .int 0), (3, .int 0), (2, .int 4), (1, .int 0), (0, .ref x_paper)]) hx hb dX3_numberOfOrder_13 hl (by decide) rfl (fun ls hl => ?_)
              refine lv_iload hx hb dX3_numberOfOrder_15 (lv_at hl 0 rfl) ?_
              refine lv_iload_n hx hb dX3_numberOfOrder_17 rfl (lv_at hl 2 rfl) ?_
              refine lv_icmp_ge (tgt := 54) hx hb dX3_numberOfOrder_18 (by decide) (fun h => absurd h (by decide)) (fun _ => ?_)
              refine lv_iload_n hx hb dX3_numberOfOrder_21 rfl (lv_at hl 1 rfl) ?_
              refine lv_aload_n hx hb dX3_numberOfOrder_22 rfl (lv_at hl 4 rfl) ?_
              refine va_get (D := D) (ci := 3) (v := .ref x_paper_digits) (C := RX3) (T := TX3) (N := 20) hx hb hts (by decide +kernel) hown hK hP 0 rfl rfl 1 (by decide) (hts (.fieldLink RX3 15 "TurnedFloors$Paper" "digits" "[I") (by decide +kernel)) (fun _ h9 => h9) rfl dX3_numberOfOrder_23 ?_
              refine lv_iload hx hb dX3_numberOfOrder_26 (lv_at hl 0 rfl) ?_
              refine va_iald hx hb hK hP 1 0 rfl rfl (by simp only [vp_in]; decide) dX3_numberOfOrder_28 ?_
              refine kz_topi 0 (by first | rfl | decide +kernel) ?_
              refine lv_aload_n hx hb dX3_numberOfOrder_29 rfl (lv_at hl 4 rfl) ?_
              refine va_get (D := D) (ci := 3) (v := .ref x_paper_digits) (C := RX3) (T := TX3) (N := 20) hx hb hts (by decide +kernel) hown hK hP 0 rfl rfl 1 (by decide) (hts (.fieldLink RX3 15 "TurnedFloors$Paper" "digits" "[I") (by decide +kernel)) (fun _ h9 => h9) rfl dX3_numberOfOrder_30 ?_
              refine lv_iload_n hx hb dX3_numberOfOrder_33 rfl (lv_at hl 2 rfl) ?_
              refine va_iald hx hb hK hP 1 0 rfl rfl (by simp only [vp_in]; decide) dX3_numberOfOrder_34 ?_
              refine kz_topi 4 (by first | rfl | decide +kernel) ?_
              refine lv_icmp_le (tgt := 42) hx hb dX3_numberOfOrder_35 (by decide) (fun _ => ?_) (fun h => absurd (by decide) h)
              refine lv_iconst (v := 0) hx hb dX3_numberOfOrder_42 (by decide) ?_
              refine kz_ki (wc := []) (wr := [(x_paper, .inr (3, [.ref x_paper_ranks, .ref x_paper_digits, .ref x_paper_barred, .ref x_paper_pays, .ref x_paper_measuredBarred, .ref x_paper_buckets, .ref q_5, .ref q_6, .ref q_7, .ref q_1, .ref q_2, .ref q_3, .ref q_4, .int 0, .int 1, .int 0, .int 0, .int (-1), .int (-1), .int 0])), (x_paper_digits, .inl (ty 0, 6, .inl (upd (upd (upd (upd (upd (upd (upd (upd (upd (upd (upd (upd (upd (upd (upd (upd (upd (upd (upd (upd (upd (upd (upd (upd (upd (upd (upd (upd (upd (upd (upd (upd (upd (fun _ => 0) 0 0) 0 0) 1 1) 0 0) 1 1) 2 2) 0 0) 1 1) 2 2) 3 3) 0 0) 1 1) 2 2) 3 3) 4 4) 0 0) 1 1) 2 2) 3 3) 4 4) 5 5) 0 0) 1 1) 2 2) 3 3) 4 4) 5 5) 5 5) 4 4) 3 3) 2 2) 1 1) 0 0)))]) (va_runSN (As := [.int 0]) (rest := [.int 0]) ⟨hx, hb, hml, hown, hts⟩ (kcX9_bit l D ty eo _ 0) ⟨va_cnB 1 hts gX3_numberOfOrder_X9_bit_n133 rfl rfl rfl (hN.1 _ (by decide +kernel : (.methodLinkNest "TurnedFloors$Paper" 133 yX9_bit "TurnedFloors" : Cond) ∈ kzN1)) (hts (.initialized RX9) (by decide +kernel)) (by decide +kernel) ⟨Nat.le_of_ble_eq_true rfl, Nat.le_of_ble_eq_true rfl⟩, hts (.static yX9_bit) (by decide +kernel), trivial⟩ (kz_preS hK hN hE hP hD hS hA [] (by decide) rfl) rfl rfl hl.1 rfl (lv_room (Nat.le_of_ble_eq_true rfl)) dX3_numberOfOrder_43 ⟨Nat.le_of_ble_eq_true rfl, Nat.le_of_ble_eq_true rfl⟩) hP hD hS hA [] [0, 1] rfl rfl (by decide) (by decide) (fun r u H locs hw hp hd hs => ?_)
              rcases hw with ⟨c_13, rfl, rfl⟩ | ⟨c_14, rfl, rfl⟩
              · refine kz_re (w2 := [(x_paper, .inr (3, [.ref x_paper_ranks, .ref x_paper_digits, .ref x_paper_barred, .ref x_paper_pays, .ref x_paper_measuredBarred, .ref x_paper_buckets, .ref q_5, .ref q_6, .ref q_7, .ref q_1, .ref q_2, .ref q_3, .ref q_4, .int 0, .int 1, .int 0, .int 0, .int (-1), .int (-1), .int 0])), (x_paper_digits, .inl (ty 0, 6, .inl (upd (upd (upd (upd (upd (upd (upd (upd (upd (upd (upd (upd (upd (upd (upd (upd (upd (upd (upd (upd (upd (upd (upd (upd (upd (upd (upd (upd (upd (upd (upd (upd (upd (fun _ => 0) 0 0) 0 0) 1 1) 0 0) 1 1) 2 2) 0 0) 1 1) 2 2) 3 3) 0 0) 1 1) 2 2) 3 3) 4 4) 0 0) 1 1) 2 2) 3 3) 4 4) 5 5) 0 0) 1 1) 2 2) 3 3) 4 4) 5 5) 5 5) 4 4) 3 3) 2 2) 1 1) 0 0)))]) hp hd hs rfl ?_
                clear hp hd hs hP hD hS
                intro hP hD hS
                refine lv_iadd hx hb dX3_numberOfOrder_46 ?_
                refine kz_topi 0 (by first | rfl | decide +kernel) ?_
                refine lv_istore_n (lv' := [(3, .int 0), (4, .int 0), (2, .int 4), (1, .int 0), (0, .ref x_paper)]) hx hb dX3_numberOfOrder_47 rfl hl (by decide) rfl (fun ls hl => ?_)
                refine lv_iinc (v := 1) (lv' := [(4, .int 1), (3, .int 0), (2, .int 4), (1, .int 0), (0, .ref x_paper)]) hx hb dX3_numberOfOrder_48 hl (k := 1) rfl (by decide) (by decide) rfl (fun ls hl => ?_)
                refine lv_goto (tgt := 15) hx hb dX3_numberOfOrder_51 (by decide) ?_
                refine lv_iload hx hb dX3_numberOfOrder_15 (lv_at hl 0 rfl) ?_
                refine lv_iload_n hx hb dX3_numberOfOrder_17 rfl (lv_at hl 2 rfl) ?_
                refine lv_icmp_ge (tgt := 54) hx hb dX3_numberOfOrder_18 (by decide) (fun h => absurd h (by decide)) (fun _ => ?_)
                refine lv_iload_n hx hb dX3_numberOfOrder_21 rfl (lv_at hl 1 rfl) ?_
                refine lv_aload_n hx hb dX3_numberOfOrder_22 rfl (lv_at hl 4 rfl) ?_
                refine va_get (D := D) (ci := 3) (v := .ref x_paper_digits) (C := RX3) (T := TX3) (N := 20) hx hb hts (by decide +kernel) hown hK hP 0 rfl rfl 1 (by decide) (hts (.fieldLink RX3 15 "TurnedFloors$Paper" "digits" "[I") (by decide +kernel)) (fun _ h9 => h9) rfl dX3_numberOfOrder_23 ?_
                refine lv_iload hx hb dX3_numberOfOrder_26 (lv_at hl 0 rfl) ?_
                refine va_iald hx hb hK hP 1 0 rfl rfl (by simp only [vp_in]; decide) dX3_numberOfOrder_28 ?_
                refine kz_topi 1 (by first | rfl | decide +kernel) ?_
                refine lv_aload_n hx hb dX3_numberOfOrder_29 rfl (lv_at hl 4 rfl) ?_
                refine va_get (D := D) (ci := 3) (v := .ref x_paper_digits) (C := RX3) (T := TX3) (N := 20) hx hb hts (by decide +kernel) hown hK hP 0 rfl rfl 1 (by decide) (hts (.fieldLink RX3 15 "TurnedFloors$Paper" "digits" "[I") (by decide +kernel)) (fun _ h9 => h9) rfl dX3_numberOfOrder_30 ?_
                refine lv_iload_n hx hb dX3_numberOfOrder_33 rfl (lv_at hl 2 rfl) ?_
                refine va_iald hx hb hK hP 1 0 rfl rfl (by simp only [vp_in]; decide) dX3_numberOfOrder_34 ?_
                refine kz_topi 4 (by first | rfl | decide +kernel) ?_
                refine lv_icmp_le (tgt := 42) hx hb dX3_numberOfOrder_35 (by decide) (fun _ => ?_) (fun h => absurd (by decide) h)
                refine lv_iconst (v := 0) hx hb dX3_numberOfOrder_42 (by decide) ?_
                refine kz_ki (wc := []) (wr := [(x_paper, .inr (3, [.ref x_paper_ranks, .ref x_paper_digits, .ref x_paper_barred, .ref x_paper_pays, .ref x_paper_measuredBarred, .ref x_paper_buckets, .ref q_5, .ref q_6, .ref q_7, .ref q_1, .ref q_2, .ref q_3, .ref q_4, .int 0, .int 1, .int 0, .int 0, .int (-1), .int (-1), .int 0])), (x_paper_digits, .inl (ty 0, 6, .inl (upd (upd (upd (upd (upd (upd (upd (upd (upd (upd (upd (upd (upd (upd (upd (upd (upd (upd (upd (upd (upd (upd (upd (upd (upd (upd (upd (upd (upd (upd (upd (upd (upd (fun _ => 0) 0 0) 0 0) 1 1) 0 0) 1 1) 2 2) 0 0) 1 1) 2 2) 3 3) 0 0) 1 1) 2 2) 3 3) 4 4) 0 0) 1 1) 2 2) 3 3) 4 4) 5 5) 0 0) 1 1) 2 2) 3 3) 4 4) 5 5) 5 5) 4 4) 3 3) 2 2) 1 1) 0 0)))]) (va_runSN (As := [.int 0]) (rest := [.int 0]) ⟨hx, hb, hml, hown, hts⟩ (kcX9_bit l D ty eo _ 0) ⟨va_cnB 1 hts gX3_numberOfOrder_X9_bit_n133 rfl rfl rfl (hN.1 _ (by decide +kernel : (.methodLinkNest "TurnedFloors$Paper" 133 yX9_bit "TurnedFloors" : Cond) ∈ kzN1)) (hts (.initialized RX9) (by decide +kernel)) (by decide +kernel) ⟨Nat.le_of_ble_eq_true rfl, Nat.le_of_ble_eq_true rfl⟩, hts (.static yX9_bit) (by decide +kernel), trivial⟩ (kz_preS hK hN hE hP hD hS hA [] (by decide) rfl) rfl rfl hl.1 rfl (lv_room (Nat.le_of_ble_eq_true rfl)) dX3_numberOfOrder_43 ⟨Nat.le_of_ble_eq_true rfl, Nat.le_of_ble_eq_true rfl⟩) hP hD hS hA [] [0, 1] rfl rfl (by decide) (by decide) (fun r u H locs hw hp hd hs => ?_)
                rcases hw with ⟨c_15, rfl, rfl⟩ | ⟨c_16, rfl, rfl⟩
                · refine kz_re (w2 := [(x_paper, .inr (3, [.ref x_paper_ranks, .ref x_paper_digits, .ref x_paper_barred, .ref x_paper_pays, .ref x_paper_measuredBarred, .ref x_paper_buckets, .ref q_5, .ref q_6, .ref q_7, .ref q_1, .ref q_2, .ref q_3, .ref q_4, .int 0, .int 1, .int 0, .int 0, .int (-1), .int (-1), .int 0])), (x_paper_digits, .inl (ty 0, 6, .inl (upd (upd (upd (upd (upd (upd (upd (upd (upd (upd (upd (upd (upd (upd (upd (upd (upd (upd (upd (upd (upd (upd (upd (upd (upd (upd (upd (upd (upd (upd (upd (upd (upd (fun _ => 0) 0 0) 0 0) 1 1) 0 0) 1 1) 2 2) 0 0) 1 1) 2 2) 3 3) 0 0) 1 1) 2 2) 3 3) 4 4) 0 0) 1 1) 2 2) 3 3) 4 4) 5 5) 0 0) 1 1) 2 2) 3 3) 4 4) 5 5) 5 5) 4 4) 3 3) 2 2) 1 1) 0 0)))]) hp hd hs rfl ?_
                  clear hp hd hs hP hD hS
                  intro hP hD hS
                  refine lv_iadd hx hb dX3_numberOfOrder_46 ?_
                  refine kz_topi 0 (by first | rfl | decide +kernel) ?_
                  refine lv_istore_n (lv' := [(3, .int 0), (4, .int 1), (2, .int 4), (1, .int 0), (0, .ref x_paper)]) hx hb dX3_numberOfOrder_47 rfl hl (by decide) rfl (fun ls hl => ?_)
                  refine lv_iinc (v := 2) (lv' := [(4, .int 2), (3, .int 0), (2, .int 4), (1, .int 0), (0, .ref x_paper)]) hx hb dX3_numberOfOrder_48 hl (k := 1) rfl (by decide) (by decide) rfl (fun ls hl => ?_)
                  refine lv_goto (tgt := 15) hx hb dX3_numberOfOrder_51 (by decide) ?_
                  refine lv_iload hx hb dX3_numberOfOrder_15 (lv_at hl 0 rfl) ?_
                  refine lv_iload_n hx hb dX3_numberOfOrder_17 rfl (lv_at hl 2 rfl) ?_
                  refine lv_icmp_ge (tgt := 54) hx hb dX3_numberOfOrder_18 (by decide) (fun h => absurd h (by decide)) (fun _ => ?_)
                  refine lv_iload_n hx hb dX3_numberOfOrder_21 rfl (lv_at hl 1 rfl) ?_
                  refine lv_aload_n hx hb dX3_numberOfOrder_22 rfl (lv_at hl 4 rfl) ?_
                  refine va_get (D := D) (ci := 3) (v := .ref x_paper_digits) (C := RX3) (T := TX3) (N := 20) hx hb hts (by decide +kernel) hown hK hP 0 rfl rfl 1 (by decide) (hts (.fieldLink RX3 15 "TurnedFloors$Paper" "digits" "[I") (by decide +kernel)) (fun _ h9 => h9) rfl dX3_numberOfOrder_23 ?_
                  refine lv_iload hx hb dX3_numberOfOrder_26 (lv_at hl 0 rfl) ?_
                  refine va_iald hx hb hK hP 1 0 rfl rfl (by simp only [vp_in]; decide) dX3_numberOfOrder_28 ?_
                  refine kz_topi 2 (by first | rfl | decide +kernel) ?_
                  refine lv_aload_n hx hb dX3_numberOfOrder_29 rfl (lv_at hl 4 rfl) ?_
                  refine va_get (D := D) (ci := 3) (v := .ref x_paper_digits) (C := RX3) (T := TX3) (N := 20) hx hb hts (by decide +kernel) hown hK hP 0 rfl rfl 1 (by decide) (hts (.fieldLink RX3 15 "TurnedFloors$Paper" "digits" "[I") (by decide +kernel)) (fun _ h9 => h9) rfl dX3_numberOfOrder_30 ?_
                  refine lv_iload_n hx hb dX3_numberOfOrder_33 rfl (lv_at hl 2 rfl) ?_
                  refine va_iald hx hb hK hP 1 0 rfl rfl (by simp only [vp_in]; decide) dX3_numberOfOrder_34 ?_
                  refine kz_topi 4 (by first | rfl | decide +kernel) ?_
                  refine lv_icmp_le (tgt := 42) hx hb dX3_numberOfOrder_35 (by decide) (fun _ => ?_) (fun h => absurd (by decide) h)
                  refine lv_iconst (v := 0) hx hb dX3_numberOfOrder_42 (by decide) ?_
                  refine kz_ki (wc := []) (wr := [(x_paper, .inr (3, [.ref x_paper_ranks, .ref x_paper_digits, .ref x_paper_barred, .ref x_paper_pays, .ref x_paper_measuredBarred, .ref x_paper_buckets, .ref q_5, .ref q_6, .ref q_7, .ref q_1, .ref q_2, .ref q_3, .ref q_4, .int 0, .int 1, .int 0, .int 0, .int (-1), .int (-1), .int 0])), (x_paper_digits, .inl (ty 0, 6, .inl (upd (upd (upd (upd (upd (upd (upd (upd (upd (upd (upd (upd (upd (upd (upd (upd (upd (upd (upd (upd (upd (upd (upd (upd (upd (upd (upd (upd (upd (upd (upd (upd (upd (fun _ => 0) 0 0) 0 0) 1 1) 0 0) 1 1) 2 2) 0 0) 1 1) 2 2) 3 3) 0 0) 1 1) 2 2) 3 3) 4 4) 0 0) 1 1) 2 2) 3 3) 4 4) 5 5) 0 0) 1 1) 2 2) 3 3) 4 4) 5 5) 5 5) 4 4) 3 3) 2 2) 1 1) 0 0)))]) (va_runSN (As := [.int 0]) (rest := [.int 0]) ⟨hx, hb, hml, hown, hts⟩ (kcX9_bit l D ty eo _ 0) ⟨va_cnB 1 hts gX3_numberOfOrder_X9_bit_n133 rfl rfl rfl (hN.1 _ (by decide +kernel : (.methodLinkNest "TurnedFloors$Paper" 133 yX9_bit "TurnedFloors" : Cond) ∈ kzN1)) (hts (.initialized RX9) (by decide +kernel)) (by decide +kernel) ⟨Nat.le_of_ble_eq_true rfl, Nat.le_of_ble_eq_true rfl⟩, hts (.static yX9_bit) (by decide +kernel), trivial⟩ (kz_preS hK hN hE hP hD hS hA [] (by decide) rfl) rfl rfl hl.1 rfl (lv_room (Nat.le_of_ble_eq_true rfl)) dX3_numberOfOrder_43 ⟨Nat.le_of_ble_eq_true rfl, Nat.le_of_ble_eq_true rfl⟩) hP hD hS hA [] [0, 1] rfl rfl (by decide) (by decide) (fun r u H locs hw hp hd hs => ?_)
                  rcases hw with ⟨c_17, rfl, rfl⟩ | ⟨c_18, rfl, rfl⟩
                  · refine kz_re (w2 := [(x_paper, .inr (3, [.ref x_paper_ranks, .ref x_paper_digits, .ref x_paper_barred, .ref x_paper_pays, .ref x_paper_measuredBarred, .ref x_paper_buckets, .ref q_5, .ref q_6, .ref q_7, .ref q_1, .ref q_2, .ref q_3, .ref q_4, .int 0, .int 1, .int 0, .int 0, .int (-1), .int (-1), .int 0])), (x_paper_digits, .inl (ty 0, 6, .inl (upd (upd (upd (upd (upd (upd (upd (upd (upd (upd (upd (upd (upd (upd (upd (upd (upd (upd (upd (upd (upd (upd (upd (upd (upd (upd (upd (upd (upd (upd (upd (upd (upd (fun _ => 0) 0 0) 0 0) 1 1) 0 0) 1 1) 2 2) 0 0) 1 1) 2 2) 3 3) 0 0) 1 1) 2 2) 3 3) 4 4) 0 0) 1 1) 2 2) 3 3) 4 4) 5 5) 0 0) 1 1) 2 2) 3 3) 4 4) 5 5) 5 5) 4 4) 3 3) 2 2) 1 1) 0 0)))]) hp hd hs rfl ?_
                    clear hp hd hs hP hD hS
                    intro hP hD hS
                    refine lv_iadd hx hb dX3_numberOfOrder_46 ?_
                    refine kz_topi 0 (by first | rfl | decide +kernel) ?_
                    refine lv_istore_n (lv' := [(3, .int 0), (4, .int 2), (2, .int 4), (1, .int 0), (0, .ref x_paper)]) hx hb dX3_numberOfOrder_47 rfl hl (by decide) rfl (fun ls hl => ?_)
                    refine lv_iinc (v := 3) (lv' := [(4, .int 3), (3, .int 0), (2, .int 4), (1, .int 0), (0, .ref x_paper)]) hx hb dX3_numberOfOrder_48 hl (k := 1) rfl (by decide) (by decide) rfl (fun ls hl => ?_)
                    refine lv_goto (tgt := 15) hx hb dX3_numberOfOrder_51 (by decide) ?_
                    refine lv_iload hx hb dX3_numberOfOrder_15 (lv_at hl 0 rfl) ?_
                    refine lv_iload_n hx hb dX3_numberOfOrder_17 rfl (lv_at hl 2 rfl) ?_
                    refine lv_icmp_ge (tgt := 54) hx hb dX3_numberOfOrder_18 (by decide) (fun h => absurd h (by decide)) (fun _ => ?_)
                    refine lv_iload_n hx hb dX3_numberOfOrder_21 rfl (lv_at hl 1 rfl) ?_
                    refine lv_aload_n hx hb dX3_numberOfOrder_22 rfl (lv_at hl 4 rfl) ?_
                    refine va_get (D := D) (ci := 3) (v := .ref x_paper_digits) (C := RX3) (T := TX3) (N := 20) hx hb hts (by decide +kernel) hown hK hP 0 rfl rfl 1 (by decide) (hts (.fieldLink RX3 15 "TurnedFloors$Paper" "digits" "[I") (by decide +kernel)) (fun _ h9 => h9) rfl dX3_numberOfOrder_23 ?_
                    refine lv_iload hx hb dX3_numberOfOrder_26 (lv_at hl 0 rfl) ?_
                    refine va_iald hx hb hK hP 1 0 rfl rfl (by simp only [vp_in]; decide) dX3_numberOfOrder_28 ?_
                    refine kz_topi 3 (by first | rfl | decide +kernel) ?_
                    refine lv_aload_n hx hb dX3_numberOfOrder_29 rfl (lv_at hl 4 rfl) ?_
                    refine va_get (D := D) (ci := 3) (v := .ref x_paper_digits) (C := RX3) (T := TX3) (N := 20) hx hb hts (by decide +kernel) hown hK hP 0 rfl rfl 1 (by decide) (hts (.fieldLink RX3 15 "TurnedFloors$Paper" "digits" "[I") (by decide +kernel)) (fun _ h9 => h9) rfl dX3_numberOfOrder_30 ?_
                    refine lv_iload_n hx hb dX3_numberOfOrder_33 rfl (lv_at hl 2 rfl) ?_
                    refine va_iald hx hb hK hP 1 0 rfl rfl (by simp only [vp_in]; decide) dX3_numberOfOrder_34 ?_
                    refine kz_topi 4 (by first | rfl | decide +kernel) ?_
                    refine lv_icmp_le (tgt := 42) hx hb dX3_numberOfOrder_35 (by decide) (fun _ => ?_) (fun h => absurd (by decide) h)
                    refine lv_iconst (v := 0) hx hb dX3_numberOfOrder_42 (by decide) ?_
                    refine kz_ki (wc := []) (wr := [(x_paper, .inr (3, [.ref x_paper_ranks, .ref x_paper_digits, .ref x_paper_barred, .ref x_paper_pays, .ref x_paper_measuredBarred, .ref x_paper_buckets, .ref q_5, .ref q_6, .ref q_7, .ref q_1, .ref q_2, .ref q_3, .ref q_4, .int 0, .int 1, .int 0, .int 0, .int (-1), .int (-1), .int 0])), (x_paper_digits, .inl (ty 0, 6, .inl (upd (upd (upd (upd (upd (upd (upd (upd (upd (upd (upd (upd (upd (upd (upd (upd (upd (upd (upd (upd (upd (upd (upd (upd (upd (upd (upd (upd (upd (upd (upd (upd (upd (fun _ => 0) 0 0) 0 0) 1 1) 0 0) 1 1) 2 2) 0 0) 1 1) 2 2) 3 3) 0 0) 1 1) 2 2) 3 3) 4 4) 0 0) 1 1) 2 2) 3 3) 4 4) 5 5) 0 0) 1 1) 2 2) 3 3) 4 4) 5 5) 5 5) 4 4) 3 3) 2 2) 1 1) 0 0)))]) (va_runSN (As := [.int 0]) (rest := [.int 0]) ⟨hx, hb, hml, hown, hts⟩ (kcX9_bit l D ty eo _ 0) ⟨va_cnB 1 hts gX3_numberOfOrder_X9_bit_n133 rfl rfl rfl (hN.1 _ (by decide +kernel : (.methodLinkNest "TurnedFloors$Paper" 133 yX9_bit "TurnedFloors" : Cond) ∈ kzN1)) (hts (.initialized RX9) (by decide +kernel)) (by decide +kernel) ⟨Nat.le_of_ble_eq_true rfl, Nat.le_of_ble_eq_true rfl⟩, hts (.static yX9_bit) (by decide +kernel), trivial⟩ (kz_preS hK hN hE hP hD hS hA [] (by decide) rfl) rfl rfl hl.1 rfl (lv_room (Nat.le_of_ble_eq_true rfl)) dX3_numberOfOrder_43 ⟨Nat.le_of_ble_eq_true rfl, Nat.le_of_ble_eq_true rfl⟩) hP hD hS hA [] [0, 1] rfl rfl (by decide) (by decide) (fun r u H locs hw hp hd hs => ?_)
                    rcases hw with ⟨c_19, rfl, rfl⟩ | ⟨c_20, rfl, rfl⟩
                    · refine kz_re (w2 := [(x_paper, .inr (3, [.ref x_paper_ranks, .ref x_paper_digits, .ref x_paper_barred, .ref x_paper_pays, .ref x_paper_measuredBarred, .ref x_paper_buckets, .ref q_5, .ref q_6, .ref q_7, .ref q_1, .ref q_2, .ref q_3, .ref q_4, .int 0, .int 1, .int 0, .int 0, .int (-1), .int (-1), .int 0])), (x_paper_digits, .inl (ty 0, 6, .inl (upd (upd (upd (upd (upd (upd (upd (upd (upd (upd (upd (upd (upd (upd (upd (upd (upd (upd (upd (upd (upd (upd (upd (upd (upd (upd (upd (upd (upd (upd (upd (upd (upd (fun _ => 0) 0 0) 0 0) 1 1) 0 0) 1 1) 2 2) 0 0) 1 1) 2 2) 3 3) 0 0) 1 1) 2 2) 3 3) 4 4) 0 0) 1 1) 2 2) 3 3) 4 4) 5 5) 0 0) 1 1) 2 2) 3 3) 4 4) 5 5) 5 5) 4 4) 3 3) 2 2) 1 1) 0 0)))]) hp hd hs rfl ?_
                      clear hp hd hs hP hD hS
                      intro hP hD hS
                      refine lv_iadd hx hb dX3_numberOfOrder_46 ?_
                      refine kz_topi 0 (by first | rfl | decide +kernel) ?_
                      refine lv_istore_n (lv' := [(3, .int 0), (4, .int 3), (2, .int 4), (1, .int 0), (0, .ref x_paper)]) hx hb dX3_numberOfOrder_47 rfl hl (by decide) rfl (fun ls hl => ?_)
                      refine lv_iinc (v := 4) (lv' := [(4, .int 4), (3, .int 0), (2, .int 4), (1, .int 0), (0, .ref x_paper)]) hx hb dX3_numberOfOrder_48 hl (k := 1) rfl (by decide) (by decide) rfl (fun ls hl => ?_)
                      refine lv_goto (tgt := 15) hx hb dX3_numberOfOrder_51 (by decide) ?_
                      refine lv_iload hx hb dX3_numberOfOrder_15 (lv_at hl 0 rfl) ?_
                      refine lv_iload_n hx hb dX3_numberOfOrder_17 rfl (lv_at hl 2 rfl) ?_
                      refine lv_icmp_ge (tgt := 54) hx hb dX3_numberOfOrder_18 (by decide) (fun _ => ?_) (fun h => absurd (by decide) h)
                      refine lv_iload_n hx hb dX3_numberOfOrder_54 rfl (lv_at hl 3 rfl) ?_
                      refine lv_iload_n hx hb dX3_numberOfOrder_55 rfl (lv_at hl 1 rfl) ?_
                      refine va_gets hx hb hE.1 hS hown (hts (.fieldLink RX3 76 "TurnedFloors$Paper" "FACTORIALS" "[I") (by decide +kernel)) (fun _ h9 => h9) dX3_numberOfOrder_56 ?_
                      refine lv_iload_n hx hb dX3_numberOfOrder_59 rfl (lv_at hl 2 rfl) ?_
                      refine va_ti (v := .int 24) hx hb hE.2.1 hS (by simp only [vp_in]; decide) rfl dX3_numberOfOrder_60 ?_
                      refine lv_imul hx hb dX3_numberOfOrder_61 ?_
                      refine kz_topi 0 (by first | rfl | decide +kernel) ?_
                      refine lv_iadd hx hb dX3_numberOfOrder_62 ?_
                      refine kz_topi 0 (by first | rfl | decide +kernel) ?_
                      refine lv_istore_n (lv' := [(1, .int 0), (4, .int 4), (3, .int 0), (2, .int 4), (0, .ref x_paper)]) hx hb dX3_numberOfOrder_63 rfl hl (by decide) rfl (fun ls hl => ?_)
                      refine lv_iinc (v := 5) (lv' := [(2, .int 5), (1, .int 0), (4, .int 4), (3, .int 0), (0, .ref x_paper)]) hx hb dX3_numberOfOrder_64 hl (k := 3) rfl (by decide) (by decide) rfl (fun ls hl => ?_)
                      refine lv_goto (tgt := 4) hx hb dX3_numberOfOrder_67 (by decide) ?_
                      refine lv_iload_n hx hb dX3_numberOfOrder_4 rfl (lv_at hl 0 rfl) ?_
                      refine lv_bipush (v := 6) hx hb dX3_numberOfOrder_5 (by decide) ?_
                      refine lv_icmp_ge (tgt := 70) hx hb dX3_numberOfOrder_7 (by decide) (fun h => absurd h (by decide)) (fun _ => ?_)
                      refine lv_iconst (v := 0) hx hb dX3_numberOfOrder_10 (by decide) ?_
                      refine lv_istore_n (lv' := [(3, .int 0), (2, .int 5), (1, .int 0), (4, .int 4), (0, .ref x_paper)]) hx hb dX3_numberOfOrder_11 rfl hl (by decide) rfl (fun ls hl => ?_)
                      refine lv_iconst (v := 0) hx hb dX3_numberOfOrder_12 (by decide) ?_
                      refine lv_istore (lv' := [(4, .int 0), (3, .int 0), (2, .int 5), (1, .int 0), (0, .ref x_paper)]) hx hb dX3_numberOfOrder_13 hl (by decide) rfl (fun ls hl => ?_)
                      refine lv_iload hx hb dX3_numberOfOrder_15 (lv_at hl 0 rfl) ?_
                      refine lv_iload_n hx hb dX3_numberOfOrder_17 rfl (lv_at hl 2 rfl) ?_
                      refine lv_icmp_ge (tgt := 54) hx hb dX3_numberOfOrder_18 (by decide) (fun h => absurd h (by decide)) (fun _ => ?_)
                      refine lv_iload_n hx hb dX3_numberOfOrder_21 rfl (lv_at hl 1 rfl) ?_
                      refine lv_aload_n hx hb dX3_numberOfOrder_22 rfl (lv_at hl 4 rfl) ?_
                      refine va_get (D := D) (ci := 3) (v := .ref x_paper_digits) (C := RX3) (T := TX3) (N := 20) hx hb hts (by decide +kernel) hown hK hP 0 rfl rfl 1 (by decide) (hts (.fieldLink RX3 15 "TurnedFloors$Paper" "digits" "[I") (by decide +kernel)) (fun _ h9 => h9) rfl dX3_numberOfOrder_23 ?_
                      refine lv_iload hx hb dX3_numberOfOrder_26 (lv_at hl 0 rfl) ?_
                      refine va_iald hx hb hK hP 1 0 rfl rfl (by simp only [vp_in]; decide) dX3_numberOfOrder_28 ?_
                      refine kz_topi 0 (by first | rfl | decide +kernel) ?_
                      refine lv_aload_n hx hb dX3_numberOfOrder_29 rfl (lv_at hl 4 rfl) ?_
                      refine va_get (D := D) (ci := 3) (v := .ref x_paper_digits) (C := RX3) (T := TX3) (N := 20) hx hb hts (by decide +kernel) hown hK hP 0 rfl rfl 1 (by decide) (hts (.fieldLink RX3 15 "TurnedFloors$Paper" "digits" "[I") (by decide +kernel)) (fun _ h9 => h9) rfl dX3_numberOfOrder_30 ?_
                      refine lv_iload_n hx hb dX3_numberOfOrder_33 rfl (lv_at hl 2 rfl) ?_
                      refine va_iald hx hb hK hP 1 0 rfl rfl (by simp only [vp_in]; decide) dX3_numberOfOrder_34 ?_
                      refine kz_topi 5 (by first | rfl | decide +kernel) ?_
                      refine lv_icmp_le (tgt := 42) hx hb dX3_numberOfOrder_35 (by decide) (fun _ => ?_) (fun h => absurd (by decide) h)
                      refine lv_iconst (v := 0) hx hb dX3_numberOfOrder_42 (by decide) ?_
                      refine kz_ki (wc := []) (wr := [(x_paper, .inr (3, [.ref x_paper_ranks, .ref x_paper_digits, .ref x_paper_barred, .ref x_paper_pays, .ref x_paper_measuredBarred, .ref x_paper_buckets, .ref q_5, .ref q_6, .ref q_7, .ref q_1, .ref q_2, .ref q_3, .ref q_4, .int 0, .int 1, .int 0, .int 0, .int (-1), .int (-1), .int 0])), (x_paper_digits, .inl (ty 0, 6, .inl (upd (upd (upd (upd (upd (upd (upd (upd (upd (upd (upd (upd (upd (upd (upd (upd (upd (upd (upd (upd (upd (upd (upd (upd (upd (upd (upd (upd (upd (upd (upd (upd (upd (fun _ => 0) 0 0) 0 0) 1 1) 0 0) 1 1) 2 2) 0 0) 1 1) 2 2) 3 3) 0 0) 1 1) 2 2) 3 3) 4 4) 0 0) 1 1) 2 2) 3 3) 4 4) 5 5) 0 0) 1 1) 2 2) 3 3) 4 4) 5 5) 5 5) 4 4) 3 3) 2 2) 1 1) 0 0)))]) (va_runSN (As := [.int 0]) (rest := [.int 0]) ⟨hx, hb, hml, hown, hts⟩ (kcX9_bit l D ty eo _ 0) ⟨va_cnB 1 hts gX3_numberOfOrder_X9_bit_n133 rfl rfl rfl (hN.1 _ (by decide +kernel : (.methodLinkNest "TurnedFloors$Paper" 133 yX9_bit "TurnedFloors" : Cond) ∈ kzN1)) (hts (.initialized RX9) (by decide +kernel)) (by decide +kernel) ⟨Nat.le_of_ble_eq_true rfl, Nat.le_of_ble_eq_true rfl⟩, hts (.static yX9_bit) (by decide +kernel), trivial⟩ (kz_preS hK hN hE hP hD hS hA [] (by decide) rfl) rfl rfl hl.1 rfl (lv_room (Nat.le_of_ble_eq_true rfl)) dX3_numberOfOrder_43 ⟨Nat.le_of_ble_eq_true rfl, Nat.le_of_ble_eq_true rfl⟩) hP hD hS hA [] [0, 1] rfl rfl (by decide) (by decide) (fun r u H locs hw hp hd hs => ?_)
                      rcases hw with ⟨c_21, rfl, rfl⟩ | ⟨c_22, rfl, rfl⟩
                      · refine kz_re (w2 := [(x_paper, .inr (3, [.ref x_paper_ranks, .ref x_paper_digits, .ref x_paper_barred, .ref x_paper_pays, .ref x_paper_measuredBarred, .ref x_paper_buckets, .ref q_5, .ref q_6, .ref q_7, .ref q_1, .ref q_2, .ref q_3, .ref q_4, .int 0, .int 1, .int 0, .int 0, .int (-1), .int (-1), .int 0])), (x_paper_digits, .inl (ty 0, 6, .inl (upd (upd (upd (upd (upd (upd (upd (upd (upd (upd (upd (upd (upd (upd (upd (upd (upd (upd (upd (upd (upd (upd (upd (upd (upd (upd (upd (upd (upd (upd (upd (upd (upd (fun _ => 0) 0 0) 0 0) 1 1) 0 0) 1 1) 2 2) 0 0) 1 1) 2 2) 3 3) 0 0) 1 1) 2 2) 3 3) 4 4) 0 0) 1 1) 2 2) 3 3) 4 4) 5 5) 0 0) 1 1) 2 2) 3 3) 4 4) 5 5) 5 5) 4 4) 3 3) 2 2) 1 1) 0 0)))]) hp hd hs rfl ?_
                        clear hp hd hs hP hD hS
                        intro hP hD hS
                        refine lv_iadd hx hb dX3_numberOfOrder_46 ?_
                        refine kz_topi 0 (by first | rfl | decide +kernel) ?_
                        refine lv_istore_n (lv' := [(3, .int 0), (4, .int 0), (2, .int 5), (1, .int 0), (0, .ref x_paper)]) hx hb dX3_numberOfOrder_47 rfl hl (by decide) rfl (fun ls hl => ?_)
                        refine lv_iinc (v := 1) (lv' := [(4, .int 1), (3, .int 0), (2, .int 5), (1, .int 0), (0, .ref x_paper)]) hx hb dX3_numberOfOrder_48 hl (k := 1) rfl (by decide) (by decide) rfl (fun ls hl => ?_)
                        refine lv_goto (tgt := 15) hx hb dX3_numberOfOrder_51 (by decide) ?_
                        refine lv_iload hx hb dX3_numberOfOrder_15 (lv_at hl 0 rfl) ?_
                        refine lv_iload_n hx hb dX3_numberOfOrder_17 rfl (lv_at hl 2 rfl) ?_
                        refine lv_icmp_ge (tgt := 54) hx hb dX3_numberOfOrder_18 (by decide) (fun h => absurd h (by decide)) (fun _ => ?_)
                        refine lv_iload_n hx hb dX3_numberOfOrder_21 rfl (lv_at hl 1 rfl) ?_
                        refine lv_aload_n hx hb dX3_numberOfOrder_22 rfl (lv_at hl 4 rfl) ?_
                        refine va_get (D := D) (ci := 3) (v := .ref x_paper_digits) (C := RX3) (T := TX3) (N := 20) hx hb hts (by decide +kernel) hown hK hP 0 rfl rfl 1 (by decide) (hts (.fieldLink RX3 15 "TurnedFloors$Paper" "digits" "[I") (by decide +kernel)) (fun _ h9 => h9) rfl dX3_numberOfOrder_23 ?_
                        refine lv_iload hx hb dX3_numberOfOrder_26 (lv_at hl 0 rfl) ?_
                        refine va_iald hx hb hK hP 1 0 rfl rfl (by simp only [vp_in]; decide) dX3_numberOfOrder_28 ?_
                        refine kz_topi 1 (by first | rfl | decide +kernel) ?_
                        refine lv_aload_n hx hb dX3_numberOfOrder_29 rfl (lv_at hl 4 rfl) ?_
                        refine va_get (D := D) (ci := 3) (v := .ref x_paper_digits) (C := RX3) (T := TX3) (N := 20) hx hb hts (by decide +kernel) hown hK hP 0 rfl rfl 1 (by decide) (hts (.fieldLink RX3 15 "TurnedFloors$Paper" "digits" "[I") (by decide +kernel)) (fun _ h9 => h9) rfl dX3_numberOfOrder_30 ?_
                        refine lv_iload_n hx hb dX3_numberOfOrder_33 rfl (lv_at hl 2 rfl) ?_
                        refine va_iald hx hb hK hP 1 0 rfl rfl (by simp only [vp_in]; decide) dX3_numberOfOrder_34 ?_
                        refine kz_topi 5 (by first | rfl | decide +kernel) ?_
                        refine lv_icmp_le (tgt := 42) hx hb dX3_numberOfOrder_35 (by decide) (fun _ => ?_) (fun h => absurd (by decide) h)
                        refine lv_iconst (v := 0) hx hb dX3_numberOfOrder_42 (by decide) ?_
                        refine kz_ki (wc := []) (wr := [(x_paper, .inr (3, [.ref x_paper_ranks, .ref x_paper_digits, .ref x_paper_barred, .ref x_paper_pays, .ref x_paper_measuredBarred, .ref x_paper_buckets, .ref q_5, .ref q_6, .ref q_7, .ref q_1, .ref q_2, .ref q_3, .ref q_4, .int 0, .int 1, .int 0, .int 0, .int (-1), .int (-1), .int 0])), (x_paper_digits, .inl (ty 0, 6, .inl (upd (upd (upd (upd (upd (upd (upd (upd (upd (upd (upd (upd (upd (upd (upd (upd (upd (upd (upd (upd (upd (upd (upd (upd (upd (upd (upd (upd (upd (upd (upd (upd (upd (fun _ => 0) 0 0) 0 0) 1 1) 0 0) 1 1) 2 2) 0 0) 1 1) 2 2) 3 3) 0 0) 1 1) 2 2) 3 3) 4 4) 0 0) 1 1) 2 2) 3 3) 4 4) 5 5) 0 0) 1 1) 2 2) 3 3) 4 4) 5 5) 5 5) 4 4) 3 3) 2 2) 1 1) 0 0)))]) (va_runSN (As := [.int 0]) (rest := [.int 0]) ⟨hx, hb, hml, hown, hts⟩ (kcX9_bit l D ty eo _ 0) ⟨va_cnB 1 hts gX3_numberOfOrder_X9_bit_n133 rfl rfl rfl (hN.1 _ (by decide +kernel : (.methodLinkNest "TurnedFloors$Paper" 133 yX9_bit "TurnedFloors" : Cond) ∈ kzN1)) (hts (.initialized RX9) (by decide +kernel)) (by decide +kernel) ⟨Nat.le_of_ble_eq_true rfl, Nat.le_of_ble_eq_true rfl⟩, hts (.static yX9_bit) (by decide +kernel), trivial⟩ (kz_preS hK hN hE hP hD hS hA [] (by decide) rfl) rfl rfl hl.1 rfl (lv_room (Nat.le_of_ble_eq_true rfl)) dX3_numberOfOrder_43 ⟨Nat.le_of_ble_eq_true rfl, Nat.le_of_ble_eq_true rfl⟩) hP hD hS hA [] [0, 1] rfl rfl (by decide) (by decide) (fun r u H locs hw hp hd hs => ?_)
                        rcases hw with ⟨c_23, rfl, rfl⟩ | ⟨c_24, rfl, rfl⟩
                        · refine kz_re (w2 := [(x_paper, .inr (3, [.ref x_paper_ranks, .ref x_paper_digits, .ref x_paper_barred, .ref x_paper_pays, .ref x_paper_measuredBarred, .ref x_paper_buckets, .ref q_5, .ref q_6, .ref q_7, .ref q_1, .ref q_2, .ref q_3, .ref q_4, .int 0, .int 1, .int 0, .int 0, .int (-1), .int (-1), .int 0])), (x_paper_digits, .inl (ty 0, 6, .inl (upd (upd (upd (upd (upd (upd (upd (upd (upd (upd (upd (upd (upd (upd (upd (upd (upd (upd (upd (upd (upd (upd (upd (upd (upd (upd (upd (upd (upd (upd (upd (upd (upd (fun _ => 0) 0 0) 0 0) 1 1) 0 0) 1 1) 2 2) 0 0) 1 1) 2 2) 3 3) 0 0) 1 1) 2 2) 3 3) 4 4) 0 0) 1 1) 2 2) 3 3) 4 4) 5 5) 0 0) 1 1) 2 2) 3 3) 4 4) 5 5) 5 5) 4 4) 3 3) 2 2) 1 1) 0 0)))]) hp hd hs rfl ?_
                          clear hp hd hs hP hD hS
                          intro hP hD hS
                          refine lv_iadd hx hb dX3_numberOfOrder_46 ?_
                          refine kz_topi 0 (by first | rfl | decide +kernel) ?_
                          refine lv_istore_n (lv' := [(3, .int 0), (4, .int 1), (2, .int 5), (1, .int 0), (0, .ref x_paper)]) hx hb dX3_numberOfOrder_47 rfl hl (by decide) rfl (fun ls hl => ?_)
                          refine lv_iinc (v := 2) (lv' := [(4, .int 2), (3, .int 0), (2, .int 5), (1, .int 0), (0, .ref x_paper)]) hx hb dX3_numberOfOrder_48 hl (k := 1) rfl (by decide) (by decide) rfl (fun ls hl => ?_)
                          refine lv_goto (tgt := 15) hx hb dX3_numberOfOrder_51 (by decide) ?_
                          refine lv_iload hx hb dX3_numberOfOrder_15 (lv_at hl 0 rfl) ?_
                          refine lv_iload_n hx hb dX3_numberOfOrder_17 rfl (lv_at hl 2 rfl) ?_
                          refine lv_icmp_ge (tgt := 54) hx hb dX3_numberOfOrder_18 (by decide) (fun h => absurd h (by decide)) (fun _ => ?_)
                          refine lv_iload_n hx hb dX3_numberOfOrder_21 rfl (lv_at hl 1 rfl) ?_
                          refine lv_aload_n hx hb dX3_numberOfOrder_22 rfl (lv_at hl 4 rfl) ?_
                          refine va_get (D := D) (ci := 3) (v := .ref x_paper_digits) (C := RX3) (T := TX3) (N := 20) hx hb hts (by decide +kernel) hown hK hP 0 rfl rfl 1 (by decide) (hts (.fieldLink RX3 15 "TurnedFloors$Paper" "digits" "[I") (by decide +kernel)) (fun _ h9 => h9) rfl dX3_numberOfOrder_23 ?_
                          refine lv_iload hx hb dX3_numberOfOrder_26 (lv_at hl 0 rfl) ?_
                          refine va_iald hx hb hK hP 1 0 rfl rfl (by simp only [vp_in]; decide) dX3_numberOfOrder_28 ?_
                          refine kz_topi 2 (by first | rfl | decide +kernel) ?_
                          refine lv_aload_n hx hb dX3_numberOfOrder_29 rfl (lv_at hl 4 rfl) ?_
                          refine va_get (D := D) (ci := 3) (v := .ref x_paper_digits) (C := RX3) (T := TX3) (N := 20) hx hb hts (by decide +kernel) hown hK hP 0 rfl rfl 1 (by decide) (hts (.fieldLink RX3 15 "TurnedFloors$Paper" "digits" "[I") (by decide +kernel)) (fun _ h9 => h9) rfl dX3_numberOfOrder_30 ?_
                          refine lv_iload_n hx hb dX3_numberOfOrder_33 rfl (lv_at hl 2 rfl) ?_
                          refine va_iald hx hb hK hP 1 0 rfl rfl (by simp only [vp_in]; decide) dX3_numberOfOrder_34 ?_
                          refine kz_topi 5 (by first | rfl | decide +kernel) ?_
                          refine lv_icmp_le (tgt := 42) hx hb dX3_numberOfOrder_35 (by decide) (fun _ => ?_) (fun h => absurd (by decide) h)
                          refine lv_iconst (v := 0) hx hb dX3_numberOfOrder_42 (by decide) ?_
                          refine kz_ki (wc := []) (wr := [(x_paper, .inr (3, [.ref x_paper_ranks, .ref x_paper_digits, .ref x_paper_barred, .ref x_paper_pays, .ref x_paper_measuredBarred, .ref x_paper_buckets, .ref q_5, .ref q_6, .ref q_7, .ref q_1, .ref q_2, .ref q_3, .ref q_4, .int 0, .int 1, .int 0, .int 0, .int (-1), .int (-1), .int 0])), (x_paper_digits, .inl (ty 0, 6, .inl (upd (upd (upd (upd (upd (upd (upd (upd (upd (upd (upd (upd (upd (upd (upd (upd (upd (upd (upd (upd (upd (upd (upd (upd (upd (upd (upd (upd (upd (upd (upd (upd (upd (fun _ => 0) 0 0) 0 0) 1 1) 0 0) 1 1) 2 2) 0 0) 1 1) 2 2) 3 3) 0 0) 1 1) 2 2) 3 3) 4 4) 0 0) 1 1) 2 2) 3 3) 4 4) 5 5) 0 0) 1 1) 2 2) 3 3) 4 4) 5 5) 5 5) 4 4) 3 3) 2 2) 1 1) 0 0)))]) (va_runSN (As := [.int 0]) (rest := [.int 0]) ⟨hx, hb, hml, hown, hts⟩ (kcX9_bit l D ty eo _ 0) ⟨va_cnB 1 hts gX3_numberOfOrder_X9_bit_n133 rfl rfl rfl (hN.1 _ (by decide +kernel : (.methodLinkNest "TurnedFloors$Paper" 133 yX9_bit "TurnedFloors" : Cond) ∈ kzN1)) (hts (.initialized RX9) (by decide +kernel)) (by decide +kernel) ⟨Nat.le_of_ble_eq_true rfl, Nat.le_of_ble_eq_true rfl⟩, hts (.static yX9_bit) (by decide +kernel), trivial⟩ (kz_preS hK hN hE hP hD hS hA [] (by decide) rfl) rfl rfl hl.1 rfl (lv_room (Nat.le_of_ble_eq_true rfl)) dX3_numberOfOrder_43 ⟨Nat.le_of_ble_eq_true rfl, Nat.le_of_ble_eq_true rfl⟩) hP hD hS hA [] [0, 1] rfl rfl (by decide) (by decide) (fun r u H locs hw hp hd hs => ?_)
                          rcases hw with ⟨c_25, rfl, rfl⟩ | ⟨c_26, rfl, rfl⟩
                          · refine kz_re (w2 := [(x_paper, .inr (3, [.ref x_paper_ranks, .ref x_paper_digits, .ref x_paper_barred, .ref x_paper_pays, .ref x_paper_measuredBarred, .ref x_paper_buckets, .ref q_5, .ref q_6, .ref q_7, .ref q_1, .ref q_2, .ref q_3, .ref q_4, .int 0, .int 1, .int 0, .int 0, .int (-1), .int (-1), .int 0])), (x_paper_digits, .inl (ty 0, 6, .inl (upd (upd (upd (upd (upd (upd (upd (upd (upd (upd (upd (upd (upd (upd (upd (upd (upd (upd (upd (upd (upd (upd (upd (upd (upd (upd (upd (upd (upd (upd (upd (upd (upd (fun _ => 0) 0 0) 0 0) 1 1) 0 0) 1 1) 2 2) 0 0) 1 1) 2 2) 3 3) 0 0) 1 1) 2 2) 3 3) 4 4) 0 0) 1 1) 2 2) 3 3) 4 4) 5 5) 0 0) 1 1) 2 2) 3 3) 4 4) 5 5) 5 5) 4 4) 3 3) 2 2) 1 1) 0 0)))]) hp hd hs rfl ?_
                            clear hp hd hs hP hD hS
                            intro hP hD hS
                            refine lv_iadd hx hb dX3_numberOfOrder_46 ?_
                            refine kz_topi 0 (by first | rfl | decide +kernel) ?_
                            refine lv_istore_n (lv' := [(3, .int 0), (4, .int 2), (2, .int 5), (1, .int 0), (0, .ref x_paper)]) hx hb dX3_numberOfOrder_47 rfl hl (by decide) rfl (fun ls hl => ?_)
                            refine lv_iinc (v := 3) (lv' := [(4, .int 3), (3, .int 0), (2, .int 5), (1, .int 0), (0, .ref x_paper)]) hx hb dX3_numberOfOrder_48 hl (k := 1) rfl (by decide) (by decide) rfl (fun ls hl => ?_)
                            refine lv_goto (tgt := 15) hx hb dX3_numberOfOrder_51 (by decide) ?_
                            refine lv_iload hx hb dX3_numberOfOrder_15 (lv_at hl 0 rfl) ?_
                            refine lv_iload_n hx hb dX3_numberOfOrder_17 rfl (lv_at hl 2 rfl) ?_
                            refine lv_icmp_ge (tgt := 54) hx hb dX3_numberOfOrder_18 (by decide) (fun h => absurd h (by decide)) (fun _ => ?_)
                            refine lv_iload_n hx hb dX3_numberOfOrder_21 rfl (lv_at hl 1 rfl) ?_
                            refine lv_aload_n hx hb dX3_numberOfOrder_22 rfl (lv_at hl 4 rfl) ?_
                            refine va_get (D := D) (ci := 3) (v := .ref x_paper_digits) (C := RX3) (T := TX3) (N := 20) hx hb hts (by decide +kernel) hown hK hP 0 rfl rfl 1 (by decide) (hts (.fieldLink RX3 15 "TurnedFloors$Paper" "digits" "[I") (by decide +kernel)) (fun _ h9 => h9) rfl dX3_numberOfOrder_23 ?_
                            refine lv_iload hx hb dX3_numberOfOrder_26 (lv_at hl 0 rfl) ?_
                            refine va_iald hx hb hK hP 1 0 rfl rfl (by simp only [vp_in]; decide) dX3_numberOfOrder_28 ?_
                            refine kz_topi 3 (by first | rfl | decide +kernel) ?_
                            refine lv_aload_n hx hb dX3_numberOfOrder_29 rfl (lv_at hl 4 rfl) ?_
                            refine va_get (D := D) (ci := 3) (v := .ref x_paper_digits) (C := RX3) (T := TX3) (N := 20) hx hb hts (by decide +kernel) hown hK hP 0 rfl rfl 1 (by decide) (hts (.fieldLink RX3 15 "TurnedFloors$Paper" "digits" "[I") (by decide +kernel)) (fun _ h9 => h9) rfl dX3_numberOfOrder_30 ?_
                            refine lv_iload_n hx hb dX3_numberOfOrder_33 rfl (lv_at hl 2 rfl) ?_
                            refine va_iald hx hb hK hP 1 0 rfl rfl (by simp only [vp_in]; decide) dX3_numberOfOrder_34 ?_
                            refine kz_topi 5 (by first | rfl | decide +kernel) ?_
                            refine lv_icmp_le (tgt := 42) hx hb dX3_numberOfOrder_35 (by decide) (fun _ => ?_) (fun h => absurd (by decide) h)
                            refine lv_iconst (v := 0) hx hb dX3_numberOfOrder_42 (by decide) ?_
                            refine kz_ki (wc := []) (wr := [(x_paper, .inr (3, [.ref x_paper_ranks, .ref x_paper_digits, .ref x_paper_barred, .ref x_paper_pays, .ref x_paper_measuredBarred, .ref x_paper_buckets, .ref q_5, .ref q_6, .ref q_7, .ref q_1, .ref q_2, .ref q_3, .ref q_4, .int 0, .int 1, .int 0, .int 0, .int (-1), .int (-1), .int 0])), (x_paper_digits, .inl (ty 0, 6, .inl (upd (upd (upd (upd (upd (upd (upd (upd (upd (upd (upd (upd (upd (upd (upd (upd (upd (upd (upd (upd (upd (upd (upd (upd (upd (upd (upd (upd (upd (upd (upd (upd (upd (fun _ => 0) 0 0) 0 0) 1 1) 0 0) 1 1) 2 2) 0 0) 1 1) 2 2) 3 3) 0 0) 1 1) 2 2) 3 3) 4 4) 0 0) 1 1) 2 2) 3 3) 4 4) 5 5) 0 0) 1 1) 2 2) 3 3) 4 4) 5 5) 5 5) 4 4) 3 3) 2 2) 1 1) 0 0)))]) (va_runSN (As := [.int 0]) (rest := [.int 0]) ⟨hx, hb, hml, hown, hts⟩ (kcX9_bit l D ty eo _ 0) ⟨va_cnB 1 hts gX3_numberOfOrder_X9_bit_n133 rfl rfl rfl (hN.1 _ (by decide +kernel : (.methodLinkNest "TurnedFloors$Paper" 133 yX9_bit "TurnedFloors" : Cond) ∈ kzN1)) (hts (.initialized RX9) (by decide +kernel)) (by decide +kernel) ⟨Nat.le_of_ble_eq_true rfl, Nat.le_of_ble_eq_true rfl⟩, hts (.static yX9_bit) (by decide +kernel), trivial⟩ (kz_preS hK hN hE hP hD hS hA [] (by decide) rfl) rfl rfl hl.1 rfl (lv_room (Nat.le_of_ble_eq_true rfl)) dX3_numberOfOrder_43 ⟨Nat.le_of_ble_eq_true rfl, Nat.le_of_ble_eq_true rfl⟩) hP hD hS hA [] [0, 1] rfl rfl (by decide) (by decide) (fun r u H locs hw hp hd hs => ?_)
                            rcases hw with ⟨c_27, rfl, rfl⟩ | ⟨c_28, rfl, rfl⟩
                            · refine kz_re (w2 := [(x_paper, .inr (3, [.ref x_paper_ranks, .ref x_paper_digits, .ref x_paper_barred, .ref x_paper_pays, .ref x_paper_measuredBarred, .ref x_paper_buckets, .ref q_5, .ref q_6, .ref q_7, .ref q_1, .ref q_2, .ref q_3, .ref q_4, .int 0, .int 1, .int 0, .int 0, .int (-1), .int (-1), .int 0])), (x_paper_digits, .inl (ty 0, 6, .inl (upd (upd (upd (upd (upd (upd (upd (upd (upd (upd (upd (upd (upd (upd (upd (upd (upd (upd (upd (upd (upd (upd (upd (upd (upd (upd (upd (upd (upd (upd (upd (upd (upd (fun _ => 0) 0 0) 0 0) 1 1) 0 0) 1 1) 2 2) 0 0) 1 1) 2 2) 3 3) 0 0) 1 1) 2 2) 3 3) 4 4) 0 0) 1 1) 2 2) 3 3) 4 4) 5 5) 0 0) 1 1) 2 2) 3 3) 4 4) 5 5) 5 5) 4 4) 3 3) 2 2) 1 1) 0 0)))]) hp hd hs rfl ?_
                              clear hp hd hs hP hD hS
                              intro hP hD hS
                              refine lv_iadd hx hb dX3_numberOfOrder_46 ?_
                              refine kz_topi 0 (by first | rfl | decide +kernel) ?_
                              refine lv_istore_n (lv' := [(3, .int 0), (4, .int 3), (2, .int 5), (1, .int 0), (0, .ref x_paper)]) hx hb dX3_numberOfOrder_47 rfl hl (by decide) rfl (fun ls hl => ?_)
                              refine lv_iinc (v := 4) (lv' := [(4, .int 4), (3, .int 0), (2, .int 5), (1, .int 0), (0, .ref x_paper)]) hx hb dX3_numberOfOrder_48 hl (k := 1) rfl (by decide) (by decide) rfl (fun ls hl => ?_)
                              refine lv_goto (tgt := 15) hx hb dX3_numberOfOrder_51 (by decide) ?_
                              refine lv_iload hx hb dX3_numberOfOrder_15 (lv_at hl 0 rfl) ?_
                              refine lv_iload_n hx hb dX3_numberOfOrder_17 rfl (lv_at hl 2 rfl) ?_
                              refine lv_icmp_ge (tgt := 54) hx hb dX3_numberOfOrder_18 (by decide) (fun h => absurd h (by decide)) (fun _ => ?_)
                              refine lv_iload_n hx hb dX3_numberOfOrder_21 rfl (lv_at hl 1 rfl) ?_
                              refine lv_aload_n hx hb dX3_numberOfOrder_22 rfl (lv_at hl 4 rfl) ?_
                              refine va_get (D := D) (ci := 3) (v := .ref x_paper_digits) (C := RX3) (T := TX3) (N := 20) hx hb hts (by decide +kernel) hown hK hP 0 rfl rfl 1 (by decide) (hts (.fieldLink RX3 15 "TurnedFloors$Paper" "digits" "[I") (by decide +kernel)) (fun _ h9 => h9) rfl dX3_numberOfOrder_23 ?_
                              refine lv_iload hx hb dX3_numberOfOrder_26 (lv_at hl 0 rfl) ?_
                              refine va_iald hx hb hK hP 1 0 rfl rfl (by simp only [vp_in]; decide) dX3_numberOfOrder_28 ?_
                              refine kz_topi 4 (by first | rfl | decide +kernel) ?_
                              refine lv_aload_n hx hb dX3_numberOfOrder_29 rfl (lv_at hl 4 rfl) ?_
                              refine va_get (D := D) (ci := 3) (v := .ref x_paper_digits) (C := RX3) (T := TX3) (N := 20) hx hb hts (by decide +kernel) hown hK hP 0 rfl rfl 1 (by decide) (hts (.fieldLink RX3 15 "TurnedFloors$Paper" "digits" "[I") (by decide +kernel)) (fun _ h9 => h9) rfl dX3_numberOfOrder_30 ?_
                              refine lv_iload_n hx hb dX3_numberOfOrder_33 rfl (lv_at hl 2 rfl) ?_
                              refine va_iald hx hb hK hP 1 0 rfl rfl (by simp only [vp_in]; decide) dX3_numberOfOrder_34 ?_
                              refine kz_topi 5 (by first | rfl | decide +kernel) ?_
                              refine lv_icmp_le (tgt := 42) hx hb dX3_numberOfOrder_35 (by decide) (fun _ => ?_) (fun h => absurd (by decide) h)
                              refine lv_iconst (v := 0) hx hb dX3_numberOfOrder_42 (by decide) ?_
                              refine kz_ki (wc := []) (wr := [(x_paper, .inr (3, [.ref x_paper_ranks, .ref x_paper_digits, .ref x_paper_barred, .ref x_paper_pays, .ref x_paper_measuredBarred, .ref x_paper_buckets, .ref q_5, .ref q_6, .ref q_7, .ref q_1, .ref q_2, .ref q_3, .ref q_4, .int 0, .int 1, .int 0, .int 0, .int (-1), .int (-1), .int 0])), (x_paper_digits, .inl (ty 0, 6, .inl (upd (upd (upd (upd (upd (upd (upd (upd (upd (upd (upd (upd (upd (upd (upd (upd (upd (upd (upd (upd (upd (upd (upd (upd (upd (upd (upd (upd (upd (upd (upd (upd (upd (fun _ => 0) 0 0) 0 0) 1 1) 0 0) 1 1) 2 2) 0 0) 1 1) 2 2) 3 3) 0 0) 1 1) 2 2) 3 3) 4 4) 0 0) 1 1) 2 2) 3 3) 4 4) 5 5) 0 0) 1 1) 2 2) 3 3) 4 4) 5 5) 5 5) 4 4) 3 3) 2 2) 1 1) 0 0)))]) (va_runSN (As := [.int 0]) (rest := [.int 0]) ⟨hx, hb, hml, hown, hts⟩ (kcX9_bit l D ty eo _ 0) ⟨va_cnB 1 hts gX3_numberOfOrder_X9_bit_n133 rfl rfl rfl (hN.1 _ (by decide +kernel : (.methodLinkNest "TurnedFloors$Paper" 133 yX9_bit "TurnedFloors" : Cond) ∈ kzN1)) (hts (.initialized RX9) (by decide +kernel)) (by decide +kernel) ⟨Nat.le_of_ble_eq_true rfl, Nat.le_of_ble_eq_true rfl⟩, hts (.static yX9_bit) (by decide +kernel), trivial⟩ (kz_preS hK hN hE hP hD hS hA [] (by decide) rfl) rfl rfl hl.1 rfl (lv_room (Nat.le_of_ble_eq_true rfl)) dX3_numberOfOrder_43 ⟨Nat.le_of_ble_eq_true rfl, Nat.le_of_ble_eq_true rfl⟩) hP hD hS hA [] [0, 1] rfl rfl (by decide) (by decide) (fun r u H locs hw hp hd hs => ?_)
                              rcases hw with ⟨c_29, rfl, rfl⟩ | ⟨c_30, rfl, rfl⟩
                              · refine kz_re (w2 := [(x_paper, .inr (3, [.ref x_paper_ranks, .ref x_paper_digits, .ref x_paper_barred, .ref x_paper_pays, .ref x_paper_measuredBarred, .ref x_paper_buckets, .ref q_5, .ref q_6, .ref q_7, .ref q_1, .ref q_2, .ref q_3, .ref q_4, .int 0, .int 1, .int 0, .int 0, .int (-1), .int (-1), .int 0])), (x_paper_digits, .inl (ty 0, 6, .inl (upd (upd (upd (upd (upd (upd (upd (upd (upd (upd (upd (upd (upd (upd (upd (upd (upd (upd (upd (upd (upd (upd (upd (upd (upd (upd (upd (upd (upd (upd (upd (upd (upd (fun _ => 0) 0 0) 0 0) 1 1) 0 0) 1 1) 2 2) 0 0) 1 1) 2 2) 3 3) 0 0) 1 1) 2 2) 3 3) 4 4) 0 0) 1 1) 2 2) 3 3) 4 4) 5 5) 0 0) 1 1) 2 2) 3 3) 4 4) 5 5) 5 5) 4 4) 3 3) 2 2) 1 1) 0 0)))]) hp hd hs rfl ?_
                                clear hp hd hs hP hD hS
                                intro hP hD hS
                                refine lv_iadd hx hb dX3_numberOfOrder_46 ?_
                                refine kz_topi 0 (by first | rfl | decide +kernel) ?_
                                refine lv_istore_n (lv' := [(3, .int 0), (4, .int 4), (2, .int 5), (1, .int 0), (0, .ref x_paper)]) hx hb dX3_numberOfOrder_47 rfl hl (by decide) rfl (fun ls hl => ?_)
                                refine lv_iinc (v := 5) (lv' := [(4, .int 5), (3, .int 0), (2, .int 5), (1, .int 0), (0, .ref x_paper)]) hx hb dX3_numberOfOrder_48 hl (k := 1) rfl (by decide) (by decide) rfl (fun ls hl => ?_)
                                refine lv_goto (tgt := 15) hx hb dX3_numberOfOrder_51 (by decide) ?_
                                refine lv_iload hx hb dX3_numberOfOrder_15 (lv_at hl 0 rfl) ?_
                                refine lv_iload_n hx hb dX3_numberOfOrder_17 rfl (lv_at hl 2 rfl) ?_
                                refine lv_icmp_ge (tgt := 54) hx hb dX3_numberOfOrder_18 (by decide) (fun _ => ?_) (fun h => absurd (by decide) h)
                                refine lv_iload_n hx hb dX3_numberOfOrder_54 rfl (lv_at hl 3 rfl) ?_
                                refine lv_iload_n hx hb dX3_numberOfOrder_55 rfl (lv_at hl 1 rfl) ?_
                                refine va_gets hx hb hE.1 hS hown (hts (.fieldLink RX3 76 "TurnedFloors$Paper" "FACTORIALS" "[I") (by decide +kernel)) (fun _ h9 => h9) dX3_numberOfOrder_56 ?_
                                refine lv_iload_n hx hb dX3_numberOfOrder_59 rfl (lv_at hl 2 rfl) ?_
                                refine va_ti (v := .int 120) hx hb hE.2.1 hS (by simp only [vp_in]; decide) rfl dX3_numberOfOrder_60 ?_
                                refine lv_imul hx hb dX3_numberOfOrder_61 ?_
                                refine kz_topi 0 (by first | rfl | decide +kernel) ?_
                                refine lv_iadd hx hb dX3_numberOfOrder_62 ?_
                                refine kz_topi 0 (by first | rfl | decide +kernel) ?_
                                refine lv_istore_n (lv' := [(1, .int 0), (4, .int 5), (3, .int 0), (2, .int 5), (0, .ref x_paper)]) hx hb dX3_numberOfOrder_63 rfl hl (by decide) rfl (fun ls hl => ?_)
                                refine lv_iinc (v := 6) (lv' := [(2, .int 6), (1, .int 0), (4, .int 5), (3, .int 0), (0, .ref x_paper)]) hx hb dX3_numberOfOrder_64 hl (k := 3) rfl (by decide) (by decide) rfl (fun ls hl => ?_)
                                refine lv_goto (tgt := 4) hx hb dX3_numberOfOrder_67 (by decide) ?_
                                refine lv_iload_n hx hb dX3_numberOfOrder_4 rfl (lv_at hl 0 rfl) ?_
                                refine lv_bipush (v := 6) hx hb dX3_numberOfOrder_5 (by decide) ?_
                                refine lv_icmp_ge (tgt := 70) hx hb dX3_numberOfOrder_7 (by decide) (fun _ => ?_) (fun h => absurd (by decide) h)
                                refine lv_iload_n hx hb dX3_numberOfOrder_70 rfl (lv_at hl 1 rfl) ?_
                                exact kz_iret hx hb hr hlocks hP hK hD hS dX3_numberOfOrder_71 ⟨rfl, rfl⟩
                              · exact absurd c_30 (by decide)
                            · exact absurd c_28 (by decide)
                          · exact absurd c_26 (by decide)
                        · exact absurd c_24 (by decide)
                      · exact absurd c_22 (by decide)
                    · exact absurd c_20 (by decide)
                  · exact absurd c_18 (by decide)
                · exact absurd c_16 (by decide)
              · exact absurd c_14 (by decide)
            · exact absurd c_12 (by decide)
          · exact absurd c_10 (by decide)
        · exact absurd c_8 (by decide)
      · exact absurd c_6 (by decide)
    · exact absurd c_4 (by decide)
  · exact absurd c_2 (by decide)

set_option maxHeartbeats 4000000 in
set_option maxRecDepth 100000 in
theorem kX3_fits_113 (l : Launch) (D : va_G) (ty : Nat → ClassId) (eo : Nat → Nat) (sz : Nat) (x_paper x_paper_ranks x_paper_digits x_paper_barred x_paper_pays x_paper_measuredBarred x_paper_buckets q_5 q_6 q_7 q_1 q_2 q_3 q_4 : Nat) : Met l yX3_fits wsX3_fits ({ frames := 0, cells := 0, slots := 0, locals := 0 }) (va_Pc [.ref x_paper, .int 0, .int 1, .int 0] (kz_pre D ty eo [(x_paper, .inr (3, [.ref x_paper_ranks, .ref x_paper_digits, .ref x_paper_barred, .ref x_paper_pays, .ref x_paper_measuredBarred, .ref x_paper_buckets, .ref q_5, .ref q_6, .ref q_7, .ref q_1, .ref q_2, .ref q_3, .ref q_4, .int 0, .int 1, .int 0, .int 0, .int (-1), .int (-1), .int 1]))] sz)) (va_Qi (fun (r : Int32) (u : va_W) => 1 = r ∧ [(x_paper, .inr (3, [.ref x_paper_ranks, .ref x_paper_digits, .ref x_paper_barred, .ref x_paper_pays, .ref x_paper_measuredBarred, .ref x_paper_buckets, .ref q_5, .ref q_6, .ref q_7, .ref q_1, .ref q_2, .ref q_3, .ref q_4, .int 0, .int 1, .int 0, .int 0, .int (-1), .int (-1), .int 1]))] = u) (kz_B D ty (va_A [(x_paper, .inr (3, [.ref x_paper_ranks, .ref x_paper_digits, .ref x_paper_barred, .ref x_paper_pays, .ref x_paper_measuredBarred, .ref x_paper_buckets, .ref q_5, .ref q_6, .ref q_7, .ref q_1, .ref q_2, .ref q_3, .ref q_4, .int 0, .int 1, .int 0, .int 0, .int (-1), .int (-1), .int 1]))] sz)) (va_A [(x_paper, .inr (3, [.ref x_paper_ranks, .ref x_paper_digits, .ref x_paper_barred, .ref x_paper_pays, .ref x_paper_measuredBarred, .ref x_paper_buckets, .ref q_5, .ref q_6, .ref q_7, .ref q_1, .ref q_2, .ref q_3, .ref q_4, .int 0, .int 1, .int 0, .int 0, .int (-1), .int (-1), .int 1]))] sz)) 0 0 (va_A [(x_paper, .inr (3, [.ref x_paper_ranks, .ref x_paper_digits, .ref x_paper_barred, .ref x_paper_pays, .ref x_paper_measuredBarred, .ref x_paper_buckets, .ref q_5, .ref q_6, .ref q_7, .ref q_1, .ref q_2, .ref q_3, .ref q_4, .int 0, .int 1, .int 0, .int 0, .int (-1), .int (-1), .int 1]))] sz) := by
  refine Met.ofW (cc := cX3_fits) (maxL := 5) (ret := (some .boolean)) (by decide) rfl ?_
  intro p e s m args below meth c s₁ B hml hv
  obtain ⟨rfl, hsz, hP, hK, hD0, hN, hE⟩ := hv
  have hx := B.exec
  have hb := B.bytes
  have hr := B.returns
  have hts := atoms_spec (ws := wsX3_fits) B.pre
  have hown : s.vm.findClass RX3 = some m.cls := findClass_of_methodNamed B.named
  have hlocks := B.notSynchronized
  subst hsz
  have hD := hD0.self (sz := s.heap.size)
  generalize hAe : va_A [(x_paper, .inr (3, [.ref x_paper_ranks, .ref x_paper_digits, .ref x_paper_barred, .ref x_paper_pays, .ref x_paper_measuredBarred, .ref x_paper_buckets, .ref q_5, .ref q_6, .ref q_7, .ref q_1, .ref q_2, .ref q_3, .ref q_4, .int 0, .int 1, .int 0, .int 0, .int (-1), .int (-1), .int 1]))] s.heap.size = A at hD hE ⊢
  have hA : ∀ q : Nat, s.heap.size ≤ q → A q := fun q h => by rw [← hAe]; exact Or.inr h
  have hS : va_S A s.heap s.heap [] := va_S.rf
  have hl := lv_entry ([.ref x_paper, .int 0, .int 1, .int 0]) (n := 5) (Nat.le_of_ble_eq_true rfl)
  rw [lg_entry_eq]
  generalize (lg_sl ([.ref x_paper, .int 0, .int 1, .int 0]) ++ List.replicate (5 - (lg_sl ([.ref x_paper, .int 0, .int 1, .int 0])).length) Slot.unset).toArray = ls at hl ⊢
  have hl : lv_has ls 5 [(0, .ref x_paper), (1, .int 0), (2, .int 1), (3, .int 0)] := hl
  refine lv_iload_n hx hb dX3_fits_0 rfl (lv_at hl 1 rfl) ?_
  refine lv_aload_n hx hb dX3_fits_1 rfl (lv_at hl 0 rfl) ?_
  refine va_get (D := D) (ci := 3) (v := .int 0) (C := RX3) (T := TX3) (N := 20) hx hb hts (by decide +kernel) hown hK hP 0 rfl rfl 13 (by decide) (hts (.fieldLink RX3 51 "TurnedFloors$Paper" "floors" "I") (by decide +kernel)) (fun _ h9 => h9) rfl dX3_fits_2 ?_
  refine lv_ishr hx hb dX3_fits_5 ?_
  refine kz_topi 0 (by first | rfl | decide +kernel) ?_
  refine lv_istore (lv' := [(4, .int 0), (0, .ref x_paper), (1, .int 0), (2, .int 1), (3, .int 0)]) hx hb dX3_fits_6 hl (by decide) rfl (fun ls hl => ?_)
  refine lv_iload_n hx hb dX3_fits_8 rfl (lv_at hl 3 rfl) ?_
  refine lv_iconst (v := 1) hx hb dX3_fits_9 (by decide) ?_
  refine lv_icmp_ne (tgt := 25) hx hb dX3_fits_10 (by decide) (fun h => absurd (by decide) h) (fun _ => ?_)
  refine lv_iload hx hb dX3_fits_13 (lv_at hl 0 rfl) ?_
  refine lv_iload_n hx hb dX3_fits_15 rfl (lv_at hl 4 rfl) ?_
  refine lv_icmp_ne (tgt := 23) hx hb dX3_fits_16 (by decide) (fun h => absurd (by decide) h) (fun _ => ?_)
  refine lv_iconst (v := 1) hx hb dX3_fits_19 (by decide) ?_
  refine lv_goto (tgt := 24) hx hb dX3_fits_20 (by decide) ?_
  exact kz_zret hx hb hr hlocks rfl hP hK hD hS dX3_fits_24 ⟨rfl, rfl⟩
