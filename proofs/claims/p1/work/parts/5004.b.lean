set_option maxHeartbeats 4000000 in
set_option maxRecDepth 100000 in
theorem kX3_setDigits_78 (l : Launch) (D : va_G) (ty : Nat → ClassId) (eo : Nat → Nat) (sz : Nat) (x_paper x_paper_ranks x_paper_digits x_paper_barred x_paper_pays x_paper_measuredBarred x_paper_buckets q_5 q_7 q_9 q_1 q_2 q_3 q_4 : Nat) : Met l yX3_setDigits wsX3_setDigits ({ frames := 1, cells := 0, slots := 0, locals := 20 }) (va_Pc [.ref x_paper, .int 0] (kz_pre D ty eo [(x_paper, .inr (3, [.ref x_paper_ranks, .ref x_paper_digits, .ref x_paper_barred, .ref x_paper_pays, .ref x_paper_measuredBarred, .ref x_paper_buckets, .ref q_5, .ref q_7, .ref q_9, .ref q_1, .ref q_2, .ref q_3, .ref q_4, .int 0, .int 1, .int 0, .int 0, .int (-1), .int (-1), .int 0])), (x_paper_digits, .inl (ty 0, 6, .inl (fun _ => 0)))] sz)) (va_Qv (fun (u : va_W) => [(x_paper, .inr (3, [.ref x_paper_ranks, .ref x_paper_digits, .ref x_paper_barred, .ref x_paper_pays, .ref x_paper_measuredBarred, .ref x_paper_buckets, .ref q_5, .ref q_7, .ref q_9, .ref q_1, .ref q_2, .ref q_3, .ref q_4, .int 0, .int 1, .int 0, .int 0, .int (-1), .int (-1), .int 0])), (x_paper_digits, .inl (ty 0, 6, .inl (upd (upd (upd (upd (upd (upd (upd (upd (upd (upd (upd (upd (upd (upd (upd (upd (upd (upd (upd (upd (upd (fun _ => 0) 0 0) 0 0) 1 1) 0 0) 1 1) 2 2) 0 0) 1 1) 2 2) 3 3) 0 0) 1 1) 2 2) 3 3) 4 4) 0 0) 1 1) 2 2) 3 3) 4 4) 5 5)))] = u) (kz_B D ty (va_A [(x_paper, .inr (3, [.ref x_paper_ranks, .ref x_paper_digits, .ref x_paper_barred, .ref x_paper_pays, .ref x_paper_measuredBarred, .ref x_paper_buckets, .ref q_5, .ref q_7, .ref q_9, .ref q_1, .ref q_2, .ref q_3, .ref q_4, .int 0, .int 1, .int 0, .int 0, .int (-1), .int (-1), .int 0])), (x_paper_digits, .inl (ty 0, 6, .inl (fun _ => 0)))] sz)) (va_A [(x_paper, .inr (3, [.ref x_paper_ranks, .ref x_paper_digits, .ref x_paper_barred, .ref x_paper_pays, .ref x_paper_measuredBarred, .ref x_paper_buckets, .ref q_5, .ref q_7, .ref q_9, .ref q_1, .ref q_2, .ref q_3, .ref q_4, .int 0, .int 1, .int 0, .int 0, .int (-1), .int (-1), .int 0])), (x_paper_digits, .inl (ty 0, 6, .inl (fun _ => 0)))] sz)) 0 0 (va_A [(x_paper, .inr (3, [.ref x_paper_ranks, .ref x_paper_digits, .ref x_paper_barred, .ref x_paper_pays, .ref x_paper_measuredBarred, .ref x_paper_buckets, .ref q_5, .ref q_7, .ref q_9, .ref q_1, .ref q_2, .ref q_3, .ref q_4, .int 0, .int 1, .int 0, .int 0, .int (-1), .int (-1), .int 0])), (x_paper_digits, .inl (ty 0, 6, .inl (fun _ => 0)))] sz) := by
  refine Met.ofW (cc := cX3_setDigits) (maxL := 5) (ret := none) (by decide) rfl ?_
  intro p e s m args below meth c s₁ B hml hv
  obtain ⟨rfl, hsz, hP, hK, hD0, hN, hE⟩ := hv
  have hx := B.exec
  have hb := B.bytes
  have hr := B.returns
  have hts := atoms_spec (ws := wsX3_setDigits) B.pre
  have hown : s.vm.findClass RX3 = some m.cls := findClass_of_methodNamed B.named
  have hlocks := B.notSynchronized
  subst hsz
  have hD := hD0.self (sz := s.heap.size)
  generalize hAe : va_A [(x_paper, .inr (3, [.ref x_paper_ranks, .ref x_paper_digits, .ref x_paper_barred, .ref x_paper_pays, .ref x_paper_measuredBarred, .ref x_paper_buckets, .ref q_5, .ref q_7, .ref q_9, .ref q_1, .ref q_2, .ref q_3, .ref q_4, .int 0, .int 1, .int 0, .int 0, .int (-1), .int (-1), .int 0])), (x_paper_digits, .inl (ty 0, 6, .inl (fun _ => 0)))] s.heap.size = A at hD hE ⊢
  have hA : ∀ q : Nat, s.heap.size ≤ q → A q := fun q h => by rw [← hAe]; exact Or.inr h
  have hS : va_S A s.heap s.heap [] := va_S.rf
  have hl := lv_entry ([.ref x_paper, .int 0]) (n := 5) (Nat.le_of_ble_eq_true rfl)
  rw [lg_entry_eq]
  generalize (lg_sl ([.ref x_paper, .int 0]) ++ List.replicate (5 - (lg_sl ([.ref x_paper, .int 0])).length) Slot.unset).toArray = ls at hl ⊢
  have hl : lv_has ls 5 [(0, .ref x_paper), (1, .int 0)] := hl
  refine lv_iconst (v := 0) hx hb dX3_setDigits_0 (by decide) ?_
  refine lv_istore_n (lv' := [(2, .int 0), (0, .ref x_paper), (1, .int 0)]) hx hb dX3_setDigits_1 rfl hl (by decide) rfl (fun ls hl => ?_)
  refine lv_iload_n hx hb dX3_setDigits_2 rfl (lv_at hl 0 rfl) ?_
  refine lv_bipush (v := 6) hx hb dX3_setDigits_3 (by decide) ?_
  refine lv_icmp_ge (tgt := 79) hx hb dX3_setDigits_5 (by decide) (fun h => absurd h (by decide)) (fun _ => ?_)
  refine lv_iload_n hx hb dX3_setDigits_8 rfl (lv_at hl 0 rfl) ?_
  refine lv_iload_n hx hb dX3_setDigits_9 rfl (lv_at hl 2 rfl) ?_
  refine va_gets hx hb hE.1 hS hown (hts (.fieldLink RX3 76 "TurnedFloors$Paper" "FACTORIALS" "[I") (by decide +kernel)) (fun _ h9 => h9) dX3_setDigits_10 ?_
  refine lv_iload_n hx hb dX3_setDigits_13 rfl (lv_at hl 0 rfl) ?_
  refine va_ti (v := .int 1) hx hb hE.2.1 hS (by simp only [vp_in]; decide) rfl dX3_setDigits_14 ?_
  refine lv_idiv hx hb dX3_setDigits_15 (by decide) ?_
  refine lv_topi (fun z_1 ez_1 => ?_)
  obtain rfl : z_1 = 0 := ez_1.trans (by first | rfl | decide +kernel)
  refine lv_iload_n hx hb dX3_setDigits_16 rfl (lv_at hl 0 rfl) ?_
  refine lv_iconst (v := 1) hx hb dX3_setDigits_17 (by decide) ?_
  refine lv_iadd hx hb dX3_setDigits_18 ?_
  refine lv_topi (fun z_2 ez_2 => ?_)
  obtain rfl : z_2 = 1 := ez_2.trans (by first | rfl | decide +kernel)
  refine lv_irem hx hb dX3_setDigits_19 (by decide) ?_
  refine lv_topi (fun z_3 ez_3 => ?_)
  obtain rfl : z_3 = 0 := ez_3.trans (by first | rfl | decide +kernel)
  refine lv_isub hx hb dX3_setDigits_20 ?_
  refine lv_topi (fun z_4 ez_4 => ?_)
  obtain rfl : z_4 = 0 := ez_4.trans (by first | rfl | decide +kernel)
  refine lv_istore_n (lv' := [(3, .int 0), (2, .int 0), (0, .ref x_paper), (1, .int 0)]) hx hb dX3_setDigits_21 rfl hl (by decide) rfl (fun ls hl => ?_)
  refine lv_iconst (v := 0) hx hb dX3_setDigits_22 (by decide) ?_
  refine lv_istore (lv' := [(4, .int 0), (3, .int 0), (2, .int 0), (0, .ref x_paper), (1, .int 0)]) hx hb dX3_setDigits_23 hl (by decide) rfl (fun ls hl => ?_)
  refine lv_iload hx hb dX3_setDigits_25 (lv_at hl 0 rfl) ?_
  refine lv_iload_n hx hb dX3_setDigits_27 rfl (lv_at hl 2 rfl) ?_
  refine lv_icmp_ge (tgt := 66) hx hb dX3_setDigits_28 (by decide) (fun _ => ?_) (fun h => absurd (by decide) h)
  refine lv_aload_n hx hb dX3_setDigits_66 rfl (lv_at hl 3 rfl) ?_
  refine va_get (D := D) (ci := 3) (v := .ref x_paper_digits) (C := RX3) (T := TX3) (N := 20) hx hb hts (by decide +kernel) hown hK hP 0 rfl rfl 1 (by decide) (hts (.fieldLink RX3 15 "TurnedFloors$Paper" "digits" "[I") (by decide +kernel)) (fun _ h9 => h9) rfl dX3_setDigits_67 ?_
  refine lv_iload_n hx hb dX3_setDigits_70 rfl (lv_at hl 2 rfl) ?_
  refine lv_iload_n hx hb dX3_setDigits_71 rfl (lv_at hl 1 rfl) ?_
  refine va_iast hx hb hK hP hD hS 1 0 rfl rfl (by simp only [vp_in]; decide) dX3_setDigits_72 (fun H locs hP hD hS => ?_)
  have hP : va_P D vwCl [(x_paper, .inr (3, [.ref x_paper_ranks, .ref x_paper_digits, .ref x_paper_barred, .ref x_paper_pays, .ref x_paper_measuredBarred, .ref x_paper_buckets, .ref q_5, .ref q_7, .ref q_9, .ref q_1, .ref q_2, .ref q_3, .ref q_4, .int 0, .int 1, .int 0, .int 0, .int (-1), .int (-1), .int 0])), (x_paper_digits, .inl (ty 0, 6, .inl (upd (fun _ => 0) 0 0)))] H := hP
  have hD : va_D A [(x_paper, .inr (3, [.ref x_paper_ranks, .ref x_paper_digits, .ref x_paper_barred, .ref x_paper_pays, .ref x_paper_measuredBarred, .ref x_paper_buckets, .ref q_5, .ref q_7, .ref q_9, .ref q_1, .ref q_2, .ref q_3, .ref q_4, .int 0, .int 1, .int 0, .int 0, .int (-1), .int (-1), .int 0])), (x_paper_digits, .inl (ty 0, 6, .inl (upd (fun _ => 0) 0 0)))] := hD
  refine lv_iinc (v := 1) (lv' := [(2, .int 1), (4, .int 0), (3, .int 0), (0, .ref x_paper), (1, .int 0)]) hx hb dX3_setDigits_73 hl (k := 2) rfl (by decide) (by decide) rfl (fun ls hl => ?_)
  refine lv_goto (tgt := 2) hx hb dX3_setDigits_76 (by decide) ?_
  refine lv_iload_n hx hb dX3_setDigits_2 rfl (lv_at hl 0 rfl) ?_
  refine lv_bipush (v := 6) hx hb dX3_setDigits_3 (by decide) ?_
  refine lv_icmp_ge (tgt := 79) hx hb dX3_setDigits_5 (by decide) (fun h => absurd h (by decide)) (fun _ => ?_)
  refine lv_iload_n hx hb dX3_setDigits_8 rfl (lv_at hl 0 rfl) ?_
  refine lv_iload_n hx hb dX3_setDigits_9 rfl (lv_at hl 4 rfl) ?_
  refine va_gets hx hb hE.1 hS hown (hts (.fieldLink RX3 76 "TurnedFloors$Paper" "FACTORIALS" "[I") (by decide +kernel)) (fun _ h9 => h9) dX3_setDigits_10 ?_
  refine lv_iload_n hx hb dX3_setDigits_13 rfl (lv_at hl 0 rfl) ?_
  refine va_ti (v := .int 1) hx hb hE.2.1 hS (by simp only [vp_in]; decide) rfl dX3_setDigits_14 ?_
  refine lv_idiv hx hb dX3_setDigits_15 (by decide) ?_
  refine lv_topi (fun z_5 ez_5 => ?_)
  obtain rfl : z_5 = 0 := ez_5.trans (by first | rfl | decide +kernel)
  refine lv_iload_n hx hb dX3_setDigits_16 rfl (lv_at hl 0 rfl) ?_
  refine lv_iconst (v := 1) hx hb dX3_setDigits_17 (by decide) ?_
  refine lv_iadd hx hb dX3_setDigits_18 ?_
  refine lv_topi (fun z_6 ez_6 => ?_)
  obtain rfl : z_6 = 2 := ez_6.trans (by first | rfl | decide +kernel)
  refine lv_irem hx hb dX3_setDigits_19 (by decide) ?_
  refine lv_topi (fun z_7 ez_7 => ?_)
  obtain rfl : z_7 = 0 := ez_7.trans (by first | rfl | decide +kernel)
  refine lv_isub hx hb dX3_setDigits_20 ?_
  refine lv_topi (fun z_8 ez_8 => ?_)
  obtain rfl : z_8 = 1 := ez_8.trans (by first | rfl | decide +kernel)
  refine lv_istore_n (lv' := [(3, .int 1), (2, .int 1), (4, .int 0), (0, .ref x_paper), (1, .int 0)]) hx hb dX3_setDigits_21 rfl hl (by decide) rfl (fun ls hl => ?_)
  refine lv_iconst (v := 0) hx hb dX3_setDigits_22 (by decide) ?_
  refine lv_istore (lv' := [(4, .int 0), (3, .int 1), (2, .int 1), (0, .ref x_paper), (1, .int 0)]) hx hb dX3_setDigits_23 hl (by decide) rfl (fun ls hl => ?_)
  refine lv_iload hx hb dX3_setDigits_25 (lv_at hl 0 rfl) ?_
  refine lv_iload_n hx hb dX3_setDigits_27 rfl (lv_at hl 2 rfl) ?_
  refine lv_icmp_ge (tgt := 66) hx hb dX3_setDigits_28 (by decide) (fun h => absurd h (by decide)) (fun _ => ?_)
  refine lv_aload_n hx hb dX3_setDigits_31 rfl (lv_at hl 3 rfl) ?_
  refine va_get (D := D) (ci := 3) (v := .ref x_paper_digits) (C := RX3) (T := TX3) (N := 20) hx hb hts (by decide +kernel) hown hK hP 0 rfl rfl 1 (by decide) (hts (.fieldLink RX3 15 "TurnedFloors$Paper" "digits" "[I") (by decide +kernel)) (fun _ h9 => h9) rfl dX3_setDigits_32 ?_
  refine lv_iload hx hb dX3_setDigits_35 (lv_at hl 0 rfl) ?_
  refine lv_dup2_11 hx hb dX3_setDigits_37 rfl rfl ?_
  refine va_iald hx hb hK hP 1 0 rfl rfl (by simp only [vp_in]; decide) dX3_setDigits_38 ?_
  refine lv_topi (fun z_9 ez_9 => ?_)
  obtain rfl : z_9 = 0 := ez_9.trans (by first | rfl | decide +kernel)
  refine lv_aload_n hx hb dX3_setDigits_39 rfl (lv_at hl 3 rfl) ?_
  refine va_get (D := D) (ci := 3) (v := .ref x_paper_digits) (C := RX3) (T := TX3) (N := 20) hx hb hts (by decide +kernel) hown hK hP 0 rfl rfl 1 (by decide) (hts (.fieldLink RX3 15 "TurnedFloors$Paper" "digits" "[I") (by decide +kernel)) (fun _ h9 => h9) rfl dX3_setDigits_40 ?_
  refine lv_iload hx hb dX3_setDigits_43 (lv_at hl 0 rfl) ?_
  refine va_iald hx hb hK hP 1 0 rfl rfl (by simp only [vp_in]; decide) dX3_setDigits_45 ?_
  refine lv_topi (fun z_10 ez_10 => ?_)
  obtain rfl : z_10 = 0 := ez_10.trans (by first | rfl | decide +kernel)
  refine lv_iload_n hx hb dX3_setDigits_46 rfl (lv_at hl 1 rfl) ?_
  refine lv_icmp_lt (tgt := 54) hx hb dX3_setDigits_47 (by decide) (fun _ => ?_) (fun h => absurd (by decide) h)
  refine lv_iconst (v := 0) hx hb dX3_setDigits_54 (by decide) ?_
  refine kz_ki (wc := []) (wr := [(x_paper, .inr (3, [.ref x_paper_ranks, .ref x_paper_digits, .ref x_paper_barred, .ref x_paper_pays, .ref x_paper_measuredBarred, .ref x_paper_buckets, .ref q_5, .ref q_7, .ref q_9, .ref q_1, .ref q_2, .ref q_3, .ref q_4, .int 0, .int 1, .int 0, .int 0, .int (-1), .int (-1), .int 0])), (x_paper_digits, .inl (ty 0, 6, .inl (upd (fun _ => 0) 0 0)))]) (va_runSN (As := [.int 0]) (rest := [.int 0, .int 0, .ref x_paper_digits]) ⟨hx, hb, hml, hown, hts⟩ (kcX9_bit l D ty eo _ 0) ⟨va_cnB 1 hts gX3_setDigits_X9_bit_n133 rfl rfl rfl (hN.1 _ (by decide +kernel : (.methodLinkNest "TurnedFloors$Paper" 133 yX9_bit "TurnedFloors" : Cond) ∈ kzN1)) (hts (.initialized RX9) (by decide +kernel)) (by decide +kernel) ⟨Nat.le_of_ble_eq_true rfl, Nat.le_of_ble_eq_true rfl⟩, hts (.static yX9_bit) (by decide +kernel), trivial⟩ (kz_preS hK hN hE hP hD hS hA [] (by decide) rfl) rfl rfl hl.1 rfl (lv_room (Nat.le_of_ble_eq_true rfl)) dX3_setDigits_55 ⟨Nat.le_of_ble_eq_true rfl, Nat.le_of_ble_eq_true rfl⟩) hP hD hS hA [] [0, 1] rfl rfl (by decide) (by decide) (fun r u H locs hw hP hD hS => ?_)
  rcases hw with ⟨c_11, rfl, rfl⟩ | ⟨c_12, rfl, rfl⟩
  · have hP : va_P D vwCl [(x_paper, .inr (3, [.ref x_paper_ranks, .ref x_paper_digits, .ref x_paper_barred, .ref x_paper_pays, .ref x_paper_measuredBarred, .ref x_paper_buckets, .ref q_5, .ref q_7, .ref q_9, .ref q_1, .ref q_2, .ref q_3, .ref q_4, .int 0, .int 1, .int 0, .int 0, .int (-1), .int (-1), .int 0])), (x_paper_digits, .inl (ty 0, 6, .inl (upd (fun _ => 0) 0 0)))] H := hP
    have hD : va_D A [(x_paper, .inr (3, [.ref x_paper_ranks, .ref x_paper_digits, .ref x_paper_barred, .ref x_paper_pays, .ref x_paper_measuredBarred, .ref x_paper_buckets, .ref q_5, .ref q_7, .ref q_9, .ref q_1, .ref q_2, .ref q_3, .ref q_4, .int 0, .int 1, .int 0, .int 0, .int (-1), .int (-1), .int 0])), (x_paper_digits, .inl (ty 0, 6, .inl (upd (fun _ => 0) 0 0)))] := hD
    refine lv_iadd hx hb dX3_setDigits_58 ?_
    refine lv_topi (fun z_13 ez_13 => ?_)
    obtain rfl : z_13 = 0 := ez_13.trans (by first | rfl | decide +kernel)
    refine va_iast hx hb hK hP hD hS 1 0 rfl rfl (by simp only [vp_in]; decide) dX3_setDigits_59 (fun H locs hP hD hS => ?_)
    have hP : va_P D vwCl [(x_paper, .inr (3, [.ref x_paper_ranks, .ref x_paper_digits, .ref x_paper_barred, .ref x_paper_pays, .ref x_paper_measuredBarred, .ref x_paper_buckets, .ref q_5, .ref q_7, .ref q_9, .ref q_1, .ref q_2, .ref q_3, .ref q_4, .int 0, .int 1, .int 0, .int 0, .int (-1), .int (-1), .int 0])), (x_paper_digits, .inl (ty 0, 6, .inl (upd (upd (fun _ => 0) 0 0) 0 0)))] H := hP
    have hD : va_D A [(x_paper, .inr (3, [.ref x_paper_ranks, .ref x_paper_digits, .ref x_paper_barred, .ref x_paper_pays, .ref x_paper_measuredBarred, .ref x_paper_buckets, .ref q_5, .ref q_7, .ref q_9, .ref q_1, .ref q_2, .ref q_3, .ref q_4, .int 0, .int 1, .int 0, .int 0, .int (-1), .int (-1), .int 0])), (x_paper_digits, .inl (ty 0, 6, .inl (upd (upd (fun _ => 0) 0 0) 0 0)))] := hD
    refine lv_iinc (v := 1) (lv' := [(4, .int 1), (3, .int 1), (2, .int 1), (0, .ref x_paper), (1, .int 0)]) hx hb dX3_setDigits_60 hl (k := 0) rfl (by decide) (by decide) rfl (fun ls hl => ?_)
    refine lv_goto (tgt := 25) hx hb dX3_setDigits_63 (by decide) ?_
    refine lv_iload hx hb dX3_setDigits_25 (lv_at hl 0 rfl) ?_
    refine lv_iload_n hx hb dX3_setDigits_27 rfl (lv_at hl 2 rfl) ?_
    refine lv_icmp_ge (tgt := 66) hx hb dX3_setDigits_28 (by decide) (fun _ => ?_) (fun h => absurd (by decide) h)
    refine lv_aload_n hx hb dX3_setDigits_66 rfl (lv_at hl 3 rfl) ?_
    refine va_get (D := D) (ci := 3) (v := .ref x_paper_digits) (C := RX3) (T := TX3) (N := 20) hx hb hts (by decide +kernel) hown hK hP 0 rfl rfl 1 (by decide) (hts (.fieldLink RX3 15 "TurnedFloors$Paper" "digits" "[I") (by decide +kernel)) (fun _ h9 => h9) rfl dX3_setDigits_67 ?_
    refine lv_iload_n hx hb dX3_setDigits_70 rfl (lv_at hl 2 rfl) ?_
    refine lv_iload_n hx hb dX3_setDigits_71 rfl (lv_at hl 1 rfl) ?_
    refine va_iast hx hb hK hP hD hS 1 0 rfl rfl (by simp only [vp_in]; decide) dX3_setDigits_72 (fun H locs hP hD hS => ?_)
    have hP : va_P D vwCl [(x_paper, .inr (3, [.ref x_paper_ranks, .ref x_paper_digits, .ref x_paper_barred, .ref x_paper_pays, .ref x_paper_measuredBarred, .ref x_paper_buckets, .ref q_5, .ref q_7, .ref q_9, .ref q_1, .ref q_2, .ref q_3, .ref q_4, .int 0, .int 1, .int 0, .int 0, .int (-1), .int (-1), .int 0])), (x_paper_digits, .inl (ty 0, 6, .inl (upd (upd (upd (fun _ => 0) 0 0) 0 0) 1 1)))] H := hP
    have hD : va_D A [(x_paper, .inr (3, [.ref x_paper_ranks, .ref x_paper_digits, .ref x_paper_barred, .ref x_paper_pays, .ref x_paper_measuredBarred, .ref x_paper_buckets, .ref q_5, .ref q_7, .ref q_9, .ref q_1, .ref q_2, .ref q_3, .ref q_4, .int 0, .int 1, .int 0, .int 0, .int (-1), .int (-1), .int 0])), (x_paper_digits, .inl (ty 0, 6, .inl (upd (upd (upd (fun _ => 0) 0 0) 0 0) 1 1)))] := hD
    refine lv_iinc (v := 2) (lv' := [(2, .int 2), (4, .int 1), (3, .int 1), (0, .ref x_paper), (1, .int 0)]) hx hb dX3_setDigits_73 hl (k := 2) rfl (by decide) (by decide) rfl (fun ls hl => ?_)
    refine lv_goto (tgt := 2) hx hb dX3_setDigits_76 (by decide) ?_
    refine lv_iload_n hx hb dX3_setDigits_2 rfl (lv_at hl 0 rfl) ?_
    refine lv_bipush (v := 6) hx hb dX3_setDigits_3 (by decide) ?_
    refine lv_icmp_ge (tgt := 79) hx hb dX3_setDigits_5 (by decide) (fun h => absurd h (by decide)) (fun _ => ?_)
    refine lv_iload_n hx hb dX3_setDigits_8 rfl (lv_at hl 0 rfl) ?_
    refine lv_iload_n hx hb dX3_setDigits_9 rfl (lv_at hl 4 rfl) ?_
    refine va_gets hx hb hE.1 hS hown (hts (.fieldLink RX3 76 "TurnedFloors$Paper" "FACTORIALS" "[I") (by decide +kernel)) (fun _ h9 => h9) dX3_setDigits_10 ?_
    refine lv_iload_n hx hb dX3_setDigits_13 rfl (lv_at hl 0 rfl) ?_
    refine va_ti (v := .int 2) hx hb hE.2.1 hS (by simp only [vp_in]; decide) rfl dX3_setDigits_14 ?_
    refine lv_idiv hx hb dX3_setDigits_15 (by decide) ?_
    refine lv_topi (fun z_14 ez_14 => ?_)
    obtain rfl : z_14 = 0 := ez_14.trans (by first | rfl | decide +kernel)
    refine lv_iload_n hx hb dX3_setDigits_16 rfl (lv_at hl 0 rfl) ?_
    refine lv_iconst (v := 1) hx hb dX3_setDigits_17 (by decide) ?_
    refine lv_iadd hx hb dX3_setDigits_18 ?_
    refine lv_topi (fun z_15 ez_15 => ?_)
    obtain rfl : z_15 = 3 := ez_15.trans (by first | rfl | decide +kernel)
    refine lv_irem hx hb dX3_setDigits_19 (by decide) ?_
    refine lv_topi (fun z_16 ez_16 => ?_)
    obtain rfl : z_16 = 0 := ez_16.trans (by first | rfl | decide +kernel)
    refine lv_isub hx hb dX3_setDigits_20 ?_
    refine lv_topi (fun z_17 ez_17 => ?_)
    obtain rfl : z_17 = 2 := ez_17.trans (by first | rfl | decide +kernel)
    refine lv_istore_n (lv' := [(3, .int 2), (2, .int 2), (4, .int 1), (0, .ref x_paper), (1, .int 0)]) hx hb dX3_setDigits_21 rfl hl (by decide) rfl (fun ls hl => ?_)
    refine lv_iconst (v := 0) hx hb dX3_setDigits_22 (by decide) ?_
    refine lv_istore (lv' := [(4, .int 0), (3, .int 2), (2, .int 2), (0, .ref x_paper), (1, .int 0)]) hx hb dX3_setDigits_23 hl (by decide) rfl (fun ls hl => ?_)
    refine lv_iload hx hb dX3_setDigits_25 (lv_at hl 0 rfl) ?_
    refine lv_iload_n hx hb dX3_setDigits_27 rfl (lv_at hl 2 rfl) ?_
    refine lv_icmp_ge (tgt := 66) hx hb dX3_setDigits_28 (by decide) (fun h => absurd h (by decide)) (fun _ => ?_)
    refine lv_aload_n hx hb dX3_setDigits_31 rfl (lv_at hl 3 rfl) ?_
    refine va_get (D := D) (ci := 3) (v := .ref x_paper_digits) (C := RX3) (T := TX3) (N := 20) hx hb hts (by decide +kernel) hown hK hP 0 rfl rfl 1 (by decide) (hts (.fieldLink RX3 15 "TurnedFloors$Paper" "digits" "[I") (by decide +kernel)) (fun _ h9 => h9) rfl dX3_setDigits_32 ?_
    refine lv_iload hx hb dX3_setDigits_35 (lv_at hl 0 rfl) ?_
    refine lv_dup2_11 hx hb dX3_setDigits_37 rfl rfl ?_
    refine va_iald hx hb hK hP 1 0 rfl rfl (by simp only [vp_in]; decide) dX3_setDigits_38 ?_
    refine lv_topi (fun z_18 ez_18 => ?_)
    obtain rfl : z_18 = 0 := ez_18.trans (by first | rfl | decide +kernel)
    refine lv_aload_n hx hb dX3_setDigits_39 rfl (lv_at hl 3 rfl) ?_
    refine va_get (D := D) (ci := 3) (v := .ref x_paper_digits) (C := RX3) (T := TX3) (N := 20) hx hb hts (by decide +kernel) hown hK hP 0 rfl rfl 1 (by decide) (hts (.fieldLink RX3 15 "TurnedFloors$Paper" "digits" "[I") (by decide +kernel)) (fun _ h9 => h9) rfl dX3_setDigits_40 ?_
    refine lv_iload hx hb dX3_setDigits_43 (lv_at hl 0 rfl) ?_
    refine va_iald hx hb hK hP 1 0 rfl rfl (by simp only [vp_in]; decide) dX3_setDigits_45 ?_
    refine lv_topi (fun z_19 ez_19 => ?_)
    obtain rfl : z_19 = 0 := ez_19.trans (by first | rfl | decide +kernel)
    refine lv_iload_n hx hb dX3_setDigits_46 rfl (lv_at hl 1 rfl) ?_
    refine lv_icmp_lt (tgt := 54) hx hb dX3_setDigits_47 (by decide) (fun _ => ?_) (fun h => absurd (by decide) h)
    refine lv_iconst (v := 0) hx hb dX3_setDigits_54 (by decide) ?_
    refine kz_ki (wc := []) (wr := [(x_paper, .inr (3, [.ref x_paper_ranks, .ref x_paper_digits, .ref x_paper_barred, .ref x_paper_pays, .ref x_paper_measuredBarred, .ref x_paper_buckets, .ref q_5, .ref q_7, .ref q_9, .ref q_1, .ref q_2, .ref q_3, .ref q_4, .int 0, .int 1, .int 0, .int 0, .int (-1), .int (-1), .int 0])), (x_paper_digits, .inl (ty 0, 6, .inl (upd (upd (upd (fun _ => 0) 0 0) 0 0) 1 1)))]) (va_runSN (As := [.int 0]) (rest := [.int 0, .int 0, .ref x_paper_digits]) ⟨hx, hb, hml, hown, hts⟩ (kcX9_bit l D ty eo _ 0) ⟨va_cnB 1 hts gX3_setDigits_X9_bit_n133 rfl rfl rfl (hN.1 _ (by decide +kernel : (.methodLinkNest "TurnedFloors$Paper" 133 yX9_bit "TurnedFloors" : Cond) ∈ kzN1)) (hts (.initialized RX9) (by decide +kernel)) (by decide +kernel) ⟨Nat.le_of_ble_eq_true rfl, Nat.le_of_ble_eq_true rfl⟩, hts (.static yX9_bit) (by decide +kernel), trivial⟩ (kz_preS hK hN hE hP hD hS hA [] (by decide) rfl) rfl rfl hl.1 rfl (lv_room (Nat.le_of_ble_eq_true rfl)) dX3_setDigits_55 ⟨Nat.le_of_ble_eq_true rfl, Nat.le_of_ble_eq_true rfl⟩) hP hD hS hA [] [0, 1] rfl rfl (by decide) (by decide) (fun r u H locs hw hP hD hS => ?_)
    rcases hw with ⟨c_20, rfl, rfl⟩ | ⟨c_21, rfl, rfl⟩
    · have hP : va_P D vwCl [(x_paper, .inr (3, [.ref x_paper_ranks, .ref x_paper_digits, .ref x_paper_barred, .ref x_paper_pays, .ref x_paper_measuredBarred, .ref x_paper_buckets, .ref q_5, .ref q_7, .ref q_9, .ref q_1, .ref q_2, .ref q_3, .ref q_4, .int 0, .int 1, .int 0, .int 0, .int (-1), .int (-1), .int 0])), (x_paper_digits, .inl (ty 0, 6, .inl (upd (upd (upd (fun _ => 0) 0 0) 0 0) 1 1)))] H := hP
      have hD : va_D A [(x_paper, .inr (3, [.ref x_paper_ranks, .ref x_paper_digits, .ref x_paper_barred, .ref x_paper_pays, .ref x_paper_measuredBarred, .ref x_paper_buckets, .ref q_5, .ref q_7, .ref q_9, .ref q_1, .ref q_2, .ref q_3, .ref q_4, .int 0, .int 1, .int 0, .int 0, .int (-1), .int (-1), .int 0])), (x_paper_digits, .inl (ty 0, 6, .inl (upd (upd (upd (fun _ => 0) 0 0) 0 0) 1 1)))] := hD
      refine lv_iadd hx hb dX3_setDigits_58 ?_
      refine lv_topi (fun z_22 ez_22 => ?_)
      obtain rfl : z_22 = 0 := ez_22.trans (by first | rfl | decide +kernel)
      refine va_iast hx hb hK hP hD hS 1 0 rfl rfl (by simp only [vp_in]; decide) dX3_setDigits_59 (fun H locs hP hD hS => ?_)
      have hP : va_P D vwCl [(x_paper, .inr (3, [.ref x_paper_ranks, .ref x_paper_digits, .ref x_paper_barred, .ref x_paper_pays, .ref x_paper_measuredBarred, .ref x_paper_buckets, .ref q_5, .ref q_7, .ref q_9, .ref q_1, .ref q_2, .ref q_3, .ref q_4, .int 0, .int 1, .int 0, .int 0, .int (-1), .int (-1), .int 0])), (x_paper_digits, .inl (ty 0, 6, .inl (upd (upd (upd (upd (fun _ => 0) 0 0) 0 0) 1 1) 0 0)))] H := hP
      have hD : va_D A [(x_paper, .inr (3, [.ref x_paper_ranks, .ref x_paper_digits, .ref x_paper_barred, .ref x_paper_pays, .ref x_paper_measuredBarred, .ref x_paper_buckets, .ref q_5, .ref q_7, .ref q_9, .ref q_1, .ref q_2, .ref q_3, .ref q_4, .int 0, .int 1, .int 0, .int 0, .int (-1), .int (-1), .int 0])), (x_paper_digits, .inl (ty 0, 6, .inl (upd (upd (upd (upd (fun _ => 0) 0 0) 0 0) 1 1) 0 0)))] := hD
      refine lv_iinc (v := 1) (lv' := [(4, .int 1), (3, .int 2), (2, .int 2), (0, .ref x_paper), (1, .int 0)]) hx hb dX3_setDigits_60 hl (k := 0) rfl (by decide) (by decide) rfl (fun ls hl => ?_)
      refine lv_goto (tgt := 25) hx hb dX3_setDigits_63 (by decide) ?_
      refine lv_iload hx hb dX3_setDigits_25 (lv_at hl 0 rfl) ?_
      refine lv_iload_n hx hb dX3_setDigits_27 rfl (lv_at hl 2 rfl) ?_
      refine lv_icmp_ge (tgt := 66) hx hb dX3_setDigits_28 (by decide) (fun h => absurd h (by decide)) (fun _ => ?_)
      refine lv_aload_n hx hb dX3_setDigits_31 rfl (lv_at hl 3 rfl) ?_
      refine va_get (D := D) (ci := 3) (v := .ref x_paper_digits) (C := RX3) (T := TX3) (N := 20) hx hb hts (by decide +kernel) hown hK hP 0 rfl rfl 1 (by decide) (hts (.fieldLink RX3 15 "TurnedFloors$Paper" "digits" "[I") (by decide +kernel)) (fun _ h9 => h9) rfl dX3_setDigits_32 ?_
      refine lv_iload hx hb dX3_setDigits_35 (lv_at hl 0 rfl) ?_
      refine lv_dup2_11 hx hb dX3_setDigits_37 rfl rfl ?_
      refine va_iald hx hb hK hP 1 0 rfl rfl (by simp only [vp_in]; decide) dX3_setDigits_38 ?_
      refine lv_topi (fun z_23 ez_23 => ?_)
      obtain rfl : z_23 = 1 := ez_23.trans (by first | rfl | decide +kernel)
      refine lv_aload_n hx hb dX3_setDigits_39 rfl (lv_at hl 3 rfl) ?_
      refine va_get (D := D) (ci := 3) (v := .ref x_paper_digits) (C := RX3) (T := TX3) (N := 20) hx hb hts (by decide +kernel) hown hK hP 0 rfl rfl 1 (by decide) (hts (.fieldLink RX3 15 "TurnedFloors$Paper" "digits" "[I") (by decide +kernel)) (fun _ h9 => h9) rfl dX3_setDigits_40 ?_
      refine lv_iload hx hb dX3_setDigits_43 (lv_at hl 0 rfl) ?_
      refine va_iald hx hb hK hP 1 0 rfl rfl (by simp only [vp_in]; decide) dX3_setDigits_45 ?_
      refine lv_topi (fun z_24 ez_24 => ?_)
      obtain rfl : z_24 = 1 := ez_24.trans (by first | rfl | decide +kernel)
      refine lv_iload_n hx hb dX3_setDigits_46 rfl (lv_at hl 1 rfl) ?_
      refine lv_icmp_lt (tgt := 54) hx hb dX3_setDigits_47 (by decide) (fun _ => ?_) (fun h => absurd (by decide) h)
      refine lv_iconst (v := 0) hx hb dX3_setDigits_54 (by decide) ?_
      refine kz_ki (wc := []) (wr := [(x_paper, .inr (3, [.ref x_paper_ranks, .ref x_paper_digits, .ref x_paper_barred, .ref x_paper_pays, .ref x_paper_measuredBarred, .ref x_paper_buckets, .ref q_5, .ref q_7, .ref q_9, .ref q_1, .ref q_2, .ref q_3, .ref q_4, .int 0, .int 1, .int 0, .int 0, .int (-1), .int (-1), .int 0])), (x_paper_digits, .inl (ty 0, 6, .inl (upd (upd (upd (upd (fun _ => 0) 0 0) 0 0) 1 1) 0 0)))]) (va_runSN (As := [.int 0]) (rest := [.int 1, .int 1, .ref x_paper_digits]) ⟨hx, hb, hml, hown, hts⟩ (kcX9_bit l D ty eo _ 0) ⟨va_cnB 1 hts gX3_setDigits_X9_bit_n133 rfl rfl rfl (hN.1 _ (by decide +kernel : (.methodLinkNest "TurnedFloors$Paper" 133 yX9_bit "TurnedFloors" : Cond) ∈ kzN1)) (hts (.initialized RX9) (by decide +kernel)) (by decide +kernel) ⟨Nat.le_of_ble_eq_true rfl, Nat.le_of_ble_eq_true rfl⟩, hts (.static yX9_bit) (by decide +kernel), trivial⟩ (kz_preS hK hN hE hP hD hS hA [] (by decide) rfl) rfl rfl hl.1 rfl (lv_room (Nat.le_of_ble_eq_true rfl)) dX3_setDigits_55 ⟨Nat.le_of_ble_eq_true rfl, Nat.le_of_ble_eq_true rfl⟩) hP hD hS hA [] [0, 1] rfl rfl (by decide) (by decide) (fun r u H locs hw hP hD hS => ?_)
      rcases hw with ⟨c_25, rfl, rfl⟩ | ⟨c_26, rfl, rfl⟩
      · have hP : va_P D vwCl [(x_paper, .inr (3, [.ref x_paper_ranks, .ref x_paper_digits, .ref x_paper_barred, .ref x_paper_pays, .ref x_paper_measuredBarred, .ref x_paper_buckets, .ref q_5, .ref q_7, .ref q_9, .ref q_1, .ref q_2, .ref q_3, .ref q_4, .int 0, .int 1, .int 0, .int 0, .int (-1), .int (-1), .int 0])), (x_paper_digits, .inl (ty 0, 6, .inl (upd (upd (upd (upd (fun _ => 0) 0 0) 0 0) 1 1) 0 0)))] H := hP
        have hD : va_D A [(x_paper, .inr (3, [.ref x_paper_ranks, .ref x_paper_digits, .ref x_paper_barred, .ref x_paper_pays, .ref x_paper_measuredBarred, .ref x_paper_buckets, .ref q_5, .ref q_7, .ref q_9, .ref q_1, .ref q_2, .ref q_3, .ref q_4, .int 0, .int 1, .int 0, .int 0, .int (-1), .int (-1), .int 0])), (x_paper_digits, .inl (ty 0, 6, .inl (upd (upd (upd (upd (fun _ => 0) 0 0) 0 0) 1 1) 0 0)))] := hD
        refine lv_iadd hx hb dX3_setDigits_58 ?_
        refine lv_topi (fun z_27 ez_27 => ?_)
        obtain rfl : z_27 = 1 := ez_27.trans (by first | rfl | decide +kernel)
        refine va_iast hx hb hK hP hD hS 1 0 rfl rfl (by simp only [vp_in]; decide) dX3_setDigits_59 (fun H locs hP hD hS => ?_)
        have hP : va_P D vwCl [(x_paper, .inr (3, [.ref x_paper_ranks, .ref x_paper_digits, .ref x_paper_barred, .ref x_paper_pays, .ref x_paper_measuredBarred, .ref x_paper_buckets, .ref q_5, .ref q_7, .ref q_9, .ref q_1, .ref q_2, .ref q_3, .ref q_4, .int 0, .int 1, .int 0, .int 0, .int (-1), .int (-1), .int 0])), (x_paper_digits, .inl (ty 0, 6, .inl (upd (upd (upd (upd (upd (fun _ => 0) 0 0) 0 0) 1 1) 0 0) 1 1)))] H := hP
        have hD : va_D A [(x_paper, .inr (3, [.ref x_paper_ranks, .ref x_paper_digits, .ref x_paper_barred, .ref x_paper_pays, .ref x_paper_measuredBarred, .ref x_paper_buckets, .ref q_5, .ref q_7, .ref q_9, .ref q_1, .ref q_2, .ref q_3, .ref q_4, .int 0, .int 1, .int 0, .int 0, .int (-1), .int (-1), .int 0])), (x_paper_digits, .inl (ty 0, 6, .inl (upd (upd (upd (upd (upd (fun _ => 0) 0 0) 0 0) 1 1) 0 0) 1 1)))] := hD
        refine lv_iinc (v := 2) (lv' := [(4, .int 2), (3, .int 2), (2, .int 2), (0, .ref x_paper), (1, .int 0)]) hx hb dX3_setDigits_60 hl (k := 0) rfl (by decide) (by decide) rfl (fun ls hl => ?_)
        refine lv_goto (tgt := 25) hx hb dX3_setDigits_63 (by decide) ?_
        refine lv_iload hx hb dX3_setDigits_25 (lv_at hl 0 rfl) ?_
        refine lv_iload_n hx hb dX3_setDigits_27 rfl (lv_at hl 2 rfl) ?_
        refine lv_icmp_ge (tgt := 66) hx hb dX3_setDigits_28 (by decide) (fun _ => ?_) (fun h => absurd (by decide) h)
        refine lv_aload_n hx hb dX3_setDigits_66 rfl (lv_at hl 3 rfl) ?_
        refine va_get (D := D) (ci := 3) (v := .ref x_paper_digits) (C := RX3) (T := TX3) (N := 20) hx hb hts (by decide +kernel) hown hK hP 0 rfl rfl 1 (by decide) (hts (.fieldLink RX3 15 "TurnedFloors$Paper" "digits" "[I") (by decide +kernel)) (fun _ h9 => h9) rfl dX3_setDigits_67 ?_
        refine lv_iload_n hx hb dX3_setDigits_70 rfl (lv_at hl 2 rfl) ?_
        refine lv_iload_n hx hb dX3_setDigits_71 rfl (lv_at hl 1 rfl) ?_
        refine va_iast hx hb hK hP hD hS 1 0 rfl rfl (by simp only [vp_in]; decide) dX3_setDigits_72 (fun H locs hP hD hS => ?_)
        have hP : va_P D vwCl [(x_paper, .inr (3, [.ref x_paper_ranks, .ref x_paper_digits, .ref x_paper_barred, .ref x_paper_pays, .ref x_paper_measuredBarred, .ref x_paper_buckets, .ref q_5, .ref q_7, .ref q_9, .ref q_1, .ref q_2, .ref q_3, .ref q_4, .int 0, .int 1, .int 0, .int 0, .int (-1), .int (-1), .int 0])), (x_paper_digits, .inl (ty 0, 6, .inl (upd (upd (upd (upd (upd (upd (fun _ => 0) 0 0) 0 0) 1 1) 0 0) 1 1) 2 2)))] H := hP
        have hD : va_D A [(x_paper, .inr (3, [.ref x_paper_ranks, .ref x_paper_digits, .ref x_paper_barred, .ref x_paper_pays, .ref x_paper_measuredBarred, .ref x_paper_buckets, .ref q_5, .ref q_7, .ref q_9, .ref q_1, .ref q_2, .ref q_3, .ref q_4, .int 0, .int 1, .int 0, .int 0, .int (-1), .int (-1), .int 0])), (x_paper_digits, .inl (ty 0, 6, .inl (upd (upd (upd (upd (upd (upd (fun _ => 0) 0 0) 0 0) 1 1) 0 0) 1 1) 2 2)))] := hD
        refine lv_iinc (v := 3) (lv' := [(2, .int 3), (4, .int 2), (3, .int 2), (0, .ref x_paper), (1, .int 0)]) hx hb dX3_setDigits_73 hl (k := 2) rfl (by decide) (by decide) rfl (fun ls hl => ?_)
        refine lv_goto (tgt := 2) hx hb dX3_setDigits_76 (by decide) ?_
        refine lv_iload_n hx hb dX3_setDigits_2 rfl (lv_at hl 0 rfl) ?_
        refine lv_bipush (v := 6) hx hb dX3_setDigits_3 (by decide) ?_
        refine lv_icmp_ge (tgt := 79) hx hb dX3_setDigits_5 (by decide) (fun h => absurd h (by decide)) (fun _ => ?_)
        refine lv_iload_n hx hb dX3_setDigits_8 rfl (lv_at hl 0 rfl) ?_
        refine lv_iload_n hx hb dX3_setDigits_9 rfl (lv_at hl 4 rfl) ?_
        refine va_gets hx hb hE.1 hS hown (hts (.fieldLink RX3 76 "TurnedFloors$Paper" "FACTORIALS" "[I") (by decide +kernel)) (fun _ h9 => h9) dX3_setDigits_10 ?_
        refine lv_iload_n hx hb dX3_setDigits_13 rfl (lv_at hl 0 rfl) ?_
        refine va_ti (v := .int 6) hx hb hE.2.1 hS (by simp only [vp_in]; decide) rfl dX3_setDigits_14 ?_
        refine lv_idiv hx hb dX3_setDigits_15 (by decide) ?_
        refine lv_topi (fun z_28 ez_28 => ?_)
        obtain rfl : z_28 = 0 := ez_28.trans (by first | rfl | decide +kernel)
        refine lv_iload_n hx hb dX3_setDigits_16 rfl (lv_at hl 0 rfl) ?_
        refine lv_iconst (v := 1) hx hb dX3_setDigits_17 (by decide) ?_
        refine lv_iadd hx hb dX3_setDigits_18 ?_
        refine lv_topi (fun z_29 ez_29 => ?_)
        obtain rfl : z_29 = 4 := ez_29.trans (by first | rfl | decide +kernel)
        refine lv_irem hx hb dX3_setDigits_19 (by decide) ?_
        refine lv_topi (fun z_30 ez_30 => ?_)
        obtain rfl : z_30 = 0 := ez_30.trans (by first | rfl | decide +kernel)
        refine lv_isub hx hb dX3_setDigits_20 ?_
        refine lv_topi (fun z_31 ez_31 => ?_)
        obtain rfl : z_31 = 3 := ez_31.trans (by first | rfl | decide +kernel)
        refine lv_istore_n (lv' := [(3, .int 3), (2, .int 3), (4, .int 2), (0, .ref x_paper), (1, .int 0)]) hx hb dX3_setDigits_21 rfl hl (by decide) rfl (fun ls hl => ?_)
        refine lv_iconst (v := 0) hx hb dX3_setDigits_22 (by decide) ?_
        refine lv_istore (lv' := [(4, .int 0), (3, .int 3), (2, .int 3), (0, .ref x_paper), (1, .int 0)]) hx hb dX3_setDigits_23 hl (by decide) rfl (fun ls hl => ?_)
        refine lv_iload hx hb dX3_setDigits_25 (lv_at hl 0 rfl) ?_
        refine lv_iload_n hx hb dX3_setDigits_27 rfl (lv_at hl 2 rfl) ?_
        refine lv_icmp_ge (tgt := 66) hx hb dX3_setDigits_28 (by decide) (fun h => absurd h (by decide)) (fun _ => ?_)
        refine lv_aload_n hx hb dX3_setDigits_31 rfl (lv_at hl 3 rfl) ?_
        refine va_get (D := D) (ci := 3) (v := .ref x_paper_digits) (C := RX3) (T := TX3) (N := 20) hx hb hts (by decide +kernel) hown hK hP 0 rfl rfl 1 (by decide) (hts (.fieldLink RX3 15 "TurnedFloors$Paper" "digits" "[I") (by decide +kernel)) (fun _ h9 => h9) rfl dX3_setDigits_32 ?_
        refine lv_iload hx hb dX3_setDigits_35 (lv_at hl 0 rfl) ?_
        refine lv_dup2_11 hx hb dX3_setDigits_37 rfl rfl ?_
        refine va_iald hx hb hK hP 1 0 rfl rfl (by simp only [vp_in]; decide) dX3_setDigits_38 ?_
        refine lv_topi (fun z_32 ez_32 => ?_)
        obtain rfl : z_32 = 0 := ez_32.trans (by first | rfl | decide +kernel)
        refine lv_aload_n hx hb dX3_setDigits_39 rfl (lv_at hl 3 rfl) ?_
        refine va_get (D := D) (ci := 3) (v := .ref x_paper_digits) (C := RX3) (T := TX3) (N := 20) hx hb hts (by decide +kernel) hown hK hP 0 rfl rfl 1 (by decide) (hts (.fieldLink RX3 15 "TurnedFloors$Paper" "digits" "[I") (by decide +kernel)) (fun _ h9 => h9) rfl dX3_setDigits_40 ?_
        refine lv_iload hx hb dX3_setDigits_43 (lv_at hl 0 rfl) ?_
        refine va_iald hx hb hK hP 1 0 rfl rfl (by simp only [vp_in]; decide) dX3_setDigits_45 ?_
        refine lv_topi (fun z_33 ez_33 => ?_)
        obtain rfl : z_33 = 0 := ez_33.trans (by first | rfl | decide +kernel)
        refine lv_iload_n hx hb dX3_setDigits_46 rfl (lv_at hl 1 rfl) ?_
        refine lv_icmp_lt (tgt := 54) hx hb dX3_setDigits_47 (by decide) (fun _ => ?_) (fun h => absurd (by decide) h)
        refine lv_iconst (v := 0) hx hb dX3_setDigits_54 (by decide) ?_
        refine kz_ki (wc := []) (wr := [(x_paper, .inr (3, [.ref x_paper_ranks, .ref x_paper_digits, .ref x_paper_barred, .ref x_paper_pays, .ref x_paper_measuredBarred, .ref x_paper_buckets, .ref q_5, .ref q_7, .ref q_9, .ref q_1, .ref q_2, .ref q_3, .ref q_4, .int 0, .int 1, .int 0, .int 0, .int (-1), .int (-1), .int 0])), (x_paper_digits, .inl (ty 0, 6, .inl (upd (upd (upd (upd (upd (upd (fun _ => 0) 0 0) 0 0) 1 1) 0 0) 1 1) 2 2)))]) (va_runSN (As := [.int 0]) (rest := [.int 0, .int 0, .ref x_paper_digits]) ⟨hx, hb, hml, hown, hts⟩ (kcX9_bit l D ty eo _ 0) ⟨va_cnB 1 hts gX3_setDigits_X9_bit_n133 rfl rfl rfl (hN.1 _ (by decide +kernel : (.methodLinkNest "TurnedFloors$Paper" 133 yX9_bit "TurnedFloors" : Cond) ∈ kzN1)) (hts (.initialized RX9) (by decide +kernel)) (by decide +kernel) ⟨Nat.le_of_ble_eq_true rfl, Nat.le_of_ble_eq_true rfl⟩, hts (.static yX9_bit) (by decide +kernel), trivial⟩ (kz_preS hK hN hE hP hD hS hA [] (by decide) rfl) rfl rfl hl.1 rfl (lv_room (Nat.le_of_ble_eq_true rfl)) dX3_setDigits_55 ⟨Nat.le_of_ble_eq_true rfl, Nat.le_of_ble_eq_true rfl⟩) hP hD hS hA [] [0, 1] rfl rfl (by decide) (by decide) (fun r u H locs hw hP hD hS => ?_)
        rcases hw with ⟨c_34, rfl, rfl⟩ | ⟨c_35, rfl, rfl⟩
        · have hP : va_P D vwCl [(x_paper, .inr (3, [.ref x_paper_ranks, .ref x_paper_digits, .ref x_paper_barred, .ref x_paper_pays, .ref x_paper_measuredBarred, .ref x_paper_buckets, .ref q_5, .ref q_7, .ref q_9, .ref q_1, .ref q_2, .ref q_3, .ref q_4, .int 0, .int 1, .int 0, .int 0, .int (-1), .int (-1), .int 0])), (x_paper_digits, .inl (ty 0, 6, .inl (upd (upd (upd (upd (upd (upd (fun _ => 0) 0 0) 0 0) 1 1) 0 0) 1 1) 2 2)))] H := hP
          have hD : va_D A [(x_paper, .inr (3, [.ref x_paper_ranks, .ref x_paper_digits, .ref x_paper_barred, .ref x_paper_pays, .ref x_paper_measuredBarred, .ref x_paper_buckets, .ref q_5, .ref q_7, .ref q_9, .ref q_1, .ref q_2, .ref q_3, .ref q_4, .int 0, .int 1, .int 0, .int 0, .int (-1), .int (-1), .int 0])), (x_paper_digits, .inl (ty 0, 6, .inl (upd (upd (upd (upd (upd (upd (fun _ => 0) 0 0) 0 0) 1 1) 0 0) 1 1) 2 2)))] := hD
          refine lv_iadd hx hb dX3_setDigits_58 ?_
          refine lv_topi (fun z_36 ez_36 => ?_)
          obtain rfl : z_36 = 0 := ez_36.trans (by first | rfl | decide +kernel)
          refine va_iast hx hb hK hP hD hS 1 0 rfl rfl (by simp only [vp_in]; decide) dX3_setDigits_59 (fun H locs hP hD hS => ?_)
          have hP : va_P D vwCl [(x_paper, .inr (3, [.ref x_paper_ranks, .ref x_paper_digits, .ref x_paper_barred, .ref x_paper_pays, .ref x_paper_measuredBarred, .ref x_paper_buckets, .ref q_5, .ref q_7, .ref q_9, .ref q_1, .ref q_2, .ref q_3, .ref q_4, .int 0, .int 1, .int 0, .int 0, .int (-1), .int (-1), .int 0])), (x_paper_digits, .inl (ty 0, 6, .inl (upd (upd (upd (upd (upd (upd (upd (fun _ => 0) 0 0) 0 0) 1 1) 0 0) 1 1) 2 2) 0 0)))] H := hP
          have hD : va_D A [(x_paper, .inr (3, [.ref x_paper_ranks, .ref x_paper_digits, .ref x_paper_barred, .ref x_paper_pays, .ref x_paper_measuredBarred, .ref x_paper_buckets, .ref q_5, .ref q_7, .ref q_9, .ref q_1, .ref q_2, .ref q_3, .ref q_4, .int 0, .int 1, .int 0, .int 0, .int (-1), .int (-1), .int 0])), (x_paper_digits, .inl (ty 0, 6, .inl (upd (upd (upd (upd (upd (upd (upd (fun _ => 0) 0 0) 0 0) 1 1) 0 0) 1 1) 2 2) 0 0)))] := hD
          refine lv_iinc (v := 1) (lv' := [(4, .int 1), (3, .int 3), (2, .int 3), (0, .ref x_paper), (1, .int 0)]) hx hb dX3_setDigits_60 hl (k := 0) rfl (by decide) (by decide) rfl (fun ls hl => ?_)
          refine lv_goto (tgt := 25) hx hb dX3_setDigits_63 (by decide) ?_
          refine lv_iload hx hb dX3_setDigits_25 (lv_at hl 0 rfl) ?_
          refine lv_iload_n hx hb dX3_setDigits_27 rfl (lv_at hl 2 rfl) ?_
          refine lv_icmp_ge (tgt := 66) hx hb dX3_setDigits_28 (by decide) (fun h => absurd h (by decide)) (fun _ => ?_)
          refine lv_aload_n hx hb dX3_setDigits_31 rfl (lv_at hl 3 rfl) ?_
          refine va_get (D := D) (ci := 3) (v := .ref x_paper_digits) (C := RX3) (T := TX3) (N := 20) hx hb hts (by decide +kernel) hown hK hP 0 rfl rfl 1 (by decide) (hts (.fieldLink RX3 15 "TurnedFloors$Paper" "digits" "[I") (by decide +kernel)) (fun _ h9 => h9) rfl dX3_setDigits_32 ?_
          refine lv_iload hx hb dX3_setDigits_35 (lv_at hl 0 rfl) ?_
          refine lv_dup2_11 hx hb dX3_setDigits_37 rfl rfl ?_
          refine va_iald hx hb hK hP 1 0 rfl rfl (by simp only [vp_in]; decide) dX3_setDigits_38 ?_
          refine lv_topi (fun z_37 ez_37 => ?_)
          obtain rfl : z_37 = 1 := ez_37.trans (by first | rfl | decide +kernel)
          refine lv_aload_n hx hb dX3_setDigits_39 rfl (lv_at hl 3 rfl) ?_
          refine va_get (D := D) (ci := 3) (v := .ref x_paper_digits) (C := RX3) (T := TX3) (N := 20) hx hb hts (by decide +kernel) hown hK hP 0 rfl rfl 1 (by decide) (hts (.fieldLink RX3 15 "TurnedFloors$Paper" "digits" "[I") (by decide +kernel)) (fun _ h9 => h9) rfl dX3_setDigits_40 ?_
          refine lv_iload hx hb dX3_setDigits_43 (lv_at hl 0 rfl) ?_
          refine va_iald hx hb hK hP 1 0 rfl rfl (by simp only [vp_in]; decide) dX3_setDigits_45 ?_
          refine lv_topi (fun z_38 ez_38 => ?_)
          obtain rfl : z_38 = 1 := ez_38.trans (by first | rfl | decide +kernel)
          refine lv_iload_n hx hb dX3_setDigits_46 rfl (lv_at hl 1 rfl) ?_
          refine lv_icmp_lt (tgt := 54) hx hb dX3_setDigits_47 (by decide) (fun _ => ?_) (fun h => absurd (by decide) h)
          refine lv_iconst (v := 0) hx hb dX3_setDigits_54 (by decide) ?_
          refine kz_ki (wc := []) (wr := [(x_paper, .inr (3, [.ref x_paper_ranks, .ref x_paper_digits, .ref x_paper_barred, .ref x_paper_pays, .ref x_paper_measuredBarred, .ref x_paper_buckets, .ref q_5, .ref q_7, .ref q_9, .ref q_1, .ref q_2, .ref q_3, .ref q_4, .int 0, .int 1, .int 0, .int 0, .int (-1), .int (-1), .int 0])), (x_paper_digits, .inl (ty 0, 6, .inl (upd (upd (upd (upd (upd (upd (upd (fun _ => 0) 0 0) 0 0) 1 1) 0 0) 1 1) 2 2) 0 0)))]) (va_runSN (As := [.int 0]) (rest := [.int 1, .int 1, .ref x_paper_digits]) ⟨hx, hb, hml, hown, hts⟩ (kcX9_bit l D ty eo _ 0) ⟨va_cnB 1 hts gX3_setDigits_X9_bit_n133 rfl rfl rfl (hN.1 _ (by decide +kernel : (.methodLinkNest "TurnedFloors$Paper" 133 yX9_bit "TurnedFloors" : Cond) ∈ kzN1)) (hts (.initialized RX9) (by decide +kernel)) (by decide +kernel) ⟨Nat.le_of_ble_eq_true rfl, Nat.le_of_ble_eq_true rfl⟩, hts (.static yX9_bit) (by decide +kernel), trivial⟩ (kz_preS hK hN hE hP hD hS hA [] (by decide) rfl) rfl rfl hl.1 rfl (lv_room (Nat.le_of_ble_eq_true rfl)) dX3_setDigits_55 ⟨Nat.le_of_ble_eq_true rfl, Nat.le_of_ble_eq_true rfl⟩) hP hD hS hA [] [0, 1] rfl rfl (by decide) (by decide) (fun r u H locs hw hP hD hS => ?_)
          rcases hw with ⟨c_39, rfl, rfl⟩ | ⟨c_40, rfl, rfl⟩
          · have hP : va_P D vwCl [(x_paper, .inr (3, [.ref x_paper_ranks, .ref x_paper_digits, .ref x_paper_barred, .ref x_paper_pays, .ref x_paper_measuredBarred, .ref x_paper_buckets, .ref q_5, .ref q_7, .ref q_9, .ref q_1, .ref q_2, .ref q_3, .ref q_4, .int 0, .int 1, .int 0, .int 0, .int (-1), .int (-1), .int 0])), (x_paper_digits, .inl (ty 0, 6, .inl (upd (upd (upd (upd (upd (upd (upd (fun _ => 0) 0 0) 0 0) 1 1) 0 0) 1 1) 2 2) 0 0)))] H := hP
            have hD : va_D A [(x_paper, .inr (3, [.ref x_paper_ranks, .ref x_paper_digits, .ref x_paper_barred, .ref x_paper_pays, .ref x_paper_measuredBarred, .ref x_paper_buckets, .ref q_5, .ref q_7, .ref q_9, .ref q_1, .ref q_2, .ref q_3, .ref q_4, .int 0, .int 1, .int 0, .int 0, .int (-1), .int (-1), .int 0])), (x_paper_digits, .inl (ty 0, 6, .inl (upd (upd (upd (upd (upd (upd (upd (fun _ => 0) 0 0) 0 0) 1 1) 0 0) 1 1) 2 2) 0 0)))] := hD
            refine lv_iadd hx hb dX3_setDigits_58 ?_
            refine lv_topi (fun z_41 ez_41 => ?_)
            obtain rfl : z_41 = 1 := ez_41.trans (by first | rfl | decide +kernel)
            refine va_iast hx hb hK hP hD hS 1 0 rfl rfl (by simp only [vp_in]; decide) dX3_setDigits_59 (fun H locs hP hD hS => ?_)
            have hP : va_P D vwCl [(x_paper, .inr (3, [.ref x_paper_ranks, .ref x_paper_digits, .ref x_paper_barred, .ref x_paper_pays, .ref x_paper_measuredBarred, .ref x_paper_buckets, .ref q_5, .ref q_7, .ref q_9, .ref q_1, .ref q_2, .ref q_3, .ref q_4, .int 0, .int 1, .int 0, .int 0, .int (-1), .int (-1), .int 0])), (x_paper_digits, .inl (ty 0, 6, .inl (upd (upd (upd (upd (upd (upd (upd (upd (fun _ => 0) 0 0) 0 0) 1 1) 0 0) 1 1) 2 2) 0 0) 1 1)))] H := hP
            have hD : va_D A [(x_paper, .inr (3, [.ref x_paper_ranks, .ref x_paper_digits, .ref x_paper_barred, .ref x_paper_pays, .ref x_paper_measuredBarred, .ref x_paper_buckets, .ref q_5, .ref q_7, .ref q_9, .ref q_1, .ref q_2, .ref q_3, .ref q_4, .int 0, .int 1, .int 0, .int 0, .int (-1), .int (-1), .int 0])), (x_paper_digits, .inl (ty 0, 6, .inl (upd (upd (upd (upd (upd (upd (upd (upd (fun _ => 0) 0 0) 0 0) 1 1) 0 0) 1 1) 2 2) 0 0) 1 1)))] := hD
            refine lv_iinc (v := 2) (lv' := [(4, .int 2), (3, .int 3), (2, .int 3), (0, .ref x_paper), (1, .int 0)]) hx hb dX3_setDigits_60 hl (k := 0) rfl (by decide) (by decide) rfl (fun ls hl => ?_)
            refine lv_goto (tgt := 25) hx hb dX3_setDigits_63 (by decide) ?_
            refine lv_iload hx hb dX3_setDigits_25 (lv_at hl 0 rfl) ?_
            refine lv_iload_n hx hb dX3_setDigits_27 rfl (lv_at hl 2 rfl) ?_
            refine lv_icmp_ge (tgt := 66) hx hb dX3_setDigits_28 (by decide) (fun h => absurd h (by decide)) (fun _ => ?_)
            refine lv_aload_n hx hb dX3_setDigits_31 rfl (lv_at hl 3 rfl) ?_
            refine va_get (D := D) (ci := 3) (v := .ref x_paper_digits) (C := RX3) (T := TX3) (N := 20) hx hb hts (by decide +kernel) hown hK hP 0 rfl rfl 1 (by decide) (hts (.fieldLink RX3 15 "TurnedFloors$Paper" "digits" "[I") (by decide +kernel)) (fun _ h9 => h9) rfl dX3_setDigits_32 ?_
            refine lv_iload hx hb dX3_setDigits_35 (lv_at hl 0 rfl) ?_
            refine lv_dup2_11 hx hb dX3_setDigits_37 rfl rfl ?_
            refine va_iald hx hb hK hP 1 0 rfl rfl (by simp only [vp_in]; decide) dX3_setDigits_38 ?_
            refine lv_topi (fun z_42 ez_42 => ?_)
            obtain rfl : z_42 = 2 := ez_42.trans (by first | rfl | decide +kernel)
            refine lv_aload_n hx hb dX3_setDigits_39 rfl (lv_at hl 3 rfl) ?_
            refine va_get (D := D) (ci := 3) (v := .ref x_paper_digits) (C := RX3) (T := TX3) (N := 20) hx hb hts (by decide +kernel) hown hK hP 0 rfl rfl 1 (by decide) (hts (.fieldLink RX3 15 "TurnedFloors$Paper" "digits" "[I") (by decide +kernel)) (fun _ h9 => h9) rfl dX3_setDigits_40 ?_
            refine lv_iload hx hb dX3_setDigits_43 (lv_at hl 0 rfl) ?_
            refine va_iald hx hb hK hP 1 0 rfl rfl (by simp only [vp_in]; decide) dX3_setDigits_45 ?_
            refine lv_topi (fun z_43 ez_43 => ?_)
            obtain rfl : z_43 = 2 := ez_43.trans (by first | rfl | decide +kernel)
            refine lv_iload_n hx hb dX3_setDigits_46 rfl (lv_at hl 1 rfl) ?_
            refine lv_icmp_lt (tgt := 54) hx hb dX3_setDigits_47 (by decide) (fun _ => ?_) (fun h => absurd (by decide) h)
            refine lv_iconst (v := 0) hx hb dX3_setDigits_54 (by decide) ?_
            refine kz_ki (wc := []) (wr := [(x_paper, .inr (3, [.ref x_paper_ranks, .ref x_paper_digits, .ref x_paper_barred, .ref x_paper_pays, .ref x_paper_measuredBarred, .ref x_paper_buckets, .ref q_5, .ref q_7, .ref q_9, .ref q_1, .ref q_2, .ref q_3, .ref q_4, .int 0, .int 1, .int 0, .int 0, .int (-1), .int (-1), .int 0])), (x_paper_digits, .inl (ty 0, 6, .inl (upd (upd (upd (upd (upd (upd (upd (upd (fun _ => 0) 0 0) 0 0) 1 1) 0 0) 1 1) 2 2) 0 0) 1 1)))]) (va_runSN (As := [.int 0]) (rest := [.int 2, .int 2, .ref x_paper_digits]) ⟨hx, hb, hml, hown, hts⟩ (kcX9_bit l D ty eo _ 0) ⟨va_cnB 1 hts gX3_setDigits_X9_bit_n133 rfl rfl rfl (hN.1 _ (by decide +kernel : (.methodLinkNest "TurnedFloors$Paper" 133 yX9_bit "TurnedFloors" : Cond) ∈ kzN1)) (hts (.initialized RX9) (by decide +kernel)) (by decide +kernel) ⟨Nat.le_of_ble_eq_true rfl, Nat.le_of_ble_eq_true rfl⟩, hts (.static yX9_bit) (by decide +kernel), trivial⟩ (kz_preS hK hN hE hP hD hS hA [] (by decide) rfl) rfl rfl hl.1 rfl (lv_room (Nat.le_of_ble_eq_true rfl)) dX3_setDigits_55 ⟨Nat.le_of_ble_eq_true rfl, Nat.le_of_ble_eq_true rfl⟩) hP hD hS hA [] [0, 1] rfl rfl (by decide) (by decide) (fun r u H locs hw hP hD hS => ?_)
            rcases hw with ⟨c_44, rfl, rfl⟩ | ⟨c_45, rfl, rfl⟩
            · have hP : va_P D vwCl [(x_paper, .inr (3, [.ref x_paper_ranks, .ref x_paper_digits, .ref x_paper_barred, .ref x_paper_pays, .ref x_paper_measuredBarred, .ref x_paper_buckets, .ref q_5, .ref q_7, .ref q_9, .ref q_1, .ref q_2, .ref q_3, .ref q_4, .int 0, .int 1, .int 0, .int 0, .int (-1), .int (-1), .int 0])), (x_paper_digits, .inl (ty 0, 6, .inl (upd (upd (upd (upd (upd (upd (upd (upd (fun _ => 0) 0 0) 0 0) 1 1) 0 0) 1 1) 2 2) 0 0) 1 1)))] H := hP
              have hD : va_D A [(x_paper, .inr (3, [.ref x_paper_ranks, .ref x_paper_digits, .ref x_paper_barred, .ref x_paper_pays, .ref x_paper_measuredBarred, .ref x_paper_buckets, .ref q_5, .ref q_7, .ref q_9, .ref q_1, .ref q_2, .ref q_3, .ref q_4, .int 0, .int 1, .int 0, .int 0, .int (-1), .int (-1), .int 0])), (x_paper_digits, .inl (ty 0, 6, .inl (upd (upd (upd (upd (upd (upd (upd (upd (fun _ => 0) 0 0) 0 0) 1 1) 0 0) 1 1) 2 2) 0 0) 1 1)))] := hD
              refine lv_iadd hx hb dX3_setDigits_58 ?_
              refine lv_topi (fun z_46 ez_46 => ?_)
              obtain rfl : z_46 = 2 := ez_46.trans (by first | rfl | decide +kernel)
              refine va_iast hx hb hK hP hD hS 1 0 rfl rfl (by simp only [vp_in]; decide) dX3_setDigits_59 (fun H locs hP hD hS => ?_)
              have hP : va_P D vwCl [(x_paper, .inr (3, [.ref x_paper_ranks, .ref x_paper_digits, .ref x_paper_barred, .ref x_paper_pays, .ref x_paper_measuredBarred, .ref x_paper_buckets, .ref q_5, .ref q_7, .ref q_9, .ref q_1, .ref q_2, .ref q_3, .ref q_4, .int 0, .int 1, .int 0, .int 0, .int (-1), .int (-1), .int 0])), (x_paper_digits, .inl (ty 0, 6, .inl (upd (upd (upd (upd (upd (upd (upd (upd (upd (fun _ => 0) 0 0) 0 0) 1 1) 0 0) 1 1) 2 2) 0 0) 1 1) 2 2)))] H := hP
              have hD : va_D A [(x_paper, .inr (3, [.ref x_paper_ranks, .ref x_paper_digits, .ref x_paper_barred, .ref x_paper_pays, .ref x_paper_measuredBarred, .ref x_paper_buckets, .ref q_5, .ref q_7, .ref q_9, .ref q_1, .ref q_2, .ref q_3, .ref q_4, .int 0, .int 1, .int 0, .int 0, .int (-1), .int (-1), .int 0])), (x_paper_digits, .inl (ty 0, 6, .inl (upd (upd (upd (upd (upd (upd (upd (upd (upd (fun _ => 0) 0 0) 0 0) 1 1) 0 0) 1 1) 2 2) 0 0) 1 1) 2 2)))] := hD
              refine lv_iinc (v := 3) (lv' := [(4, .int 3), (3, .int 3), (2, .int 3), (0, .ref x_paper), (1, .int 0)]) hx hb dX3_setDigits_60 hl (k := 0) rfl (by decide) (by decide) rfl (fun ls hl => ?_)
              refine lv_goto (tgt := 25) hx hb dX3_setDigits_63 (by decide) ?_
              refine lv_iload hx hb dX3_setDigits_25 (lv_at hl 0 rfl) ?_
              refine lv_iload_n hx hb dX3_setDigits_27 rfl (lv_at hl 2 rfl) ?_
              refine lv_icmp_ge (tgt := 66) hx hb dX3_setDigits_28 (by decide) (fun _ => ?_) (fun h => absurd (by decide) h)
              refine lv_aload_n hx hb dX3_setDigits_66 rfl (lv_at hl 3 rfl) ?_
              refine va_get (D := D) (ci := 3) (v := .ref x_paper_digits) (C := RX3) (T := TX3) (N := 20) hx hb hts (by decide +kernel) hown hK hP 0 rfl rfl 1 (by decide) (hts (.fieldLink RX3 15 "TurnedFloors$Paper" "digits" "[I") (by decide +kernel)) (fun _ h9 => h9) rfl dX3_setDigits_67 ?_
              refine lv_iload_n hx hb dX3_setDigits_70 rfl (lv_at hl 2 rfl) ?_
              refine lv_iload_n hx hb dX3_setDigits_71 rfl (lv_at hl 1 rfl) ?_
              refine va_iast hx hb hK hP hD hS 1 0 rfl rfl (by simp only [vp_in]; decide) dX3_setDigits_72 (fun H locs hP hD hS => ?_)
              have hP : va_P D vwCl [(x_paper, .inr (3, [.ref x_paper_ranks, .ref x_paper_digits, .ref x_paper_barred, .ref x_paper_pays, .ref x_paper_measuredBarred, .ref x_paper_buckets, .ref q_5, .ref q_7, .ref q_9, .ref q_1, .ref q_2, .ref q_3, .ref q_4, .int 0, .int 1, .int 0, .int 0, .int (-1), .int (-1), .int 0])), (x_paper_digits, .inl (ty 0, 6, .inl (upd (upd (upd (upd (upd (upd (upd (upd (upd (upd (fun _ => 0) 0 0) 0 0) 1 1) 0 0) 1 1) 2 2) 0 0) 1 1) 2 2) 3 3)))] H := hP
              have hD : va_D A [(x_paper, .inr (3, [.ref x_paper_ranks, .ref x_paper_digits, .ref x_paper_barred, .ref x_paper_pays, .ref x_paper_measuredBarred, .ref x_paper_buckets, .ref q_5, .ref q_7, .ref q_9, .ref q_1, .ref q_2, .ref q_3, .ref q_4, .int 0, .int 1, .int 0, .int 0, .int (-1), .int (-1), .int 0])), (x_paper_digits, .inl (ty 0, 6, .inl (upd (upd (upd (upd (upd (upd (upd (upd (upd (upd (fun _ => 0) 0 0) 0 0) 1 1) 0 0) 1 1) 2 2) 0 0) 1 1) 2 2) 3 3)))] := hD
              refine lv_iinc (v := 4) (lv' := [(2, .int 4), (4, .int 3), (3, .int 3), (0, .ref x_paper), (1, .int 0)]) hx hb dX3_setDigits_73 hl (k := 2) rfl (by decide) (by decide) rfl (fun ls hl => ?_)
              refine lv_goto (tgt := 2) hx hb dX3_setDigits_76 (by decide) ?_
              refine lv_iload_n hx hb dX3_setDigits_2 rfl (lv_at hl 0 rfl) ?_
              refine lv_bipush (v := 6) hx hb dX3_setDigits_3 (by decide) ?_
              refine lv_icmp_ge (tgt := 79) hx hb dX3_setDigits_5 (by decide) (fun h => absurd h (by decide)) (fun _ => ?_)
              refine lv_iload_n hx hb dX3_setDigits_8 rfl (lv_at hl 0 rfl) ?_
              refine lv_iload_n hx hb dX3_setDigits_9 rfl (lv_at hl 4 rfl) ?_
              refine va_gets hx hb hE.1 hS hown (hts (.fieldLink RX3 76 "TurnedFloors$Paper" "FACTORIALS" "[I") (by decide +kernel)) (fun _ h9 => h9) dX3_setDigits_10 ?_
              refine lv_iload_n hx hb dX3_setDigits_13 rfl (lv_at hl 0 rfl) ?_
              refine va_ti (v := .int 24) hx hb hE.2.1 hS (by simp only [vp_in]; decide) rfl dX3_setDigits_14 ?_
              refine lv_idiv hx hb dX3_setDigits_15 (by decide) ?_
              refine lv_topi (fun z_47 ez_47 => ?_)
              obtain rfl : z_47 = 0 := ez_47.trans (by first | rfl | decide +kernel)
              refine lv_iload_n hx hb dX3_setDigits_16 rfl (lv_at hl 0 rfl) ?_
              refine lv_iconst (v := 1) hx hb dX3_setDigits_17 (by decide) ?_
              refine lv_iadd hx hb dX3_setDigits_18 ?_
              refine lv_topi (fun z_48 ez_48 => ?_)
              obtain rfl : z_48 = 5 := ez_48.trans (by first | rfl | decide +kernel)
              refine lv_irem hx hb dX3_setDigits_19 (by decide) ?_
              refine lv_topi (fun z_49 ez_49 => ?_)
              obtain rfl : z_49 = 0 := ez_49.trans (by first | rfl | decide +kernel)
              refine lv_isub hx hb dX3_setDigits_20 ?_
              refine lv_topi (fun z_50 ez_50 => ?_)
              obtain rfl : z_50 = 4 := ez_50.trans (by first | rfl | decide +kernel)
              refine lv_istore_n (lv' := [(3, .int 4), (2, .int 4), (4, .int 3), (0, .ref x_paper), (1, .int 0)]) hx hb dX3_setDigits_21 rfl hl (by decide) rfl (fun ls hl => ?_)
              refine lv_iconst (v := 0) hx hb dX3_setDigits_22 (by decide) ?_
              refine lv_istore (lv' := [(4, .int 0), (3, .int 4), (2, .int 4), (0, .ref x_paper), (1, .int 0)]) hx hb dX3_setDigits_23 hl (by decide) rfl (fun ls hl => ?_)
              refine lv_iload hx hb dX3_setDigits_25 (lv_at hl 0 rfl) ?_
              refine lv_iload_n hx hb dX3_setDigits_27 rfl (lv_at hl 2 rfl) ?_
              refine lv_icmp_ge (tgt := 66) hx hb dX3_setDigits_28 (by decide) (fun h => absurd h (by decide)) (fun _ => ?_)
              refine lv_aload_n hx hb dX3_setDigits_31 rfl (lv_at hl 3 rfl) ?_
              refine va_get (D := D) (ci := 3) (v := .ref x_paper_digits) (C := RX3) (T := TX3) (N := 20) hx hb hts (by decide +kernel) hown hK hP 0 rfl rfl 1 (by decide) (hts (.fieldLink RX3 15 "TurnedFloors$Paper" "digits" "[I") (by decide +kernel)) (fun _ h9 => h9) rfl dX3_setDigits_32 ?_
              refine lv_iload hx hb dX3_setDigits_35 (lv_at hl 0 rfl) ?_
              refine lv_dup2_11 hx hb dX3_setDigits_37 rfl rfl ?_
              refine va_iald hx hb hK hP 1 0 rfl rfl (by simp only [vp_in]; decide) dX3_setDigits_38 ?_
              refine lv_topi (fun z_51 ez_51 => ?_)
              obtain rfl : z_51 = 0 := ez_51.trans (by first | rfl | decide +kernel)
              refine lv_aload_n hx hb dX3_setDigits_39 rfl (lv_at hl 3 rfl) ?_
              refine va_get (D := D) (ci := 3) (v := .ref x_paper_digits) (C := RX3) (T := TX3) (N := 20) hx hb hts (by decide +kernel) hown hK hP 0 rfl rfl 1 (by decide) (hts (.fieldLink RX3 15 "TurnedFloors$Paper" "digits" "[I") (by decide +kernel)) (fun _ h9 => h9) rfl dX3_setDigits_40 ?_
              refine lv_iload hx hb dX3_setDigits_43 (lv_at hl 0 rfl) ?_
              refine va_iald hx hb hK hP 1 0 rfl rfl (by simp only [vp_in]; decide) dX3_setDigits_45 ?_
              refine lv_topi (fun z_52 ez_52 => ?_)
              obtain rfl : z_52 = 0 := ez_52.trans (by first | rfl | decide +kernel)
              refine lv_iload_n hx hb dX3_setDigits_46 rfl (lv_at hl 1 rfl) ?_
              refine lv_icmp_lt (tgt := 54) hx hb dX3_setDigits_47 (by decide) (fun _ => ?_) (fun h => absurd (by decide) h)
              refine lv_iconst (v := 0) hx hb dX3_setDigits_54 (by decide) ?_
              refine kz_ki (wc := []) (wr := [(x_paper, .inr (3, [.ref x_paper_ranks, .ref x_paper_digits, .ref x_paper_barred, .ref x_paper_pays, .ref x_paper_measuredBarred, .ref x_paper_buckets, .ref q_5, .ref q_7, .ref q_9, .ref q_1, .ref q_2, .ref q_3, .ref q_4, .int 0, .int 1, .int 0, .int 0, .int (-1), .int (-1), .int 0])), (x_paper_digits, .inl (ty 0, 6, .inl (upd (upd (upd (upd (upd (upd (upd (upd (upd (upd (fun _ => 0) 0 0) 0 0) 1 1) 0 0) 1 1) 2 2) 0 0) 1 1) 2 2) 3 3)))]) (va_runSN (As := [.int 0]) (rest := [.int 0, .int 0, .ref x_paper_digits]) ⟨hx, hb, hml, hown, hts⟩ (kcX9_bit l D ty eo _ 0) ⟨va_cnB 1 hts gX3_setDigits_X9_bit_n133 rfl rfl rfl (hN.1 _ (by decide +kernel : (.methodLinkNest "TurnedFloors$Paper" 133 yX9_bit "TurnedFloors" : Cond) ∈ kzN1)) (hts (.initialized RX9) (by decide +kernel)) (by decide +kernel) ⟨Nat.le_of_ble_eq_true rfl, Nat.le_of_ble_eq_true rfl⟩, hts (.static yX9_bit) (by decide +kernel), trivial⟩ (kz_preS hK hN hE hP hD hS hA [] (by decide) rfl) rfl rfl hl.1 rfl (lv_room (Nat.le_of_ble_eq_true rfl)) dX3_setDigits_55 ⟨Nat.le_of_ble_eq_true rfl, Nat.le_of_ble_eq_true rfl⟩) hP hD hS hA [] [0, 1] rfl rfl (by decide) (by decide) (fun r u H locs hw hP hD hS => ?_)
              rcases hw with ⟨c_53, rfl, rfl⟩ | ⟨c_54, rfl, rfl⟩
              · have hP : va_P D vwCl [(x_paper, .inr (3, [.ref x_paper_ranks, .ref x_paper_digits, .ref x_paper_barred, .ref x_paper_pays, .ref x_paper_measuredBarred, .ref x_paper_buckets, .ref q_5, .ref q_7, .ref q_9, .ref q_1, .ref q_2, .ref q_3, .ref q_4, .int 0, .int 1, .int 0, .int 0, .int (-1), .int (-1), .int 0])), (x_paper_digits, .inl (ty 0, 6, .inl (upd (upd (upd (upd (upd (upd (upd (upd (upd (upd (fun _ => 0) 0 0) 0 0) 1 1) 0 0) 1 1) 2 2) 0 0) 1 1) 2 2) 3 3)))] H := hP
                have hD : va_D A [(x_paper, .inr (3, [.ref x_paper_ranks, .ref x_paper_digits, .ref x_paper_barred, .ref x_paper_pays, .ref x_paper_measuredBarred, .ref x_paper_buckets, .ref q_5, .ref q_7, .ref q_9, .ref q_1, .ref q_2, .ref q_3, .ref q_4, .int 0, .int 1, .int 0, .int 0, .int (-1), .int (-1), .int 0])), (x_paper_digits, .inl (ty 0, 6, .inl (upd (upd (upd (upd (upd (upd (upd (upd (upd (upd (fun _ => 0) 0 0) 0 0) 1 1) 0 0) 1 1) 2 2) 0 0) 1 1) 2 2) 3 3)))] := hD
                refine lv_iadd hx hb dX3_setDigits_58 ?_
                refine lv_topi (fun z_55 ez_55 => ?_)
                obtain rfl : z_55 = 0 := ez_55.trans (by first | rfl | decide +kernel)
                refine va_iast hx hb hK hP hD hS 1 0 rfl rfl (by simp only [vp_in]; decide) dX3_setDigits_59 (fun H locs hP hD hS => ?_)
                have hP : va_P D vwCl [(x_paper, .inr (3, [.ref x_paper_ranks, .ref x_paper_digits, .ref x_paper_barred, .ref x_paper_pays, .ref x_paper_measuredBarred, .ref x_paper_buckets, .ref q_5, .ref q_7, .ref q_9, .ref q_1, .ref q_2, .ref q_3, .ref q_4, .int 0, .int 1, .int 0, .int 0, .int (-1), .int (-1), .int 0])), (x_paper_digits, .inl (ty 0, 6, .inl (upd (upd (upd (upd (upd (upd (upd (upd (upd (upd (upd (fun _ => 0) 0 0) 0 0) 1 1) 0 0) 1 1) 2 2) 0 0) 1 1) 2 2) 3 3) 0 0)))] H := hP
                have hD : va_D A [(x_paper, .inr (3, [.ref x_paper_ranks, .ref x_paper_digits, .ref x_paper_barred, .ref x_paper_pays, .ref x_paper_measuredBarred, .ref x_paper_buckets, .ref q_5, .ref q_7, .ref q_9, .ref q_1, .ref q_2, .ref q_3, .ref q_4, .int 0, .int 1, .int 0, .int 0, .int (-1), .int (-1), .int 0])), (x_paper_digits, .inl (ty 0, 6, .inl (upd (upd (upd (upd (upd (upd (upd (upd (upd (upd (upd (fun _ => 0) 0 0) 0 0) 1 1) 0 0) 1 1) 2 2) 0 0) 1 1) 2 2) 3 3) 0 0)))] := hD
                refine lv_iinc (v := 1) (lv' := [(4, .int 1), (3, .int 4), (2, .int 4), (0, .ref x_paper), (1, .int 0)]) hx hb dX3_setDigits_60 hl (k := 0) rfl (by decide) (by decide) rfl (fun ls hl => ?_)
                refine lv_goto (tgt := 25) hx hb dX3_setDigits_63 (by decide) ?_
                refine lv_iload hx hb dX3_setDigits_25 (lv_at hl 0 rfl) ?_
                refine lv_iload_n hx hb dX3_setDigits_27 rfl (lv_at hl 2 rfl) ?_
                refine lv_icmp_ge (tgt := 66) hx hb dX3_setDigits_28 (by decide) (fun h => absurd h (by decide)) (fun _ => ?_)
                refine lv_aload_n hx hb dX3_setDigits_31 rfl (lv_at hl 3 rfl) ?_
                refine va_get (D := D) (ci := 3) (v := .ref x_paper_digits) (C := RX3) (T := TX3) (N := 20) hx hb hts (by decide +kernel) hown hK hP 0 rfl rfl 1 (by decide) (hts (.fieldLink RX3 15 "TurnedFloors$Paper" "digits" "[I") (by decide +kernel)) (fun _ h9 => h9) rfl dX3_setDigits_32 ?_
                refine lv_iload hx hb dX3_setDigits_35 (lv_at hl 0 rfl) ?_
                refine lv_dup2_11 hx hb dX3_setDigits_37 rfl rfl ?_
                refine va_iald hx hb hK hP 1 0 rfl rfl (by simp only [vp_in]; decide) dX3_setDigits_38 ?_
                refine lv_topi (fun z_56 ez_56 => ?_)
                obtain rfl : z_56 = 1 := ez_56.trans (by first | rfl | decide +kernel)
                refine lv_aload_n hx hb dX3_setDigits_39 rfl (lv_at hl 3 rfl) ?_
                refine va_get (D := D) (ci := 3) (v := .ref x_paper_digits) (C := RX3) (T := TX3) (N := 20) hx hb hts (by decide +kernel) hown hK hP 0 rfl rfl 1 (by decide) (hts (.fieldLink RX3 15 "TurnedFloors$Paper" "digits" "[I") (by decide +kernel)) (fun _ h9 => h9) rfl dX3_setDigits_40 ?_
                refine lv_iload hx hb dX3_setDigits_43 (lv_at hl 0 rfl) ?_
                refine va_iald hx hb hK hP 1 0 rfl rfl (by simp only [vp_in]; decide) dX3_setDigits_45 ?_
                refine lv_topi (fun z_57 ez_57 => ?_)
                obtain rfl : z_57 = 1 := ez_57.trans (by first | rfl | decide +kernel)
                refine lv_iload_n hx hb dX3_setDigits_46 rfl (lv_at hl 1 rfl) ?_
                refine lv_icmp_lt (tgt := 54) hx hb dX3_setDigits_47 (by decide) (fun _ => ?_) (fun h => absurd (by decide) h)
                refine lv_iconst (v := 0) hx hb dX3_setDigits_54 (by decide) ?_
                refine kz_ki (wc := []) (wr := [(x_paper, .inr (3, [.ref x_paper_ranks, .ref x_paper_digits, .ref x_paper_barred, .ref x_paper_pays, .ref x_paper_measuredBarred, .ref x_paper_buckets, .ref q_5, .ref q_7, .ref q_9, .ref q_1, .ref q_2, .ref q_3, .ref q_4, .int 0, .int 1, .int 0, .int 0, .int (-1), .int (-1), .int 0])), (x_paper_digits, .inl (ty 0, 6, .inl (upd (upd (upd (upd (upd (upd (upd (upd (upd (upd (upd (fun _ => 0) 0 0) 0 0) 1 1) 0 0) 1 1) 2 2) 0 0) 1 1) 2 2) 3 3) 0 0)))]) (va_runSN (As := [.int 0]) (rest := [.int 1, .int 1, .ref x_paper_digits]) ⟨hx, hb, hml, hown, hts⟩ (kcX9_bit l D ty eo _ 0) ⟨va_cnB 1 hts gX3_setDigits_X9_bit_n133 rfl rfl rfl (hN.1 _ (by decide +kernel : (.methodLinkNest "TurnedFloors$Paper" 133 yX9_bit "TurnedFloors" : Cond) ∈ kzN1)) (hts (.initialized RX9) (by decide +kernel)) (by decide +kernel) ⟨Nat.le_of_ble_eq_true rfl, Nat.le_of_ble_eq_true rfl⟩, hts (.static yX9_bit) (by decide +kernel), trivial⟩ (kz_preS hK hN hE hP hD hS hA [] (by decide) rfl) rfl rfl hl.1 rfl (lv_room (Nat.le_of_ble_eq_true rfl)) dX3_setDigits_55 ⟨Nat.le_of_ble_eq_true rfl, Nat.le_of_ble_eq_true rfl⟩) hP hD hS hA [] [0, 1] rfl rfl (by decide) (by decide) (fun r u H locs hw hP hD hS => ?_)
                rcases hw with ⟨c_58, rfl, rfl⟩ | ⟨c_59, rfl, rfl⟩
                · have hP : va_P D vwCl [(x_paper, .inr (3, [.ref x_paper_ranks, .ref x_paper_digits, .ref x_paper_barred, .ref x_paper_pays, .ref x_paper_measuredBarred, .ref x_paper_buckets, .ref q_5, .ref q_7, .ref q_9, .ref q_1, .ref q_2, .ref q_3, .ref q_4, .int 0, .int 1, .int 0, .int 0, .int (-1), .int (-1), .int 0])), (x_paper_digits, .inl (ty 0, 6, .inl (upd (upd (upd (upd (upd (upd (upd (upd (upd (upd (upd (fun _ => 0) 0 0) 0 0) 1 1) 0 0) 1 1) 2 2) 0 0) 1 1) 2 2) 3 3) 0 0)))] H := hP
                  have hD : va_D A [(x_paper, .inr (3, [.ref x_paper_ranks, .ref x_paper_digits, .ref x_paper_barred, .ref x_paper_pays, .ref x_paper_measuredBarred, .ref x_paper_buckets, .ref q_5, .ref q_7, .ref q_9, .ref q_1, .ref q_2, .ref q_3, .ref q_4, .int 0, .int 1, .int 0, .int 0, .int (-1), .int (-1), .int 0])), (x_paper_digits, .inl (ty 0, 6, .inl (upd (upd (upd (upd (upd (upd (upd (upd (upd (upd (upd (fun _ => 0) 0 0) 0 0) 1 1) 0 0) 1 1) 2 2) 0 0) 1 1) 2 2) 3 3) 0 0)))] := hD
                  refine lv_iadd hx hb dX3_setDigits_58 ?_
                  refine lv_topi (fun z_60 ez_60 => ?_)
                  obtain rfl : z_60 = 1 := ez_60.trans (by first | rfl | decide +kernel)
                  refine va_iast hx hb hK hP hD hS 1 0 rfl rfl (by simp only [vp_in]; decide) dX3_setDigits_59 (fun H locs hP hD hS => ?_)
                  have hP : va_P D vwCl [(x_paper, .inr (3, [.ref x_paper_ranks, .ref x_paper_digits, .ref x_paper_barred, .ref x_paper_pays, .ref x_paper_measuredBarred, .ref x_paper_buckets, .ref q_5, .ref q_7, .ref q_9, .ref q_1, .ref q_2, .ref q_3, .ref q_4, .int 0, .int 1, .int 0, .int 0, .int (-1), .int (-1), .int 0])), (x_paper_digits, .inl (ty 0, 6, .inl (upd (upd (upd (upd (upd (upd (upd (upd (upd (upd (upd (upd (fun _ => 0) 0 0) 0 0) 1 1) 0 0) 1 1) 2 2) 0 0) 1 1) 2 2) 3 3) 0 0) 1 1)))] H := hP
                  have hD : va_D A [(x_paper, .inr (3, [.ref x_paper_ranks, .ref x_paper_digits, .ref x_paper_barred, .ref x_paper_pays, .ref x_paper_measuredBarred, .ref x_paper_buckets, .ref q_5, .ref q_7, .ref q_9, .ref q_1, .ref q_2, .ref q_3, .ref q_4, .int 0, .int 1, .int 0, .int 0, .int (-1), .int (-1), .int 0])), (x_paper_digits, .inl (ty 0, 6, .inl (upd (upd (upd (upd (upd (upd (upd (upd (upd (upd (upd (upd (fun _ => 0) 0 0) 0 0) 1 1) 0 0) 1 1) 2 2) 0 0) 1 1) 2 2) 3 3) 0 0) 1 1)))] := hD
                  refine lv_iinc (v := 2) (lv' := [(4, .int 2), (3, .int 4), (2, .int 4), (0, .ref x_paper), (1, .int 0)]) hx hb dX3_setDigits_60 hl (k := 0) rfl (by decide) (by decide) rfl (fun ls hl => ?_)
                  refine lv_goto (tgt := 25) hx hb dX3_setDigits_63 (by decide) ?_
                  refine lv_iload hx hb dX3_setDigits_25 (lv_at hl 0 rfl) ?_
                  refine lv_iload_n hx hb dX3_setDigits_27 rfl (lv_at hl 2 rfl) ?_
                  refine lv_icmp_ge (tgt := 66) hx hb dX3_setDigits_28 (by decide) (fun h => absurd h (by decide)) (fun _ => ?_)
                  refine lv_aload_n hx hb dX3_setDigits_31 rfl (lv_at hl 3 rfl) ?_
                  refine va_get (D := D) (ci := 3) (v := .ref x_paper_digits) (C := RX3) (T := TX3) (N := 20) hx hb hts (by decide +kernel) hown hK hP 0 rfl rfl 1 (by decide) (hts (.fieldLink RX3 15 "TurnedFloors$Paper" "digits" "[I") (by decide +kernel)) (fun _ h9 => h9) rfl dX3_setDigits_32 ?_
                  refine lv_iload hx hb dX3_setDigits_35 (lv_at hl 0 rfl) ?_
                  refine lv_dup2_11 hx hb dX3_setDigits_37 rfl rfl ?_
                  refine va_iald hx hb hK hP 1 0 rfl rfl (by simp only [vp_in]; decide) dX3_setDigits_38 ?_
                  refine lv_topi (fun z_61 ez_61 => ?_)
                  obtain rfl : z_61 = 2 := ez_61.trans (by first | rfl | decide +kernel)
                  refine lv_aload_n hx hb dX3_setDigits_39 rfl (lv_at hl 3 rfl) ?_
                  refine va_get (D := D) (ci := 3) (v := .ref x_paper_digits) (C := RX3) (T := TX3) (N := 20) hx hb hts (by decide +kernel) hown hK hP 0 rfl rfl 1 (by decide) (hts (.fieldLink RX3 15 "TurnedFloors$Paper" "digits" "[I") (by decide +kernel)) (fun _ h9 => h9) rfl dX3_setDigits_40 ?_
                  refine lv_iload hx hb dX3_setDigits_43 (lv_at hl 0 rfl) ?_
                  refine va_iald hx hb hK hP 1 0 rfl rfl (by simp only [vp_in]; decide) dX3_setDigits_45 ?_
                  refine lv_topi (fun z_62 ez_62 => ?_)
                  obtain rfl : z_62 = 2 := ez_62.trans (by first | rfl | decide +kernel)
                  refine lv_iload_n hx hb dX3_setDigits_46 rfl (lv_at hl 1 rfl) ?_
                  refine lv_icmp_lt (tgt := 54) hx hb dX3_setDigits_47 (by decide) (fun _ => ?_) (fun h => absurd (by decide) h)
                  refine lv_iconst (v := 0) hx hb dX3_setDigits_54 (by decide) ?_
                  refine kz_ki (wc := []) (wr := [(x_paper, .inr (3, [.ref x_paper_ranks, .ref x_paper_digits, .ref x_paper_barred, .ref x_paper_pays, .ref x_paper_measuredBarred, .ref x_paper_buckets, .ref q_5, .ref q_7, .ref q_9, .ref q_1, .ref q_2, .ref q_3, .ref q_4, .int 0, .int 1, .int 0, .int 0, .int (-1), .int (-1), .int 0])), (x_paper_digits, .inl (ty 0, 6, .inl (upd (upd (upd (upd (upd (upd (upd (upd (upd (upd (upd (upd (fun _ => 0) 0 0) 0 0) 1 1) 0 0) 1 1) 2 2) 0 0) 1 1) 2 2) 3 3) 0 0) 1 1)))]) (va_runSN (As := [.int 0]) (rest := [.int 2, .int 2, .ref x_paper_digits]) ⟨hx, hb, hml, hown, hts⟩ (kcX9_bit l D ty eo _ 0) ⟨va_cnB 1 hts gX3_setDigits_X9_bit_n133 rfl rfl rfl (hN.1 _ (by decide +kernel : (.methodLinkNest "TurnedFloors$Paper" 133 yX9_bit "TurnedFloors" : Cond) ∈ kzN1)) (hts (.initialized RX9) (by decide +kernel)) (by decide +kernel) ⟨Nat.le_of_ble_eq_true rfl, Nat.le_of_ble_eq_true rfl⟩, hts (.static yX9_bit) (by decide +kernel), trivial⟩ (kz_preS hK hN hE hP hD hS hA [] (by decide) rfl) rfl rfl hl.1 rfl (lv_room (Nat.le_of_ble_eq_true rfl)) dX3_setDigits_55 ⟨Nat.le_of_ble_eq_true rfl, Nat.le_of_ble_eq_true rfl⟩) hP hD hS hA [] [0, 1] rfl rfl (by decide) (by decide) (fun r u H locs hw hP hD hS => ?_)
                  rcases hw with ⟨c_63, rfl, rfl⟩ | ⟨c_64, rfl, rfl⟩
                  · have hP : va_P D vwCl [(x_paper, .inr (3, [.ref x_paper_ranks, .ref x_paper_digits, .ref x_paper_barred, .ref x_paper_pays, .ref x_paper_measuredBarred, .ref x_paper_buckets, .ref q_5, .ref q_7, .ref q_9, .ref q_1, .ref q_2, .ref q_3, .ref q_4, .int 0, .int 1, .int 0, .int 0, .int (-1), .int (-1), .int 0])), (x_paper_digits, .inl (ty 0, 6, .inl (upd (upd (upd (upd (upd (upd (upd (upd (upd (upd (upd (upd (fun _ => 0) 0 0) 0 0) 1 1) 0 0) 1 1) 2 2) 0 0) 1 1) 2 2) 3 3) 0 0) 1 1)))] H := hP
                    have hD : va_D A [(x_paper, .inr (3, [.ref x_paper_ranks, .ref x_paper_digits, .ref x_paper_barred, .ref x_paper_pays, .ref x_paper_measuredBarred, .ref x_paper_buckets, .ref q_5, .ref q_7, .ref q_9, .ref q_1, .ref q_2, .ref q_3, .ref q_4, .int 0, .int 1, .int 0, .int 0, .int (-1), .int (-1), .int 0])), (x_paper_digits, .inl (ty 0, 6, .inl (upd (upd (upd (upd (upd (upd (upd (upd (upd (upd (upd (upd (fun _ => 0) 0 0) 0 0) 1 1) 0 0) 1 1) 2 2) 0 0) 1 1) 2 2) 3 3) 0 0) 1 1)))] := hD
                    refine lv_iadd hx hb dX3_setDigits_58 ?_
                    refine lv_topi (fun z_65 ez_65 => ?_)
                    obtain rfl : z_65 = 2 := ez_65.trans (by first | rfl | decide +kernel)
                    refine va_iast hx hb hK hP hD hS 1 0 rfl rfl (by simp only [vp_in]; decide) dX3_setDigits_59 (fun H locs hP hD hS => ?_)
                    have hP : va_P D vwCl [(x_paper, .inr (3, [.ref x_paper_ranks, .ref x_paper_digits, .ref x_paper_barred, .ref x_paper_pays, .ref x_paper_measuredBarred, .ref x_paper_buckets, .ref q_5, .ref q_7, .ref q_9, .ref q_1, .ref q_2, .ref q_3, .ref q_4, .int 0, .int 1, .int 0, .int 0, .int (-1), .int (-1), .int 0])), (x_paper_digits, .inl (ty 0, 6, .inl (upd (upd (upd (upd (upd (upd (upd (upd (upd (upd (upd (upd (upd (fun _ => 0) 0 0) 0 0) 1 1) 0 0) 1 1) 2 2) 0 0) 1 1) 2 2) 3 3) 0 0) 1 1) 2 2)))] H := hP
                    have hD : va_D A [(x_paper, .inr (3, [.ref x_paper_ranks, .ref x_paper_digits, .ref x_paper_barred, .ref x_paper_pays, .ref x_paper_measuredBarred, .ref x_paper_buckets, .ref q_5, .ref q_7, .ref q_9, .ref q_1, .ref q_2, .ref q_3, .ref q_4, .int 0, .int 1, .int 0, .int 0, .int (-1), .int (-1), .int 0])), (x_paper_digits, .inl (ty 0, 6, .inl (upd (upd (upd (upd (upd (upd (upd (upd (upd (upd (upd (upd (upd (fun _ => 0) 0 0) 0 0) 1 1) 0 0) 1 1) 2 2) 0 0) 1 1) 2 2) 3 3) 0 0) 1 1) 2 2)))] := hD
                    refine lv_iinc (v := 3) (lv' := [(4, .int 3), (3, .int 4), (2, .int 4), (0, .ref x_paper), (1, .int 0)]) hx hb dX3_setDigits_60 hl (k := 0) rfl (by decide) (by decide) rfl (fun ls hl => ?_)
                    refine lv_goto (tgt := 25) hx hb dX3_setDigits_63 (by decide) ?_
                    refine lv_iload hx hb dX3_setDigits_25 (lv_at hl 0 rfl) ?_
                    refine lv_iload_n hx hb dX3_setDigits_27 rfl (lv_at hl 2 rfl) ?_
                    refine lv_icmp_ge (tgt := 66) hx hb dX3_setDigits_28 (by decide) (fun h => absurd h (by decide)) (fun _ => ?_)
                    refine lv_aload_n hx hb dX3_setDigits_31 rfl (lv_at hl 3 rfl) ?_
                    refine va_get (D := D) (ci := 3) (v := .ref x_paper_digits) (C := RX3) (T := TX3) (N := 20) hx hb hts (by decide +kernel) hown hK hP 0 rfl rfl 1 (by decide) (hts (.fieldLink RX3 15 "TurnedFloors$Paper" "digits" "[I") (by decide +kernel)) (fun _ h9 => h9) rfl dX3_setDigits_32 ?_
                    refine lv_iload hx hb dX3_setDigits_35 (lv_at hl 0 rfl) ?_
                    refine lv_dup2_11 hx hb dX3_setDigits_37 rfl rfl ?_
                    refine va_iald hx hb hK hP 1 0 rfl rfl (by simp only [vp_in]; decide) dX3_setDigits_38 ?_
                    refine lv_topi (fun z_66 ez_66 => ?_)
                    obtain rfl : z_66 = 3 := ez_66.trans (by first | rfl | decide +kernel)
                    refine lv_aload_n hx hb dX3_setDigits_39 rfl (lv_at hl 3 rfl) ?_
                    refine va_get (D := D) (ci := 3) (v := .ref x_paper_digits) (C := RX3) (T := TX3) (N := 20) hx hb hts (by decide +kernel) hown hK hP 0 rfl rfl 1 (by decide) (hts (.fieldLink RX3 15 "TurnedFloors$Paper" "digits" "[I") (by decide +kernel)) (fun _ h9 => h9) rfl dX3_setDigits_40 ?_
                    refine lv_iload hx hb dX3_setDigits_43 (lv_at hl 0 rfl) ?_
                    refine va_iald hx hb hK hP 1 0 rfl rfl (by simp only [vp_in]; decide) dX3_setDigits_45 ?_
                    refine lv_topi (fun z_67 ez_67 => ?_)
                    obtain rfl : z_67 = 3 := ez_67.trans (by first | rfl | decide +kernel)
                    refine lv_iload_n hx hb dX3_setDigits_46 rfl (lv_at hl 1 rfl) ?_
                    refine lv_icmp_lt (tgt := 54) hx hb dX3_setDigits_47 (by decide) (fun _ => ?_) (fun h => absurd (by decide) h)
                    refine lv_iconst (v := 0) hx hb dX3_setDigits_54 (by decide) ?_
                    refine kz_ki (wc := []) (wr := [(x_paper, .inr (3, [.ref x_paper_ranks, .ref x_paper_digits, .ref x_paper_barred, .ref x_paper_pays, .ref x_paper_measuredBarred, .ref x_paper_buckets, .ref q_5, .ref q_7, .ref q_9, .ref q_1, .ref q_2, .ref q_3, .ref q_4, .int 0, .int 1, .int 0, .int 0, .int (-1), .int (-1), .int 0])), (x_paper_digits, .inl (ty 0, 6, .inl (upd (upd (upd (upd (upd (upd (upd (upd (upd (upd (upd (upd (upd (fun _ => 0) 0 0) 0 0) 1 1) 0 0) 1 1) 2 2) 0 0) 1 1) 2 2) 3 3) 0 0) 1 1) 2 2)))]) (va_runSN (As := [.int 0]) (rest := [.int 3, .int 3, .ref x_paper_digits]) ⟨hx, hb, hml, hown, hts⟩ (kcX9_bit l D ty eo _ 0) ⟨va_cnB 1 hts gX3_setDigits_X9_bit_n133 rfl rfl rfl (hN.1 _ (by decide +kernel : (.methodLinkNest "TurnedFloors$Paper" 133 yX9_bit "TurnedFloors" : Cond) ∈ kzN1)) (hts (.initialized RX9) (by decide +kernel)) (by decide +kernel) ⟨Nat.le_of_ble_eq_true rfl, Nat.le_of_ble_eq_true rfl⟩, hts (.static yX9_bit) (by decide +kernel), trivial⟩ (kz_preS hK hN hE hP hD hS hA [] (by decide) rfl) rfl rfl hl.1 rfl (lv_room (Nat.le_of_ble_eq_true rfl)) dX3_setDigits_55 ⟨Nat.le_of_ble_eq_true rfl, Nat.le_of_ble_eq_true rfl⟩) hP hD hS hA [] [0, 1] rfl rfl (by decide) (by decide) (fun r u H locs hw hP hD hS => ?_)
                    rcases hw with ⟨c_68, rfl, rfl⟩ | ⟨c_69, rfl, rfl⟩
                    · have hP : va_P D vwCl [(x_paper, .inr (3, [.ref x_paper_ranks, .ref x_paper_digits, .ref x_paper_barred, .ref x_paper_pays, .ref x_paper_measuredBarred, .ref x_paper_buckets, .ref q_5, .ref q_7, .ref q_9, .ref q_1, .ref q_2, .ref q_3, .ref q_4, .int 0, .int 1, .int 0, .int 0, .int (-1), .int (-1), .int 0])), (x_paper_digits, .inl (ty 0, 6, .inl (upd (upd (upd (upd (upd (upd (upd (upd (upd (upd (upd (upd (upd (fun _ => 0) 0 0) 0 0) 1 1) 0 0) 1 1) 2 2) 0 0) 1 1) 2 2) 3 3) 0 0) 1 1) 2 2)))] H := hP
                      have hD : va_D A [(x_paper, .inr (3, [.ref x_paper_ranks, .ref x_paper_digits, .ref x_paper_barred, .ref x_paper_pays, .ref x_paper_measuredBarred, .ref x_paper_buckets, .ref q_5, .ref q_7, .ref q_9, .ref q_1, .ref q_2, .ref q_3, .ref q_4, .int 0, .int 1, .int 0, .int 0, .int (-1), .int (-1), .int 0])), (x_paper_digits, .inl (ty 0, 6, .inl (upd (upd (upd (upd (upd (upd (upd (upd (upd (upd (upd (upd (upd (fun _ => 0) 0 0) 0 0) 1 1) 0 0) 1 1) 2 2) 0 0) 1 1) 2 2) 3 3) 0 0) 1 1) 2 2)))] := hD
                      refine lv_iadd hx hb dX3_setDigits_58 ?_
                      refine lv_topi (fun z_70 ez_70 => ?_)
                      obtain rfl : z_70 = 3 := ez_70.trans (by first | rfl | decide +kernel)
                      refine va_iast hx hb hK hP hD hS 1 0 rfl rfl (by simp only [vp_in]; decide) dX3_setDigits_59 (fun H locs hP hD hS => ?_)
                      have hP : va_P D vwCl [(x_paper, .inr (3, [.ref x_paper_ranks, .ref x_paper_digits, .ref x_paper_barred, .ref x_paper_pays, .ref x_paper_measuredBarred, .ref x_paper_buckets, .ref q_5, .ref q_7, .ref q_9, .ref q_1, .ref q_2, .ref q_3, .ref q_4, .int 0, .int 1, .int 0, .int 0, .int (-1), .int (-1), .int 0])), (x_paper_digits, .inl (ty 0, 6, .inl (upd (upd (upd (upd (upd (upd (upd (upd (upd (upd (upd (upd (upd (upd (fun _ => 0) 0 0) 0 0) 1 1) 0 0) 1 1) 2 2) 0 0) 1 1) 2 2) 3 3) 0 0) 1 1) 2 2) 3 3)))] H := hP
                      have hD : va_D A [(x_paper, .inr (3, [.ref x_paper_ranks, .ref x_paper_digits, .ref x_paper_barred, .ref x_paper_pays, .ref x_paper_measuredBarred, .ref x_paper_buckets, .ref q_5, .ref q_7, .ref q_9, .ref q_1, .ref q_2, .ref q_3, .ref q_4, .int 0, .int 1, .int 0, .int 0, .int (-1), .int (-1), .int 0])), (x_paper_digits, .inl (ty 0, 6, .inl (upd (upd (upd (upd (upd (upd (upd (upd (upd (upd (upd (upd (upd (upd (fun _ => 0) 0 0) 0 0) 1 1) 0 0) 1 1) 2 2) 0 0) 1 1) 2 2) 3 3) 0 0) 1 1) 2 2) 3 3)))] := hD
                      refine lv_iinc (v := 4) (lv' := [(4, .int 4), (3, .int 4), (2, .int 4), (0, .ref x_paper), (1, .int 0)]) hx hb dX3_setDigits_60 hl (k := 0) rfl (by decide) (by decide) rfl (fun ls hl => ?_)
                      refine lv_goto (tgt := 25) hx hb dX3_setDigits_63 (by decide) ?_
                      refine lv_iload hx hb dX3_setDigits_25 (lv_at hl 0 rfl) ?_
                      refine lv_iload_n hx hb dX3_setDigits_27 rfl (lv_at hl 2 rfl) ?_
                      refine lv_icmp_ge (tgt := 66) hx hb dX3_setDigits_28 (by decide) (fun _ => ?_) (fun h => absurd (by decide) h)
                      refine lv_aload_n hx hb dX3_setDigits_66 rfl (lv_at hl 3 rfl) ?_
                      refine va_get (D := D) (ci := 3) (v := .ref x_paper_digits) (C := RX3) (T := TX3) (N := 20) hx hb hts (by decide +kernel) hown hK hP 0 rfl rfl 1 (by decide) (hts (.fieldLink RX3 15 "TurnedFloors$Paper" "digits" "[I") (by decide +kernel)) (fun _ h9 => h9) rfl dX3_setDigits_67 ?_
                      refine lv_iload_n hx hb dX3_setDigits_70 rfl (lv_at hl 2 rfl) ?_
                      refine lv_iload_n hx hb dX3_setDigits_71 rfl (lv_at hl 1 rfl) ?_
                      refine va_iast hx hb hK hP hD hS 1 0 rfl rfl (by simp only [vp_in]; decide) dX3_setDigits_72 (fun H locs hP hD hS => ?_)
                      have hP : va_P D vwCl [(x_paper, .inr (3, [.ref x_paper_ranks, .ref x_paper_digits, .ref x_paper_barred, .ref x_paper_pays, .ref x_paper_measuredBarred, .ref x_paper_buckets, .ref q_5, .ref q_7, .ref q_9, .ref q_1, .ref q_2, .ref q_3, .ref q_4, .int 0, .int 1, .int 0, .int 0, .int (-1), .int (-1), .int 0])), (x_paper_digits, .inl (ty 0, 6, .inl (upd (upd (upd (upd (upd (upd (upd (upd (upd (upd (upd (upd (upd (upd (upd (fun _ => 0) 0 0) 0 0) 1 1) 0 0) 1 1) 2 2) 0 0) 1 1) 2 2) 3 3) 0 0) 1 1) 2 2) 3 3) 4 4)))] H := hP
                      have hD : va_D A [(x_paper, .inr (3, [.ref x_paper_ranks, .ref x_paper_digits, .ref x_paper_barred, .ref x_paper_pays, .ref x_paper_measuredBarred, .ref x_paper_buckets, .ref q_5, .ref q_7, .ref q_9, .ref q_1, .ref q_2, .ref q_3, .ref q_4, .int 0, .int 1, .int 0, .int 0, .int (-1), .int (-1), .int 0])), (x_paper_digits, .inl (ty 0, 6, .inl (upd (upd (upd (upd (upd (upd (upd (upd (upd (upd (upd (upd (upd (upd (upd (fun _ => 0) 0 0) 0 0) 1 1) 0 0) 1 1) 2 2) 0 0) 1 1) 2 2) 3 3) 0 0) 1 1) 2 2) 3 3) 4 4)))] := hD
                      refine lv_iinc (v := 5) (lv' := [(2, .int 5), (4, .int 4), (3, .int 4), (0, .ref x_paper), (1, .int 0)]) hx hb dX3_setDigits_73 hl (k := 2) rfl (by decide) (by decide) rfl (fun ls hl => ?_)
                      refine lv_goto (tgt := 2) hx hb dX3_setDigits_76 (by decide) ?_
                      refine lv_iload_n hx hb dX3_setDigits_2 rfl (lv_at hl 0 rfl) ?_
                      refine lv_bipush (v := 6) hx hb dX3_setDigits_3 (by decide) ?_
                      refine lv_icmp_ge (tgt := 79) hx hb dX3_setDigits_5 (by decide) (fun h => absurd h (by decide)) (fun _ => ?_)
                      refine lv_iload_n hx hb dX3_setDigits_8 rfl (lv_at hl 0 rfl) ?_
                      refine lv_iload_n hx hb dX3_setDigits_9 rfl (lv_at hl 4 rfl) ?_
                      refine va_gets hx hb hE.1 hS hown (hts (.fieldLink RX3 76 "TurnedFloors$Paper" "FACTORIALS" "[I") (by decide +kernel)) (fun _ h9 => h9) dX3_setDigits_10 ?_
                      refine lv_iload_n hx hb dX3_setDigits_13 rfl (lv_at hl 0 rfl) ?_
                      refine va_ti (v := .int 120) hx hb hE.2.1 hS (by simp only [vp_in]; decide) rfl dX3_setDigits_14 ?_
                      refine lv_idiv hx hb dX3_setDigits_15 (by decide) ?_
                      refine lv_topi (fun z_71 ez_71 => ?_)
                      obtain rfl : z_71 = 0 := ez_71.trans (by first | rfl | decide +kernel)
                      refine lv_iload_n hx hb dX3_setDigits_16 rfl (lv_at hl 0 rfl) ?_
                      refine lv_iconst (v := 1) hx hb dX3_setDigits_17 (by decide) ?_
                      refine lv_iadd hx hb dX3_setDigits_18 ?_
                      refine lv_topi (fun z_72 ez_72 => ?_)
                      obtain rfl : z_72 = 6 := ez_72.trans (by first | rfl | decide +kernel)
                      refine lv_irem hx hb dX3_setDigits_19 (by decide) ?_
                      refine lv_topi (fun z_73 ez_73 => ?_)
                      obtain rfl : z_73 = 0 := ez_73.trans (by first | rfl | decide +kernel)
                      refine lv_isub hx hb dX3_setDigits_20 ?_
                      refine lv_topi (fun z_74 ez_74 => ?_)
                      obtain rfl : z_74 = 5 := ez_74.trans (by first | rfl | decide +kernel)
                      refine lv_istore_n (lv' := [(3, .int 5), (2, .int 5), (4, .int 4), (0, .ref x_paper), (1, .int 0)]) hx hb dX3_setDigits_21 rfl hl (by decide) rfl (fun ls hl => ?_)
                      refine lv_iconst (v := 0) hx hb dX3_setDigits_22 (by decide) ?_
                      refine lv_istore (lv' := [(4, .int 0), (3, .int 5), (2, .int 5), (0, .ref x_paper), (1, .int 0)]) hx hb dX3_setDigits_23 hl (by decide) rfl (fun ls hl => ?_)
                      refine lv_iload hx hb dX3_setDigits_25 (lv_at hl 0 rfl) ?_
                      refine lv_iload_n hx hb dX3_setDigits_27 rfl (lv_at hl 2 rfl) ?_
                      refine lv_icmp_ge (tgt := 66) hx hb dX3_setDigits_28 (by decide) (fun h => absurd h (by decide)) (fun _ => ?_)
                      refine lv_aload_n hx hb dX3_setDigits_31 rfl (lv_at hl 3 rfl) ?_
                      refine va_get (D := D) (ci := 3) (v := .ref x_paper_digits) (C := RX3) (T := TX3) (N := 20) hx hb hts (by decide +kernel) hown hK hP 0 rfl rfl 1 (by decide) (hts (.fieldLink RX3 15 "TurnedFloors$Paper" "digits" "[I") (by decide +kernel)) (fun _ h9 => h9) rfl dX3_setDigits_32 ?_
                      refine lv_iload hx hb dX3_setDigits_35 (lv_at hl 0 rfl) ?_
                      refine lv_dup2_11 hx hb dX3_setDigits_37 rfl rfl ?_
                      refine va_iald hx hb hK hP 1 0 rfl rfl (by simp only [vp_in]; decide) dX3_setDigits_38 ?_
                      refine lv_topi (fun z_75 ez_75 => ?_)
                      obtain rfl : z_75 = 0 := ez_75.trans (by first | rfl | decide +kernel)
                      refine lv_aload_n hx hb dX3_setDigits_39 rfl (lv_at hl 3 rfl) ?_
                      refine va_get (D := D) (ci := 3) (v := .ref x_paper_digits) (C := RX3) (T := TX3) (N := 20) hx hb hts (by decide +kernel) hown hK hP 0 rfl rfl 1 (by decide) (hts (.fieldLink RX3 15 "TurnedFloors$Paper" "digits" "[I") (by decide +kernel)) (fun _ h9 => h9) rfl dX3_setDigits_40 ?_
                      refine lv_iload hx hb dX3_setDigits_43 (lv_at hl 0 rfl) ?_
                      refine va_iald hx hb hK hP 1 0 rfl rfl (by simp only [vp_in]; decide) dX3_setDigits_45 ?_
                      refine lv_topi (fun z_76 ez_76 => ?_)
                      obtain rfl : z_76 = 0 := ez_76.trans (by first | rfl | decide +kernel)
                      refine lv_iload_n hx hb dX3_setDigits_46 rfl (lv_at hl 1 rfl) ?_
                      refine lv_icmp_lt (tgt := 54) hx hb dX3_setDigits_47 (by decide) (fun _ => ?_) (fun h => absurd (by decide) h)
                      refine lv_iconst (v := 0) hx hb dX3_setDigits_54 (by decide) ?_
                      refine kz_ki (wc := []) (wr := [(x_paper, .inr (3, [.ref x_paper_ranks, .ref x_paper_digits, .ref x_paper_barred, .ref x_paper_pays, .ref x_paper_measuredBarred, .ref x_paper_buckets, .ref q_5, .ref q_7, .ref q_9, .ref q_1, .ref q_2, .ref q_3, .ref q_4, .int 0, .int 1, .int 0, .int 0, .int (-1), .int (-1), .int 0])), (x_paper_digits, .inl (ty 0, 6, .inl (upd (upd (upd (upd (upd (upd (upd (upd (upd (upd (upd (upd (upd (upd (upd (fun _ => 0) 0 0) 0 0) 1 1) 0 0) 1 1) 2 2) 0 0) 1 1) 2 2) 3 3) 0 0) 1 1) 2 2) 3 3) 4 4)))]) (va_runSN (As := [.int 0]) (rest := [.int 0, .int 0, .ref x_paper_digits]) ⟨hx, hb, hml, hown, hts⟩ (kcX9_bit l D ty eo _ 0) ⟨va_cnB 1 hts gX3_setDigits_X9_bit_n133 rfl rfl rfl (hN.1 _ (by decide +kernel : (.methodLinkNest "TurnedFloors$Paper" 133 yX9_bit "TurnedFloors" : Cond) ∈ kzN1)) (hts (.initialized RX9) (by decide +kernel)) (by decide +kernel) ⟨Nat.le_of_ble_eq_true rfl, Nat.le_of_ble_eq_true rfl⟩, hts (.static yX9_bit) (by decide +kernel), trivial⟩ (kz_preS hK hN hE hP hD hS hA [] (by decide) rfl) rfl rfl hl.1 rfl (lv_room (Nat.le_of_ble_eq_true rfl)) dX3_setDigits_55 ⟨Nat.le_of_ble_eq_true rfl, Nat.le_of_ble_eq_true rfl⟩) hP hD hS hA [] [0, 1] rfl rfl (by decide) (by decide) (fun r u H locs hw hP hD hS => ?_)
                      rcases hw with ⟨c_77, rfl, rfl⟩ | ⟨c_78, rfl, rfl⟩
                      · have hP : va_P D vwCl [(x_paper, .inr (3, [.ref x_paper_ranks, .ref x_paper_digits, .ref x_paper_barred, .ref x_paper_pays, .ref x_paper_measuredBarred, .ref x_paper_buckets, .ref q_5, .ref q_7, .ref q_9, .ref q_1, .ref q_2, .ref q_3, .ref q_4, .int 0, .int 1, .int 0, .int 0, .int (-1), .int (-1), .int 0])), (x_paper_digits, .inl (ty 0, 6, .inl (upd (upd (upd (upd (upd (upd (upd (upd (upd (upd (upd (upd (upd (upd (upd (fun _ => 0) 0 0) 0 0) 1 1) 0 0) 1 1) 2 2) 0 0) 1 1) 2 2) 3 3) 0 0) 1 1) 2 2) 3 3) 4 4)))] H := hP
                        have hD : va_D A [(x_paper, .inr (3, [.ref x_paper_ranks, .ref x_paper_digits, .ref x_paper_barred, .ref x_paper_pays, .ref x_paper_measuredBarred, .ref x_paper_buckets, .ref q_5, .ref q_7, .ref q_9, .ref q_1, .ref q_2, .ref q_3, .ref q_4, .int 0, .int 1, .int 0, .int 0, .int (-1), .int (-1), .int 0])), (x_paper_digits, .inl (ty 0, 6, .inl (upd (upd (upd (upd (upd (upd (upd (upd (upd (upd (upd (upd (upd (upd (upd (fun _ => 0) 0 0) 0 0) 1 1) 0 0) 1 1) 2 2) 0 0) 1 1) 2 2) 3 3) 0 0) 1 1) 2 2) 3 3) 4 4)))] := hD
                        refine lv_iadd hx hb dX3_setDigits_58 ?_
                        refine lv_topi (fun z_79 ez_79 => ?_)
                        obtain rfl : z_79 = 0 := ez_79.trans (by first | rfl | decide +kernel)
                        refine va_iast hx hb hK hP hD hS 1 0 rfl rfl (by simp only [vp_in]; decide) dX3_setDigits_59 (fun H locs hP hD hS => ?_)
                        have hP : va_P D vwCl [(x_paper, .inr (3, [.ref x_paper_ranks, .ref x_paper_digits, .ref x_paper_barred, .ref x_paper_pays, .ref x_paper_measuredBarred, .ref x_paper_buckets, .ref q_5, .ref q_7, .ref q_9, .ref q_1, .ref q_2, .ref q_3, .ref q_4, .int 0, .int 1, .int 0, .int 0, .int (-1), .int (-1), .int 0])), (x_paper_digits, .inl (ty 0, 6, .inl (upd (upd (upd (upd (upd (upd (upd (upd (upd (upd (upd (upd (upd (upd (upd (upd (fun _ => 0) 0 0) 0 0) 1 1) 0 0) 1 1) 2 2) 0 0) 1 1) 2 2) 3 3) 0 0) 1 1) 2 2) 3 3) 4 4) 0 0)))] H := hP
                        have hD : va_D A [(x_paper, .inr (3, [.ref x_paper_ranks, .ref x_paper_digits, .ref x_paper_barred, .ref x_paper_pays, .ref x_paper_measuredBarred, .ref x_paper_buckets, .ref q_5, .ref q_7, .ref q_9, .ref q_1, .ref q_2, .ref q_3, .ref q_4, .int 0, .int 1, .int 0, .int 0, .int (-1), .int (-1), .int 0])), (x_paper_digits, .inl (ty 0, 6, .inl (upd (upd (upd (upd (upd (upd (upd (upd (upd (upd (upd (upd (upd (upd (upd (upd (fun _ => 0) 0 0) 0 0) 1 1) 0 0) 1 1) 2 2) 0 0) 1 1) 2 2) 3 3) 0 0) 1 1) 2 2) 3 3) 4 4) 0 0)))] := hD
                        refine lv_iinc (v := 1) (lv' := [(4, .int 1), (3, .int 5), (2, .int 5), (0, .ref x_paper), (1, .int 0)]) hx hb dX3_setDigits_60 hl (k := 0) rfl (by decide) (by decide) rfl (fun ls hl => ?_)
                        refine lv_goto (tgt := 25) hx hb dX3_setDigits_63 (by decide) ?_
                        refine lv_iload hx hb dX3_setDigits_25 (lv_at hl 0 rfl) ?_
                        refine lv_iload_n hx hb dX3_setDigits_27 rfl (lv_at hl 2 rfl) ?_
                        refine lv_icmp_ge (tgt := 66) hx hb dX3_setDigits_28 (by decide) (fun h => absurd h (by decide)) (fun _ => ?_)
                        refine lv_aload_n hx hb dX3_setDigits_31 rfl (lv_at hl 3 rfl) ?_
                        refine va_get (D := D) (ci := 3) (v := .ref x_paper_digits) (C := RX3) (T := TX3) (N := 20) hx hb hts (by decide +kernel) hown hK hP 0 rfl rfl 1 (by decide) (hts (.fieldLink RX3 15 "TurnedFloors$Paper" "digits" "[I") (by decide +kernel)) (fun _ h9 => h9) rfl dX3_setDigits_32 ?_
                        refine lv_iload hx hb dX3_setDigits_35 (lv_at hl 0 rfl) ?_
                        refine lv_dup2_11 hx hb dX3_setDigits_37 rfl rfl ?_
                        refine va_iald hx hb hK hP 1 0 rfl rfl (by simp only [vp_in]; decide) dX3_setDigits_38 ?_
                        refine lv_topi (fun z_80 ez_80 => ?_)
                        obtain rfl : z_80 = 1 := ez_80.trans (by first | rfl | decide +kernel)
                        refine lv_aload_n hx hb dX3_setDigits_39 rfl (lv_at hl 3 rfl) ?_
                        refine va_get (D := D) (ci := 3) (v := .ref x_paper_digits) (C := RX3) (T := TX3) (N := 20) hx hb hts (by decide +kernel) hown hK hP 0 rfl rfl 1 (by decide) (hts (.fieldLink RX3 15 "TurnedFloors$Paper" "digits" "[I") (by decide +kernel)) (fun _ h9 => h9) rfl dX3_setDigits_40 ?_
                        refine lv_iload hx hb dX3_setDigits_43 (lv_at hl 0 rfl) ?_
                        refine va_iald hx hb hK hP 1 0 rfl rfl (by simp only [vp_in]; decide) dX3_setDigits_45 ?_
                        refine lv_topi (fun z_81 ez_81 => ?_)
                        obtain rfl : z_81 = 1 := ez_81.trans (by first | rfl | decide +kernel)
                        refine lv_iload_n hx hb dX3_setDigits_46 rfl (lv_at hl 1 rfl) ?_
                        refine lv_icmp_lt (tgt := 54) hx hb dX3_setDigits_47 (by decide) (fun _ => ?_) (fun h => absurd (by decide) h)
                        refine lv_iconst (v := 0) hx hb dX3_setDigits_54 (by decide) ?_
                        refine kz_ki (wc := []) (wr := [(x_paper, .inr (3, [.ref x_paper_ranks, .ref x_paper_digits, .ref x_paper_barred, .ref x_paper_pays, .ref x_paper_measuredBarred, .ref x_paper_buckets, .ref q_5, .ref q_7, .ref q_9, .ref q_1, .ref q_2, .ref q_3, .ref q_4, .int 0, .int 1, .int 0, .int 0, .int (-1), .int (-1), .int 0])), (x_paper_digits, .inl (ty 0, 6, .inl (upd (upd (upd (upd (upd (upd (upd (upd (upd (upd (upd (upd (upd (upd (upd (upd (fun _ => 0) 0 0) 0 0) 1 1) 0 0) 1 1) 2 2) 0 0) 1 1) 2 2) 3 3) 0 0) 1 1) 2 2) 3 3) 4 4) 0 0)))]) (va_runSN (As := [.int 0]) (rest := [.int 1, .int 1, .ref x_paper_digits]) ⟨hx, hb, hml, hown, hts⟩ (kcX9_bit l D ty eo _ 0) ⟨va_cnB 1 hts gX3_setDigits_X9_bit_n133 rfl rfl rfl (hN.1 _ (by decide +kernel : (.methodLinkNest "TurnedFloors$Paper" 133 yX9_bit "TurnedFloors" : Cond) ∈ kzN1)) (hts (.initialized RX9) (by decide +kernel)) (by decide +kernel) ⟨Nat.le_of_ble_eq_true rfl, Nat.le_of_ble_eq_true rfl⟩, hts (.static yX9_bit) (by decide +kernel), trivial⟩ (kz_preS hK hN hE hP hD hS hA [] (by decide) rfl) rfl rfl hl.1 rfl (lv_room (Nat.le_of_ble_eq_true rfl)) dX3_setDigits_55 ⟨Nat.le_of_ble_eq_true rfl, Nat.le_of_ble_eq_true rfl⟩) hP hD hS hA [] [0, 1] rfl rfl (by decide) (by decide) (fun r u H locs hw hP hD hS => ?_)
                        rcases hw with ⟨c_82, rfl, rfl⟩ | ⟨c_83, rfl, rfl⟩
                        · have hP : va_P D vwCl [(x_paper, .inr (3, [.ref x_paper_ranks, .ref x_paper_digits, .ref x_paper_barred, .ref x_paper_pays, .ref x_paper_measuredBarred, .ref x_paper_buckets, .ref q_5, .ref q_7, .ref q_9, .ref q_1, .ref q_2, .ref q_3, .ref q_4, .int 0, .int 1, .int 0, .int 0, .int (-1), .int (-1), .int 0])), (x_paper_digits, .inl (ty 0, 6, .inl (upd (upd (upd (upd (upd (upd (upd (upd (upd (upd (upd (upd (upd (upd (upd (upd (fun _ => 0) 0 0) 0 0) 1 1) 0 0) 1 1) 2 2) 0 0) 1 1) 2 2) 3 3) 0 0) 1 1) 2 2) 3 3) 4 4) 0 0)))] H := hP
                          have hD : va_D A [(x_paper, .inr (3, [.ref x_paper_ranks, .ref x_paper_digits, .ref x_paper_barred, .ref x_paper_pays, .ref x_paper_measuredBarred, .ref x_paper_buckets, .ref q_5, .ref q_7, .ref q_9, .ref q_1, .ref q_2, .ref q_3, .ref q_4, .int 0, .int 1, .int 0, .int 0, .int (-1), .int (-1), .int 0])), (x_paper_digits, .inl (ty 0, 6, .inl (upd (upd (upd (upd (upd (upd (upd (upd (upd (upd (upd (upd (upd (upd (upd (upd (fun _ => 0) 0 0) 0 0) 1 1) 0 0) 1 1) 2 2) 0 0) 1 1) 2 2) 3 3) 0 0) 1 1) 2 2) 3 3) 4 4) 0 0)))] := hD
                          refine lv_iadd hx hb dX3_setDigits_58 ?_
                          refine lv_topi (fun z_84 ez_84 => ?_)
                          obtain rfl : z_84 = 1 := ez_84.trans (by first | rfl | decide +kernel)
                          refine va_iast hx hb hK hP hD hS 1 0 rfl rfl (by simp only [vp_in]; decide) dX3_setDigits_59 (fun H locs hP hD hS => ?_)
                          have hP : va_P D vwCl [(x_paper, .inr (3, [.ref x_paper_ranks, .ref x_paper_digits, .ref x_paper_barred, .ref x_paper_pays, .ref x_paper_measuredBarred, .ref x_paper_buckets, .ref q_5, .ref q_7, .ref q_9, .ref q_1, .ref q_2, .ref q_3, .ref q_4, .int 0, .int 1, .int 0, .int 0, .int (-1), .int (-1), .int 0])), (x_paper_digits, .inl (ty 0, 6, .inl (upd (upd (upd (upd (upd (upd (upd (upd (upd (upd (upd (upd (upd (upd (upd (upd (upd (fun _ => 0) 0 0) 0 0) 1 1) 0 0) 1 1) 2 2) 0 0) 1 1) 2 2) 3 3) 0 0) 1 1) 2 2) 3 3) 4 4) 0 0) 1 1)))] H := hP
                          have hD : va_D A [(x_paper, .inr (3, [.ref x_paper_ranks, .ref x_paper_digits, .ref x_paper_barred, .ref x_paper_pays, .ref x_paper_measuredBarred, .ref x_paper_buckets, .ref q_5, .ref q_7, .ref q_9, .ref q_1, .ref q_2, .ref q_3, .ref q_4, .int 0, .int 1, .int 0, .int 0, .int (-1), .int (-1), .int 0])), (x_paper_digits, .inl (ty 0, 6, .inl (upd (upd (upd (upd (upd (upd (upd (upd (upd (upd (upd (upd (upd (upd (upd (upd (upd (fun _ => 0) 0 0) 0 0) 1 1) 0 0) 1 1) 2 2) 0 0) 1 1) 2 2) 3 3) 0 0) 1 1) 2 2) 3 3) 4 4) 0 0) 1 1)))] := hD
                          refine lv_iinc (v := 2) (lv' := [(4, .int 2), (3, .int 5), (2, .int 5), (0, .ref x_paper), (1, .int 0)]) hx hb dX3_setDigits_60 hl (k := 0) rfl (by decide) (by decide) rfl (fun ls hl => ?_)
                          refine lv_goto (tgt := 25) hx hb dX3_setDigits_63 (by decide) ?_
                          refine lv_iload hx hb dX3_setDigits_25 (lv_at hl 0 rfl) ?_
                          refine lv_iload_n hx hb dX3_setDigits_27 rfl (lv_at hl 2 rfl) ?_
                          refine lv_icmp_ge (tgt := 66) hx hb dX3_setDigits_28 (by decide) (fun h => absurd h (by decide)) (fun _ => ?_)
                          refine lv_aload_n hx hb dX3_setDigits_31 rfl (lv_at hl 3 rfl) ?_
                          refine va_get (D := D) (ci := 3) (v := .ref x_paper_digits) (C := RX3) (T := TX3) (N := 20) hx hb hts (by decide +kernel) hown hK hP 0 rfl rfl 1 (by decide) (hts (.fieldLink RX3 15 "TurnedFloors$Paper" "digits" "[I") (by decide +kernel)) (fun _ h9 => h9) rfl dX3_setDigits_32 ?_
                          refine lv_iload hx hb dX3_setDigits_35 (lv_at hl 0 rfl) ?_
                          refine lv_dup2_11 hx hb dX3_setDigits_37 rfl rfl ?_
                          refine va_iald hx hb hK hP 1 0 rfl rfl (by simp only [vp_in]; decide) dX3_setDigits_38 ?_
                          refine lv_topi (fun z_85 ez_85 => ?_)
                          obtain rfl : z_85 = 2 := ez_85.trans (by first | rfl | decide +kernel)
                          refine lv_aload_n hx hb dX3_setDigits_39 rfl (lv_at hl 3 rfl) ?_
                          refine va_get (D := D) (ci := 3) (v := .ref x_paper_digits) (C := RX3) (T := TX3) (N := 20) hx hb hts (by decide +kernel) hown hK hP 0 rfl rfl 1 (by decide) (hts (.fieldLink RX3 15 "TurnedFloors$Paper" "digits" "[I") (by decide +kernel)) (fun _ h9 => h9) rfl dX3_setDigits_40 ?_
                          refine lv_iload hx hb dX3_setDigits_43 (lv_at hl 0 rfl) ?_
                          refine va_iald hx hb hK hP 1 0 rfl rfl (by simp only [vp_in]; decide) dX3_setDigits_45 ?_
                          refine lv_topi (fun z_86 ez_86 => ?_)
                          obtain rfl : z_86 = 2 := ez_86.trans (by first | rfl | decide +kernel)
                          refine lv_iload_n hx hb dX3_setDigits_46 rfl (lv_at hl 1 rfl) ?_
                          refine lv_icmp_lt (tgt := 54) hx hb dX3_setDigits_47 (by decide) (fun _ => ?_) (fun h => absurd (by decide) h)
                          refine lv_iconst (v := 0) hx hb dX3_setDigits_54 (by decide) ?_
                          refine kz_ki (wc := []) (wr := [(x_paper, .inr (3, [.ref x_paper_ranks, .ref x_paper_digits, .ref x_paper_barred, .ref x_paper_pays, .ref x_paper_measuredBarred, .ref x_paper_buckets, .ref q_5, .ref q_7, .ref q_9, .ref q_1, .ref q_2, .ref q_3, .ref q_4, .int 0, .int 1, .int 0, .int 0, .int (-1), .int (-1), .int 0])), (x_paper_digits, .inl (ty 0, 6, .inl (upd (upd (upd (upd (upd (upd (upd (upd (upd (upd (upd (upd (upd (upd (upd (upd (upd (fun _ => 0) 0 0) 0 0) 1 1) 0 0) 1 1) 2 2) 0 0) 1 1) 2 2) 3 3) 0 0) 1 1) 2 2) 3 3) 4 4) 0 0) 1 1)))]) (va_runSN (As := [.int 0]) (rest := [.int 2, .int 2, .ref x_paper_digits]) ⟨hx, hb, hml, hown, hts⟩ (kcX9_bit l D ty eo _ 0) ⟨va_cnB 1 hts gX3_setDigits_X9_bit_n133 rfl rfl rfl (hN.1 _ (by decide +kernel : (.methodLinkNest "TurnedFloors$Paper" 133 yX9_bit "TurnedFloors" : Cond) ∈ kzN1)) (hts (.initialized RX9) (by decide +kernel)) (by decide +kernel) ⟨Nat.le_of_ble_eq_true rfl, Nat.le_of_ble_eq_true rfl⟩, hts (.static yX9_bit) (by decide +kernel), trivial⟩ (kz_preS hK hN hE hP hD hS hA [] (by decide) rfl) rfl rfl hl.1 rfl (lv_room (Nat.le_of_ble_eq_true rfl)) dX3_setDigits_55 ⟨Nat.le_of_ble_eq_true rfl, Nat.le_of_ble_eq_true rfl⟩) hP hD hS hA [] [0, 1] rfl rfl (by decide) (by decide) (fun r u H locs hw hP hD hS => ?_)
                          rcases hw with ⟨c_87, rfl, rfl⟩ | ⟨c_88, rfl, rfl⟩
                          · have hP : va_P D vwCl [(x_paper, .inr (3, [.ref x_paper_ranks, .ref x_paper_digits, .ref x_paper_barred, .ref x_paper_pays, .ref x_paper_measuredBarred, .ref x_paper_buckets, .ref q_5, .ref q_7, .ref q_9, .ref q_1, .ref q_2, .ref q_3, .ref q_4, .int 0, .int 1, .int 0, .int 0, .int (-1), .int (-1), .int 0])), (x_paper_digits, .inl (ty 0, 6, .inl (upd (upd (upd (upd (upd (upd (upd (upd (upd (upd (upd (upd (upd (upd (upd (upd (upd (fun _ => 0) 0 0) 0 0) 1 1) 0 0) 1 1) 2 2) 0 0) 1 1) 2 2) 3 3) 0 0) 1 1) 2 2) 3 3) 4 4) 0 0) 1 1)))] H := hP
                            have hD : va_D A [(x_paper, .inr (3, [.ref x_paper_ranks, .ref x_paper_digits, .ref x_paper_barred, .ref x_paper_pays, .ref x_paper_measuredBarred, .ref x_paper_buckets, .ref q_5, .ref q_7, .ref q_9, .ref q_1, .ref q_2, .ref q_3, .ref q_4, .int 0, .int 1, .int 0, .int 0, .int (-1), .int (-1), .int 0])), (x_paper_digits, .inl (ty 0, 6, .inl (upd (upd (upd (upd (upd (upd (upd (upd (upd (upd (upd (upd (upd (upd (upd (upd (upd (fun _ => 0) 0 0) 0 0) 1 1) 0 0) 1 1) 2 2) 0 0) 1 1) 2 2) 3 3) 0 0) 1 1) 2 2) 3 3) 4 4) 0 0) 1 1)))] := hD
                            refine lv_iadd hx hb dX3_setDigits_58 ?_
                            refine lv_topi (fun z_89 ez_89 => ?_)
                            obtain rfl : z_89 = 2 := ez_89.trans (by first | rfl | decide +kernel)
                            refine va_iast hx hb hK hP hD hS 1 0 rfl rfl (by simp only [vp_in]; decide) dX3_setDigits_59 (fun H locs hP hD hS => ?_)
                            have hP : va_P D vwCl [(x_paper, .inr (3, [.ref x_paper_ranks, .ref x_paper_digits, .ref x_paper_barred, .ref x_paper_pays, .ref x_paper_measuredBarred, .ref x_paper_buckets, .ref q_5, .ref q_7, .ref q_9, .ref q_1, .ref q_2, .ref q_3, .ref q_4, .int 0, .int 1, .int 0, .int 0, .int (-1), .int (-1), .int 0])), (x_paper_digits, .inl (ty 0, 6, .inl (upd (upd (upd (upd (upd (upd (upd (upd (upd (upd (upd (upd (upd (upd (upd (upd (upd (upd (fun _ => 0) 0 0) 0 0) 1 1) 0 0) 1 1) 2 2) 0 0) 1 1) 2 2) 3 3) 0 0) 1 1) 2 2) 3 3) 4 4) 0 0) 1 1) 2 2)))] H := hP
                            have hD : va_D A [(x_paper, .inr (3, [.ref x_paper_ranks, .ref x_paper_digits, .ref x_paper_barred, .ref x_paper_pays, .ref x_paper_measuredBarred, .ref x_paper_buckets, .ref q_5, .ref q_7, .ref q_9, .ref q_1, .ref q_2, .ref q_3, .ref q_4, .int 0, .int 1, .int 0, .int 0, .int (-1), .int (-1), .int 0])), (x_paper_digits, .inl (ty 0, 6, .inl (upd (upd (upd (upd (upd (upd (upd (upd (upd (upd (upd (upd (upd (upd (upd (upd (upd (upd (fun _ => 0) 0 0) 0 0) 1 1) 0 0) 1 1) 2 2) 0 0) 1 1) 2 2) 3 3) 0 0) 1 1) 2 2) 3 3) 4 4) 0 0) 1 1) 2 2)))] := hD
                            refine lv_iinc (v := 3) (lv' := [(4, .int 3), (3, .int 5), (2, .int 5), (0, .ref x_paper), (1, .int 0)]) hx hb dX3_setDigits_60 hl (k := 0) rfl (by decide) (by decide) rfl (fun ls hl => ?_)
                            refine lv_goto (tgt := 25) hx hb dX3_setDigits_63 (by decide) ?_
                            refine lv_iload hx hb dX3_setDigits_25 (lv_at hl 0 rfl) ?_
                            refine lv_iload_n hx hb dX3_setDigits_27 rfl (lv_at hl 2 rfl) ?_
                            refine lv_icmp_ge (tgt := 66) hx hb dX3_setDigits_28 (by decide) (fun h => absurd h (by decide)) (fun _ => ?_)
                            refine lv_aload_n hx hb dX3_setDigits_31 rfl (lv_at hl 3 rfl) ?_
                            refine va_get (D := D) (ci := 3) (v := .ref x_paper_digits) (C := RX3) (T := TX3) (N := 20) hx hb hts (by decide +kernel) hown hK hP 0 rfl rfl 1 (by decide) (hts (.fieldLink RX3 15 "TurnedFloors$Paper" "digits" "[I") (by decide +kernel)) (fun _ h9 => h9) rfl dX3_setDigits_32 ?_
                            refine lv_iload hx hb dX3_setDigits_35 (lv_at hl 0 rfl) ?_
                            refine lv_dup2_11 hx hb dX3_setDigits_37 rfl rfl ?_
                            refine va_iald hx hb hK hP 1 0 rfl rfl (by simp only [vp_in]; decide) dX3_setDigits_38 ?_
                            refine lv_topi (fun z_90 ez_90 => ?_)
                            obtain rfl : z_90 = 3 := ez_90.trans (by first | rfl | decide +kernel)
                            refine lv_aload_n hx hb dX3_setDigits_39 rfl (lv_at hl 3 rfl) ?_
                            refine va_get (D := D) (ci := 3) (v := .ref x_paper_digits) (C := RX3) (T := TX3) (N := 20) hx hb hts (by decide +kernel) hown hK hP 0 rfl rfl 1 (by decide) (hts (.fieldLink RX3 15 "TurnedFloors$Paper" "digits" "[I") (by decide +kernel)) (fun _ h9 => h9) rfl dX3_setDigits_40 ?_
                            refine lv_iload hx hb dX3_setDigits_43 (lv_at hl 0 rfl) ?_
                            refine va_iald hx hb hK hP 1 0 rfl rfl (by simp only [vp_in]; decide) dX3_setDigits_45 ?_
                            refine lv_topi (fun z_91 ez_91 => ?_)
                            obtain rfl : z_91 = 3 := ez_91.trans (by first | rfl | decide +kernel)
                            refine lv_iload_n hx hb dX3_setDigits_46 rfl (lv_at hl 1 rfl) ?_
                            refine lv_icmp_lt (tgt := 54) hx hb dX3_setDigits_47 (by decide) (fun _ => ?_) (fun h => absurd (by decide) h)
                            refine lv_iconst (v := 0) hx hb dX3_setDigits_54 (by decide) ?_
                            refine kz_ki (wc := []) (wr := [(x_paper, .inr (3, [.ref x_paper_ranks, .ref x_paper_digits, .ref x_paper_barred, .ref x_paper_pays, .ref x_paper_measuredBarred, .ref x_paper_buckets, .ref q_5, .ref q_7, .ref q_9, .ref q_1, .ref q_2, .ref q_3, .ref q_4, .int 0, .int 1, .int 0, .int 0, .int (-1), .int (-1), .int 0])), (x_paper_digits, .inl (ty 0, 6, .inl (upd (upd (upd (upd (upd (upd (upd (upd (upd (upd (upd (upd (upd (upd (upd (upd (upd (upd (fun _ => 0) 0 0) 0 0) 1 1) 0 0) 1 1) 2 2) 0 0) 1 1) 2 2) 3 3) 0 0) 1 1) 2 2) 3 3) 4 4) 0 0) 1 1) 2 2)))]) (va_runSN (As := [.int 0]) (rest := [.int 3, .int 3, .ref x_paper_digits]) ⟨hx, hb, hml, hown, hts⟩ (kcX9_bit l D ty eo _ 0) ⟨va_cnB 1 hts gX3_setDigits_X9_bit_n133 rfl rfl rfl (hN.1 _ (by decide +kernel : (.methodLinkNest "TurnedFloors$Paper" 133 yX9_bit "TurnedFloors" : Cond) ∈ kzN1)) (hts (.initialized RX9) (by decide +kernel)) (by decide +kernel) ⟨Nat.le_of_ble_eq_true rfl, Nat.le_of_ble_eq_true rfl⟩, hts (.static yX9_bit) (by decide +kernel), trivial⟩ (kz_preS hK hN hE hP hD hS hA [] (by decide) rfl) rfl rfl hl.1 rfl (lv_room (Nat.le_of_ble_eq_true rfl)) dX3_setDigits_55 ⟨Nat.le_of_ble_eq_true rfl, Nat.le_of_ble_eq_true rfl⟩) hP hD hS hA [] [0, 1] rfl rfl (by decide) (by decide) (fun r u H locs hw hP hD hS => ?_)
                            rcases hw with ⟨c_92, rfl, rfl⟩ | ⟨c_93, rfl, rfl⟩
                            · have hP : va_P D vwCl [(x_paper, .inr (3, [.ref x_paper_ranks, .ref x_paper_digits, .ref x_paper_barred, .ref x_paper_pays, .ref x_paper_measuredBarred, .ref x_paper_buckets, .ref q_5, .ref q_7, .ref q_9, .ref q_1, .ref q_2, .ref q_3, .ref q_4, .int 0, .int 1, .int 0, .int 0, .int (-1), .int (-1), .int 0])), (x_paper_digits, .inl (ty 0, 6, .inl (upd (upd (upd (upd (upd (upd (upd (upd (upd (upd (upd (upd (upd (upd (upd (upd (upd (upd (fun _ => 0) 0 0) 0 0) 1 1) 0 0) 1 1) 2 2) 0 0) 1 1) 2 2) 3 3) 0 0) 1 1) 2 2) 3 3) 4 4) 0 0) 1 1) 2 2)))] H := hP
                              have hD : va_D A [(x_paper, .inr (3, [.ref x_paper_ranks, .ref x_paper_digits, .ref x_paper_barred, .ref x_paper_pays, .ref x_paper_measuredBarred, .ref x_paper_buckets, .ref q_5, .ref q_7, .ref q_9, .ref q_1, .ref q_2, .ref q_3, .ref q_4, .int 0, .int 1, .int 0, .int 0, .int (-1), .int (-1), .int 0])), (x_paper_digits, .inl (ty 0, 6, .inl (upd (upd (upd (upd (upd (upd (upd (upd (upd (upd (upd (upd (upd (upd (upd (upd (upd (upd (fun _ => 0) 0 0) 0 0) 1 1) 0 0) 1 1) 2 2) 0 0) 1 1) 2 2) 3 3) 0 0) 1 1) 2 2) 3 3) 4 4) 0 0) 1 1) 2 2)))] := hD
                              refine lv_iadd hx hb dX3_setDigits_58 ?_
                              refine lv_topi (fun z_94 ez_94 => ?_)
                              obtain rfl : z_94 = 3 := ez_94.trans (by first | rfl | decide +kernel)
                              refine va_iast hx hb hK hP hD hS 1 0 rfl rfl (by simp only [vp_in]; decide) dX3_setDigits_59 (fun H locs hP hD hS => ?_)
                              have hP : va_P D vwCl [(x_paper, .inr (3, [.ref x_paper_ranks, .ref x_paper_digits, .ref x_paper_barred, .ref x_paper_pays, .ref x_paper_measuredBarred, .ref x_paper_buckets, .ref q_5, .ref q_7, .ref q_9, .ref q_1, .ref q_2, .ref q_3, .ref q_4, .int 0, .int 1, .int 0, .int 0, .int (-1), .int (-1), .int 0])), (x_paper_digits, .inl (ty 0, 6, .inl (upd (upd (upd (upd (upd (upd (upd (upd (upd (upd (upd (upd (upd (upd (upd (upd (upd (upd (upd (fun _ => 0) 0 0) 0 0) 1 1) 0 0) 1 1) 2 2) 0 0) 1 1) 2 2) 3 3) 0 0) 1 1) 2 2) 3 3) 4 4) 0 0) 1 1) 2 2) 3 3)))] H := hP
                              have hD : va_D A [(x_paper, .inr (3, [.ref x_paper_ranks, .ref x_paper_digits, .ref x_paper_barred, .ref x_paper_pays, .ref x_paper_measuredBarred, .ref x_paper_buckets, .ref q_5, .ref q_7, .ref q_9, .ref q_1, .ref q_2, .ref q_3, .ref q_4, .int 0, .int 1, .int 0, .int 0, .int (-1), .int (-1), .int 0])), (x_paper_digits, .inl (ty 0, 6, .inl (upd (upd (upd (upd (upd (upd (upd (upd (upd (upd (upd (upd (upd (upd (upd (upd (upd (upd (upd (fun _ => 0) 0 0) 0 0) 1 1) 0 0) 1 1) 2 2) 0 0) 1 1) 2 2) 3 3) 0 0) 1 1) 2 2) 3 3) 4 4) 0 0) 1 1) 2 2) 3 3)))] := hD
                              refine lv_iinc (v := 4) (lv' := [(4, .int 4), (3, .int 5), (2, .int 5), (0, .ref x_paper), (1, .int 0)]) hx hb dX3_setDigits_60 hl (k := 0) rfl (by decide) (by decide) rfl (fun ls hl => ?_)
                              refine lv_goto (tgt := 25) hx hb dX3_setDigits_63 (by decide) ?_
                              refine lv_iload hx hb dX3_setDigits_25 (lv_at hl 0 rfl) ?_
                              refine lv_iload_n hx hb dX3_setDigits_27 rfl (lv_at hl 2 rfl) ?_
                              refine lv_icmp_ge (tgt := 66) hx hb dX3_setDigits_28 (by decide) (fun h => absurd h (by decide)) (fun _ => ?_)
                              refine lv_aload_n hx hb dX3_setDigits_31 rfl (lv_at hl 3 rfl) ?_
                              refine va_get (D := D) (ci := 3) (v := .ref x_paper_digits) (C := RX3) (T := TX3) (N := 20) hx hb hts (by decide +kernel) hown hK hP 0 rfl rfl 1 (by decide) (hts (.fieldLink RX3 15 "TurnedFloors$Paper" "digits" "[I") (by decide +kernel)) (fun _ h9 => h9) rfl dX3_setDigits_32 ?_
                              refine lv_iload hx hb dX3_setDigits_35 (lv_at hl 0 rfl) ?_
                              refine lv_dup2_11 hx hb dX3_setDigits_37 rfl rfl ?_
                              refine va_iald hx hb hK hP 1 0 rfl rfl (by simp only [vp_in]; decide) dX3_setDigits_38 ?_
                              refine lv_topi (fun z_95 ez_95 => ?_)
                              obtain rfl : z_95 = 4 := ez_95.trans (by first | rfl | decide +kernel)
                              refine lv_aload_n hx hb dX3_setDigits_39 rfl (lv_at hl 3 rfl) ?_
                              refine va_get (D := D) (ci := 3) (v := .ref x_paper_digits) (C := RX3) (T := TX3) (N := 20) hx hb hts (by decide +kernel) hown hK hP 0 rfl rfl 1 (by decide) (hts (.fieldLink RX3 15 "TurnedFloors$Paper" "digits" "[I") (by decide +kernel)) (fun _ h9 => h9) rfl dX3_setDigits_40 ?_
                              refine lv_iload hx hb dX3_setDigits_43 (lv_at hl 0 rfl) ?_
                              refine va_iald hx hb hK hP 1 0 rfl rfl (by simp only [vp_in]; decide) dX3_setDigits_45 ?_
                              refine lv_topi (fun z_96 ez_96 => ?_)
                              obtain rfl : z_96 = 4 := ez_96.trans (by first | rfl | decide +kernel)
                              refine lv_iload_n hx hb dX3_setDigits_46 rfl (lv_at hl 1 rfl) ?_
                              refine lv_icmp_lt (tgt := 54) hx hb dX3_setDigits_47 (by decide) (fun _ => ?_) (fun h => absurd (by decide) h)
                              refine lv_iconst (v := 0) hx hb dX3_setDigits_54 (by decide) ?_
                              refine kz_ki (wc := []) (wr := [(x_paper, .inr (3, [.ref x_paper_ranks, .ref x_paper_digits, .ref x_paper_barred, .ref x_paper_pays, .ref x_paper_measuredBarred, .ref x_paper_buckets, .ref q_5, .ref q_7, .ref q_9, .ref q_1, .ref q_2, .ref q_3, .ref q_4, .int 0, .int 1, .int 0, .int 0, .int (-1), .int (-1), .int 0])), (x_paper_digits, .inl (ty 0, 6, .inl (upd (upd (upd (upd (upd (upd (upd (upd (upd (upd (upd (upd (upd (upd (upd (upd (upd (upd (upd (fun _ => 0) 0 0) 0 0) 1 1) 0 0) 1 1) 2 2) 0 0) 1 1) 2 2) 3 3) 0 0) 1 1) 2 2) 3 3) 4 4) 0 0) 1 1) 2 2) 3 3)))]) (va_runSN (As := [.int 0]) (rest := [.int 4, .int 4, .ref x_paper_digits]) ⟨hx, hb, hml, hown, hts⟩ (kcX9_bit l D ty eo _ 0) ⟨va_cnB 1 hts gX3_setDigits_X9_bit_n133 rfl rfl rfl (hN.1 _ (by decide +kernel : (.methodLinkNest "TurnedFloors$Paper" 133 yX9_bit "TurnedFloors" : Cond) ∈ kzN1)) (hts (.initialized RX9) (by decide +kernel)) (by decide +kernel) ⟨Nat.le_of_ble_eq_true rfl, Nat.le_of_ble_eq_true rfl⟩, hts (.static yX9_bit) (by decide +kernel), trivial⟩ (kz_preS hK hN hE hP hD hS hA [] (by decide) rfl) rfl rfl hl.1 rfl (lv_room (Nat.le_of_ble_eq_true rfl)) dX3_setDigits_55 ⟨Nat.le_of_ble_eq_true rfl, Nat.le_of_ble_eq_true rfl⟩) hP hD hS hA [] [0, 1] rfl rfl (by decide) (by decide) (fun r u H locs hw hP hD hS => ?_)
                              rcases hw with ⟨c_97, rfl, rfl⟩ | ⟨c_98, rfl, rfl⟩
                              · have hP : va_P D vwCl [(x_paper, .inr (3, [.ref x_paper_ranks, .ref x_paper_digits, .ref x_paper_barred, .ref x_paper_pays, .ref x_paper_measuredBarred, .ref x_paper_buckets, .ref q_5, .ref q_7, .ref q_9, .ref q_1, .ref q_2, .ref q_3, .ref q_4, .int 0, .int 1, .int 0, .int 0, .int (-1), .int (-1), .int 0])), (x_paper_digits, .inl (ty 0, 6, .inl (upd (upd (upd (upd (upd (upd (upd (upd (upd (upd (upd (upd (upd (upd (upd (upd (upd (upd (upd (fun _ => 0) 0 0) 0 0) 1 1) 0 0) 1 1) 2 2) 0 0) 1 1) 2 2) 3 3) 0 0) 1 1) 2 2) 3 3) 4 4) 0 0) 1 1) 2 2) 3 3)))] H := hP
                                have hD : va_D A [(x_paper, .inr (3, [.ref x_paper_ranks, .ref x_paper_digits, .ref x_paper_barred, .ref x_paper_pays, .ref x_paper_measuredBarred, .ref x_paper_buckets, .ref q_5, .ref q_7, .ref q_9, .ref q_1, .ref q_2, .ref q_3, .ref q_4, .int 0, .int 1, .int 0, .int 0, .int (-1), .int (-1), .int 0])), (x_paper_digits, .inl (ty 0, 6, .inl (upd (upd (upd (upd (upd (upd (upd (upd (upd (upd (upd (upd (upd (upd (upd (upd (upd (upd (upd (fun _ => 0) 0 0) 0 0) 1 1) 0 0) 1 1) 2 2) 0 0) 1 1) 2 2) 3 3) 0 0) 1 1) 2 2) 3 3) 4 4) 0 0) 1 1) 2 2) 3 3)))] := hD
                                refine lv_iadd hx hb dX3_setDigits_58 ?_
                                refine lv_topi (fun z_99 ez_99 => ?_)
                                obtain rfl : z_99 = 4 := ez_99.trans (by first | rfl | decide +kernel)
                                refine va_iast hx hb hK hP hD hS 1 0 rfl rfl (by simp only [vp_in]; decide) dX3_setDigits_59 (fun H locs hP hD hS => ?_)
                                have hP : va_P D vwCl [(x_paper, .inr (3, [.ref x_paper_ranks, .ref x_paper_digits, .ref x_paper_barred, .ref x_paper_pays, .ref x_paper_measuredBarred, .ref x_paper_buckets, .ref q_5, .ref q_7, .ref q_9, .ref q_1, .ref q_2, .ref q_3, .ref q_4, .int 0, .int 1, .int 0, .int 0, .int (-1), .int (-1), .int 0])), (x_paper_digits, .inl (ty 0, 6, .inl (upd (upd (upd (upd (upd (upd (upd (upd (upd (upd (upd (upd (upd (upd (upd (upd (upd (upd (upd (upd (fun _ => 0) 0 0) 0 0) 1 1) 0 0) 1 1) 2 2) 0 0) 1 1) 2 2) 3 3) 0 0) 1 1) 2 2) 3 3) 4 4) 0 0) 1 1) 2 2) 3 3) 4 4)))] H := hP
                                have hD : va_D A [(x_paper, .inr (3, [.ref x_paper_ranks, .ref x_paper_digits, .ref x_paper_barred, .ref x_paper_pays, .ref x_paper_measuredBarred, .ref x_paper_buckets, .ref q_5, .ref q_7, .ref q_9, .ref q_1, .ref q_2, .ref q_3, .ref q_4, .int 0, .int 1, .int 0, .int 0, .int (-1), .int (-1), .int 0])), (x_paper_digits, .inl (ty 0, 6, .inl (upd (upd (upd (upd (upd (upd (upd (upd (upd (upd (upd (upd (upd (upd (upd (upd (upd (upd (upd (upd (fun _ => 0) 0 0) 0 0) 1 1) 0 0) 1 1) 2 2) 0 0) 1 1) 2 2) 3 3) 0 0) 1 1) 2 2) 3 3) 4 4) 0 0) 1 1) 2 2) 3 3) 4 4)))] := hD
                                refine lv_iinc (v := 5) (lv' := [(4, .int 5), (3, .int 5), (2, .int 5), (0, .ref x_paper), (1, .int 0)]) hx hb dX3_setDigits_60 hl (k := 0) rfl (by decide) (by decide) rfl (fun ls hl => ?_)
                                refine lv_goto (tgt := 25) hx hb dX3_setDigits_63 (by decide) ?_
                                refine lv_iload hx hb dX3_setDigits_25 (lv_at hl 0 rfl) ?_
                                refine lv_iload_n hx hb dX3_setDigits_27 rfl (lv_at hl 2 rfl) ?_
                                refine lv_icmp_ge (tgt := 66) hx hb dX3_setDigits_28 (by decide) (fun _ => ?_) (fun h => absurd (by decide) h)
                                refine lv_aload_n hx hb dX3_setDigits_66 rfl (lv_at hl 3 rfl) ?_
                                refine va_get (D := D) (ci := 3) (v := .ref x_paper_digits) (C := RX3) (T := TX3) (N := 20) hx hb hts (by decide +kernel) hown hK hP 0 rfl rfl 1 (by decide) (hts (.fieldLink RX3 15 "TurnedFloors$Paper" "digits" "[I") (by decide +kernel)) (fun _ h9 => h9) rfl dX3_setDigits_67 ?_
                                refine lv_iload_n hx hb dX3_setDigits_70 rfl (lv_at hl 2 rfl) ?_
                                refine lv_iload_n hx hb dX3_setDigits_71 rfl (lv_at hl 1 rfl) ?_
                                refine va_iast hx hb hK hP hD hS 1 0 rfl rfl (by simp only [vp_in]; decide) dX3_setDigits_72 (fun H locs hP hD hS => ?_)
                                have hP : va_P D vwCl [(x_paper, .inr (3, [.ref x_paper_ranks, .ref x_paper_digits, .ref x_paper_barred, .ref x_paper_pays, .ref x_paper_measuredBarred, .ref x_paper_buckets, .ref q_5, .ref q_7, .ref q_9, .ref q_1, .ref q_2, .ref q_3, .ref q_4, .int 0, .int 1, .int 0, .int 0, .int (-1), .int (-1), .int 0])), (x_paper_digits, .inl (ty 0, 6, .inl (upd (upd (upd (upd (upd (upd (upd (upd (upd (upd (upd (upd (upd (upd (upd (upd (upd (upd (upd (upd (upd (fun _ => 0) 0 0) 0 0) 1 1) 0 0) 1 1) 2 2) 0 0) 1 1) 2 2) 3 3) 0 0) 1 1) 2 2) 3 3) 4 4) 0 0) 1 1) 2 2) 3 3) 4 4) 5 5)))] H := hP
                                have hD : va_D A [(x_paper, .inr (3, [.ref x_paper_ranks, .ref x_paper_digits, .ref x_paper_barred, .ref x_paper_pays, .ref x_paper_measuredBarred, .ref x_paper_buckets, .ref q_5, .ref q_7, .ref q_9, .ref q_1, .ref q_2, .ref q_3, .ref q_4, .int 0, .int 1, .int 0, .int 0, .int (-1), .int (-1), .int 0])), (x_paper_digits, .inl (ty 0, 6, .inl (upd (upd (upd (upd (upd (upd (upd (upd (upd (upd (upd (upd (upd (upd (upd (upd (upd (upd (upd (upd (upd (fun _ => 0) 0 0) 0 0) 1 1) 0 0) 1 1) 2 2) 0 0) 1 1) 2 2) 3 3) 0 0) 1 1) 2 2) 3 3) 4 4) 0 0) 1 1) 2 2) 3 3) 4 4) 5 5)))] := hD
                                refine lv_iinc (v := 6) (lv' := [(2, .int 6), (4, .int 5), (3, .int 5), (0, .ref x_paper), (1, .int 0)]) hx hb dX3_setDigits_73 hl (k := 2) rfl (by decide) (by decide) rfl (fun ls hl => ?_)
                                refine lv_goto (tgt := 2) hx hb dX3_setDigits_76 (by decide) ?_
                                refine lv_iload_n hx hb dX3_setDigits_2 rfl (lv_at hl 0 rfl) ?_
                                refine lv_bipush (v := 6) hx hb dX3_setDigits_3 (by decide) ?_
                                refine lv_icmp_ge (tgt := 79) hx hb dX3_setDigits_5 (by decide) (fun _ => ?_) (fun h => absurd (by decide) h)
                                exact kz_vret hx hb hr hlocks hP hK hD hS dX3_setDigits_79 rfl
                              · exact absurd c_98 (by decide)
                            · exact absurd c_93 (by decide)
                          · exact absurd c_88 (by decide)
                        · exact absurd c_83 (by decide)
                      · exact absurd c_78 (by decide)
                    · exact absurd c_69 (by decide)
                  · exact absurd c_64 (by decide)
                · exact absurd c_59 (by decide)
              · exact absurd c_54 (by decide)
            · exact absurd c_45 (by decide)
          · exact absurd c_40 (by decide)
        · exact absurd c_35 (by decide)
      · exact absurd c_26 (by decide)
    · exact absurd c_21 (by decide)
  · exact absurd c_12 (by decide)

set_option maxHeartbeats 4000000 in
set_option maxRecDepth 100000 in
theorem kX3_listOrder_77 (l : Launch) (D : va_G) (ty : Nat → ClassId) (eo : Nat → Nat) (sz : Nat) (x_paper x_paper_ranks x_paper_digits x_paper_barred x_paper_pays x_paper_measuredBarred x_paper_buckets q_5 q_7 q_9 q_1 q_2 q_3 q_4 : Nat) : Met l yX3_listOrder wsX3_listOrder ({ frames := 2, cells := 0, slots := 0, locals := 44 }) (va_Pc [.ref x_paper, .int 0] (kz_pre D ty eo [(x_paper, .inr (3, [.ref x_paper_ranks, .ref x_paper_digits, .ref x_paper_barred, .ref x_paper_pays, .ref x_paper_measuredBarred, .ref x_paper_buckets, .ref q_5, .ref q_7, .ref q_9, .ref q_1, .ref q_2, .ref q_3, .ref q_4, .int 0, .int 1, .int 0, .int 0, .int (-1), .int (-1), .int 0])), (x_paper_digits, .inl (ty 0, 6, .inl (fun _ => 0))), (q_5, .inl (ty 0, 1, .inl (fun _ => 0)))] sz)) (va_Qv (fun (u : va_W) => [(q_5, .inl (ty 0, 1, .inl (upd (upd (upd (upd (upd (upd (fun _ => 0) 0 0) 0 8) 0 136) 0 1672) 0 18056) 0 181896))), (x_paper, .inr (3, [.ref x_paper_ranks, .ref x_paper_digits, .ref x_paper_barred, .ref x_paper_pays, .ref x_paper_measuredBarred, .ref x_paper_buckets, .ref q_5, .ref q_7, .ref q_9, .ref q_1, .ref q_2, .ref q_3, .ref q_4, .int 0, .int 1, .int 0, .int 0, .int (-1), .int (-1), .int 0])), (x_paper_digits, .inl (ty 0, 6, .inl (upd (upd (upd (upd (upd (upd (upd (upd (upd (upd (upd (upd (upd (upd (upd (upd (upd (upd (upd (upd (upd (fun _ => 0) 0 0) 0 0) 1 1) 0 0) 1 1) 2 2) 0 0) 1 1) 2 2) 3 3) 0 0) 1 1) 2 2) 3 3) 4 4) 0 0) 1 1) 2 2) 3 3) 4 4) 5 5)))] = u) (kz_B D ty (va_A [(x_paper, .inr (3, [.ref x_paper_ranks, .ref x_paper_digits, .ref x_paper_barred, .ref x_paper_pays, .ref x_paper_measuredBarred, .ref x_paper_buckets, .ref q_5, .ref q_7, .ref q_9, .ref q_1, .ref q_2, .ref q_3, .ref q_4, .int 0, .int 1, .int 0, .int 0, .int (-1), .int (-1), .int 0])), (x_paper_digits, .inl (ty 0, 6, .inl (fun _ => 0))), (q_5, .inl (ty 0, 1, .inl (fun _ => 0)))] sz)) (va_A [(x_paper, .inr (3, [.ref x_paper_ranks, .ref x_paper_digits, .ref x_paper_barred, .ref x_paper_pays, .ref x_paper_measuredBarred, .ref x_paper_buckets, .ref q_5, .ref q_7, .ref q_9, .ref q_1, .ref q_2, .ref q_3, .ref q_4, .int 0, .int 1, .int 0, .int 0, .int (-1), .int (-1), .int 0])), (x_paper_digits, .inl (ty 0, 6, .inl (fun _ => 0))), (q_5, .inl (ty 0, 1, .inl (fun _ => 0)))] sz)) 0 0 (va_A [(x_paper, .inr (3, [.ref x_paper_ranks, .ref x_paper_digits, .ref x_paper_barred, .ref x_paper_pays, .ref x_paper_measuredBarred, .ref x_paper_buckets, .ref q_5, .ref q_7, .ref q_9, .ref q_1, .ref q_2, .ref q_3, .ref q_4, .int 0, .int 1, .int 0, .int 0, .int (-1), .int (-1), .int 0])), (x_paper_digits, .inl (ty 0, 6, .inl (fun _ => 0))), (q_5, .inl (ty 0, 1, .inl (fun _ => 0)))] sz) := by
  refine Met.ofW (cc := cX3_listOrder) (maxL := 6) (ret := none) (by decide) rfl ?_
  intro p e s m args below meth c s₁ B hml hv
  obtain ⟨rfl, hsz, hP, hK, hD0, hN, hE⟩ := hv
  have hx := B.exec
  have hb := B.bytes
  have hr := B.returns
  have hts := atoms_spec (ws := wsX3_listOrder) B.pre
  have hown : s.vm.findClass RX3 = some m.cls := findClass_of_methodNamed B.named
  have hlocks := B.notSynchronized
  subst hsz
  have hD := hD0.self (sz := s.heap.size)
  generalize hAe : va_A [(x_paper, .inr (3, [.ref x_paper_ranks, .ref x_paper_digits, .ref x_paper_barred, .ref x_paper_pays, .ref x_paper_measuredBarred, .ref x_paper_buckets, .ref q_5, .ref q_7, .ref q_9, .ref q_1, .ref q_2, .ref q_3, .ref q_4, .int 0, .int 1, .int 0, .int 0, .int (-1), .int (-1), .int 0])), (x_paper_digits, .inl (ty 0, 6, .inl (fun _ => 0))), (q_5, .inl (ty 0, 1, .inl (fun _ => 0)))] s.heap.size = A at hD hE ⊢
  have hA : ∀ q : Nat, s.heap.size ≤ q → A q := fun q h => by rw [← hAe]; exact Or.inr h
  have hS : va_S A s.heap s.heap [] := va_S.rf
  have hl := lv_entry ([.ref x_paper, .int 0]) (n := 6) (Nat.le_of_ble_eq_true rfl)
  rw [lg_entry_eq]
  generalize (lg_sl ([.ref x_paper, .int 0]) ++ List.replicate (6 - (lg_sl ([.ref x_paper, .int 0])).length) Slot.unset).toArray = ls at hl ⊢
  have hl : lv_has ls 6 [(0, .ref x_paper), (1, .int 0)] := hl
  refine lv_aload_n hx hb dX3_listOrder_0 rfl (lv_at hl 0 rfl) ?_
  refine lv_iload_n hx hb dX3_listOrder_1 rfl (lv_at hl 1 rfl) ?_
  refine kz_kv (wc := [(x_paper, .inr (3, [.ref x_paper_ranks, .ref x_paper_digits, .ref x_paper_barred, .ref x_paper_pays, .ref x_paper_measuredBarred, .ref x_paper_buckets, .ref q_5, .ref q_7, .ref q_9, .ref q_1, .ref q_2, .ref q_3, .ref q_4, .int 0, .int 1, .int 0, .int 0, .int (-1), .int (-1), .int 0])), (x_paper_digits, .inl (ty 0, 6, .inl (fun _ => 0)))]) (wr := [(q_5, .inl (ty 0, 1, .inl (fun _ => 0)))]) (va_runV (As := [.int 0]) (rest := []) ⟨hx, hb, hml, hown, hts⟩ (kX3_setDigits_78 l D ty eo _ x_paper x_paper_ranks x_paper_digits x_paper_barred x_paper_pays x_paper_measuredBarred x_paper_buckets q_5 q_7 q_9 q_1 q_2 q_3 q_4) (cwV 1 hts gX3_listOrder_X3_setDigits rfl rfl rfl (by decide +kernel) ⟨Nat.le_of_ble_eq_true rfl, Nat.le_of_ble_eq_true rfl⟩) (kz_preV (ci := 3) (q0 := 0) hK hN hE hP hD hS hA rfl rfl [0, 1] (by decide) rfl) rfl rfl hl.1 rfl (lv_room (Nat.le_of_ble_eq_true rfl)) dX3_listOrder_2 ⟨Nat.le_of_ble_eq_true rfl, Nat.le_of_ble_eq_true rfl⟩) hP hD hS hA [0, 1] [2] rfl rfl (by decide) (by decide) (fun u H locs hw hP hD hS => ?_)
  obtain rfl := hw
  have hP : va_P D vwCl [(q_5, .inl (ty 0, 1, .inl (fun _ => 0))), (x_paper, .inr (3, [.ref x_paper_ranks, .ref x_paper_digits, .ref x_paper_barred, .ref x_paper_pays, .ref x_paper_measuredBarred, .ref x_paper_buckets, .ref q_5, .ref q_7, .ref q_9, .ref q_1, .ref q_2, .ref q_3, .ref q_4, .int 0, .int 1, .int 0, .int 0, .int (-1), .int (-1), .int 0])), (x_paper_digits, .inl (ty 0, 6, .inl (upd (upd (upd (upd (upd (upd (upd (upd (upd (upd (upd (upd (upd (upd (upd (upd (upd (upd (upd (upd (upd (fun _ => 0) 0 0) 0 0) 1 1) 0 0) 1 1) 2 2) 0 0) 1 1) 2 2) 3 3) 0 0) 1 1) 2 2) 3 3) 4 4) 0 0) 1 1) 2 2) 3 3) 4 4) 5 5)))] H := hP
  have hD : va_D A [(q_5, .inl (ty 0, 1, .inl (fun _ => 0))), (x_paper, .inr (3, [.ref x_paper_ranks, .ref x_paper_digits, .ref x_paper_barred, .ref x_paper_pays, .ref x_paper_measuredBarred, .ref x_paper_buckets, .ref q_5, .ref q_7, .ref q_9, .ref q_1, .ref q_2, .ref q_3, .ref q_4, .int 0, .int 1, .int 0, .int 0, .int (-1), .int (-1), .int 0])), (x_paper_digits, .inl (ty 0, 6, .inl (upd (upd (upd (upd (upd (upd (upd (upd (upd (upd (upd (upd (upd (upd (upd (upd (upd (upd (upd (upd (upd (fun _ => 0) 0 0) 0 0) 1 1) 0 0) 1 1) 2 2) 0 0) 1 1) 2 2) 3 3) 0 0) 1 1) 2 2) 3 3) 4 4) 0 0) 1 1) 2 2) 3 3) 4 4) 5 5)))] := hD
  refine lv_iconst (v := 0) hx hb dX3_listOrder_5 (by decide) ?_
  refine lv_istore_n (lv' := [(2, .int 0), (0, .ref x_paper), (1, .int 0)]) hx hb dX3_listOrder_6 rfl hl (by decide) rfl (fun ls hl => ?_)
  refine lv_iload_n hx hb dX3_listOrder_7 rfl (lv_at hl 0 rfl) ?_
  refine lv_bipush (v := 6) hx hb dX3_listOrder_8 (by decide) ?_
  refine lv_icmp_ge (tgt := 38) hx hb dX3_listOrder_10 (by decide) (fun h => absurd h (by decide)) (fun _ => ?_)
  refine lv_aload_n hx hb dX3_listOrder_13 rfl (lv_at hl 1 rfl) ?_
  refine va_get (D := D) (ci := 3) (v := .ref q_5) (C := RX3) (T := TX3) (N := 20) hx hb hts (by decide +kernel) hown hK hP 1 rfl rfl 6 (by decide) (hts (.fieldLink RX3 30 "TurnedFloors$Paper" "orders" "[I") (by decide +kernel)) (fun _ h9 => h9) rfl dX3_listOrder_14 ?_
  refine lv_iload_n hx hb dX3_listOrder_17 rfl (lv_at hl 2 rfl) ?_
  refine lv_dup2_11 hx hb dX3_listOrder_18 rfl rfl ?_
  refine va_iald hx hb hK hP 0 0 rfl rfl (by simp only [vp_in]; decide) dX3_listOrder_19 ?_
  refine lv_topi (fun z_1 ez_1 => ?_)
  obtain rfl : z_1 = 0 := ez_1.trans (by first | rfl | decide +kernel)
  refine lv_aload_n hx hb dX3_listOrder_20 rfl (lv_at hl 1 rfl) ?_
  refine va_get (D := D) (ci := 3) (v := .ref x_paper_digits) (C := RX3) (T := TX3) (N := 20) hx hb hts (by decide +kernel) hown hK hP 1 rfl rfl 1 (by decide) (hts (.fieldLink RX3 15 "TurnedFloors$Paper" "digits" "[I") (by decide +kernel)) (fun _ h9 => h9) rfl dX3_listOrder_21 ?_
  refine lv_iload_n hx hb dX3_listOrder_24 rfl (lv_at hl 0 rfl) ?_
  refine va_iald hx hb hK hP 2 0 rfl rfl (by simp only [vp_in]; decide) dX3_listOrder_25 ?_
  refine lv_topi (fun z_2 ez_2 => ?_)
  obtain rfl : z_2 = 0 := ez_2.trans (by first | rfl | decide +kernel)
  refine lv_iconst (v := 3) hx hb dX3_listOrder_26 (by decide) ?_
  refine lv_iload_n hx hb dX3_listOrder_27 rfl (lv_at hl 0 rfl) ?_
  refine lv_imul hx hb dX3_listOrder_28 ?_
  refine lv_topi (fun z_3 ez_3 => ?_)
  obtain rfl : z_3 = 0 := ez_3.trans (by first | rfl | decide +kernel)
  refine lv_ishl hx hb dX3_listOrder_29 ?_
  refine lv_topi (fun z_4 ez_4 => ?_)
  obtain rfl : z_4 = 0 := ez_4.trans (by first | rfl | decide +kernel)
  refine lv_ior hx hb dX3_listOrder_30 ?_
  refine lv_topi (fun z_5 ez_5 => ?_)
  obtain rfl : z_5 = 0 := ez_5.trans (by first | rfl | decide +kernel)
  refine va_iast hx hb hK hP hD hS 0 0 rfl rfl (by simp only [vp_in]; decide) dX3_listOrder_31 (fun H locs hP hD hS => ?_)
  have hP : va_P D vwCl [(q_5, .inl (ty 0, 1, .inl (upd (fun _ => 0) 0 0))), (x_paper, .inr (3, [.ref x_paper_ranks, .ref x_paper_digits, .ref x_paper_barred, .ref x_paper_pays, .ref x_paper_measuredBarred, .ref x_paper_buckets, .ref q_5, .ref q_7, .ref q_9, .ref q_1, .ref q_2, .ref q_3, .ref q_4, .int 0, .int 1, .int 0, .int 0, .int (-1), .int (-1), .int 0])), (x_paper_digits, .inl (ty 0, 6, .inl (upd (upd (upd (upd (upd (upd (upd (upd (upd (upd (upd (upd (upd (upd (upd (upd (upd (upd (upd (upd (upd (fun _ => 0) 0 0) 0 0) 1 1) 0 0) 1 1) 2 2) 0 0) 1 1) 2 2) 3 3) 0 0) 1 1) 2 2) 3 3) 4 4) 0 0) 1 1) 2 2) 3 3) 4 4) 5 5)))] H := hP
  have hD : va_D A [(q_5, .inl (ty 0, 1, .inl (upd (fun _ => 0) 0 0))), (x_paper, .inr (3, [.ref x_paper_ranks, .ref x_paper_digits, .ref x_paper_barred, .ref x_paper_pays, .ref x_paper_measuredBarred, .ref x_paper_buckets, .ref q_5, .ref q_7, .ref q_9, .ref q_1, .ref q_2, .ref q_3, .ref q_4, .int 0, .int 1, .int 0, .int 0, .int (-1), .int (-1), .int 0])), (x_paper_digits, .inl (ty 0, 6, .inl (upd (upd (upd (upd (upd (upd (upd (upd (upd (upd (upd (upd (upd (upd (upd (upd (upd (upd (upd (upd (upd (fun _ => 0) 0 0) 0 0) 1 1) 0 0) 1 1) 2 2) 0 0) 1 1) 2 2) 3 3) 0 0) 1 1) 2 2) 3 3) 4 4) 0 0) 1 1) 2 2) 3 3) 4 4) 5 5)))] := hD
  refine lv_iinc (v := 1) (lv' := [(2, .int 1), (0, .ref x_paper), (1, .int 0)]) hx hb dX3_listOrder_32 hl (k := 0) rfl (by decide) (by decide) rfl (fun ls hl => ?_)
  refine lv_goto (tgt := 7) hx hb dX3_listOrder_35 (by decide) ?_
  refine lv_iload_n hx hb dX3_listOrder_7 rfl (lv_at hl 0 rfl) ?_
  refine lv_bipush (v := 6) hx hb dX3_listOrder_8 (by decide) ?_
  refine lv_icmp_ge (tgt := 38) hx hb dX3_listOrder_10 (by decide) (fun h => absurd h (by decide)) (fun _ => ?_)
  refine lv_aload_n hx hb dX3_listOrder_13 rfl (lv_at hl 1 rfl) ?_
  refine va_get (D := D) (ci := 3) (v := .ref q_5) (C := RX3) (T := TX3) (N := 20) hx hb hts (by decide +kernel) hown hK hP 1 rfl rfl 6 (by decide) (hts (.fieldLink RX3 30 "TurnedFloors$Paper" "orders" "[I") (by decide +kernel)) (fun _ h9 => h9) rfl dX3_listOrder_14 ?_
  refine lv_iload_n hx hb dX3_listOrder_17 rfl (lv_at hl 2 rfl) ?_
  refine lv_dup2_11 hx hb dX3_listOrder_18 rfl rfl ?_
  refine va_iald hx hb hK hP 0 0 rfl rfl (by simp only [vp_in]; decide) dX3_listOrder_19 ?_
  refine lv_topi (fun z_6 ez_6 => ?_)
  obtain rfl : z_6 = 0 := ez_6.trans (by first | rfl | decide +kernel)
  refine lv_aload_n hx hb dX3_listOrder_20 rfl (lv_at hl 1 rfl) ?_
  refine va_get (D := D) (ci := 3) (v := .ref x_paper_digits) (C := RX3) (T := TX3) (N := 20) hx hb hts (by decide +kernel) hown hK hP 1 rfl rfl 1 (by decide) (hts (.fieldLink RX3 15 "TurnedFloors$Paper" "digits" "[I") (by decide +kernel)) (fun _ h9 => h9) rfl dX3_listOrder_21 ?_
  refine lv_iload_n hx hb dX3_listOrder_24 rfl (lv_at hl 0 rfl) ?_
  refine va_iald hx hb hK hP 2 0 rfl rfl (by simp only [vp_in]; decide) dX3_listOrder_25 ?_
  refine lv_topi (fun z_7 ez_7 => ?_)
  obtain rfl : z_7 = 1 := ez_7.trans (by first | rfl | decide +kernel)
  refine lv_iconst (v := 3) hx hb dX3_listOrder_26 (by decide) ?_
  refine lv_iload_n hx hb dX3_listOrder_27 rfl (lv_at hl 0 rfl) ?_
  refine lv_imul hx hb dX3_listOrder_28 ?_
  refine lv_topi (fun z_8 ez_8 => ?_)
  obtain rfl : z_8 = 3 := ez_8.trans (by first | rfl | decide +kernel)
  refine lv_ishl hx hb dX3_listOrder_29 ?_
  refine lv_topi (fun z_9 ez_9 => ?_)
  obtain rfl : z_9 = 8 := ez_9.trans (by first | rfl | decide +kernel)
  refine lv_ior hx hb dX3_listOrder_30 ?_
  refine lv_topi (fun z_10 ez_10 => ?_)
  obtain rfl : z_10 = 8 := ez_10.trans (by first | rfl | decide +kernel)
  refine va_iast hx hb hK hP hD hS 0 0 rfl rfl (by simp only [vp_in]; decide) dX3_listOrder_31 (fun H locs hP hD hS => ?_)
  have hP : va_P D vwCl [(q_5, .inl (ty 0, 1, .inl (upd (upd (fun _ => 0) 0 0) 0 8))), (x_paper, .inr (3, [.ref x_paper_ranks, .ref x_paper_digits, .ref x_paper_barred, .ref x_paper_pays, .ref x_paper_measuredBarred, .ref x_paper_buckets, .ref q_5, .ref q_7, .ref q_9, .ref q_1, .ref q_2, .ref q_3, .ref q_4, .int 0, .int 1, .int 0, .int 0, .int (-1), .int (-1), .int 0])), (x_paper_digits, .inl (ty 0, 6, .inl (upd (upd (upd (upd (upd (upd (upd (upd (upd (upd (upd (upd (upd (upd (upd (upd (upd (upd (upd (upd (upd (fun _ => 0) 0 0) 0 0) 1 1) 0 0) 1 1) 2 2) 0 0) 1 1) 2 2) 3 3) 0 0) 1 1) 2 2) 3 3) 4 4) 0 0) 1 1) 2 2) 3 3) 4 4) 5 5)))] H := hP
  have hD : va_D A [(q_5, .inl (ty 0, 1, .inl (upd (upd (fun _ => 0) 0 0) 0 8))), (x_paper, .inr (3, [.ref x_paper_ranks, .ref x_paper_digits, .ref x_paper_barred, .ref x_paper_pays, .ref x_paper_measuredBarred, .ref x_paper_buckets, .ref q_5, .ref q_7, .ref q_9, .ref q_1, .ref q_2, .ref q_3, .ref q_4, .int 0, .int 1, .int 0, .int 0, .int (-1), .int (-1), .int 0])), (x_paper_digits, .inl (ty 0, 6, .inl (upd (upd (upd (upd (upd (upd (upd (upd (upd (upd (upd (upd (upd (upd (upd (upd (upd (upd (upd (upd (upd (fun _ => 0) 0 0) 0 0) 1 1) 0 0) 1 1) 2 2) 0 0) 1 1) 2 2) 3 3) 0 0) 1 1) 2 2) 3 3) 4 4) 0 0) 1 1) 2 2) 3 3) 4 4) 5 5)))] := hD
  refine lv_iinc (v := 2) (lv' := [(2, .int 2), (0, .ref x_paper), (1, .int 0)]) hx hb dX3_listOrder_32 hl (k := 0) rfl (by decide) (by decide) rfl (fun ls hl => ?_)
  refine lv_goto (tgt := 7) hx hb dX3_listOrder_35 (by decide) ?_
  refine lv_iload_n hx hb dX3_listOrder_7 rfl (lv_at hl 0 rfl) ?_
  refine lv_bipush (v := 6) hx hb dX3_listOrder_8 (by decide) ?_
  refine lv_icmp_ge (tgt := 38) hx hb dX3_listOrder_10 (by decide) (fun h => absurd h (by decide)) (fun _ => ?_)
  refine lv_aload_n hx hb dX3_listOrder_13 rfl (lv_at hl 1 rfl) ?_
  refine va_get (D := D) (ci := 3) (v := .ref q_5) (C := RX3) (T := TX3) (N := 20) hx hb hts (by decide +kernel) hown hK hP 1 rfl rfl 6 (by decide) (hts (.fieldLink RX3 30 "TurnedFloors$Paper" "orders" "[I") (by decide +kernel)) (fun _ h9 => h9) rfl dX3_listOrder_14 ?_
  refine lv_iload_n hx hb dX3_listOrder_17 rfl (lv_at hl 2 rfl) ?_
  refine lv_dup2_11 hx hb dX3_listOrder_18 rfl rfl ?_
  refine va_iald hx hb hK hP 0 0 rfl rfl (by simp only [vp_in]; decide) dX3_listOrder_19 ?_
  refine lv_topi (fun z_11 ez_11 => ?_)
  obtain rfl : z_11 = 8 := ez_11.trans (by first | rfl | decide +kernel)
  refine lv_aload_n hx hb dX3_listOrder_20 rfl (lv_at hl 1 rfl) ?_
  refine va_get (D := D) (ci := 3) (v := .ref x_paper_digits) (C := RX3) (T := TX3) (N := 20) hx hb hts (by decide +kernel) hown hK hP 1 rfl rfl 1 (by decide) (hts (.fieldLink RX3 15 "TurnedFloors$Paper" "digits" "[I") (by decide +kernel)) (fun _ h9 => h9) rfl dX3_listOrder_21 ?_
  refine lv_iload_n hx hb dX3_listOrder_24 rfl (lv_at hl 0 rfl) ?_
  refine va_iald hx hb hK hP 2 0 rfl rfl (by simp only [vp_in]; decide) dX3_listOrder_25 ?_
  refine lv_topi (fun z_12 ez_12 => ?_)
  obtain rfl : z_12 = 2 := ez_12.trans (by first | rfl | decide +kernel)
  refine lv_iconst (v := 3) hx hb dX3_listOrder_26 (by decide) ?_
  refine lv_iload_n hx hb dX3_listOrder_27 rfl (lv_at hl 0 rfl) ?_
  refine lv_imul hx hb dX3_listOrder_28 ?_
  refine lv_topi (fun z_13 ez_13 => ?_)
  obtain rfl : z_13 = 6 := ez_13.trans (by first | rfl | decide +kernel)
  refine lv_ishl hx hb dX3_listOrder_29 ?_
  refine lv_topi (fun z_14 ez_14 => ?_)
  obtain rfl : z_14 = 128 := ez_14.trans (by first | rfl | decide +kernel)
  refine lv_ior hx hb dX3_listOrder_30 ?_
  refine lv_topi (fun z_15 ez_15 => ?_)
  obtain rfl : z_15 = 136 := ez_15.trans (by first | rfl | decide +kernel)
  refine va_iast hx hb hK hP hD hS 0 0 rfl rfl (by simp only [vp_in]; decide) dX3_listOrder_31 (fun H locs hP hD hS => ?_)
  have hP : va_P D vwCl [(q_5, .inl (ty 0, 1, .inl (upd (upd (upd (fun _ => 0) 0 0) 0 8) 0 136))), (x_paper, .inr (3, [.ref x_paper_ranks, .ref x_paper_digits, .ref x_paper_barred, .ref x_paper_pays, .ref x_paper_measuredBarred, .ref x_paper_buckets, .ref q_5, .ref q_7, .ref q_9, .ref q_1, .ref q_2, .ref q_3, .ref q_4, .int 0, .int 1, .int 0, .int 0, .int (-1), .int (-1), .int 0])), (x_paper_digits, .inl (ty 0, 6, .inl (upd (upd (upd (upd (upd (upd (upd (upd (upd (upd (upd (upd (upd (upd (upd (upd (upd (upd (upd (upd (upd (fun _ => 0) 0 0) 0 0) 1 1) 0 0) 1 1) 2 2) 0 0) 1 1) 2 2) 3 3) 0 0) 1 1) 2 2) 3 3) 4 4) 0 0) 1 1) 2 2) 3 3) 4 4) 5 5)))] H := hP
  have hD : va_D A [(q_5, .inl (ty 0, 1, .inl (upd (upd (upd (fun _ => 0) 0 0) 0 8) 0 136))), (x_paper, .inr (3, [.ref x_paper_ranks, .ref x_paper_digits, .ref x_paper_barred, .ref x_paper_pays, .ref x_paper_measuredBarred, .ref x_paper_buckets, .ref q_5, .ref q_7, .ref q_9, .ref q_1, .ref q_2, .ref q_3, .ref q_4, .int 0, .int 1, .int 0, .int 0, .int (-1), .int (-1), .int 0])), (x_paper_digits, .inl (ty 0, 6, .inl (upd (upd (upd (upd (upd (upd (upd (upd (upd (upd (upd (upd (upd (upd (upd (upd (upd (upd (upd (upd (upd (fun _ => 0) 0 0) 0 0) 1 1) 0 0) 1 1) 2 2) 0 0) 1 1) 2 2) 3 3) 0 0) 1 1) 2 2) 3 3) 4 4) 0 0) 1 1) 2 2) 3 3) 4 4) 5 5)))] := hD
  refine lv_iinc (v := 3) (lv' := [(2, .int 3), (0, .ref x_paper), (1, .int 0)]) hx hb dX3_listOrder_32 hl (k := 0) rfl (by decide) (by decide) rfl (fun ls hl => ?_)
  refine lv_goto (tgt := 7) hx hb dX3_listOrder_35 (by decide) ?_
  refine lv_iload_n hx hb dX3_listOrder_7 rfl (lv_at hl 0 rfl) ?_
  refine lv_bipush (v := 6) hx hb dX3_listOrder_8 (by decide) ?_
  refine lv_icmp_ge (tgt := 38) hx hb dX3_listOrder_10 (by decide) (fun h => absurd h (by decide)) (fun _ => ?_)
  refine lv_aload_n hx hb dX3_listOrder_13 rfl (lv_at hl 1 rfl) ?_
  refine va_get (D := D) (ci := 3) (v := .ref q_5) (C := RX3) (T := TX3) (N := 20) hx hb hts (by decide +kernel) hown hK hP 1 rfl rfl 6 (by decide) (hts (.fieldLink RX3 30 "TurnedFloors$Paper" "orders" "[I") (by decide +kernel)) (fun _ h9 => h9) rfl dX3_listOrder_14 ?_
  refine lv_iload_n hx hb dX3_listOrder_17 rfl (lv_at hl 2 rfl) ?_
  refine lv_dup2_11 hx hb dX3_listOrder_18 rfl rfl ?_
  refine va_iald hx hb hK hP 0 0 rfl rfl (by simp only [vp_in]; decide) dX3_listOrder_19 ?_
  refine lv_topi (fun z_16 ez_16 => ?_)
  obtain rfl : z_16 = 136 := ez_16.trans (by first | rfl | decide +kernel)
  refine lv_aload_n hx hb dX3_listOrder_20 rfl (lv_at hl 1 rfl) ?_
  refine va_get (D := D) (ci := 3) (v := .ref x_paper_digits) (C := RX3) (T := TX3) (N := 20) hx hb hts (by decide +kernel) hown hK hP 1 rfl rfl 1 (by decide) (hts (.fieldLink RX3 15 "TurnedFloors$Paper" "digits" "[I") (by decide +kernel)) (fun _ h9 => h9) rfl dX3_listOrder_21 ?_
  refine lv_iload_n hx hb dX3_listOrder_24 rfl (lv_at hl 0 rfl) ?_
  refine va_iald hx hb hK hP 2 0 rfl rfl (by simp only [vp_in]; decide) dX3_listOrder_25 ?_
  refine lv_topi (fun z_17 ez_17 => ?_)
  obtain rfl : z_17 = 3 := ez_17.trans (by first | rfl | decide +kernel)
  refine lv_iconst (v := 3) hx hb dX3_listOrder_26 (by decide) ?_
  refine lv_iload_n hx hb dX3_listOrder_27 rfl (lv_at hl 0 rfl) ?_
  refine lv_imul hx hb dX3_listOrder_28 ?_
  refine lv_topi (fun z_18 ez_18 => ?_)
  obtain rfl : z_18 = 9 := ez_18.trans (by first | rfl | decide +kernel)
  refine lv_ishl hx hb dX3_listOrder_29 ?_
  refine lv_topi (fun z_19 ez_19 => ?_)
  obtain rfl : z_19 = 1536 := ez_19.trans (by first | rfl | decide +kernel)
  refine lv_ior hx hb dX3_listOrder_30 ?_
  refine lv_topi (fun z_20 ez_20 => ?_)
  obtain rfl : z_20 = 1672 := ez_20.trans (by first | rfl | decide +kernel)
  refine va_iast hx hb hK hP hD hS 0 0 rfl rfl (by simp only [vp_in]; decide) dX3_listOrder_31 (fun H locs hP hD hS => ?_)
  have hP : va_P D vwCl [(q_5, .inl (ty 0, 1, .inl (upd (upd (upd (upd (fun _ => 0) 0 0) 0 8) 0 136) 0 1672))), (x_paper, .inr (3, [.ref x_paper_ranks, .ref x_paper_digits, .ref x_paper_barred, .ref x_paper_pays, .ref x_paper_measuredBarred, .ref x_paper_buckets, .ref q_5, .ref q_7, .ref q_9, .ref q_1, .ref q_2, .ref q_3, .ref q_4, .int 0, .int 1, .int 0, .int 0, .int (-1), .int (-1), .int 0])), (x_paper_digits, .inl (ty 0, 6, .inl (upd (upd (upd (upd (upd (upd (upd (upd (upd (upd (upd (upd (upd (upd (upd (upd (upd (upd (upd (upd (upd (fun _ => 0) 0 0) 0 0) 1 1) 0 0) 1 1) 2 2) 0 0) 1 1) 2 2) 3 3) 0 0) 1 1) 2 2) 3 3) 4 4) 0 0) 1 1) 2 2) 3 3) 4 4) 5 5)))] H := hP
  have hD : va_D A [(q_5, .inl (ty 0, 1, .inl (upd (upd (upd (upd (fun _ => 0) 0 0) 0 8) 0 136) 0 1672))), (x_paper, .inr (3, [.ref x_paper_ranks, .ref x_paper_digits, .ref x_paper_barred, .ref x_paper_pays, .ref x_paper_measuredBarred, .ref x_paper_buckets, .ref q_5, .ref q_7, .ref q_9, .ref q_1, .ref q_2, .ref q_3, .ref q_4, .int 0, .int 1, .int 0, .int 0, .int (-1), .int (-1), .int 0])), (x_paper_digits, .inl (ty 0, 6, .inl (upd (upd (upd (upd (upd (upd (upd (upd (upd (upd (upd (upd (upd (upd (upd (upd (upd (upd (upd (upd (upd (fun _ => 0) 0 0) 0 0) 1 1) 0 0) 1 1) 2 2) 0 0) 1 1) 2 2) 3 3) 0 0) 1 1) 2 2) 3 3) 4 4) 0 0) 1 1) 2 2) 3 3) 4 4) 5 5)))] := hD
  refine lv_iinc (v := 4) (lv' := [(2, .int 4), (0, .ref x_paper), (1, .int 0)]) hx hb dX3_listOrder_32 hl (k := 0) rfl (by decide) (by decide) rfl (fun ls hl => ?_)
  refine lv_goto (tgt := 7) hx hb dX3_listOrder_35 (by decide) ?_
  refine lv_iload_n hx hb dX3_listOrder_7 rfl (lv_at hl 0 rfl) ?_
  refine lv_bipush (v := 6) hx hb dX3_listOrder_8 (by decide) ?_
  refine lv_icmp_ge (tgt := 38) hx hb dX3_listOrder_10 (by decide) (fun h => absurd h (by decide)) (fun _ => ?_)
  refine lv_aload_n hx hb dX3_listOrder_13 rfl (lv_at hl 1 rfl) ?_
  refine va_get (D := D) (ci := 3) (v := .ref q_5) (C := RX3) (T := TX3) (N := 20) hx hb hts (by decide +kernel) hown hK hP 1 rfl rfl 6 (by decide) (hts (.fieldLink RX3 30 "TurnedFloors$Paper" "orders" "[I") (by decide +kernel)) (fun _ h9 => h9) rfl dX3_listOrder_14 ?_
  refine lv_iload_n hx hb dX3_listOrder_17 rfl (lv_at hl 2 rfl) ?_
  refine lv_dup2_11 hx hb dX3_listOrder_18 rfl rfl ?_
  refine va_iald hx hb hK hP 0 0 rfl rfl (by simp only [vp_in]; decide) dX3_listOrder_19 ?_
  refine lv_topi (fun z_21 ez_21 => ?_)
  obtain rfl : z_21 = 1672 := ez_21.trans (by first | rfl | decide +kernel)
  refine lv_aload_n hx hb dX3_listOrder_20 rfl (lv_at hl 1 rfl) ?_
  refine va_get (D := D) (ci := 3) (v := .ref x_paper_digits) (C := RX3) (T := TX3) (N := 20) hx hb hts (by decide +kernel) hown hK hP 1 rfl rfl 1 (by decide) (hts (.fieldLink RX3 15 "TurnedFloors$Paper" "digits" "[I") (by decide +kernel)) (fun _ h9 => h9) rfl dX3_listOrder_21 ?_
  refine lv_iload_n hx hb dX3_listOrder_24 rfl (lv_at hl 0 rfl) ?_
  refine va_iald hx hb hK hP 2 0 rfl rfl (by simp only [vp_in]; decide) dX3_listOrder_25 ?_
  refine lv_topi (fun z_22 ez_22 => ?_)
  obtain rfl : z_22 = 4 := ez_22.trans (by first | rfl | decide +kernel)
  refine lv_iconst (v := 3) hx hb dX3_listOrder_26 (by decide) ?_
  refine lv_iload_n hx hb dX3_listOrder_27 rfl (lv_at hl 0 rfl) ?_
  refine lv_imul hx hb dX3_listOrder_28 ?_
  refine lv_topi (fun z_23 ez_23 => ?_)
  obtain rfl : z_23 = 12 := ez_23.trans (by first | rfl | decide +kernel)
  refine lv_ishl hx hb dX3_listOrder_29 ?_
  refine lv_topi (fun z_24 ez_24 => ?_)
  obtain rfl : z_24 = 16384 := ez_24.trans (by first | rfl | decide +kernel)
  refine lv_ior hx hb dX3_listOrder_30 ?_
  refine lv_topi (fun z_25 ez_25 => ?_)
  obtain rfl : z_25 = 18056 := ez_25.trans (by first | rfl | decide +kernel)
  refine va_iast hx hb hK hP hD hS 0 0 rfl rfl (by simp only [vp_in]; decide) dX3_listOrder_31 (fun H locs hP hD hS => ?_)
  have hP : va_P D vwCl [(q_5, .inl (ty 0, 1, .inl (upd (upd (upd (upd (upd (fun _ => 0) 0 0) 0 8) 0 136) 0 1672) 0 18056))), (x_paper, .inr (3, [.ref x_paper_ranks, .ref x_paper_digits, .ref x_paper_barred, .ref x_paper_pays, .ref x_paper_measuredBarred, .ref x_paper_buckets, .ref q_5, .ref q_7, .ref q_9, .ref q_1, .ref q_2, .ref q_3, .ref q_4, .int 0, .int 1, .int 0, .int 0, .int (-1), .int (-1), .int 0])), (x_paper_digits, .inl (ty 0, 6, .inl (upd (upd (upd (upd (upd (upd (upd (upd (upd (upd (upd (upd (upd (upd (upd (upd (upd (upd (upd (upd (upd (fun _ => 0) 0 0) 0 0) 1 1) 0 0) 1 1) 2 2) 0 0) 1 1) 2 2) 3 3) 0 0) 1 1) 2 2) 3 3) 4 4) 0 0) 1 1) 2 2) 3 3) 4 4) 5 5)))] H := hP
  have hD : va_D A [(q_5, .inl (ty 0, 1, .inl (upd (upd (upd (upd (upd (fun _ => 0) 0 0) 0 8) 0 136) 0 1672) 0 18056))), (x_paper, .inr (3, [.ref x_paper_ranks, .ref x_paper_digits, .ref x_paper_barred, .ref x_paper_pays, .ref x_paper_measuredBarred, .ref x_paper_buckets, .ref q_5, .ref q_7, .ref q_9, .ref q_1, .ref q_2, .ref q_3, .ref q_4, .int 0, .int 1, .int 0, .int 0, .int (-1), .int (-1), .int 0])), (x_paper_digits, .inl (ty 0, 6, .inl (upd (upd (upd (upd (upd (upd (upd (upd (upd (upd (upd (upd (upd (upd (upd (upd (upd (upd (upd (upd (upd (fun _ => 0) 0 0) 0 0) 1 1) 0 0) 1 1) 2 2) 0 0) 1 1) 2 2) 3 3) 0 0) 1 1) 2 2) 3 3) 4 4) 0 0) 1 1) 2 2) 3 3) 4 4) 5 5)))] := hD
  refine lv_iinc (v := 5) (lv' := [(2, .int 5), (0, .ref x_paper), (1, .int 0)]) hx hb dX3_listOrder_32 hl (k := 0) rfl (by decide) (by decide) rfl (fun ls hl => ?_)
  refine lv_goto (tgt := 7) hx hb dX3_listOrder_35 (by decide) ?_
  refine lv_iload_n hx hb dX3_listOrder_7 rfl (lv_at hl 0 rfl) ?_
  refine lv_bipush (v := 6) hx hb dX3_listOrder_8 (by decide) ?_
  refine lv_icmp_ge (tgt := 38) hx hb dX3_listOrder_10 (by decide) (fun h => absurd h (by decide)) (fun _ => ?_)
  refine lv_aload_n hx hb dX3_listOrder_13 rfl (lv_at hl 1 rfl) ?_
  refine va_get (D := D) (ci := 3) (v := .ref q_5) (C := RX3) (T := TX3) (N := 20) hx hb hts (by decide +kernel) hown hK hP 1 rfl rfl 6 (by decide) (hts (.fieldLink RX3 30 "TurnedFloors$Paper" "orders" "[I") (by decide +kernel)) (fun _ h9 => h9) rfl dX3_listOrder_14 ?_
  refine lv_iload_n hx hb dX3_listOrder_17 rfl (lv_at hl 2 rfl) ?_
  refine lv_dup2_11 hx hb dX3_listOrder_18 rfl rfl ?_
  refine va_iald hx hb hK hP 0 0 rfl rfl (by simp only [vp_in]; decide) dX3_listOrder_19 ?_
  refine lv_topi (fun z_26 ez_26 => ?_)
  obtain rfl : z_26 = 18056 := ez_26.trans (by first | rfl | decide +kernel)
  refine lv_aload_n hx hb dX3_listOrder_20 rfl (lv_at hl 1 rfl) ?_
  refine va_get (D := D) (ci := 3) (v := .ref x_paper_digits) (C := RX3) (T := TX3) (N := 20) hx hb hts (by decide +kernel) hown hK hP 1 rfl rfl 1 (by decide) (hts (.fieldLink RX3 15 "TurnedFloors$Paper" "digits" "[I") (by decide +kernel)) (fun _ h9 => h9) rfl dX3_listOrder_21 ?_
  refine lv_iload_n hx hb dX3_listOrder_24 rfl (lv_at hl 0 rfl) ?_
  refine va_iald hx hb hK hP 2 0 rfl rfl (by simp only [vp_in]; decide) dX3_listOrder_25 ?_
  refine lv_topi (fun z_27 ez_27 => ?_)
  obtain rfl : z_27 = 5 := ez_27.trans (by first | rfl | decide +kernel)
  refine lv_iconst (v := 3) hx hb dX3_listOrder_26 (by decide) ?_
  refine lv_iload_n hx hb dX3_listOrder_27 rfl (lv_at hl 0 rfl) ?_
  refine lv_imul hx hb dX3_listOrder_28 ?_
  refine lv_topi (fun z_28 ez_28 => ?_)
  obtain rfl : z_28 = 15 := ez_28.trans (by first | rfl | decide +kernel)
  refine lv_ishl hx hb dX3_listOrder_29 ?_
  refine lv_topi (fun z_29 ez_29 => ?_)
  obtain rfl : z_29 = 163840 := ez_29.trans (by first | rfl | decide +kernel)
  refine lv_ior hx hb dX3_listOrder_30 ?_
  refine lv_topi (fun z_30 ez_30 => ?_)
  obtain rfl : z_30 = 181896 := ez_30.trans (by first | rfl | decide +kernel)
  refine va_iast hx hb hK hP hD hS 0 0 rfl rfl (by simp only [vp_in]; decide) dX3_listOrder_31 (fun H locs hP hD hS => ?_)
  have hP : va_P D vwCl [(q_5, .inl (ty 0, 1, .inl (upd (upd (upd (upd (upd (upd (fun _ => 0) 0 0) 0 8) 0 136) 0 1672) 0 18056) 0 181896))), (x_paper, .inr (3, [.ref x_paper_ranks, .ref x_paper_digits, .ref x_paper_barred, .ref x_paper_pays, .ref x_paper_measuredBarred, .ref x_paper_buckets, .ref q_5, .ref q_7, .ref q_9, .ref q_1, .ref q_2, .ref q_3, .ref q_4, .int 0, .int 1, .int 0, .int 0, .int (-1), .int (-1), .int 0])), (x_paper_digits, .inl (ty 0, 6, .inl (upd (upd (upd (upd (upd (upd (upd (upd (upd (upd (upd (upd (upd (upd (upd (upd (upd (upd (upd (upd (upd (fun _ => 0) 0 0) 0 0) 1 1) 0 0) 1 1) 2 2) 0 0) 1 1) 2 2) 3 3) 0 0) 1 1) 2 2) 3 3) 4 4) 0 0) 1 1) 2 2) 3 3) 4 4) 5 5)))] H := hP
  have hD : va_D A [(q_5, .inl (ty 0, 1, .inl (upd (upd (upd (upd (upd (upd (fun _ => 0) 0 0) 0 8) 0 136) 0 1672) 0 18056) 0 181896))), (x_paper, .inr (3, [.ref x_paper_ranks, .ref x_paper_digits, .ref x_paper_barred, .ref x_paper_pays, .ref x_paper_measuredBarred, .ref x_paper_buckets, .ref q_5, .ref q_7, .ref q_9, .ref q_1, .ref q_2, .ref q_3, .ref q_4, .int 0, .int 1, .int 0, .int 0, .int (-1), .int (-1), .int 0])), (x_paper_digits, .inl (ty 0, 6, .inl (upd (upd (upd (upd (upd (upd (upd (upd (upd (upd (upd (upd (upd (upd (upd (upd (upd (upd (upd (upd (upd (fun _ => 0) 0 0) 0 0) 1 1) 0 0) 1 1) 2 2) 0 0) 1 1) 2 2) 3 3) 0 0) 1 1) 2 2) 3 3) 4 4) 0 0) 1 1) 2 2) 3 3) 4 4) 5 5)))] := hD
  refine lv_iinc (v := 6) (lv' := [(2, .int 6), (0, .ref x_paper), (1, .int 0)]) hx hb dX3_listOrder_32 hl (k := 0) rfl (by decide) (by decide) rfl (fun ls hl => ?_)
  refine lv_goto (tgt := 7) hx hb dX3_listOrder_35 (by decide) ?_
  refine lv_iload_n hx hb dX3_listOrder_7 rfl (lv_at hl 0 rfl) ?_
  refine lv_bipush (v := 6) hx hb dX3_listOrder_8 (by decide) ?_
  refine lv_icmp_ge (tgt := 38) hx hb dX3_listOrder_10 (by decide) (fun _ => ?_) (fun h => absurd (by decide) h)
  refine lv_iconst (v := 1) hx hb dX3_listOrder_38 (by decide) ?_
  refine lv_istore_n (lv' := [(2, .int 1), (0, .ref x_paper), (1, .int 0)]) hx hb dX3_listOrder_39 rfl hl (by decide) rfl (fun ls hl => ?_)
  refine lv_iload_n hx hb dX3_listOrder_40 rfl (lv_at hl 0 rfl) ?_
  refine lv_aload_n hx hb dX3_listOrder_41 rfl (lv_at hl 1 rfl) ?_
  refine va_get (D := D) (ci := 3) (v := .int 0) (C := RX3) (T := TX3) (N := 20) hx hb hts (by decide +kernel) hown hK hP 1 rfl rfl 13 (by decide) (hts (.fieldLink RX3 51 "TurnedFloors$Paper" "floors" "I") (by decide +kernel)) (fun _ h9 => h9) rfl dX3_listOrder_42 ?_
  refine lv_icmp_gt (tgt := 128) hx hb dX3_listOrder_45 (by decide) (fun _ => ?_) (fun h => absurd (by decide) h)
  exact kz_vret hx hb hr hlocks hP hK hD hS dX3_listOrder_128 rfl

set_option maxHeartbeats 4000000 in
set_option maxRecDepth 100000 in
theorem kX3_makeRoom_75 (l : Launch) (D : va_G) (ty : Nat → ClassId) (eo : Nat → Nat) (sz : Nat) (x_paper x_paper_ranks x_paper_digits x_paper_barred x_paper_pays x_paper_measuredBarred x_paper_buckets x_paper_orders x_paper_turnedOrders x_paper_turnedHeads x_paper_toOrder x_paper_marks x_paper_line x_paper_links : Nat) : Met l yX3_makeRoom wsX3_makeRoom ({ frames := 3, cells := 7, slots := 17, locals := 69 }) (va_Pc [.ref x_paper] (kz_pre D ty eo [(x_paper, .inr (3, [.ref x_paper_ranks, .ref x_paper_digits, .ref x_paper_barred, .ref x_paper_pays, .ref x_paper_measuredBarred, .ref x_paper_buckets, .ref x_paper_orders, .ref x_paper_turnedOrders, .ref x_paper_turnedHeads, .ref x_paper_toOrder, .ref x_paper_marks, .ref x_paper_line, .ref x_paper_links, .int 0, .int 1, .int 0, .int 0, .int (-1), .int (-1), .int 0])), (x_paper_digits, .inl (ty 0, 6, .inl (fun _ => 0)))] sz)) (va_Qv (fun (u : va_W) => ∃ q_1 q_2 q_3 q_4 q_5 q_7 q_9 : Nat, [(q_1, .inl (ty 0, 1, .inl (fun _ => 0))), (q_2, .inl (ty 0, 1, .inl (fun _ => 0))), (q_3, .inl (ty 0, 1, .inl (fun _ => 0))), (q_4, .inl (ty 0, 1, .inl (fun _ => 0))), (q_7, .inl (ty 0, 6, .inl (fun _ => 0))), (q_9, .inl (ty 0, 6, .inl (fun _ => 0))), (q_5, .inl (ty 0, 1, .inl (upd (upd (upd (upd (upd (upd (fun _ => 0) 0 0) 0 8) 0 136) 0 1672) 0 18056) 0 181896))), (x_paper, .inr (3, [.ref x_paper_ranks, .ref x_paper_digits, .ref x_paper_barred, .ref x_paper_pays, .ref x_paper_measuredBarred, .ref x_paper_buckets, .ref q_5, .ref q_7, .ref q_9, .ref q_1, .ref q_2, .ref q_3, .ref q_4, .int 0, .int 1, .int 0, .int 0, .int (-1), .int (-1), .int 0])), (x_paper_digits, .inl (ty 0, 6, .inl (upd (upd (upd (upd (upd (upd (upd (upd (upd (upd (upd (upd (upd (upd (upd (upd (upd (upd (upd (upd (upd (fun _ => 0) 0 0) 0 0) 1 1) 0 0) 1 1) 2 2) 0 0) 1 1) 2 2) 3 3) 0 0) 1 1) 2 2) 3 3) 4 4) 0 0) 1 1) 2 2) 3 3) 4 4) 5 5)))] = u) (kz_B D ty (va_A [(x_paper, .inr (3, [.ref x_paper_ranks, .ref x_paper_digits, .ref x_paper_barred, .ref x_paper_pays, .ref x_paper_measuredBarred, .ref x_paper_buckets, .ref x_paper_orders, .ref x_paper_turnedOrders, .ref x_paper_turnedHeads, .ref x_paper_toOrder, .ref x_paper_marks, .ref x_paper_line, .ref x_paper_links, .int 0, .int 1, .int 0, .int 0, .int (-1), .int (-1), .int 0])), (x_paper_digits, .inl (ty 0, 6, .inl (fun _ => 0)))] sz)) (va_A [(x_paper, .inr (3, [.ref x_paper_ranks, .ref x_paper_digits, .ref x_paper_barred, .ref x_paper_pays, .ref x_paper_measuredBarred, .ref x_paper_buckets, .ref x_paper_orders, .ref x_paper_turnedOrders, .ref x_paper_turnedHeads, .ref x_paper_toOrder, .ref x_paper_marks, .ref x_paper_line, .ref x_paper_links, .int 0, .int 1, .int 0, .int 0, .int (-1), .int (-1), .int 0])), (x_paper_digits, .inl (ty 0, 6, .inl (fun _ => 0)))] sz)) 7 17 (va_A [(x_paper, .inr (3, [.ref x_paper_ranks, .ref x_paper_digits, .ref x_paper_barred, .ref x_paper_pays, .ref x_paper_measuredBarred, .ref x_paper_buckets, .ref x_paper_orders, .ref x_paper_turnedOrders, .ref x_paper_turnedHeads, .ref x_paper_toOrder, .ref x_paper_marks, .ref x_paper_line, .ref x_paper_links, .int 0, .int 1, .int 0, .int 0, .int (-1), .int (-1), .int 0])), (x_paper_digits, .inl (ty 0, 6, .inl (fun _ => 0)))] sz) := by
  refine Met.ofW (cc := cX3_makeRoom) (maxL := 3) (ret := none) (by decide) rfl ?_
  intro p e s m args below meth c s₁ B hml hv
  obtain ⟨rfl, hsz, hP, hK, hD0, hN, hE⟩ := hv
  have hx := B.exec
  have hb := B.bytes
  have hr := B.returns
  have hts := atoms_spec (ws := wsX3_makeRoom) B.pre
  have hown : s.vm.findClass RX3 = some m.cls := findClass_of_methodNamed B.named
  have hlocks := B.notSynchronized
  subst hsz
  have hD := hD0.self (sz := s.heap.size)
  generalize hAe : va_A [(x_paper, .inr (3, [.ref x_paper_ranks, .ref x_paper_digits, .ref x_paper_barred, .ref x_paper_pays, .ref x_paper_measuredBarred, .ref x_paper_buckets, .ref x_paper_orders, .ref x_paper_turnedOrders, .ref x_paper_turnedHeads, .ref x_paper_toOrder, .ref x_paper_marks, .ref x_paper_line, .ref x_paper_links, .int 0, .int 1, .int 0, .int 0, .int (-1), .int (-1), .int 0])), (x_paper_digits, .inl (ty 0, 6, .inl (fun _ => 0)))] s.heap.size = A at hD hE ⊢
  have hA : ∀ q : Nat, s.heap.size ≤ q → A q := fun q h => by rw [← hAe]; exact Or.inr h
  have hS : va_S A s.heap s.heap [] := va_S.rf
  have hl := lv_entry ([.ref x_paper]) (n := 3) (Nat.le_of_ble_eq_true rfl)
  rw [lg_entry_eq]
  generalize (lg_sl ([.ref x_paper]) ++ List.replicate (3 - (lg_sl ([.ref x_paper])).length) Slot.unset).toArray = ls at hl ⊢
  have hl : lv_has ls 3 [(0, .ref x_paper)] := hl
  refine lv_aload_n hx hb dX3_makeRoom_0 rfl (lv_at hl 0 rfl) ?_
  refine lv_aload_n hx hb dX3_makeRoom_1 rfl (lv_at hl 0 rfl) ?_
  refine va_get (D := D) (ci := 3) (v := .int 1) (C := RX3) (T := TX3) (N := 20) hx hb hts (by decide +kernel) hown hK hP 0 rfl rfl 14 (by decide) (hts (.fieldLink RX3 55 "TurnedFloors$Paper" "size" "I") (by decide +kernel)) (fun _ h9 => h9) rfl dX3_makeRoom_2 ?_
  refine va_newa (atype := .int) (ty := .int) (N' := 1) (a0 := (1, .inl (fun _ => 0))) hx hb (hts (.arrayClass .int) (by decide +kernel)) rfl hK hP hD hS hA (fun _ => rfl) (by decide) (by decide) (by decide) (Nat.le_of_ble_eq_true rfl) (Nat.le_of_ble_eq_true rfl) dX3_makeRoom_5 (fun q_1 cA H hK2 hP hD hS => ?_)
  obtain rfl : cA = ty 0 := kz_cA (t0 := 0) (t1 := 6) hK2 rfl rfl rfl
  have hP : va_P D vwCl [(x_paper, .inr (3, [.ref x_paper_ranks, .ref x_paper_digits, .ref x_paper_barred, .ref x_paper_pays, .ref x_paper_measuredBarred, .ref x_paper_buckets, .ref x_paper_orders, .ref x_paper_turnedOrders, .ref x_paper_turnedHeads, .ref x_paper_toOrder, .ref x_paper_marks, .ref x_paper_line, .ref x_paper_links, .int 0, .int 1, .int 0, .int 0, .int (-1), .int (-1), .int 0])), (x_paper_digits, .inl (ty 0, 6, .inl (fun _ => 0))), (q_1, .inl (ty 0, 1, .inl (fun _ => 0)))] H := hP
  have hD : va_D A [(x_paper, .inr (3, [.ref x_paper_ranks, .ref x_paper_digits, .ref x_paper_barred, .ref x_paper_pays, .ref x_paper_measuredBarred, .ref x_paper_buckets, .ref x_paper_orders, .ref x_paper_turnedOrders, .ref x_paper_turnedHeads, .ref x_paper_toOrder, .ref x_paper_marks, .ref x_paper_line, .ref x_paper_links, .int 0, .int 1, .int 0, .int 0, .int (-1), .int (-1), .int 0])), (x_paper_digits, .inl (ty 0, 6, .inl (fun _ => 0))), (q_1, .inl (ty 0, 1, .inl (fun _ => 0)))] := hD
  refine va_put (D := D) (ci := 3) (v := .ref q_1) (ty := .array .int) (C := RX3) (T := TX3) (N := 20) hx hb hts (by decide +kernel) tyX3 tyX3_ok nmX3 hown hK hP hD hS 0 rfl rfl 9 (by decide) (hts (.fieldLink RX3 39 "TurnedFloors$Paper" "toOrder" "[I") (by decide +kernel)) (fun _ h9 => h9) rfl (by decide +kernel) rfl rfl (Nat.le_of_ble_eq_true rfl) dX3_makeRoom_7 (fun H locs hP hD hS => ?_)
  have hP : va_P D vwCl [(x_paper, .inr (3, [.ref x_paper_ranks, .ref x_paper_digits, .ref x_paper_barred, .ref x_paper_pays, .ref x_paper_measuredBarred, .ref x_paper_buckets, .ref x_paper_orders, .ref x_paper_turnedOrders, .ref x_paper_turnedHeads, .ref q_1, .ref x_paper_marks, .ref x_paper_line, .ref x_paper_links, .int 0, .int 1, .int 0, .int 0, .int (-1), .int (-1), .int 0])), (x_paper_digits, .inl (ty 0, 6, .inl (fun _ => 0))), (q_1, .inl (ty 0, 1, .inl (fun _ => 0)))] H := hP
  have hD : va_D A [(x_paper, .inr (3, [.ref x_paper_ranks, .ref x_paper_digits, .ref x_paper_barred, .ref x_paper_pays, .ref x_paper_measuredBarred, .ref x_paper_buckets, .ref x_paper_orders, .ref x_paper_turnedOrders, .ref x_paper_turnedHeads, .ref q_1, .ref x_paper_marks, .ref x_paper_line, .ref x_paper_links, .int 0, .int 1, .int 0, .int 0, .int (-1), .int (-1), .int 0])), (x_paper_digits, .inl (ty 0, 6, .inl (fun _ => 0))), (q_1, .inl (ty 0, 1, .inl (fun _ => 0)))] := hD
  refine lv_aload_n hx hb dX3_makeRoom_10 rfl (lv_at hl 0 rfl) ?_
  refine lv_aload_n hx hb dX3_makeRoom_11 rfl (lv_at hl 0 rfl) ?_
  refine va_get (D := D) (ci := 3) (v := .int 1) (C := RX3) (T := TX3) (N := 20) hx hb hts (by decide +kernel) hown hK hP 0 rfl rfl 14 (by decide) (hts (.fieldLink RX3 55 "TurnedFloors$Paper" "size" "I") (by decide +kernel)) (fun _ h9 => h9) rfl dX3_makeRoom_12 ?_
  refine va_newa (atype := .int) (ty := .int) (N' := 1) (a0 := (1, .inl (fun _ => 0))) hx hb (hts (.arrayClass .int) (by decide +kernel)) rfl hK hP hD hS hA (fun _ => rfl) (by decide) (by decide) (by decide) (Nat.le_of_ble_eq_true rfl) (Nat.le_of_ble_eq_true rfl) dX3_makeRoom_15 (fun q_2 cA H hK2 hP hD hS => ?_)
  obtain rfl : cA = ty 0 := kz_cA (t0 := 0) (t1 := 6) hK2 rfl rfl rfl
  have hP : va_P D vwCl [(x_paper, .inr (3, [.ref x_paper_ranks, .ref x_paper_digits, .ref x_paper_barred, .ref x_paper_pays, .ref x_paper_measuredBarred, .ref x_paper_buckets, .ref x_paper_orders, .ref x_paper_turnedOrders, .ref x_paper_turnedHeads, .ref q_1, .ref x_paper_marks, .ref x_paper_line, .ref x_paper_links, .int 0, .int 1, .int 0, .int 0, .int (-1), .int (-1), .int 0])), (x_paper_digits, .inl (ty 0, 6, .inl (fun _ => 0))), (q_1, .inl (ty 0, 1, .inl (fun _ => 0))), (q_2, .inl (ty 0, 1, .inl (fun _ => 0)))] H := hP
  have hD : va_D A [(x_paper, .inr (3, [.ref x_paper_ranks, .ref x_paper_digits, .ref x_paper_barred, .ref x_paper_pays, .ref x_paper_measuredBarred, .ref x_paper_buckets, .ref x_paper_orders, .ref x_paper_turnedOrders, .ref x_paper_turnedHeads, .ref q_1, .ref x_paper_marks, .ref x_paper_line, .ref x_paper_links, .int 0, .int 1, .int 0, .int 0, .int (-1), .int (-1), .int 0])), (x_paper_digits, .inl (ty 0, 6, .inl (fun _ => 0))), (q_1, .inl (ty 0, 1, .inl (fun _ => 0))), (q_2, .inl (ty 0, 1, .inl (fun _ => 0)))] := hD
  refine va_put (D := D) (ci := 3) (v := .ref q_2) (ty := .array .int) (C := RX3) (T := TX3) (N := 20) hx hb hts (by decide +kernel) tyX3 tyX3_ok nmX3 hown hK hP hD hS 0 rfl rfl 10 (by decide) (hts (.fieldLink RX3 42 "TurnedFloors$Paper" "marks" "[I") (by decide +kernel)) (fun _ h9 => h9) rfl (by decide +kernel) rfl rfl (Nat.le_of_ble_eq_true rfl) dX3_makeRoom_17 (fun H locs hP hD hS => ?_)
  have hP : va_P D vwCl [(x_paper, .inr (3, [.ref x_paper_ranks, .ref x_paper_digits, .ref x_paper_barred, .ref x_paper_pays, .ref x_paper_measuredBarred, .ref x_paper_buckets, .ref x_paper_orders, .ref x_paper_turnedOrders, .ref x_paper_turnedHeads, .ref q_1, .ref q_2, .ref x_paper_line, .ref x_paper_links, .int 0, .int 1, .int 0, .int 0, .int (-1), .int (-1), .int 0])), (x_paper_digits, .inl (ty 0, 6, .inl (fun _ => 0))), (q_1, .inl (ty 0, 1, .inl (fun _ => 0))), (q_2, .inl (ty 0, 1, .inl (fun _ => 0)))] H := hP
  have hD : va_D A [(x_paper, .inr (3, [.ref x_paper_ranks, .ref x_paper_digits, .ref x_paper_barred, .ref x_paper_pays, .ref x_paper_measuredBarred, .ref x_paper_buckets, .ref x_paper_orders, .ref x_paper_turnedOrders, .ref x_paper_turnedHeads, .ref q_1, .ref q_2, .ref x_paper_line, .ref x_paper_links, .int 0, .int 1, .int 0, .int 0, .int (-1), .int (-1), .int 0])), (x_paper_digits, .inl (ty 0, 6, .inl (fun _ => 0))), (q_1, .inl (ty 0, 1, .inl (fun _ => 0))), (q_2, .inl (ty 0, 1, .inl (fun _ => 0)))] := hD
  refine lv_aload_n hx hb dX3_makeRoom_20 rfl (lv_at hl 0 rfl) ?_
  refine lv_aload_n hx hb dX3_makeRoom_21 rfl (lv_at hl 0 rfl) ?_
  refine va_get (D := D) (ci := 3) (v := .int 1) (C := RX3) (T := TX3) (N := 20) hx hb hts (by decide +kernel) hown hK hP 0 rfl rfl 14 (by decide) (hts (.fieldLink RX3 55 "TurnedFloors$Paper" "size" "I") (by decide +kernel)) (fun _ h9 => h9) rfl dX3_makeRoom_22 ?_
  refine va_newa (atype := .int) (ty := .int) (N' := 1) (a0 := (1, .inl (fun _ => 0))) hx hb (hts (.arrayClass .int) (by decide +kernel)) rfl hK hP hD hS hA (fun _ => rfl) (by decide) (by decide) (by decide) (Nat.le_of_ble_eq_true rfl) (Nat.le_of_ble_eq_true rfl) dX3_makeRoom_25 (fun q_3 cA H hK2 hP hD hS => ?_)
  obtain rfl : cA = ty 0 := kz_cA (t0 := 0) (t1 := 6) hK2 rfl rfl rfl
  have hP : va_P D vwCl [(x_paper, .inr (3, [.ref x_paper_ranks, .ref x_paper_digits, .ref x_paper_barred, .ref x_paper_pays, .ref x_paper_measuredBarred, .ref x_paper_buckets, .ref x_paper_orders, .ref x_paper_turnedOrders, .ref x_paper_turnedHeads, .ref q_1, .ref q_2, .ref x_paper_line, .ref x_paper_links, .int 0, .int 1, .int 0, .int 0, .int (-1), .int (-1), .int 0])), (x_paper_digits, .inl (ty 0, 6, .inl (fun _ => 0))), (q_1, .inl (ty 0, 1, .inl (fun _ => 0))), (q_2, .inl (ty 0, 1, .inl (fun _ => 0))), (q_3, .inl (ty 0, 1, .inl (fun _ => 0)))] H := hP
  have hD : va_D A [(x_paper, .inr (3, [.ref x_paper_ranks, .ref x_paper_digits, .ref x_paper_barred, .ref x_paper_pays, .ref x_paper_measuredBarred, .ref x_paper_buckets, .ref x_paper_orders, .ref x_paper_turnedOrders, .ref x_paper_turnedHeads, .ref q_1, .ref q_2, .ref x_paper_line, .ref x_paper_links, .int 0, .int 1, .int 0, .int 0, .int (-1), .int (-1), .int 0])), (x_paper_digits, .inl (ty 0, 6, .inl (fun _ => 0))), (q_1, .inl (ty 0, 1, .inl (fun _ => 0))), (q_2, .inl (ty 0, 1, .inl (fun _ => 0))), (q_3, .inl (ty 0, 1, .inl (fun _ => 0)))] := hD
  refine va_put (D := D) (ci := 3) (v := .ref q_3) (ty := .array .int) (C := RX3) (T := TX3) (N := 20) hx hb hts (by decide +kernel) tyX3 tyX3_ok nmX3 hown hK hP hD hS 0 rfl rfl 11 (by decide) (hts (.fieldLink RX3 45 "TurnedFloors$Paper" "line" "[I") (by decide +kernel)) (fun _ h9 => h9) rfl (by decide +kernel) rfl rfl (Nat.le_of_ble_eq_true rfl) dX3_makeRoom_27 (fun H locs hP hD hS => ?_)
  have hP : va_P D vwCl [(x_paper, .inr (3, [.ref x_paper_ranks, .ref x_paper_digits, .ref x_paper_barred, .ref x_paper_pays, .ref x_paper_measuredBarred, .ref x_paper_buckets, .ref x_paper_orders, .ref x_paper_turnedOrders, .ref x_paper_turnedHeads, .ref q_1, .ref q_2, .ref q_3, .ref x_paper_links, .int 0, .int 1, .int 0, .int 0, .int (-1), .int (-1), .int 0])), (x_paper_digits, .inl (ty 0, 6, .inl (fun _ => 0))), (q_1, .inl (ty 0, 1, .inl (fun _ => 0))), (q_2, .inl (ty 0, 1, .inl (fun _ => 0))), (q_3, .inl (ty 0, 1, .inl (fun _ => 0)))] H := hP
  have hD : va_D A [(x_paper, .inr (3, [.ref x_paper_ranks, .ref x_paper_digits, .ref x_paper_barred, .ref x_paper_pays, .ref x_paper_measuredBarred, .ref x_paper_buckets, .ref x_paper_orders, .ref x_paper_turnedOrders, .ref x_paper_turnedHeads, .ref q_1, .ref q_2, .ref q_3, .ref x_paper_links, .int 0, .int 1, .int 0, .int 0, .int (-1), .int (-1), .int 0])), (x_paper_digits, .inl (ty 0, 6, .inl (fun _ => 0))), (q_1, .inl (ty 0, 1, .inl (fun _ => 0))), (q_2, .inl (ty 0, 1, .inl (fun _ => 0))), (q_3, .inl (ty 0, 1, .inl (fun _ => 0)))] := hD
  refine lv_aload_n hx hb dX3_makeRoom_30 rfl (lv_at hl 0 rfl) ?_
  refine lv_aload_n hx hb dX3_makeRoom_31 rfl (lv_at hl 0 rfl) ?_
  refine va_get (D := D) (ci := 3) (v := .int 1) (C := RX3) (T := TX3) (N := 20) hx hb hts (by decide +kernel) hown hK hP 0 rfl rfl 14 (by decide) (hts (.fieldLink RX3 55 "TurnedFloors$Paper" "size" "I") (by decide +kernel)) (fun _ h9 => h9) rfl dX3_makeRoom_32 ?_
  refine va_newa (atype := .int) (ty := .int) (N' := 1) (a0 := (1, .inl (fun _ => 0))) hx hb (hts (.arrayClass .int) (by decide +kernel)) rfl hK hP hD hS hA (fun _ => rfl) (by decide) (by decide) (by decide) (Nat.le_of_ble_eq_true rfl) (Nat.le_of_ble_eq_true rfl) dX3_makeRoom_35 (fun q_4 cA H hK2 hP hD hS => ?_)
  obtain rfl : cA = ty 0 := kz_cA (t0 := 0) (t1 := 6) hK2 rfl rfl rfl
  have hP : va_P D vwCl [(x_paper, .inr (3, [.ref x_paper_ranks, .ref x_paper_digits, .ref x_paper_barred, .ref x_paper_pays, .ref x_paper_measuredBarred, .ref x_paper_buckets, .ref x_paper_orders, .ref x_paper_turnedOrders, .ref x_paper_turnedHeads, .ref q_1, .ref q_2, .ref q_3, .ref x_paper_links, .int 0, .int 1, .int 0, .int 0, .int (-1), .int (-1), .int 0])), (x_paper_digits, .inl (ty 0, 6, .inl (fun _ => 0))), (q_1, .inl (ty 0, 1, .inl (fun _ => 0))), (q_2, .inl (ty 0, 1, .inl (fun _ => 0))), (q_3, .inl (ty 0, 1, .inl (fun _ => 0))), (q_4, .inl (ty 0, 1, .inl (fun _ => 0)))] H := hP
  have hD : va_D A [(x_paper, .inr (3, [.ref x_paper_ranks, .ref x_paper_digits, .ref x_paper_barred, .ref x_paper_pays, .ref x_paper_measuredBarred, .ref x_paper_buckets, .ref x_paper_orders, .ref x_paper_turnedOrders, .ref x_paper_turnedHeads, .ref q_1, .ref q_2, .ref q_3, .ref x_paper_links, .int 0, .int 1, .int 0, .int 0, .int (-1), .int (-1), .int 0])), (x_paper_digits, .inl (ty 0, 6, .inl (fun _ => 0))), (q_1, .inl (ty 0, 1, .inl (fun _ => 0))), (q_2, .inl (ty 0, 1, .inl (fun _ => 0))), (q_3, .inl (ty 0, 1, .inl (fun _ => 0))), (q_4, .inl (ty 0, 1, .inl (fun _ => 0)))] := hD
  refine va_put (D := D) (ci := 3) (v := .ref q_4) (ty := .array .int) (C := RX3) (T := TX3) (N := 20) hx hb hts (by decide +kernel) tyX3 tyX3_ok nmX3 hown hK hP hD hS 0 rfl rfl 12 (by decide) (hts (.fieldLink RX3 48 "TurnedFloors$Paper" "links" "[I") (by decide +kernel)) (fun _ h9 => h9) rfl (by decide +kernel) rfl rfl (Nat.le_of_ble_eq_true rfl) dX3_makeRoom_37 (fun H locs hP hD hS => ?_)
  have hP : va_P D vwCl [(x_paper, .inr (3, [.ref x_paper_ranks, .ref x_paper_digits, .ref x_paper_barred, .ref x_paper_pays, .ref x_paper_measuredBarred, .ref x_paper_buckets, .ref x_paper_orders, .ref x_paper_turnedOrders, .ref x_paper_turnedHeads, .ref q_1, .ref q_2, .ref q_3, .ref q_4, .int 0, .int 1, .int 0, .int 0, .int (-1), .int (-1), .int 0])), (x_paper_digits, .inl (ty 0, 6, .inl (fun _ => 0))), (q_1, .inl (ty 0, 1, .inl (fun _ => 0))), (q_2, .inl (ty 0, 1, .inl (fun _ => 0))), (q_3, .inl (ty 0, 1, .inl (fun _ => 0))), (q_4, .inl (ty 0, 1, .inl (fun _ => 0)))] H := hP
  have hD : va_D A [(x_paper, .inr (3, [.ref x_paper_ranks, .ref x_paper_digits, .ref x_paper_barred, .ref x_paper_pays, .ref x_paper_measuredBarred, .ref x_paper_buckets, .ref x_paper_orders, .ref x_paper_turnedOrders, .ref x_paper_turnedHeads, .ref q_1, .ref q_2, .ref q_3, .ref q_4, .int 0, .int 1, .int 0, .int 0, .int (-1), .int (-1), .int 0])), (x_paper_digits, .inl (ty 0, 6, .inl (fun _ => 0))), (q_1, .inl (ty 0, 1, .inl (fun _ => 0))), (q_2, .inl (ty 0, 1, .inl (fun _ => 0))), (q_3, .inl (ty 0, 1, .inl (fun _ => 0))), (q_4, .inl (ty 0, 1, .inl (fun _ => 0)))] := hD
  refine lv_aload_n hx hb dX3_makeRoom_40 rfl (lv_at hl 0 rfl) ?_
  refine va_gets hx hb hE.1 hS hown (hts (.fieldLink RX3 76 "TurnedFloors$Paper" "FACTORIALS" "[I") (by decide +kernel)) (fun _ h9 => h9) dX3_makeRoom_41 ?_
  refine lv_aload_n hx hb dX3_makeRoom_44 rfl (lv_at hl 0 rfl) ?_
  refine va_get (D := D) (ci := 3) (v := .int 0) (C := RX3) (T := TX3) (N := 20) hx hb hts (by decide +kernel) hown hK hP 0 rfl rfl 13 (by decide) (hts (.fieldLink RX3 51 "TurnedFloors$Paper" "floors" "I") (by decide +kernel)) (fun _ h9 => h9) rfl dX3_makeRoom_45 ?_
  refine va_ti (v := .int 1) hx hb hE.2.1 hS (by simp only [vp_in]; decide) rfl dX3_makeRoom_48 ?_
  refine va_newa (atype := .int) (ty := .int) (N' := 1) (a0 := (1, .inl (fun _ => 0))) hx hb (hts (.arrayClass .int) (by decide +kernel)) rfl hK hP hD hS hA (fun _ => rfl) (by decide) (by decide) (by decide) (Nat.le_of_ble_eq_true rfl) (Nat.le_of_ble_eq_true rfl) dX3_makeRoom_49 (fun q_5 cA H hK2 hP hD hS => ?_)
  obtain rfl : cA = ty 0 := kz_cA (t0 := 0) (t1 := 6) hK2 rfl rfl rfl
  have hP : va_P D vwCl [(x_paper, .inr (3, [.ref x_paper_ranks, .ref x_paper_digits, .ref x_paper_barred, .ref x_paper_pays, .ref x_paper_measuredBarred, .ref x_paper_buckets, .ref x_paper_orders, .ref x_paper_turnedOrders, .ref x_paper_turnedHeads, .ref q_1, .ref q_2, .ref q_3, .ref q_4, .int 0, .int 1, .int 0, .int 0, .int (-1), .int (-1), .int 0])), (x_paper_digits, .inl (ty 0, 6, .inl (fun _ => 0))), (q_1, .inl (ty 0, 1, .inl (fun _ => 0))), (q_2, .inl (ty 0, 1, .inl (fun _ => 0))), (q_3, .inl (ty 0, 1, .inl (fun _ => 0))), (q_4, .inl (ty 0, 1, .inl (fun _ => 0))), (q_5, .inl (ty 0, 1, .inl (fun _ => 0)))] H := hP
  have hD : va_D A [(x_paper, .inr (3, [.ref x_paper_ranks, .ref x_paper_digits, .ref x_paper_barred, .ref x_paper_pays, .ref x_paper_measuredBarred, .ref x_paper_buckets, .ref x_paper_orders, .ref x_paper_turnedOrders, .ref x_paper_turnedHeads, .ref q_1, .ref q_2, .ref q_3, .ref q_4, .int 0, .int 1, .int 0, .int 0, .int (-1), .int (-1), .int 0])), (x_paper_digits, .inl (ty 0, 6, .inl (fun _ => 0))), (q_1, .inl (ty 0, 1, .inl (fun _ => 0))), (q_2, .inl (ty 0, 1, .inl (fun _ => 0))), (q_3, .inl (ty 0, 1, .inl (fun _ => 0))), (q_4, .inl (ty 0, 1, .inl (fun _ => 0))), (q_5, .inl (ty 0, 1, .inl (fun _ => 0)))] := hD
  refine va_put (D := D) (ci := 3) (v := .ref q_5) (ty := .array .int) (C := RX3) (T := TX3) (N := 20) hx hb hts (by decide +kernel) tyX3 tyX3_ok nmX3 hown hK hP hD hS 0 rfl rfl 6 (by decide) (hts (.fieldLink RX3 30 "TurnedFloors$Paper" "orders" "[I") (by decide +kernel)) (fun _ h9 => h9) rfl (by decide +kernel) rfl rfl (Nat.le_of_ble_eq_true rfl) dX3_makeRoom_51 (fun H locs hP hD hS => ?_)
  have hP : va_P D vwCl [(x_paper, .inr (3, [.ref x_paper_ranks, .ref x_paper_digits, .ref x_paper_barred, .ref x_paper_pays, .ref x_paper_measuredBarred, .ref x_paper_buckets, .ref q_5, .ref x_paper_turnedOrders, .ref x_paper_turnedHeads, .ref q_1, .ref q_2, .ref q_3, .ref q_4, .int 0, .int 1, .int 0, .int 0, .int (-1), .int (-1), .int 0])), (x_paper_digits, .inl (ty 0, 6, .inl (fun _ => 0))), (q_1, .inl (ty 0, 1, .inl (fun _ => 0))), (q_2, .inl (ty 0, 1, .inl (fun _ => 0))), (q_3, .inl (ty 0, 1, .inl (fun _ => 0))), (q_4, .inl (ty 0, 1, .inl (fun _ => 0))), (q_5, .inl (ty 0, 1, .inl (fun _ => 0)))] H := hP
  have hD : va_D A [(x_paper, .inr (3, [.ref x_paper_ranks, .ref x_paper_digits, .ref x_paper_barred, .ref x_paper_pays, .ref x_paper_measuredBarred, .ref x_paper_buckets, .ref q_5, .ref x_paper_turnedOrders, .ref x_paper_turnedHeads, .ref q_1, .ref q_2, .ref q_3, .ref q_4, .int 0, .int 1, .int 0, .int 0, .int (-1), .int (-1), .int 0])), (x_paper_digits, .inl (ty 0, 6, .inl (fun _ => 0))), (q_1, .inl (ty 0, 1, .inl (fun _ => 0))), (q_2, .inl (ty 0, 1, .inl (fun _ => 0))), (q_3, .inl (ty 0, 1, .inl (fun _ => 0))), (q_4, .inl (ty 0, 1, .inl (fun _ => 0))), (q_5, .inl (ty 0, 1, .inl (fun _ => 0)))] := hD
  refine lv_aload_n hx hb dX3_makeRoom_54 rfl (lv_at hl 0 rfl) ?_
  refine va_gets hx hb hE.1 hS hown (hts (.fieldLink RX3 76 "TurnedFloors$Paper" "FACTORIALS" "[I") (by decide +kernel)) (fun _ h9 => h9) dX3_makeRoom_55 ?_
  refine lv_aload_n hx hb dX3_makeRoom_58 rfl (lv_at hl 0 rfl) ?_
  refine va_get (D := D) (ci := 3) (v := .int 0) (C := RX3) (T := TX3) (N := 20) hx hb hts (by decide +kernel) hown hK hP 0 rfl rfl 13 (by decide) (hts (.fieldLink RX3 51 "TurnedFloors$Paper" "floors" "I") (by decide +kernel)) (fun _ h9 => h9) rfl dX3_makeRoom_59 ?_
  refine va_ti (v := .int 1) hx hb hE.2.1 hS (by simp only [vp_in]; decide) rfl dX3_makeRoom_62 ?_
  refine lv_bipush (v := 6) hx hb dX3_makeRoom_63 (by decide) ?_
  refine lv_imul hx hb dX3_makeRoom_65 ?_
  refine lv_topi (fun z_6 ez_6 => ?_)
  obtain rfl : z_6 = 6 := ez_6.trans (by first | rfl | decide +kernel)
  refine va_newa (atype := .int) (ty := .int) (N' := 6) (a0 := (6, .inl (fun _ => 0))) hx hb (hts (.arrayClass .int) (by decide +kernel)) rfl hK hP hD hS hA (fun _ => rfl) (by decide) (by decide) (by decide) (Nat.le_of_ble_eq_true rfl) (Nat.le_of_ble_eq_true rfl) dX3_makeRoom_66 (fun q_7 cA H hK2 hP hD hS => ?_)
  obtain rfl : cA = ty 0 := kz_cA (t0 := 0) (t1 := 6) hK2 rfl rfl rfl
  have hP : va_P D vwCl [(x_paper, .inr (3, [.ref x_paper_ranks, .ref x_paper_digits, .ref x_paper_barred, .ref x_paper_pays, .ref x_paper_measuredBarred, .ref x_paper_buckets, .ref q_5, .ref x_paper_turnedOrders, .ref x_paper_turnedHeads, .ref q_1, .ref q_2, .ref q_3, .ref q_4, .int 0, .int 1, .int 0, .int 0, .int (-1), .int (-1), .int 0])), (x_paper_digits, .inl (ty 0, 6, .inl (fun _ => 0))), (q_1, .inl (ty 0, 1, .inl (fun _ => 0))), (q_2, .inl (ty 0, 1, .inl (fun _ => 0))), (q_3, .inl (ty 0, 1, .inl (fun _ => 0))), (q_4, .inl (ty 0, 1, .inl (fun _ => 0))), (q_5, .inl (ty 0, 1, .inl (fun _ => 0))), (q_7, .inl (ty 0, 6, .inl (fun _ => 0)))] H := hP
  have hD : va_D A [(x_paper, .inr (3, [.ref x_paper_ranks, .ref x_paper_digits, .ref x_paper_barred, .ref x_paper_pays, .ref x_paper_measuredBarred, .ref x_paper_buckets, .ref q_5, .ref x_paper_turnedOrders, .ref x_paper_turnedHeads, .ref q_1, .ref q_2, .ref q_3, .ref q_4, .int 0, .int 1, .int 0, .int 0, .int (-1), .int (-1), .int 0])), (x_paper_digits, .inl (ty 0, 6, .inl (fun _ => 0))), (q_1, .inl (ty 0, 1, .inl (fun _ => 0))), (q_2, .inl (ty 0, 1, .inl (fun _ => 0))), (q_3, .inl (ty 0, 1, .inl (fun _ => 0))), (q_4, .inl (ty 0, 1, .inl (fun _ => 0))), (q_5, .inl (ty 0, 1, .inl (fun _ => 0))), (q_7, .inl (ty 0, 6, .inl (fun _ => 0)))] := hD
  refine va_put (D := D) (ci := 3) (v := .ref q_7) (ty := .array .int) (C := RX3) (T := TX3) (N := 20) hx hb hts (by decide +kernel) tyX3 tyX3_ok nmX3 hown hK hP hD hS 0 rfl rfl 7 (by decide) (hts (.fieldLink RX3 33 "TurnedFloors$Paper" "turnedOrders" "[I") (by decide +kernel)) (fun _ h9 => h9) rfl (by decide +kernel) rfl rfl (Nat.le_of_ble_eq_true rfl) dX3_makeRoom_68 (fun H locs hP hD hS => ?_)
  have hP : va_P D vwCl [(x_paper, .inr (3, [.ref x_paper_ranks, .ref x_paper_digits, .ref x_paper_barred, .ref x_paper_pays, .ref x_paper_measuredBarred, .ref x_paper_buckets, .ref q_5, .ref q_7, .ref x_paper_turnedHeads, .ref q_1, .ref q_2, .ref q_3, .ref q_4, .int 0, .int 1, .int 0, .int 0, .int (-1), .int (-1), .int 0])), (x_paper_digits, .inl (ty 0, 6, .inl (fun _ => 0))), (q_1, .inl (ty 0, 1, .inl (fun _ => 0))), (q_2, .inl (ty 0, 1, .inl (fun _ => 0))), (q_3, .inl (ty 0, 1, .inl (fun _ => 0))), (q_4, .inl (ty 0, 1, .inl (fun _ => 0))), (q_5, .inl (ty 0, 1, .inl (fun _ => 0))), (q_7, .inl (ty 0, 6, .inl (fun _ => 0)))] H := hP
  have hD : va_D A [(x_paper, .inr (3, [.ref x_paper_ranks, .ref x_paper_digits, .ref x_paper_barred, .ref x_paper_pays, .ref x_paper_measuredBarred, .ref x_paper_buckets, .ref q_5, .ref q_7, .ref x_paper_turnedHeads, .ref q_1, .ref q_2, .ref q_3, .ref q_4, .int 0, .int 1, .int 0, .int 0, .int (-1), .int (-1), .int 0])), (x_paper_digits, .inl (ty 0, 6, .inl (fun _ => 0))), (q_1, .inl (ty 0, 1, .inl (fun _ => 0))), (q_2, .inl (ty 0, 1, .inl (fun _ => 0))), (q_3, .inl (ty 0, 1, .inl (fun _ => 0))), (q_4, .inl (ty 0, 1, .inl (fun _ => 0))), (q_5, .inl (ty 0, 1, .inl (fun _ => 0))), (q_7, .inl (ty 0, 6, .inl (fun _ => 0)))] := hD
  refine lv_aload_n hx hb dX3_makeRoom_71 rfl (lv_at hl 0 rfl) ?_
  refine lv_bipush (v := 6) hx hb dX3_makeRoom_72 (by decide) ?_
  refine lv_aload_n hx hb dX3_makeRoom_74 rfl (lv_at hl 0 rfl) ?_
  refine va_get (D := D) (ci := 3) (v := .int 0) (C := RX3) (T := TX3) (N := 20) hx hb hts (by decide +kernel) hown hK hP 0 rfl rfl 13 (by decide) (hts (.fieldLink RX3 51 "TurnedFloors$Paper" "floors" "I") (by decide +kernel)) (fun _ h9 => h9) rfl dX3_makeRoom_75 ?_
  refine lv_ishl hx hb dX3_makeRoom_78 ?_
  refine lv_topi (fun z_8 ez_8 => ?_)
  obtain rfl : z_8 = 6 := ez_8.trans (by first | rfl | decide +kernel)
  refine va_newa (atype := .int) (ty := .int) (N' := 6) (a0 := (6, .inl (fun _ => 0))) hx hb (hts (.arrayClass .int) (by decide +kernel)) rfl hK hP hD hS hA (fun _ => rfl) (by decide) (by decide) (by decide) (Nat.le_of_ble_eq_true rfl) (Nat.le_of_ble_eq_true rfl) dX3_makeRoom_79 (fun q_9 cA H hK2 hP hD hS => ?_)
  obtain rfl : cA = ty 0 := kz_cA (t0 := 0) (t1 := 6) hK2 rfl rfl rfl
  have hP : va_P D vwCl [(x_paper, .inr (3, [.ref x_paper_ranks, .ref x_paper_digits, .ref x_paper_barred, .ref x_paper_pays, .ref x_paper_measuredBarred, .ref x_paper_buckets, .ref q_5, .ref q_7, .ref x_paper_turnedHeads, .ref q_1, .ref q_2, .ref q_3, .ref q_4, .int 0, .int 1, .int 0, .int 0, .int (-1), .int (-1), .int 0])), (x_paper_digits, .inl (ty 0, 6, .inl (fun _ => 0))), (q_1, .inl (ty 0, 1, .inl (fun _ => 0))), (q_2, .inl (ty 0, 1, .inl (fun _ => 0))), (q_3, .inl (ty 0, 1, .inl (fun _ => 0))), (q_4, .inl (ty 0, 1, .inl (fun _ => 0))), (q_5, .inl (ty 0, 1, .inl (fun _ => 0))), (q_7, .inl (ty 0, 6, .inl (fun _ => 0))), (q_9, .inl (ty 0, 6, .inl (fun _ => 0)))] H := hP
  have hD : va_D A [(x_paper, .inr (3, [.ref x_paper_ranks, .ref x_paper_digits, .ref x_paper_barred, .ref x_paper_pays, .ref x_paper_measuredBarred, .ref x_paper_buckets, .ref q_5, .ref q_7, .ref x_paper_turnedHeads, .ref q_1, .ref q_2, .ref q_3, .ref q_4, .int 0, .int 1, .int 0, .int 0, .int (-1), .int (-1), .int 0])), (x_paper_digits, .inl (ty 0, 6, .inl (fun _ => 0))), (q_1, .inl (ty 0, 1, .inl (fun _ => 0))), (q_2, .inl (ty 0, 1, .inl (fun _ => 0))), (q_3, .inl (ty 0, 1, .inl (fun _ => 0))), (q_4, .inl (ty 0, 1, .inl (fun _ => 0))), (q_5, .inl (ty 0, 1, .inl (fun _ => 0))), (q_7, .inl (ty 0, 6, .inl (fun _ => 0))), (q_9, .inl (ty 0, 6, .inl (fun _ => 0)))] := hD
  refine va_put (D := D) (ci := 3) (v := .ref q_9) (ty := .array .int) (C := RX3) (T := TX3) (N := 20) hx hb hts (by decide +kernel) tyX3 tyX3_ok nmX3 hown hK hP hD hS 0 rfl rfl 8 (by decide) (hts (.fieldLink RX3 36 "TurnedFloors$Paper" "turnedHeads" "[I") (by decide +kernel)) (fun _ h9 => h9) rfl (by decide +kernel) rfl rfl (Nat.le_of_ble_eq_true rfl) dX3_makeRoom_81 (fun H locs hP hD hS => ?_)
  have hP : va_P D vwCl [(x_paper, .inr (3, [.ref x_paper_ranks, .ref x_paper_digits, .ref x_paper_barred, .ref x_paper_pays, .ref x_paper_measuredBarred, .ref x_paper_buckets, .ref q_5, .ref q_7, .ref q_9, .ref q_1, .ref q_2, .ref q_3, .ref q_4, .int 0, .int 1, .int 0, .int 0, .int (-1), .int (-1), .int 0])), (x_paper_digits, .inl (ty 0, 6, .inl (fun _ => 0))), (q_1, .inl (ty 0, 1, .inl (fun _ => 0))), (q_2, .inl (ty 0, 1, .inl (fun _ => 0))), (q_3, .inl (ty 0, 1, .inl (fun _ => 0))), (q_4, .inl (ty 0, 1, .inl (fun _ => 0))), (q_5, .inl (ty 0, 1, .inl (fun _ => 0))), (q_7, .inl (ty 0, 6, .inl (fun _ => 0))), (q_9, .inl (ty 0, 6, .inl (fun _ => 0)))] H := hP
  have hD : va_D A [(x_paper, .inr (3, [.ref x_paper_ranks, .ref x_paper_digits, .ref x_paper_barred, .ref x_paper_pays, .ref x_paper_measuredBarred, .ref x_paper_buckets, .ref q_5, .ref q_7, .ref q_9, .ref q_1, .ref q_2, .ref q_3, .ref q_4, .int 0, .int 1, .int 0, .int 0, .int (-1), .int (-1), .int 0])), (x_paper_digits, .inl (ty 0, 6, .inl (fun _ => 0))), (q_1, .inl (ty 0, 1, .inl (fun _ => 0))), (q_2, .inl (ty 0, 1, .inl (fun _ => 0))), (q_3, .inl (ty 0, 1, .inl (fun _ => 0))), (q_4, .inl (ty 0, 1, .inl (fun _ => 0))), (q_5, .inl (ty 0, 1, .inl (fun _ => 0))), (q_7, .inl (ty 0, 6, .inl (fun _ => 0))), (q_9, .inl (ty 0, 6, .inl (fun _ => 0)))] := hD
  refine lv_aload_n hx hb dX3_makeRoom_84 rfl (lv_at hl 0 rfl) ?_
  refine lv_iconst (v := (-1)) hx hb dX3_makeRoom_85 (by decide) ?_
  refine va_put (D := D) (ci := 3) (v := .int (-1)) (ty := .int) (C := RX3) (T := TX3) (N := 20) hx hb hts (by decide +kernel) tyX3 tyX3_ok nmX3 hown hK hP hD hS 0 rfl rfl 17 (by decide) (hts (.fieldLink RX3 64 "TurnedFloors$Paper" "measuredFloors" "I") (by decide +kernel)) (fun _ h9 => h9) rfl (by decide +kernel) rfl rfl (Nat.le_of_ble_eq_true rfl) dX3_makeRoom_86 (fun H locs hP hD hS => ?_)
  have hP : va_P D vwCl [(x_paper, .inr (3, [.ref x_paper_ranks, .ref x_paper_digits, .ref x_paper_barred, .ref x_paper_pays, .ref x_paper_measuredBarred, .ref x_paper_buckets, .ref q_5, .ref q_7, .ref q_9, .ref q_1, .ref q_2, .ref q_3, .ref q_4, .int 0, .int 1, .int 0, .int 0, .int (-1), .int (-1), .int 0])), (x_paper_digits, .inl (ty 0, 6, .inl (fun _ => 0))), (q_1, .inl (ty 0, 1, .inl (fun _ => 0))), (q_2, .inl (ty 0, 1, .inl (fun _ => 0))), (q_3, .inl (ty 0, 1, .inl (fun _ => 0))), (q_4, .inl (ty 0, 1, .inl (fun _ => 0))), (q_5, .inl (ty 0, 1, .inl (fun _ => 0))), (q_7, .inl (ty 0, 6, .inl (fun _ => 0))), (q_9, .inl (ty 0, 6, .inl (fun _ => 0)))] H := hP
  have hD : va_D A [(x_paper, .inr (3, [.ref x_paper_ranks, .ref x_paper_digits, .ref x_paper_barred, .ref x_paper_pays, .ref x_paper_measuredBarred, .ref x_paper_buckets, .ref q_5, .ref q_7, .ref q_9, .ref q_1, .ref q_2, .ref q_3, .ref q_4, .int 0, .int 1, .int 0, .int 0, .int (-1), .int (-1), .int 0])), (x_paper_digits, .inl (ty 0, 6, .inl (fun _ => 0))), (q_1, .inl (ty 0, 1, .inl (fun _ => 0))), (q_2, .inl (ty 0, 1, .inl (fun _ => 0))), (q_3, .inl (ty 0, 1, .inl (fun _ => 0))), (q_4, .inl (ty 0, 1, .inl (fun _ => 0))), (q_5, .inl (ty 0, 1, .inl (fun _ => 0))), (q_7, .inl (ty 0, 6, .inl (fun _ => 0))), (q_9, .inl (ty 0, 6, .inl (fun _ => 0)))] := hD
  refine lv_iconst (v := 0) hx hb dX3_makeRoom_89 (by decide) ?_
  refine lv_istore_n (lv' := [(1, .int 0), (0, .ref x_paper)]) hx hb dX3_makeRoom_90 rfl hl (by decide) rfl (fun ls hl => ?_)
  refine lv_iload_n hx hb dX3_makeRoom_91 rfl (lv_at hl 0 rfl) ?_
  refine lv_aload_n hx hb dX3_makeRoom_92 rfl (lv_at hl 1 rfl) ?_
  refine va_get (D := D) (ci := 3) (v := .ref q_5) (C := RX3) (T := TX3) (N := 20) hx hb hts (by decide +kernel) hown hK hP 0 rfl rfl 6 (by decide) (hts (.fieldLink RX3 30 "TurnedFloors$Paper" "orders" "[I") (by decide +kernel)) (fun _ h9 => h9) rfl dX3_makeRoom_93 ?_
  refine va_alen (v := 1) hx hb hK hP 6 0 rfl rfl (by decide +kernel) dX3_makeRoom_96 ?_
  refine lv_icmp_ge (tgt := 111) hx hb dX3_makeRoom_97 (by decide) (fun h => absurd h (by decide)) (fun _ => ?_)
  refine lv_aload_n hx hb dX3_makeRoom_100 rfl (lv_at hl 1 rfl) ?_
  refine lv_iload_n hx hb dX3_makeRoom_101 rfl (lv_at hl 0 rfl) ?_
  refine kz_kv (wc := [(x_paper, .inr (3, [.ref x_paper_ranks, .ref x_paper_digits, .ref x_paper_barred, .ref x_paper_pays, .ref x_paper_measuredBarred, .ref x_paper_buckets, .ref q_5, .ref q_7, .ref q_9, .ref q_1, .ref q_2, .ref q_3, .ref q_4, .int 0, .int 1, .int 0, .int 0, .int (-1), .int (-1), .int 0])), (x_paper_digits, .inl (ty 0, 6, .inl (fun _ => 0))), (q_5, .inl (ty 0, 1, .inl (fun _ => 0)))]) (wr := [(q_1, .inl (ty 0, 1, .inl (fun _ => 0))), (q_2, .inl (ty 0, 1, .inl (fun _ => 0))), (q_3, .inl (ty 0, 1, .inl (fun _ => 0))), (q_4, .inl (ty 0, 1, .inl (fun _ => 0))), (q_7, .inl (ty 0, 6, .inl (fun _ => 0))), (q_9, .inl (ty 0, 6, .inl (fun _ => 0)))]) (va_runV (As := [.int 0]) (rest := []) ⟨hx, hb, hml, hown, hts⟩ (kX3_listOrder_77 l D ty eo _ x_paper x_paper_ranks x_paper_digits x_paper_barred x_paper_pays x_paper_measuredBarred x_paper_buckets q_5 q_7 q_9 q_1 q_2 q_3 q_4) (cwV 1 hts gX3_makeRoom_X3_listOrder rfl rfl rfl (by decide +kernel) ⟨Nat.le_of_ble_eq_true rfl, Nat.le_of_ble_eq_true rfl⟩) (kz_preV (ci := 3) (q0 := 0) hK hN hE hP hD hS hA rfl rfl [0, 1, 6] (by decide) rfl) rfl rfl hl.1 rfl (lv_room (Nat.le_of_ble_eq_true rfl)) dX3_makeRoom_102 ⟨Nat.le_of_ble_eq_true rfl, Nat.le_of_ble_eq_true rfl⟩) hP hD hS hA [0, 1, 6] [2, 3, 4, 5, 7, 8] rfl rfl (by decide) (by decide) (fun u H locs hw hP hD hS => ?_)
  obtain rfl := hw
  have hP : va_P D vwCl [(q_1, .inl (ty 0, 1, .inl (fun _ => 0))), (q_2, .inl (ty 0, 1, .inl (fun _ => 0))), (q_3, .inl (ty 0, 1, .inl (fun _ => 0))), (q_4, .inl (ty 0, 1, .inl (fun _ => 0))), (q_7, .inl (ty 0, 6, .inl (fun _ => 0))), (q_9, .inl (ty 0, 6, .inl (fun _ => 0))), (q_5, .inl (ty 0, 1, .inl (upd (upd (upd (upd (upd (upd (fun _ => 0) 0 0) 0 8) 0 136) 0 1672) 0 18056) 0 181896))), (x_paper, .inr (3, [.ref x_paper_ranks, .ref x_paper_digits, .ref x_paper_barred, .ref x_paper_pays, .ref x_paper_measuredBarred, .ref x_paper_buckets, .ref q_5, .ref q_7, .ref q_9, .ref q_1, .ref q_2, .ref q_3, .ref q_4, .int 0, .int 1, .int 0, .int 0, .int (-1), .int (-1), .int 0])), (x_paper_digits, .inl (ty 0, 6, .inl (upd (upd (upd (upd (upd (upd (upd (upd (upd (upd (upd (upd (upd (upd (upd (upd (upd (upd (upd (upd (upd (fun _ => 0) 0 0) 0 0) 1 1) 0 0) 1 1) 2 2) 0 0) 1 1) 2 2) 3 3) 0 0) 1 1) 2 2) 3 3) 4 4) 0 0) 1 1) 2 2) 3 3) 4 4) 5 5)))] H := hP
  have hD : va_D A [(q_1, .inl (ty 0, 1, .inl (fun _ => 0))), (q_2, .inl (ty 0, 1, .inl (fun _ => 0))), (q_3, .inl (ty 0, 1, .inl (fun _ => 0))), (q_4, .inl (ty 0, 1, .inl (fun _ => 0))), (q_7, .inl (ty 0, 6, .inl (fun _ => 0))), (q_9, .inl (ty 0, 6, .inl (fun _ => 0))), (q_5, .inl (ty 0, 1, .inl (upd (upd (upd (upd (upd (upd (fun _ => 0) 0 0) 0 8) 0 136) 0 1672) 0 18056) 0 181896))), (x_paper, .inr (3, [.ref x_paper_ranks, .ref x_paper_digits, .ref x_paper_barred, .ref x_paper_pays, .ref x_paper_measuredBarred, .ref x_paper_buckets, .ref q_5, .ref q_7, .ref q_9, .ref q_1, .ref q_2, .ref q_3, .ref q_4, .int 0, .int 1, .int 0, .int 0, .int (-1), .int (-1), .int 0])), (x_paper_digits, .inl (ty 0, 6, .inl (upd (upd (upd (upd (upd (upd (upd (upd (upd (upd (upd (upd (upd (upd (upd (upd (upd (upd (upd (upd (upd (fun _ => 0) 0 0) 0 0) 1 1) 0 0) 1 1) 2 2) 0 0) 1 1) 2 2) 3 3) 0 0) 1 1) 2 2) 3 3) 4 4) 0 0) 1 1) 2 2) 3 3) 4 4) 5 5)))] := hD
  refine lv_iinc (v := 1) (lv' := [(1, .int 1), (0, .ref x_paper)]) hx hb dX3_makeRoom_105 hl (k := 0) rfl (by decide) (by decide) rfl (fun ls hl => ?_)
  refine lv_goto (tgt := 91) hx hb dX3_makeRoom_108 (by decide) ?_
  refine lv_iload_n hx hb dX3_makeRoom_91 rfl (lv_at hl 0 rfl) ?_
  refine lv_aload_n hx hb dX3_makeRoom_92 rfl (lv_at hl 1 rfl) ?_
  refine va_get (D := D) (ci := 3) (v := .ref q_5) (C := RX3) (T := TX3) (N := 20) hx hb hts (by decide +kernel) hown hK hP 7 rfl rfl 6 (by decide) (hts (.fieldLink RX3 30 "TurnedFloors$Paper" "orders" "[I") (by decide +kernel)) (fun _ h9 => h9) rfl dX3_makeRoom_93 ?_
  refine va_alen (v := 1) hx hb hK hP 6 0 rfl rfl (by decide +kernel) dX3_makeRoom_96 ?_
  refine lv_icmp_ge (tgt := 111) hx hb dX3_makeRoom_97 (by decide) (fun _ => ?_) (fun h => absurd (by decide) h)
  refine lv_iconst (v := 0) hx hb dX3_makeRoom_111 (by decide) ?_
  refine lv_istore_n (lv' := [(1, .int 0), (0, .ref x_paper)]) hx hb dX3_makeRoom_112 rfl hl (by decide) rfl (fun ls hl => ?_)
  refine lv_iload_n hx hb dX3_makeRoom_113 rfl (lv_at hl 0 rfl) ?_
  refine lv_iconst (v := 1) hx hb dX3_makeRoom_114 (by decide) ?_
  refine lv_aload_n hx hb dX3_makeRoom_115 rfl (lv_at hl 1 rfl) ?_
  refine va_get (D := D) (ci := 3) (v := .int 0) (C := RX3) (T := TX3) (N := 20) hx hb hts (by decide +kernel) hown hK hP 7 rfl rfl 13 (by decide) (hts (.fieldLink RX3 51 "TurnedFloors$Paper" "floors" "I") (by decide +kernel)) (fun _ h9 => h9) rfl dX3_makeRoom_116 ?_
  refine lv_ishl hx hb dX3_makeRoom_119 ?_
  refine lv_topi (fun z_10 ez_10 => ?_)
  obtain rfl : z_10 = 1 := ez_10.trans (by first | rfl | decide +kernel)
  refine lv_icmp_ge (tgt := 163) hx hb dX3_makeRoom_120 (by decide) (fun h => absurd h (by decide)) (fun _ => ?_)
  refine lv_iconst (v := 1) hx hb dX3_makeRoom_123 (by decide) ?_
  refine lv_istore_n (lv' := [(2, .int 1), (1, .int 0), (0, .ref x_paper)]) hx hb dX3_makeRoom_124 rfl hl (by decide) rfl (fun ls hl => ?_)
  refine lv_iload_n hx hb dX3_makeRoom_125 rfl (lv_at hl 0 rfl) ?_
  refine lv_aload_n hx hb dX3_makeRoom_126 rfl (lv_at hl 2 rfl) ?_
  refine va_get (D := D) (ci := 3) (v := .int 0) (C := RX3) (T := TX3) (N := 20) hx hb hts (by decide +kernel) hown hK hP 7 rfl rfl 13 (by decide) (hts (.fieldLink RX3 51 "TurnedFloors$Paper" "floors" "I") (by decide +kernel)) (fun _ h9 => h9) rfl dX3_makeRoom_127 ?_
  refine lv_icmp_gt (tgt := 157) hx hb dX3_makeRoom_130 (by decide) (fun _ => ?_) (fun h => absurd (by decide) h)
  refine lv_iinc (v := 1) (lv' := [(1, .int 1), (2, .int 1), (0, .ref x_paper)]) hx hb dX3_makeRoom_157 hl (k := 1) rfl (by decide) (by decide) rfl (fun ls hl => ?_)
  refine lv_goto (tgt := 113) hx hb dX3_makeRoom_160 (by decide) ?_
  refine lv_iload_n hx hb dX3_makeRoom_113 rfl (lv_at hl 0 rfl) ?_
  refine lv_iconst (v := 1) hx hb dX3_makeRoom_114 (by decide) ?_
  refine lv_aload_n hx hb dX3_makeRoom_115 rfl (lv_at hl 2 rfl) ?_
  refine va_get (D := D) (ci := 3) (v := .int 0) (C := RX3) (T := TX3) (N := 20) hx hb hts (by decide +kernel) hown hK hP 7 rfl rfl 13 (by decide) (hts (.fieldLink RX3 51 "TurnedFloors$Paper" "floors" "I") (by decide +kernel)) (fun _ h9 => h9) rfl dX3_makeRoom_116 ?_
  refine lv_ishl hx hb dX3_makeRoom_119 ?_
  refine lv_topi (fun z_11 ez_11 => ?_)
  obtain rfl : z_11 = 1 := ez_11.trans (by first | rfl | decide +kernel)
  refine lv_icmp_ge (tgt := 163) hx hb dX3_makeRoom_120 (by decide) (fun _ => ?_) (fun h => absurd (by decide) h)
  refine W.widen (k := 7) (n := 17) (Nat.le_of_ble_eq_true rfl) (Nat.le_of_ble_eq_true rfl) ?_
  exact kz_vret hx hb hr hlocks hP hK hD hS dX3_makeRoom_163 ⟨q_1, q_2, q_3, q_4, q_5, q_7, q_9, rfl⟩

set_option maxHeartbeats 4000000 in
set_option maxRecDepth 100000 in
theorem kX8_has_79 (l : Launch) (D : va_G) (ty : Nat → ClassId) (eo : Nat → Nat) (sz : Nat) (x_state_tower x_state_tower_rank x_state_tower_head : Nat) : Met l yX8_has wsX8_has ({ frames := 0, cells := 0, slots := 0, locals := 0 }) (va_Pc [.ref x_state_tower, .int 0] (kz_pre D ty eo [(x_state_tower, .inr (8, [.ref x_state_tower_rank, .ref x_state_tower_head, .int 0, .int 0, .int 0]))] sz)) (va_Qi (fun (r : Int32) (u : va_W) => 0 = r ∧ [(x_state_tower, .inr (8, [.ref x_state_tower_rank, .ref x_state_tower_head, .int 0, .int 0, .int 0]))] = u) (kz_B D ty (va_A [(x_state_tower, .inr (8, [.ref x_state_tower_rank, .ref x_state_tower_head, .int 0, .int 0, .int 0]))] sz)) (va_A [(x_state_tower, .inr (8, [.ref x_state_tower_rank, .ref x_state_tower_head, .int 0, .int 0, .int 0]))] sz)) 0 0 (va_A [(x_state_tower, .inr (8, [.ref x_state_tower_rank, .ref x_state_tower_head, .int 0, .int 0, .int 0]))] sz) := by
  refine Met.ofW (cc := cX8_has) (maxL := 3) (ret := (some .boolean)) (by decide) rfl ?_
  intro p e s m args below meth c s₁ B hml hv
  obtain ⟨rfl, hsz, hP, hK, hD0, hN, hE⟩ := hv
  have hx := B.exec
  have hb := B.bytes
  have hr := B.returns
  have hts := atoms_spec (ws := wsX8_has) B.pre
  have hown : s.vm.findClass RX8 = some m.cls := findClass_of_methodNamed B.named
  have hlocks := B.notSynchronized
  subst hsz
  have hD := hD0.self (sz := s.heap.size)
  generalize hAe : va_A [(x_state_tower, .inr (8, [.ref x_state_tower_rank, .ref x_state_tower_head, .int 0, .int 0, .int 0]))] s.heap.size = A at hD hE ⊢
  have hA : ∀ q : Nat, s.heap.size ≤ q → A q := fun q h => by rw [← hAe]; exact Or.inr h
  have hS : va_S A s.heap s.heap [] := va_S.rf
  have hl := lv_entry ([.ref x_state_tower, .int 0]) (n := 3) (Nat.le_of_ble_eq_true rfl)
  rw [lg_entry_eq]
  generalize (lg_sl ([.ref x_state_tower, .int 0]) ++ List.replicate (3 - (lg_sl ([.ref x_state_tower, .int 0])).length) Slot.unset).toArray = ls at hl ⊢
  have hl : lv_has ls 3 [(0, .ref x_state_tower), (1, .int 0)] := hl
  refine lv_iconst (v := 0) hx hb dX8_has_0 (by decide) ?_
  refine lv_istore_n (lv' := [(2, .int 0), (0, .ref x_state_tower), (1, .int 0)]) hx hb dX8_has_1 rfl hl (by decide) rfl (fun ls hl => ?_)
  refine lv_iload_n hx hb dX8_has_2 rfl (lv_at hl 0 rfl) ?_
  refine lv_aload_n hx hb dX8_has_3 rfl (lv_at hl 1 rfl) ?_
  refine va_get (D := D) (ci := 8) (v := .int 0) (C := RX8) (T := TX8) (N := 5) hx hb hts (by decide +kernel) hown hK hP 0 rfl rfl 2 (by decide) (hts (.fieldLink RX8 18 "TurnedFloors$Tower" "floors" "I") (by decide +kernel)) (fun _ h9 => h9) rfl dX8_has_4 ?_
  refine lv_icmp_ge (tgt := 28) hx hb dX8_has_7 (by decide) (fun _ => ?_) (fun h => absurd (by decide) h)
  refine lv_iconst (v := 0) hx hb dX8_has_28 (by decide) ?_
  exact kz_zret hx hb hr hlocks rfl hP hK hD hS dX8_has_29 ⟨rfl, rfl⟩

set_option maxHeartbeats 4000000 in
set_option maxRecDepth 100000 in
theorem kX8_has_80 (l : Launch) (D : va_G) (ty : Nat → ClassId) (eo : Nat → Nat) (sz : Nat) (x_state_tower x_state_tower_rank x_state_tower_head : Nat) : Met l yX8_has wsX8_has ({ frames := 0, cells := 0, slots := 0, locals := 0 }) (va_Pc [.ref x_state_tower, .int 1] (kz_pre D ty eo [(x_state_tower, .inr (8, [.ref x_state_tower_rank, .ref x_state_tower_head, .int 0, .int 0, .int 0]))] sz)) (va_Qi (fun (r : Int32) (u : va_W) => 0 = r ∧ [(x_state_tower, .inr (8, [.ref x_state_tower_rank, .ref x_state_tower_head, .int 0, .int 0, .int 0]))] = u) (kz_B D ty (va_A [(x_state_tower, .inr (8, [.ref x_state_tower_rank, .ref x_state_tower_head, .int 0, .int 0, .int 0]))] sz)) (va_A [(x_state_tower, .inr (8, [.ref x_state_tower_rank, .ref x_state_tower_head, .int 0, .int 0, .int 0]))] sz)) 0 0 (va_A [(x_state_tower, .inr (8, [.ref x_state_tower_rank, .ref x_state_tower_head, .int 0, .int 0, .int 0]))] sz) := by
  refine Met.ofW (cc := cX8_has) (maxL := 3) (ret := (some .boolean)) (by decide) rfl ?_
  intro p e s m args below meth c s₁ B hml hv
  obtain ⟨rfl, hsz, hP, hK, hD0, hN, hE⟩ := hv
  have hx := B.exec
  have hb := B.bytes
  have hr := B.returns
  have hts := atoms_spec (ws := wsX8_has) B.pre
  have hown : s.vm.findClass RX8 = some m.cls := findClass_of_methodNamed B.named
  have hlocks := B.notSynchronized
  subst hsz
  have hD := hD0.self (sz := s.heap.size)
  generalize hAe : va_A [(x_state_tower, .inr (8, [.ref x_state_tower_rank, .ref x_state_tower_head, .int 0, .int 0, .int 0]))] s.heap.size = A at hD hE ⊢
  have hA : ∀ q : Nat, s.heap.size ≤ q → A q := fun q h => by rw [← hAe]; exact Or.inr h
  have hS : va_S A s.heap s.heap [] := va_S.rf
  have hl := lv_entry ([.ref x_state_tower, .int 1]) (n := 3) (Nat.le_of_ble_eq_true rfl)
  rw [lg_entry_eq]
  generalize (lg_sl ([.ref x_state_tower, .int 1]) ++ List.replicate (3 - (lg_sl ([.ref x_state_tower, .int 1])).length) Slot.unset).toArray = ls at hl ⊢
  have hl : lv_has ls 3 [(0, .ref x_state_tower), (1, .int 1)] := hl
  refine lv_iconst (v := 0) hx hb dX8_has_0 (by decide) ?_
  refine lv_istore_n (lv' := [(2, .int 0), (0, .ref x_state_tower), (1, .int 1)]) hx hb dX8_has_1 rfl hl (by decide) rfl (fun ls hl => ?_)
  refine lv_iload_n hx hb dX8_has_2 rfl (lv_at hl 0 rfl) ?_
  refine lv_aload_n hx hb dX8_has_3 rfl (lv_at hl 1 rfl) ?_
  refine va_get (D := D) (ci := 8) (v := .int 0) (C := RX8) (T := TX8) (N := 5) hx hb hts (by decide +kernel) hown hK hP 0 rfl rfl 2 (by decide) (hts (.fieldLink RX8 18 "TurnedFloors$Tower" "floors" "I") (by decide +kernel)) (fun _ h9 => h9) rfl dX8_has_4 ?_
  refine lv_icmp_ge (tgt := 28) hx hb dX8_has_7 (by decide) (fun _ => ?_) (fun h => absurd (by decide) h)
  refine lv_iconst (v := 0) hx hb dX8_has_28 (by decide) ?_
  exact kz_zret hx hb hr hlocks rfl hP hK hD hS dX8_has_29 ⟨rfl, rfl⟩

set_option maxHeartbeats 4000000 in
set_option maxRecDepth 100000 in
theorem kX8_has_81 (l : Launch) (D : va_G) (ty : Nat → ClassId) (eo : Nat → Nat) (sz : Nat) (x_state_tower x_state_tower_rank x_state_tower_head : Nat) : Met l yX8_has wsX8_has ({ frames := 0, cells := 0, slots := 0, locals := 0 }) (va_Pc [.ref x_state_tower, .int 2] (kz_pre D ty eo [(x_state_tower, .inr (8, [.ref x_state_tower_rank, .ref x_state_tower_head, .int 0, .int 0, .int 0]))] sz)) (va_Qi (fun (r : Int32) (u : va_W) => 0 = r ∧ [(x_state_tower, .inr (8, [.ref x_state_tower_rank, .ref x_state_tower_head, .int 0, .int 0, .int 0]))] = u) (kz_B D ty (va_A [(x_state_tower, .inr (8, [.ref x_state_tower_rank, .ref x_state_tower_head, .int 0, .int 0, .int 0]))] sz)) (va_A [(x_state_tower, .inr (8, [.ref x_state_tower_rank, .ref x_state_tower_head, .int 0, .int 0, .int 0]))] sz)) 0 0 (va_A [(x_state_tower, .inr (8, [.ref x_state_tower_rank, .ref x_state_tower_head, .int 0, .int 0, .int 0]))] sz) := by
  refine Met.ofW (cc := cX8_has) (maxL := 3) (ret := (some .boolean)) (by decide) rfl ?_
  intro p e s m args below meth c s₁ B hml hv
  obtain ⟨rfl, hsz, hP, hK, hD0, hN, hE⟩ := hv
  have hx := B.exec
  have hb := B.bytes
  have hr := B.returns
  have hts := atoms_spec (ws := wsX8_has) B.pre
  have hown : s.vm.findClass RX8 = some m.cls := findClass_of_methodNamed B.named
  have hlocks := B.notSynchronized
  subst hsz
  have hD := hD0.self (sz := s.heap.size)
  generalize hAe : va_A [(x_state_tower, .inr (8, [.ref x_state_tower_rank, .ref x_state_tower_head, .int 0, .int 0, .int 0]))] s.heap.size = A at hD hE ⊢
  have hA : ∀ q : Nat, s.heap.size ≤ q → A q := fun q h => by rw [← hAe]; exact Or.inr h
  have hS : va_S A s.heap s.heap [] := va_S.rf
  have hl := lv_entry ([.ref x_state_tower, .int 2]) (n := 3) (Nat.le_of_ble_eq_true rfl)
  rw [lg_entry_eq]
  generalize (lg_sl ([.ref x_state_tower, .int 2]) ++ List.replicate (3 - (lg_sl ([.ref x_state_tower, .int 2])).length) Slot.unset).toArray = ls at hl ⊢
  have hl : lv_has ls 3 [(0, .ref x_state_tower), (1, .int 2)] := hl
  refine lv_iconst (v := 0) hx hb dX8_has_0 (by decide) ?_
  refine lv_istore_n (lv' := [(2, .int 0), (0, .ref x_state_tower), (1, .int 2)]) hx hb dX8_has_1 rfl hl (by decide) rfl (fun ls hl => ?_)
  refine lv_iload_n hx hb dX8_has_2 rfl (lv_at hl 0 rfl) ?_
  refine lv_aload_n hx hb dX8_has_3 rfl (lv_at hl 1 rfl) ?_
  refine va_get (D := D) (ci := 8) (v := .int 0) (C := RX8) (T := TX8) (N := 5) hx hb hts (by decide +kernel) hown hK hP 0 rfl rfl 2 (by decide) (hts (.fieldLink RX8 18 "TurnedFloors$Tower" "floors" "I") (by decide +kernel)) (fun _ h9 => h9) rfl dX8_has_4 ?_
  refine lv_icmp_ge (tgt := 28) hx hb dX8_has_7 (by decide) (fun _ => ?_) (fun h => absurd (by decide) h)
  refine lv_iconst (v := 0) hx hb dX8_has_28 (by decide) ?_
  exact kz_zret hx hb hr hlocks rfl hP hK hD hS dX8_has_29 ⟨rfl, rfl⟩

set_option maxHeartbeats 4000000 in
set_option maxRecDepth 100000 in
theorem kX8_has_82 (l : Launch) (D : va_G) (ty : Nat → ClassId) (eo : Nat → Nat) (sz : Nat) (x_state_tower x_state_tower_rank x_state_tower_head : Nat) : Met l yX8_has wsX8_has ({ frames := 0, cells := 0, slots := 0, locals := 0 }) (va_Pc [.ref x_state_tower, .int 3] (kz_pre D ty eo [(x_state_tower, .inr (8, [.ref x_state_tower_rank, .ref x_state_tower_head, .int 0, .int 0, .int 0]))] sz)) (va_Qi (fun (r : Int32) (u : va_W) => 0 = r ∧ [(x_state_tower, .inr (8, [.ref x_state_tower_rank, .ref x_state_tower_head, .int 0, .int 0, .int 0]))] = u) (kz_B D ty (va_A [(x_state_tower, .inr (8, [.ref x_state_tower_rank, .ref x_state_tower_head, .int 0, .int 0, .int 0]))] sz)) (va_A [(x_state_tower, .inr (8, [.ref x_state_tower_rank, .ref x_state_tower_head, .int 0, .int 0, .int 0]))] sz)) 0 0 (va_A [(x_state_tower, .inr (8, [.ref x_state_tower_rank, .ref x_state_tower_head, .int 0, .int 0, .int 0]))] sz) := by
  refine Met.ofW (cc := cX8_has) (maxL := 3) (ret := (some .boolean)) (by decide) rfl ?_
  intro p e s m args below meth c s₁ B hml hv
  obtain ⟨rfl, hsz, hP, hK, hD0, hN, hE⟩ := hv
  have hx := B.exec
  have hb := B.bytes
  have hr := B.returns
  have hts := atoms_spec (ws := wsX8_has) B.pre
  have hown : s.vm.findClass RX8 = some m.cls := findClass_of_methodNamed B.named
  have hlocks := B.notSynchronized
  subst hsz
  have hD := hD0.self (sz := s.heap.size)
  generalize hAe : va_A [(x_state_tower, .inr (8, [.ref x_state_tower_rank, .ref x_state_tower_head, .int 0, .int 0, .int 0]))] s.heap.size = A at hD hE ⊢
  have hA : ∀ q : Nat, s.heap.size ≤ q → A q := fun q h => by rw [← hAe]; exact Or.inr h
  have hS : va_S A s.heap s.heap [] := va_S.rf
  have hl := lv_entry ([.ref x_state_tower, .int 3]) (n := 3) (Nat.le_of_ble_eq_true rfl)
  rw [lg_entry_eq]
  generalize (lg_sl ([.ref x_state_tower, .int 3]) ++ List.replicate (3 - (lg_sl ([.ref x_state_tower, .int 3])).length) Slot.unset).toArray = ls at hl ⊢
  have hl : lv_has ls 3 [(0, .ref x_state_tower), (1, .int 3)] := hl
  refine lv_iconst (v := 0) hx hb dX8_has_0 (by decide) ?_
  refine lv_istore_n (lv' := [(2, .int 0), (0, .ref x_state_tower), (1, .int 3)]) hx hb dX8_has_1 rfl hl (by decide) rfl (fun ls hl => ?_)
  refine lv_iload_n hx hb dX8_has_2 rfl (lv_at hl 0 rfl) ?_
  refine lv_aload_n hx hb dX8_has_3 rfl (lv_at hl 1 rfl) ?_
  refine va_get (D := D) (ci := 8) (v := .int 0) (C := RX8) (T := TX8) (N := 5) hx hb hts (by decide +kernel) hown hK hP 0 rfl rfl 2 (by decide) (hts (.fieldLink RX8 18 "TurnedFloors$Tower" "floors" "I") (by decide +kernel)) (fun _ h9 => h9) rfl dX8_has_4 ?_
  refine lv_icmp_ge (tgt := 28) hx hb dX8_has_7 (by decide) (fun _ => ?_) (fun h => absurd (by decide) h)
  refine lv_iconst (v := 0) hx hb dX8_has_28 (by decide) ?_
  exact kz_zret hx hb hr hlocks rfl hP hK hD hS dX8_has_29 ⟨rfl, rfl⟩

set_option maxHeartbeats 4000000 in
set_option maxRecDepth 100000 in
theorem kX8_has_83 (l : Launch) (D : va_G) (ty : Nat → ClassId) (eo : Nat → Nat) (sz : Nat) (x_state_tower x_state_tower_rank x_state_tower_head : Nat) : Met l yX8_has wsX8_has ({ frames := 0, cells := 0, slots := 0, locals := 0 }) (va_Pc [.ref x_state_tower, .int 4] (kz_pre D ty eo [(x_state_tower, .inr (8, [.ref x_state_tower_rank, .ref x_state_tower_head, .int 0, .int 0, .int 0]))] sz)) (va_Qi (fun (r : Int32) (u : va_W) => 0 = r ∧ [(x_state_tower, .inr (8, [.ref x_state_tower_rank, .ref x_state_tower_head, .int 0, .int 0, .int 0]))] = u) (kz_B D ty (va_A [(x_state_tower, .inr (8, [.ref x_state_tower_rank, .ref x_state_tower_head, .int 0, .int 0, .int 0]))] sz)) (va_A [(x_state_tower, .inr (8, [.ref x_state_tower_rank, .ref x_state_tower_head, .int 0, .int 0, .int 0]))] sz)) 0 0 (va_A [(x_state_tower, .inr (8, [.ref x_state_tower_rank, .ref x_state_tower_head, .int 0, .int 0, .int 0]))] sz) := by
  refine Met.ofW (cc := cX8_has) (maxL := 3) (ret := (some .boolean)) (by decide) rfl ?_
  intro p e s m args below meth c s₁ B hml hv
  obtain ⟨rfl, hsz, hP, hK, hD0, hN, hE⟩ := hv
  have hx := B.exec
  have hb := B.bytes
  have hr := B.returns
  have hts := atoms_spec (ws := wsX8_has) B.pre
  have hown : s.vm.findClass RX8 = some m.cls := findClass_of_methodNamed B.named
  have hlocks := B.notSynchronized
  subst hsz
  have hD := hD0.self (sz := s.heap.size)
  generalize hAe : va_A [(x_state_tower, .inr (8, [.ref x_state_tower_rank, .ref x_state_tower_head, .int 0, .int 0, .int 0]))] s.heap.size = A at hD hE ⊢
  have hA : ∀ q : Nat, s.heap.size ≤ q → A q := fun q h => by rw [← hAe]; exact Or.inr h
  have hS : va_S A s.heap s.heap [] := va_S.rf
  have hl := lv_entry ([.ref x_state_tower, .int 4]) (n := 3) (Nat.le_of_ble_eq_true rfl)
  rw [lg_entry_eq]
  generalize (lg_sl ([.ref x_state_tower, .int 4]) ++ List.replicate (3 - (lg_sl ([.ref x_state_tower, .int 4])).length) Slot.unset).toArray = ls at hl ⊢
  have hl : lv_has ls 3 [(0, .ref x_state_tower), (1, .int 4)] := hl
  refine lv_iconst (v := 0) hx hb dX8_has_0 (by decide) ?_
  refine lv_istore_n (lv' := [(2, .int 0), (0, .ref x_state_tower), (1, .int 4)]) hx hb dX8_has_1 rfl hl (by decide) rfl (fun ls hl => ?_)
  refine lv_iload_n hx hb dX8_has_2 rfl (lv_at hl 0 rfl) ?_
  refine lv_aload_n hx hb dX8_has_3 rfl (lv_at hl 1 rfl) ?_
  refine va_get (D := D) (ci := 8) (v := .int 0) (C := RX8) (T := TX8) (N := 5) hx hb hts (by decide +kernel) hown hK hP 0 rfl rfl 2 (by decide) (hts (.fieldLink RX8 18 "TurnedFloors$Tower" "floors" "I") (by decide +kernel)) (fun _ h9 => h9) rfl dX8_has_4 ?_
  refine lv_icmp_ge (tgt := 28) hx hb dX8_has_7 (by decide) (fun _ => ?_) (fun h => absurd (by decide) h)
  refine lv_iconst (v := 0) hx hb dX8_has_28 (by decide) ?_
  exact kz_zret hx hb hr hlocks rfl hP hK hD hS dX8_has_29 ⟨rfl, rfl⟩

set_option maxHeartbeats 4000000 in
set_option maxRecDepth 100000 in
theorem kX8_has_84 (l : Launch) (D : va_G) (ty : Nat → ClassId) (eo : Nat → Nat) (sz : Nat) (x_state_tower x_state_tower_rank x_state_tower_head : Nat) : Met l yX8_has wsX8_has ({ frames := 0, cells := 0, slots := 0, locals := 0 }) (va_Pc [.ref x_state_tower, .int 5] (kz_pre D ty eo [(x_state_tower, .inr (8, [.ref x_state_tower_rank, .ref x_state_tower_head, .int 0, .int 0, .int 0]))] sz)) (va_Qi (fun (r : Int32) (u : va_W) => 0 = r ∧ [(x_state_tower, .inr (8, [.ref x_state_tower_rank, .ref x_state_tower_head, .int 0, .int 0, .int 0]))] = u) (kz_B D ty (va_A [(x_state_tower, .inr (8, [.ref x_state_tower_rank, .ref x_state_tower_head, .int 0, .int 0, .int 0]))] sz)) (va_A [(x_state_tower, .inr (8, [.ref x_state_tower_rank, .ref x_state_tower_head, .int 0, .int 0, .int 0]))] sz)) 0 0 (va_A [(x_state_tower, .inr (8, [.ref x_state_tower_rank, .ref x_state_tower_head, .int 0, .int 0, .int 0]))] sz) := by
  refine Met.ofW (cc := cX8_has) (maxL := 3) (ret := (some .boolean)) (by decide) rfl ?_
  intro p e s m args below meth c s₁ B hml hv
  obtain ⟨rfl, hsz, hP, hK, hD0, hN, hE⟩ := hv
  have hx := B.exec
  have hb := B.bytes
  have hr := B.returns
  have hts := atoms_spec (ws := wsX8_has) B.pre
  have hown : s.vm.findClass RX8 = some m.cls := findClass_of_methodNamed B.named
  have hlocks := B.notSynchronized
  subst hsz
  have hD := hD0.self (sz := s.heap.size)
  generalize hAe : va_A [(x_state_tower, .inr (8, [.ref x_state_tower_rank, .ref x_state_tower_head, .int 0, .int 0, .int 0]))] s.heap.size = A at hD hE ⊢
  have hA : ∀ q : Nat, s.heap.size ≤ q → A q := fun q h => by rw [← hAe]; exact Or.inr h
  have hS : va_S A s.heap s.heap [] := va_S.rf
  have hl := lv_entry ([.ref x_state_tower, .int 5]) (n := 3) (Nat.le_of_ble_eq_true rfl)
  rw [lg_entry_eq]
  generalize (lg_sl ([.ref x_state_tower, .int 5]) ++ List.replicate (3 - (lg_sl ([.ref x_state_tower, .int 5])).length) Slot.unset).toArray = ls at hl ⊢
  have hl : lv_has ls 3 [(0, .ref x_state_tower), (1, .int 5)] := hl
  refine lv_iconst (v := 0) hx hb dX8_has_0 (by decide) ?_
  refine lv_istore_n (lv' := [(2, .int 0), (0, .ref x_state_tower), (1, .int 5)]) hx hb dX8_has_1 rfl hl (by decide) rfl (fun ls hl => ?_)
  refine lv_iload_n hx hb dX8_has_2 rfl (lv_at hl 0 rfl) ?_
  refine lv_aload_n hx hb dX8_has_3 rfl (lv_at hl 1 rfl) ?_
  refine va_get (D := D) (ci := 8) (v := .int 0) (C := RX8) (T := TX8) (N := 5) hx hb hts (by decide +kernel) hown hK hP 0 rfl rfl 2 (by decide) (hts (.fieldLink RX8 18 "TurnedFloors$Tower" "floors" "I") (by decide +kernel)) (fun _ h9 => h9) rfl dX8_has_4 ?_
  refine lv_icmp_ge (tgt := 28) hx hb dX8_has_7 (by decide) (fun _ => ?_) (fun h => absurd (by decide) h)
  refine lv_iconst (v := 0) hx hb dX8_has_28 (by decide) ?_
  exact kz_zret hx hb hr hlocks rfl hP hK hD hS dX8_has_29 ⟨rfl, rfl⟩
