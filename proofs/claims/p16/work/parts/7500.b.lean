set_option maxHeartbeats 4000000 in
set_option maxRecDepth 100000 in
/-- the law's end: 1 -/
theorem lc_end {p : Program} {e : Env} {s : State} {m : MethodId} {below : List Frame} {meth : Method} {c : Code} (l : Launch) {b L : Nat} {xs : Nat → Int32} (C0 : lw_At p s m meth c b L xs) {D : va_G} {ty : Nat → ClassId} {eo : Nat → Nat} {A : Nat → Prop} (hA : ∀ q : Nat, s.heap.size ≤ q → A q) (hB : ∀ q : Nat, A q → s.heap.size ≤ q) (hK : va_K D vwCl (kzT ty) s) (hN : kz_N s) (hE : kz_E eo A s s.heap) {cells slots : Nat} {H : Heap} {locs : List Loc} (hS : va_S A s.heap H locs) {ls : Array Slot} (hc : cells ≤ 600000) (hsl : slots ≤ 7302250) : W p l e room_1 s m #[Value.ref b] below meth c H locs cells slots (lw_Z below #[Value.ref b] s) (F0 m 1077 ls []) := by
  obtain ⟨hx, hb, hr, hml, hown0, hts0, hX, hbl, hlocks, hgv⟩ := C0
  have hown : s.vm.findClass RL = some m.cls := hown0
  have hts : ∀ w ∈ lw_tbl, w.before #[Value.ref b] s = true := hts0
  have hbA : ¬ A b := fun h => absurd (hB b h) (Nat.not_le.mpr hbl)
  refine lv_iconst (v := 1) hx hb dL_law_1077 (by decide) ?_
  refine va_forget (fun q hq => hB _ (hS.2.2 q hq)) ?_
  refine W.widen (k := 600000) (n := 7302250) hc hsl ?_
  exact lw_ret hx hb hr hlocks dL_law_1078

set_option maxHeartbeats 8000000 in
set_option maxRecDepth 100000 in
theorem lw_loop {p : Program} {e : Env} {s : State} {m : MethodId} {below : List Frame} {meth : Method} {c : Code} (l : Launch) {b L : Nat} {xs : Nat → Int32} (C0 : lw_At p s m meth c b L xs) {D : va_G} {ty : Nat → ClassId} {eo : Nat → Nat} {A : Nat → Prop} (hA : ∀ q : Nat, s.heap.size ≤ q → A q) (hB : ∀ q : Nat, A q → s.heap.size ≤ q) (hK : va_K D vwCl (kzT ty) s) (hN : kz_N s) (hE : kz_E eo A s s.heap) (hL : L ≤ 384) : ∀ (n i : Nat), i + n = 65 → 6 * i ≤ L → ∀ (ad am : Nat → Nat) (q : dK) (q2 : dS) (cells slots : Nat) (H : Heap) (locs : List Loc) (ls : Array Slot), lw_J q q2 i cells slots → va_P D vwCl (wF ty ad q ++ w10 ty am q2) H → va_D A (wF ty ad q ++ w10 ty am q2) → va_S A s.heap H locs → lv_has ls 4 [(3, .int (Int32.ofNat (6 * i))), (2, .ref (am 0)), (1, .ref (ad 0)), (0, .ref b)] → W p l e room_1 s m #[Value.ref b] below meth c H locs cells slots (lw_Z below #[Value.ref b] s) (F0 m 18 ls []) := by
  have C1 := C0
  obtain ⟨hx, hb, hr, hml, hown0, hts0, hX, hbl, hlocks, hgv⟩ := C0
  have hown : s.vm.findClass RL = some m.cls := hown0
  have hts : ∀ w ∈ lw_tbl, w.before #[Value.ref b] s = true := hts0
  have hbA : ¬ A b := fun h => absurd (hB b h) (Nat.not_le.mpr hbl)
  have tL : Int32.toInt (Int32.ofNat L) = (L : Int) := nI_toInt (n := L) (by omega)
  have tL6 : Int32.toInt (Int32.ofNat L - 6) = (L : Int) - 6 := ti_sub tL (by decide) (by omega) (by omega)
  intro n
  induction n with
  | zero => intro i hi h6; omega
  | succ n ih =>
    intro i hi h6 ad am q q2 cells slots H locs ls J hP hD hS hl
    have t6 : Int32.toInt (Int32.ofNat (6 * i)) = ((6 * i : Nat) : Int) := nI_toInt (n := 6 * i) (by omega)
    obtain ⟨i6, e6⟩ : ∃ y : Int32, Int32.ofNat (6 * i) = y := ⟨_, rfl⟩
    rw [e6] at hl t6
    have hc : cells ≤ 600000 := by have := J.2.2.2.2.1; omega
    have hsl : slots ≤ 7302250 := by have := J.2.2.2.2.2; omega
    refine lv_iload_n hx hb dL_law_18 rfl (lv_at hl 0 rfl) ?_
    refine lv_aload_n hx hb dL_law_19 rfl (lv_at hl 3 rfl) ?_
    refine va_slen hx hb hX hbl hbA hS dL_law_20 ?_
    refine lv_bipush (v := 6) hx hb dL_law_21 (by decide) ?_
    refine lv_isub hx hb dL_law_23 ?_
    refine lv_icmp_gt (tgt := 1077) hx hb dL_law_24 (by decide) (fun _ => lc_end l C1 hA hB hK hN hE hS hc hsl) (fun hng => ?_)
    have hle : 6 * i + 6 ≤ L := by
      have h1 : ¬ ((L : Int) - 6 < ((6 * i : Nat) : Int)) := fun z => hng (Int32.lt_iff_toInt_lt.mpr (by rw [tL6, t6]; exact z))
      omega
    have hv : ∀ (y : Int32) (k : Int), Int32.toInt y = k → 0 ≤ k → k ≤ 5 → vp_in (i6 + y) L := fun y k h1 h2 h3 => dg_in (dg_ok (by rw [ti_add t6 h1 (by omega) (by omega)]; omega) (by rw [ti_add t6 h1 (by omega) (by omega)]; omega))
    have hin : vp_in (i6 + 1) L ∧ vp_in (i6 + 2) L ∧ vp_in (i6 + 3) L ∧ vp_in (i6 + 4) L ∧ vp_in (i6 + 5) L := ⟨hv 1 1 (by decide) (by decide) (by decide), hv 2 2 (by decide) (by decide) (by decide), hv 3 3 (by decide) (by decide) (by decide), hv 4 4 (by decide) (by decide) (by decide), hv 5 5 (by decide) (by decide) (by decide)⟩
    have next : ∀ (ad1 : Nat → Nat) (o : dK) (o2 : dS) (cells1 slots1 : Nat) (H1 : Heap) (locs1 : List Loc), lw_J o o2 (i + 1) cells1 slots1 → ad1 0 = ad 0 → va_P D vwCl (wF ty ad1 o ++ w10 ty am o2) H1 → va_D A (wF ty ad1 o ++ w10 ty am o2) → va_S A s.heap H1 locs1 → W p l e room_1 s m #[Value.ref b] below meth c H1 locs1 cells1 slots1 (lw_Z below #[Value.ref b] s) (F0 m 1071 ls []) := by
      intro ad1 o o2 cells1 slots1 H1 locs1 J1 ea hP1 hD1 hS1
      have e7 : i6 + Int32.ofInt 6 = Int32.ofNat (6 * (i + 1)) := by
        apply Int32.toInt_inj.mp
        rw [ti_add t6 (by decide : Int32.toInt (Int32.ofInt 6) = 6) (by omega) (by omega)]
        have h7 : Int32.toInt (Int32.ofNat (6 * (i + 1))) = ((6 * (i + 1) : Nat) : Int) := nI_toInt (n := 6 * (i + 1)) (by omega)
        rw [h7]; omega
      refine lv_iinc (v := Int32.ofNat (6 * (i + 1))) (lv' := [(3, .int (Int32.ofNat (6 * (i + 1)))), (2, .ref (am 0)), (1, .ref (ad 0)), (0, .ref b)]) hx hb dL_law_1071 hl (k := 0) rfl e7 (by decide) rfl (fun ls hl => ?_)
      refine lv_goto (tgt := 18) hx hb dL_law_1074 (by decide) ?_
      exact ih (i + 1) (by omega) (by omega) ad1 am o o2 cells1 slots1 H1 locs1 ls J1 hP1 hD1 hS1 (by rw [ea]; exact hl)
    refine lv_aload_n hx hb dL_law_27 rfl (lv_at hl 3 rfl) ?_
    refine lv_iload_n hx hb dL_law_28 rfl (lv_at hl 0 rfl) ?_
    refine va_sld hx hb hX hbl hbA hS (dg_in (dg_ok (by rw [t6]; omega) (by rw [t6]; omega))) dL_law_29 ?_
    refine lv_bipush (v := 63) hx hb dL_law_30 (by decide) ?_
    refine lv_iand hx hb dL_law_32 ?_
    refine lv_topi (fun sel esel => ?_)
    clear esel
    by_cases c_0 : sel = 0
    · refine lv_tableIn (off := 171) (tgt := 204) hx hb dL_law_33 (by rw [c_0]; decide) (by rw [c_0]; decide) (by rw [c_0]; decide) (by decide) ?_
      exact lc_0 l C1 hA hB hK hN hE (by omega) hin J hP hD hS hl next
    by_cases c_1 : sel = 1
    · refine lv_tableIn (off := 204) (tgt := 237) hx hb dL_law_33 (by rw [c_1]; decide) (by rw [c_1]; decide) (by rw [c_1]; decide) (by decide) ?_
      exact lc_1 l C1 hA hB hK hN hE (by omega) hin J hP hD hS hl next
    by_cases c_2 : sel = 2
    · refine lv_tableIn (off := 237) (tgt := 270) hx hb dL_law_33 (by rw [c_2]; decide) (by rw [c_2]; decide) (by rw [c_2]; decide) (by decide) ?_
      exact lc_2 l C1 hA hB hK hN hE (by omega) hin J hP hD hS hl next
    by_cases c_3 : sel = 3
    · refine lv_tableIn (off := 270) (tgt := 303) hx hb dL_law_33 (by rw [c_3]; decide) (by rw [c_3]; decide) (by rw [c_3]; decide) (by decide) ?_
      exact lc_3 l C1 hA hB hK hN hE (by omega) hin J hP hD hS hl next
    by_cases c_4 : sel = 4
    · refine lv_tableIn (off := 303) (tgt := 336) hx hb dL_law_33 (by rw [c_4]; decide) (by rw [c_4]; decide) (by rw [c_4]; decide) (by decide) ?_
      exact lc_4 l C1 hA hB hK hN hE (by omega) hin J hP hD hS hl next
    by_cases c_5 : sel = 5
    · refine lv_tableIn (off := 366) (tgt := 399) hx hb dL_law_33 (by rw [c_5]; decide) (by rw [c_5]; decide) (by rw [c_5]; decide) (by decide) ?_
      exact lc_5 l C1 hA hB hK hN hE (by omega) hin J hP hD hS hl next
    by_cases c_6 : sel = 6
    · refine lv_tableIn (off := 389) (tgt := 422) hx hb dL_law_33 (by rw [c_6]; decide) (by rw [c_6]; decide) (by rw [c_6]; decide) (by decide) ?_
      exact lc_6 l C1 hA hB hK hN hE (by omega) hin J hP hD hS hl next
    by_cases c_7 : sel = 7
    · refine lv_tableIn (off := 402) (tgt := 435) hx hb dL_law_33 (by rw [c_7]; decide) (by rw [c_7]; decide) (by rw [c_7]; decide) (by decide) ?_
      exact lc_7 l C1 hA hB hK hN hE (by omega) hin J hP hD hS hl next
    by_cases c_8 : sel = 8
    · refine lv_tableIn (off := 415) (tgt := 448) hx hb dL_law_33 (by rw [c_8]; decide) (by rw [c_8]; decide) (by rw [c_8]; decide) (by decide) ?_
      exact lc_8 l C1 hA hB hK hN hE (by omega) hin J hP hD hS hl next
    by_cases c_9 : sel = 9
    · refine lv_tableIn (off := 428) (tgt := 461) hx hb dL_law_33 (by rw [c_9]; decide) (by rw [c_9]; decide) (by rw [c_9]; decide) (by decide) ?_
      exact lc_9 l C1 hA hB hK hN hE (by omega) hin J hP hD hS hl next
    by_cases c_10 : sel = 10
    · refine lv_tableIn (off := 441) (tgt := 474) hx hb dL_law_33 (by rw [c_10]; decide) (by rw [c_10]; decide) (by rw [c_10]; decide) (by decide) ?_
      exact lc_10 l C1 hA hB hK hN hE (by omega) hin J hP hD hS hl next
    by_cases c_11 : sel = 11
    · refine lv_tableIn (off := 454) (tgt := 487) hx hb dL_law_33 (by rw [c_11]; decide) (by rw [c_11]; decide) (by rw [c_11]; decide) (by decide) ?_
      exact lc_11 l C1 hA hB hK hN hE (by omega) hin J hP hD hS hl next
    by_cases c_12 : sel = 12
    · refine lv_tableIn (off := 467) (tgt := 500) hx hb dL_law_33 (by rw [c_12]; decide) (by rw [c_12]; decide) (by rw [c_12]; decide) (by decide) ?_
      exact lc_12 l C1 hA hB hK hN hE (by omega) hin J hP hD hS hl next
    by_cases c_13 : sel = 13
    · refine lv_tableIn (off := 490) (tgt := 523) hx hb dL_law_33 (by rw [c_13]; decide) (by rw [c_13]; decide) (by rw [c_13]; decide) (by decide) ?_
      exact lc_13 l C1 hA hB hK hN hE (by omega) hin J hP hD hS hl next
    by_cases c_14 : sel = 14
    · refine lv_tableIn (off := 513) (tgt := 546) hx hb dL_law_33 (by rw [c_14]; decide) (by rw [c_14]; decide) (by rw [c_14]; decide) (by decide) ?_
      exact lc_14 l C1 hA hB hK hN hE (by omega) hin J hP hD hS hl next
    by_cases c_15 : sel = 15
    · refine lv_tableIn (off := 536) (tgt := 569) hx hb dL_law_33 (by rw [c_15]; decide) (by rw [c_15]; decide) (by rw [c_15]; decide) (by decide) ?_
      exact lc_15 l C1 hA hB hK hN hE (by omega) hin J hP hD hS hl next
    by_cases c_16 : sel = 16
    · refine lv_tableIn (off := 559) (tgt := 592) hx hb dL_law_33 (by rw [c_16]; decide) (by rw [c_16]; decide) (by rw [c_16]; decide) (by decide) ?_
      exact lc_16 l C1 hA hB hK hN hE (by omega) hin J hP hD hS hl next
    by_cases c_17 : sel = 17
    · refine lv_tableIn (off := 572) (tgt := 605) hx hb dL_law_33 (by rw [c_17]; decide) (by rw [c_17]; decide) (by rw [c_17]; decide) (by decide) ?_
      exact lc_17 l C1 hA hB hK hN hE (by omega) hin J hP hD hS hl next
    by_cases c_18 : sel = 18
    · refine lv_tableIn (off := 585) (tgt := 618) hx hb dL_law_33 (by rw [c_18]; decide) (by rw [c_18]; decide) (by rw [c_18]; decide) (by decide) ?_
      exact lc_18 l C1 hA hB hK hN hE (by omega) hin J hP hD hS hl next
    by_cases c_19 : sel = 19
    · refine lv_tableIn (off := 608) (tgt := 641) hx hb dL_law_33 (by rw [c_19]; decide) (by rw [c_19]; decide) (by rw [c_19]; decide) (by decide) ?_
      exact lc_19 l C1 hA hB hK hN hE (by omega) hin J hP hD hS hl next
    by_cases c_20 : sel = 20
    · refine lv_tableIn (off := 621) (tgt := 654) hx hb dL_law_33 (by rw [c_20]; decide) (by rw [c_20]; decide) (by rw [c_20]; decide) (by decide) ?_
      exact lc_20 l C1 hA hB hK hN hE (by omega) hin J hP hD hS hl next
    by_cases c_21 : sel = 21
    · refine lv_tableIn (off := 634) (tgt := 667) hx hb dL_law_33 (by rw [c_21]; decide) (by rw [c_21]; decide) (by rw [c_21]; decide) (by decide) ?_
      exact lc_21 l C1 hA hB hK hN hE (by omega) hin J hP hD hS hl next
    by_cases c_22 : sel = 22
    · refine lv_tableIn (off := 657) (tgt := 690) hx hb dL_law_33 (by rw [c_22]; decide) (by rw [c_22]; decide) (by rw [c_22]; decide) (by decide) ?_
      exact lc_22 l C1 hA hB hK hN hE (by omega) hin J hP hD hS hl next
    by_cases c_23 : sel = 23
    · refine lv_tableIn (off := 670) (tgt := 703) hx hb dL_law_33 (by rw [c_23]; decide) (by rw [c_23]; decide) (by rw [c_23]; decide) (by decide) ?_
      exact lc_23 l C1 hA hB hK hN hE (by omega) hin J hP hD hS hl next
    by_cases c_24 : sel = 24
    · refine lv_tableIn (off := 683) (tgt := 716) hx hb dL_law_33 (by rw [c_24]; decide) (by rw [c_24]; decide) (by rw [c_24]; decide) (by decide) ?_
      exact lc_24 l C1 hA hB hK hN hE (by omega) hin J hP hD hS hl next
    by_cases c_25 : sel = 25
    · refine lv_tableIn (off := 706) (tgt := 739) hx hb dL_law_33 (by rw [c_25]; decide) (by rw [c_25]; decide) (by rw [c_25]; decide) (by decide) ?_
      exact lc_25 l C1 hA hB hK hN hE (by omega) hin J hP hD hS hl next
    by_cases c_26 : sel = 26
    · refine lv_tableIn (off := 729) (tgt := 762) hx hb dL_law_33 (by rw [c_26]; decide) (by rw [c_26]; decide) (by rw [c_26]; decide) (by decide) ?_
      exact lc_26 l C1 hA hB hK hN hE (by omega) hin J hP hD hS hl next
    by_cases c_27 : sel = 27
    · refine lv_tableIn (off := 752) (tgt := 785) hx hb dL_law_33 (by rw [c_27]; decide) (by rw [c_27]; decide) (by rw [c_27]; decide) (by decide) ?_
      exact lc_27 l C1 hA hB hK hN hE (by omega) hin J hP hD hS hl next
    by_cases c_28 : sel = 28
    · refine lv_tableIn (off := 785) (tgt := 818) hx hb dL_law_33 (by rw [c_28]; decide) (by rw [c_28]; decide) (by rw [c_28]; decide) (by decide) ?_
      exact lc_28 l C1 hA hB hK hN hE (by omega) hin J hP hD hS hl next
    by_cases c_29 : sel = 29
    · refine lv_tableIn (off := 798) (tgt := 831) hx hb dL_law_33 (by rw [c_29]; decide) (by rw [c_29]; decide) (by rw [c_29]; decide) (by decide) ?_
      exact lc_29 l C1 hA hB hK hN hE (by omega) hin J hP hD hS hl next
    by_cases c_30 : sel = 30
    · refine lv_tableIn (off := 811) (tgt := 844) hx hb dL_law_33 (by rw [c_30]; decide) (by rw [c_30]; decide) (by rw [c_30]; decide) (by decide) ?_
      exact lc_30 l C1 hA hB hK hN hE (by omega) hin J hP hD hS hl next
    by_cases c_31 : sel = 31
    · refine lv_tableIn (off := 834) (tgt := 867) hx hb dL_law_33 (by rw [c_31]; decide) (by rw [c_31]; decide) (by rw [c_31]; decide) (by decide) ?_
      exact lc_31 l C1 hA hB hK hN hE (by omega) hin J hP hD hS hl next
    by_cases c_32 : sel = 32
    · refine lv_tableIn (off := 867) (tgt := 900) hx hb dL_law_33 (by rw [c_32]; decide) (by rw [c_32]; decide) (by rw [c_32]; decide) (by decide) ?_
      exact lc_32 l C1 hA hB hK hN hE (by omega) hin J hP hD hS hl next
    by_cases c_33 : sel = 33
    · refine lv_tableIn (off := 890) (tgt := 923) hx hb dL_law_33 (by rw [c_33]; decide) (by rw [c_33]; decide) (by rw [c_33]; decide) (by decide) ?_
      exact lc_33 l C1 hA hB hK hN hE (by omega) hin J hP hD hS hl next
    by_cases c_34 : sel = 34
    · refine lv_tableIn (off := 923) (tgt := 956) hx hb dL_law_33 (by rw [c_34]; decide) (by rw [c_34]; decide) (by rw [c_34]; decide) (by decide) ?_
      exact lc_34 l C1 hA hB hK hN hE (by omega) hin J hP hD hS hl next
    by_cases c_35 : sel = 35
    · refine lv_tableIn (off := 956) (tgt := 989) hx hb dL_law_33 (by rw [c_35]; decide) (by rw [c_35]; decide) (by rw [c_35]; decide) (by decide) ?_
      exact lc_35 l C1 hA hB hK hN hE (by omega) hin J hP hD hS hl next
    by_cases c_36 : sel = 36
    · refine lv_tableIn (off := 979) (tgt := 1012) hx hb dL_law_33 (by rw [c_36]; decide) (by rw [c_36]; decide) (by rw [c_36]; decide) (by decide) ?_
      exact lc_36 l C1 hA hB hK hN hE (by omega) hin J hP hD hS hl next
    by_cases c_37 : sel = 37
    · refine lv_tableIn (off := 1002) (tgt := 1035) hx hb dL_law_33 (by rw [c_37]; decide) (by rw [c_37]; decide) (by rw [c_37]; decide) (by decide) ?_
      exact lc_37 l C1 hA hB hK hN hE (by omega) hin J hP hD hS hl next
    by_cases c_38 : sel = 38
    · refine lv_tableIn (off := 1025) (tgt := 1058) hx hb dL_law_33 (by rw [c_38]; decide) (by rw [c_38]; decide) (by rw [c_38]; decide) (by decide) ?_
      exact lc_38 l C1 hA hB hK hN hE (by omega) hin J hP hD hS hl next
    refine lv_tableOut (tgt := 1071) hx hb dL_law_33 (by simp only [← Int32.toInt_inj, Int32.reduceToInt] at c_0 c_1 c_2 c_3 c_4 c_5 c_6 c_7 c_8 c_9 c_10 c_11 c_12 c_13 c_14 c_15 c_16 c_17 c_18 c_19 c_20 c_21 c_22 c_23 c_24 c_25 c_26 c_27 c_28 c_29 c_30 c_31 c_32 c_33 c_34 c_35 c_36 c_37 c_38; omega) (by decide) ?_
    exact next ad q q2 cells slots H locs ⟨J.1, J.2.1, J.2.2.1, by have := J.2.2.2.1; omega, by have := J.2.2.2.2.1; omega, by have := J.2.2.2.2.2; omega⟩ rfl hP hD hS
