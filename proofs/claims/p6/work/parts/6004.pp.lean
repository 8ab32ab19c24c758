/-! the paper's layout -/
def LD (q : dK) : Prop := ∃ n f : Nat, n ≤ f ∧ f ≤ 6 ∧ (q.1 32 13).toInt = (n : Int) ∧ (q.1 32 14).toInt = facI n * powI n ∧ (q.1 32 100).toInt = facI f ∧ (q.1 32 101).toInt = 6 * facI f ∧ (q.1 32 102).toInt = 6 * powI f ∧ (q.1 32 103).toInt = facI f * powI f ∧ (q.1 32 104).toInt = facI f * powI f ∧ (q.1 32 105).toInt = facI f * powI f ∧ (q.1 32 106).toInt = facI f * powI f
theorem fp_a : ∀ n : Nat, n < 7 → ∀ f : Nat, f < 7 → n ≤ f → facI n ≤ facI f ∧ powI n ≤ powI f ∧ facI n * powI n ≤ facI f * powI f := by decide +kernel
theorem fp_b : ∀ n : Nat, n < 7 → 1 ≤ facI n ∧ 1 ≤ powI n ∧ 1 ≤ facI n * powI n := by decide +kernel
theorem fp_c : ∀ f : Nat, f < 7 → facI f * powI f ≤ 46080 ∧ facI f ≤ 720 ∧ powI f ≤ 64 := by decide +kernel
theorem fp_all (n : Nat) (hn : n < 7) (f : Nat) (hf : f < 7) (h : n ≤ f) : facI n ≤ facI f ∧ powI n ≤ powI f ∧ facI n * powI n ≤ facI f * powI f ∧ 1 ≤ facI n ∧ 1 ≤ powI n ∧ 1 ≤ facI n * powI n ∧ facI f * powI f ≤ 46080 ∧ facI f ≤ 720 ∧ powI f ≤ 64 :=
  ⟨(fp_a n hn f hf h).1, (fp_a n hn f hf h).2.1, (fp_a n hn f hf h).2.2, (fp_b n hn).1, (fp_b n hn).2.1, (fp_b n hn).2.2, (fp_c f hf).1, (fp_c f hf).2.1, (fp_c f hf).2.2⟩
theorem fp_str : ∀ n : Nat, n < 7 → ∀ f : Nat, f < 7 → facI n * powI n ≤ facI f * powI f → n ≤ f := by decide +kernel
theorem pw_I : ∀ n : Nat, n < 7 → powI n = ((2 ^ n : Nat) : Int) := by decide +kernel
theorem sh_31 : ∀ n : Nat, n < 7 → ((nI n &&& 31).toBitVec.smod 32).toNat = n := by decide +kernel
theorem ms_31 : ∀ n : Nat, n < 7 → (((1 : Int32) <<< (nI n &&& 31)) - 1).toBitVec.toNat = 2 ^ n - 1 := by decide +kernel
theorem fac_L : ∀ n : Nat, n < 7 → (([1, 1, 2, 6, 24, 120, 720] : List Int32).getD n 0).toInt = facI n := by decide +kernel
theorem ld_sz {q : dK} (h : LD q) : 1 ≤ Int32.toInt (q.1 32 14) ∧ Int32.toInt (q.1 32 14) ≤ 46080 ∧ Int32.toInt (q.1 32 14) ≤ Int32.toInt (q.1 32 103) ∧ Int32.toInt (q.1 32 104) = Int32.toInt (q.1 32 103) ∧ Int32.toInt (q.1 32 105) = Int32.toInt (q.1 32 103) ∧ Int32.toInt (q.1 32 106) = Int32.toInt (q.1 32 103) ∧ Int32.toInt (q.1 32 103) ≤ 46080 ∧ 0 ≤ Int32.toInt (q.1 32 13) ∧ Int32.toInt (q.1 32 13) ≤ 6 := by
  obtain ⟨n, f, h1, h2, h3, h4, h5, h6, h7, h8, h9, h10, h11⟩ := h
  obtain ⟨g1, g2, g3, g4, g5, g6, g7, g8, g9⟩ := fp_all n (by omega) f (by omega) h1
  refine ⟨?_, ?_, ?_, ?_, ?_, ?_, ?_, ?_, ?_⟩
  · rw [h4]; exact g6
  · rw [h4]; exact Int.le_trans g3 g7
  · rw [h4, h8]; exact g3
  · rw [h9, h8]
  · rw [h10, h8]
  · rw [h11, h8]
  · rw [h8]; exact g7
  · rw [h3]; omega
  · rw [h3]; omega
theorem ld_mk {q : dK} (hT : TC q) (n : Nat) (hn : n ≤ 6) (h3 : (q.1 32 13).toInt = (n : Int)) (h4 : (q.1 32 14).toInt = facI n * powI n) (h8 : (q.1 32 14).toInt ≤ (q.1 32 103).toInt) : LD q := by
  obtain ⟨g1, g2, g3, g4, g5, g6, g7, g8, g9⟩ := fp_all n (by omega) n (by omega) (Nat.le_refl n)
  rcases hT.2.2.1 with hz | ⟨f, hf, k0, k1, k2, k3, k4, k5, k6⟩
  · exfalso
    rw [hz.1, h4] at h8
    replace h8 : facI n * powI n ≤ 0 := h8
    omega
  · rw [k3, h4] at h8
    exact ⟨n, f, fp_str n (by omega) f (by omega) h8, hf, h3, h4, k0, k1, k2, k3, k4, k5, k6⟩
theorem ld_eq {q q' : dK} (h : LD q) (e : ∀ k : Nat, (k = 13 ∨ k = 14 ∨ 100 ≤ k) → q'.1 32 k = q.1 32 k) : LD q' := by
  unfold LD
  rw [e 13 (by omega), e 14 (by omega), e 100 (by omega), e 101 (by omega), e 102 (by omega), e 103 (by omega), e 104 (by omega), e 105 (by omega), e 106 (by omega)]
  exact h
def ldT (S : List Nat) (F : List (Nat × Nat)) : Bool := !S.contains 32 && F.all (fun p => p.1 != 32 || (p.2 != 13 && p.2 != 14 && decide (p.2 < 100)))
theorem ldT_p {S : List Nat} {F : List (Nat × Nat)} (h : ldT S F = true) : 32 ∉ S ∧ ∀ k : Nat, (k = 13 ∨ k = 14 ∨ 100 ≤ k) → (32, k) ∉ F := by
  unfold ldT at h
  simp only [Bool.and_eq_true, Bool.not_eq_true', List.contains_eq_mem, decide_eq_false_iff_not, List.all_eq_true, Bool.or_eq_true, bne_iff_ne, ne_eq, decide_eq_true_eq] at h
  refine ⟨h.1, fun k hk hm => ?_⟩
  have h2 := h.2 (32, k) hm
  rcases h2 with h2 | h2
  · exact h2 rfl
  · replace h2 : (¬ k = 13 ∧ ¬ k = 14) ∧ k < 100 := h2
    omega
theorem ld_fr {S : List Nat} {F : List (Nat × Nat)} {q q' : dK} (h : LD q) (hF : cFr S F q q') (hd : ldT S F = true) : LD q' :=
  ld_eq h (fun k hk => hF.1 32 k (ldT_p hd).1 ((ldT_p hd).2 k hk))
theorem sh_v {x s : Int32} {n : Nat} (hn : n < 7) (hs : s.toInt = (n : Int)) : (x >>> (s &&& 31)).toInt = x.toInt / powI n := by
  obtain ⟨m, rfl, hm, -⟩ := ti_nI (x := s) (by omega)
  have e : m = n := by omega
  subst e
  rw [w_shr32 x (nI m &&& 31) (sh_31 m hn), pw_I m hn]
  rfl
theorem ld_o {q : dK} {t : Int32} (h : LD q) (h0 : 0 ≤ Int32.toInt t) (h1 : Int32.toInt t < Int32.toInt (q.1 32 14)) : 0 ≤ Int32.toInt (t >>> ((q.1 32 13 : Int32) &&& 31)) ∧ Int32.toInt (t >>> ((q.1 32 13 : Int32) &&& 31)) < Int32.toInt (q.1 32 100) ∧ 6 * Int32.toInt (t >>> ((q.1 32 13 : Int32) &&& 31)) + 6 ≤ Int32.toInt (q.1 32 101) ∧ Int32.toInt (t >>> ((q.1 32 13 : Int32) &&& 31)) ≤ 719 := by
  obtain ⟨n, f, h1', h2, h3, h4, h5, h6, h7, h8, h9, h10, h11⟩ := h
  obtain ⟨g1, g2, g3, g4, g5, g6, g7, g8, g9⟩ := fp_all n (by omega) f (by omega) h1'
  rw [sh_v (by omega) h3, h5, h6]
  rw [h4] at h1
  have k1 : 0 ≤ Int32.toInt t / powI n := Int.ediv_nonneg h0 (by omega)
  have k2 : Int32.toInt t / powI n < facI n := Int.ediv_lt_of_lt_mul (by omega) h1
  omega
theorem ld_h {q : dK} (t : Int32) (h : LD q) : 0 ≤ Int32.toInt (t &&& (((1 : Int32) <<< ((q.1 32 13 : Int32) &&& 31)) - 1)) ∧ 6 * Int32.toInt (t &&& (((1 : Int32) <<< ((q.1 32 13 : Int32) &&& 31)) - 1)) + 6 ≤ Int32.toInt (q.1 32 102) ∧ Int32.toInt (t &&& (((1 : Int32) <<< ((q.1 32 13 : Int32) &&& 31)) - 1)) ≤ 63 := by
  obtain ⟨n, f, h1', h2, h3, h4, h5, h6, h7, h8, h9, h10, h11⟩ := h
  obtain ⟨g1, g2, g3, g4, g5, g6, g7, g8, g9⟩ := fp_all n (by omega) f (by omega) h1'
  obtain ⟨m, hm1, hm, -⟩ := ti_nI (x := q.1 32 13) (by omega)
  have e : m = n := by omega
  subst e
  have hp := pw_I m (by omega)
  have hk : t.toBitVec.toNat % 2 ^ m < 2 ^ m := Nat.mod_lt _ (Nat.two_pow_pos m)
  rw [h7, hm1, pk_and t m (ms_31 m (by omega)), nI_toInt (by omega)]
  omega
theorem ld_w {s v w : Int32} (hs : 0 ≤ s.toInt) (hs2 : s.toInt ≤ 6) (hv : 0 ≤ v.toInt) (hv2 : v.toInt ≤ 719) (hw : 0 ≤ w.toInt) (hw2 : w.toInt ≤ 63) : 0 ≤ Int32.toInt ((v <<< (s &&& 31)) ||| w) := by
  obtain ⟨m, rfl, hm, -⟩ := ti_nI hs
  have hp := pw_I m (by omega)
  have h2 : (2 : Nat) ^ m ≤ 2 ^ 6 := Nat.pow_le_pow_right (by decide) (by omega)
  have h0 : 0 ≤ ((2 ^ m : Nat) : Int) := Int.natCast_nonneg _
  have h3 : v.toInt * ((2 ^ m : Nat) : Int) ≤ 719 * 64 := Int.mul_le_mul hv2 (by omega) h0 (by omega)
  have h4 : 0 ≤ v.toInt * ((2 ^ m : Nat) : Int) := Int.mul_nonneg hv h0
  have h5 : ((2 ^ m : Nat) : Int) = (2 : Int) ^ m := by rw [Int.natCast_pow]; rfl
  have e : (v <<< (nI m &&& 31)).toInt = v.toInt * 2 ^ m := w_shl32 v _ (sh_31 m (by omega)) (by rw [← h5]; omega) (by rw [← h5]; omega)
  rw [← h5] at e
  exact (ti_or (x := v <<< (nI m &&& 31)) (y := w) 16 (by decide) (by omega) (by omega) hw (by omega)).1
theorem ok_X3_turned_s32 (q : dK) (p1 : Int32) (p2 : Int32) (hT : TC q) (hp0 : LD q) (hp1 : 0 ≤ Int32.toInt p1) (hp2 : Int32.toInt p1 < Int32.toInt (q.1 32 14)) : dOk (zX3_turned_s32 q p1 p2) (fun (o : Int32 × dK) => (o.2 = q) ∧ (0 ≤ Int32.toInt o.1) ∧ (Int32.toInt o.1 < Int32.toInt (q.1 32 14))) := by
  unfold zX3_turned_s32 zX3_turned_s32_13 zX3_turned_s32_84
  refine dOk_lt rfl (by decide : Int32.toInt 1 = 1) (fun _ => dOk_some ⟨rfl, hp1, hp2⟩) (fun c1 => ?_)
  refine dOk_le rfl rfl (fun c2 => ?_) (fun _ => dOk_some ⟨rfl, hp1, hp2⟩)
  have s0 := ld_sz hp0
  have o1 := ld_o hp0 hp1 hp2
  have o2 := ld_h p1 hp0
  have r1 := rg_32_101 hT
  have r2 := rg_32_102 hT
  refine dOk_L (fun v1 e1 => ?_)
  rw [← e1] at o2
  generalize p1 >>> ((q.1 32 13 : Int32) &&& 31) = od at o1 ⊢
  have t1 : Int32.toInt (od * 6) = od.toInt * 6 := ti_mul rfl (by decide) (by omega) (by omega)
  have t2 : Int32.toInt (od * 6 + p2) = od.toInt * 6 + p2.toInt := ti_add t1 rfl (by omega) (by omega)
  have t3 : Int32.toInt (od * 6 + p2 - 1) = od.toInt * 6 + p2.toInt - 1 := ti_sub t2 (by decide) (by omega) (by omega)
  have u1 : Int32.toInt (v1 * 6) = v1.toInt * 6 := ti_mul rfl (by decide) (by omega) (by omega)
  have u2 : Int32.toInt (v1 * 6 + p2) = v1.toInt * 6 + p2.toInt := ti_add u1 rfl (by omega) (by omega)
  have u3 : Int32.toInt (v1 * 6 + p2 - 1) = v1.toInt * 6 + p2.toInt - 1 := ti_sub u2 (by decide) (by omega) (by omega)
  refine dOk_L (fun v2 e2 => ?_)
  rw [← e2] at t3
  refine dOk_G (dg_ok (by omega) (by rw [cl_eq (by omega)]; omega)) (dOk_L (fun v4 e4 => dOk_G (dg_ok (by omega) (by rw [cl_eq (by omega)]; omega)) (dOk_L (fun v6 e6 => ?_))))
  have g4 : 0 ≤ Int32.toInt v4 ∧ Int32.toInt v4 ≤ 719 := by rw [e4]; exact rg_40 hT _
  have g6 : 0 ≤ Int32.toInt v6 ∧ Int32.toInt v6 ≤ 63 := by rw [e6]; exact rg_41 hT _
  have hw := ld_w (s := q.1 32 13) (v := v4) (w := v6) (by omega) (by omega) g4.1 g4.2 g6.1 g6.2
  refine dOk_le rfl rfl (fun _ => dOk_some ⟨rfl, hp1, hp2⟩) (fun c3 => dOk_some ⟨rfl, hw, c3⟩)
theorem ok_X3_caseNumber (p1 p2 p3 p4 : Int32) (hp0 : 1 ≤ Int32.toInt p1) (hp1 : Int32.toInt p1 ≤ 6) (hp2 : 0 ≤ Int32.toInt p2) (hp3 : Int32.toInt p2 ≤ 7) (hp4 : 0 ≤ Int32.toInt p3) (hp5 : Int32.toInt p3 ≤ 7) (hp6 : 0 ≤ Int32.toInt p4) (hp7 : Int32.toInt p4 ≤ 1) : dOk (zX3_caseNumber p1 p2 p3 p4) (fun (o : Int32) => (Int32.toInt o = (((Int32.toInt p1 - 1) * 6 + Int32.toInt p2) * 7 + Int32.toInt p3) * 2 + Int32.toInt p4)) := by
  unfold zX3_caseNumber
  have t1 : Int32.toInt (p1 - 1) = p1.toInt - 1 := ti_sub rfl (by decide) (by omega) (by omega)
  have t2 : Int32.toInt ((p1 - 1) * 6) = (p1.toInt - 1) * 6 := ti_mul t1 (by decide) (by omega) (by omega)
  have t3 : Int32.toInt ((p1 - 1) * 6 + p2) = (p1.toInt - 1) * 6 + p2.toInt := ti_add t2 rfl (by omega) (by omega)
  have t4 : Int32.toInt (((p1 - 1) * 6 + p2) * 7) = ((p1.toInt - 1) * 6 + p2.toInt) * 7 := ti_mul t3 (by decide) (by omega) (by omega)
  have t5 : Int32.toInt (((p1 - 1) * 6 + p2) * 7 + p3) = ((p1.toInt - 1) * 6 + p2.toInt) * 7 + p3.toInt := ti_add t4 rfl (by omega) (by omega)
  have t6 : Int32.toInt ((((p1 - 1) * 6 + p2) * 7 + p3) * 2) = (((p1.toInt - 1) * 6 + p2.toInt) * 7 + p3.toInt) * 2 := ti_mul t5 (by decide) (by omega) (by omega)
  refine dOk_L (fun v1 e1 => dOk_some ?_)
  rw [← e1] at t6
  exact ti_add t6 rfl (by omega) (by omega)
theorem ti_and7 (x : Int32) : 0 ≤ (x &&& 7).toInt ∧ (x &&& 7).toInt ≤ 7 := by
  have h := pk_and x (m := 7) 3 (by decide)
  rw [h, nI_toInt (by omega)]
  omega
theorem ok_X3_caseOf_s32 (q : dK) (p1 : Int32) (p2 : Int32) (hT : TC q) (hp0 : LD q) (hp1 : 0 ≤ Int32.toInt p1) (hp2 : Int32.toInt p1 < Int32.toInt (q.1 32 14)) (hp3 : 1 ≤ Int32.toInt p2) (hp4 : Int32.toInt p2 ≤ Int32.toInt (q.1 32 13)) : dOk (zX3_caseOf_s32 q p1 p2) (fun (o : Int32 × dK) => (o.2 = q) ∧ (0 ≤ Int32.toInt o.1) ∧ (Int32.toInt o.1 < 504)) := by
  unfold zX3_caseOf_s32 zX3_caseOf_s32_33
  have s0 := ld_sz hp0
  have o1 := ld_o hp0 hp1 hp2
  have r1 := rg_32_100 hT
  refine dOk_G (dg_ok (by omega) (by rw [cl_eq (by omega)]; omega)) (dOk_L (fun v2 e2 => ?_))
  have hD : (v2 &&& 7).toInt ≤ 5 := by rw [e2]; exact (hT.2.1.2 _).2.2.2.2
  have h7 := ti_and7 v2
  have h1 := ti_and1 p1
  refine dOk_le rfl rfl (fun c => ?_) (fun c => ?_)
  · refine dOk_V (ok_X3_caseNumber p2 (v2 &&& 7) 6 (p1 &&& 1) hp3 (by omega) h7.1 h7.2 (show (0 : Int) ≤ 6 by decide) (show (6 : Int) ≤ 7 by decide) h1.1 h1.2) (fun r h => dOk_some ⟨rfl, ?_⟩)
    replace h : Int32.toInt r = (((Int32.toInt p2 - 1) * 6 + Int32.toInt (v2 &&& 7)) * 7 + 6) * 2 + Int32.toInt (p1 &&& 1) := h
    show 0 ≤ Int32.toInt r ∧ Int32.toInt r < 504
    omega
  · have h8 := ti_and7 (v2 >>> (((3 * p2 : Int32) : Int32) &&& 31))
    refine dOk_V (ok_X3_caseNumber p2 (v2 &&& 7) _ (p1 &&& 1) hp3 (by omega) h7.1 h7.2 h8.1 h8.2 h1.1 h1.2) (fun r h => dOk_some ⟨rfl, ?_⟩)
    replace h : Int32.toInt r = (((Int32.toInt p2 - 1) * 6 + Int32.toInt (v2 &&& 7)) * 7 + Int32.toInt ((v2 >>> (((3 * p2 : Int32) : Int32) &&& 31)) &&& 7)) * 2 + Int32.toInt (p1 &&& 1) := h
    show 0 ≤ Int32.toInt r ∧ Int32.toInt r < 504
    omega
theorem sl_r {x s : Int32} (h0 : 0 ≤ x.toInt) (h1 : x.toInt ≤ 63) (g0 : 0 ≤ s.toInt) (g1 : s.toInt ≤ 6) : 0 ≤ Int32.toInt ((x >>> (s &&& 31)) <<< (s &&& 31)) ∧ Int32.toInt ((x >>> (s &&& 31)) <<< (s &&& 31)) ≤ 63 := by
  obtain ⟨n, rfl, hn, -⟩ := ti_nI h0
  obtain ⟨m, rfl, hm, -⟩ := ti_nI g0
  have h : ∀ n : Nat, n < 64 → ∀ m : Nat, m < 7 → 0 ≤ Int32.toInt ((nI n >>> (nI m &&& 31)) <<< (nI m &&& 31)) ∧ Int32.toInt ((nI n >>> (nI m &&& 31)) <<< (nI m &&& 31)) ≤ 63 := by decide +kernel
  exact h n (by omega) m (by omega)
/-! entries of the line below a number are towers -/
def BL (q : dK) (n : Int) : Prop := ∀ i : Nat, (i : Int) < n → 0 ≤ Int32.toInt (q.1 44 i) ∧ Int32.toInt (q.1 44 i) < Int32.toInt (q.1 32 14)
theorem bl_0 {q : dK} : BL q 0 := fun i h => by omega
theorem bl_c {q : dK} {n m : Int} (h : BL q n) (hm : m ≤ n) : BL q m := fun i hi => h i (by omega)
def blT (S : List Nat) (F : List (Nat × Nat)) : Bool := !S.contains 44 && !S.contains 32 && F.all (fun p => p.1 != 44 && (p.1 != 32 || p.2 != 14))
theorem bl_f {S : List Nat} {F : List (Nat × Nat)} {q q' : dK} {n : Int} (h : BL q n) (hF : cFr S F q q') (hd : blT S F = true) : BL q' n := by
  unfold blT at hd
  simp only [Bool.and_eq_true, Bool.not_eq_true', List.contains_eq_mem, decide_eq_false_iff_not, List.all_eq_true, Bool.or_eq_true, bne_iff_ne, ne_eq] at hd
  obtain ⟨⟨d1, d2⟩, d3⟩ := hd
  intro i hi
  rw [hF.1 44 i d1 (fun z => (d3 _ z).1 rfl), hF.1 32 14 d2 (fun z => by rcases (d3 _ z).2 with e | e; exact e rfl; exact e rfl)]
  exact h i hi
theorem bl_o {q : dK} {n : Int} {j k : Nat} {v : Int32} (h : BL q n) (hd : (j != 44 && (j != 32 || k != 14)) = true) : BL (cui q j k v) n := by
  simp only [Bool.and_eq_true, Bool.or_eq_true, bne_iff_ne, ne_eq] at hd
  intro i hi
  rw [cui_x (by omega), cui_x (by omega)]
  exact h i hi
theorem bl_s {q : dK} {n : Int} {k : Nat} {v : Int32} (h : BL q n) (hk : n ≤ (k : Int)) (h0 : 0 ≤ Int32.toInt v) (h1 : Int32.toInt v < Int32.toInt (q.1 32 14)) : BL (cui q 44 k v) (if (k : Int) = n then n + 1 else n) := by
  intro i hi
  rw [cui_o (j' := 32) (by decide)]
  by_cases c : i = k
  · subst c; rw [cui_e]; exact ⟨h0, h1⟩
  · rw [cui_n c]
    refine h i ?_
    by_cases c2 : (k : Int) = n
    · rw [if_pos c2] at hi; omega
    · rw [if_neg c2] at hi; exact hi
theorem bl_p {q : dK} {n : Int} {k : Nat} {v : Int32} (h : BL q n) (hk : (k : Int) = n) (h0 : 0 ≤ Int32.toInt v) (h1 : Int32.toInt v < Int32.toInt (q.1 32 14)) : BL (cui q 44 k v) (n + 1) := by
  have h2 := bl_s (k := k) (v := v) h (by omega) h0 h1
  rw [if_pos hk] at h2
  exact h2
