/-! the paper laid out, with room for it -/
theorem fp_sz : ∀ n : Nat, n < 7 → ((([1, 1, 2, 6, 24, 120, 720] : List Int32).getD (Int32.toNatClampNeg (nI n)) 0) <<< ((nI n : Int32) &&& 31)).toInt = facI n * powI n := by decide +kernel
/-- the room that there is does -/
def RF (q : dK) : Prop := facI (Int32.toInt (q.1 2 2)) * powI (Int32.toInt (q.1 2 2)) ≤ Int32.toInt (q.1 32 103)
def RH (nc ns : Nat) (q : dK) : Prop := RF q ∨ (7 ≤ nc ∧ 189744 ≤ ns)
def RP (q o : dK) : Prop := (RF q → o.1 32 103 = q.1 32 103) ∧ (¬ RF q → Int32.toInt (q.1 32 103) < Int32.toInt (o.1 32 103))
def rhT (S : List Nat) (F : List (Nat × Nat)) : Bool := !S.contains 2 && !S.contains 32 && F.all (fun p => (p.1 != 2 || p.2 != 2) && (p.1 != 32 || p.2 != 103))
theorem rhT_p {S : List Nat} {F : List (Nat × Nat)} (h : rhT S F = true) : (2 ∉ S ∧ (2, 2) ∉ F) ∧ (32 ∉ S ∧ (32, 103) ∉ F) := by
  unfold rhT at h
  simp only [Bool.and_eq_true, Bool.not_eq_true', List.contains_eq_mem, decide_eq_false_iff_not, List.all_eq_true, Bool.or_eq_true, bne_iff_ne, ne_eq] at h
  obtain ⟨⟨h1, h2⟩, h3⟩ := h
  refine ⟨⟨h1, fun z => ?_⟩, ⟨h2, fun z => ?_⟩⟩
  · rcases (h3 _ z).1 with e | e
    · exact e rfl
    · exact e rfl
  · rcases (h3 _ z).2 with e | e
    · exact e rfl
    · exact e rfl
theorem rf_fr {S : List Nat} {F : List (Nat × Nat)} {q q' : dK} (hF : cFr S F q q') (hd : rhT S F = true) : (RF q' ↔ RF q) ∧ q'.1 32 103 = q.1 32 103 := by
  obtain ⟨⟨a, b⟩, ⟨c, d⟩⟩ := rhT_p hd
  unfold RF
  rw [hF.1 2 2 a b, hF.1 32 103 c d]
  exact ⟨Iff.rfl, rfl⟩
theorem rh_fr {nc ns : Nat} {S : List Nat} {F : List (Nat × Nat)} {q q' : dK} (h : RH nc ns q) (hF : cFr S F q q') (hd : rhT S F = true) : RH nc ns q' := by
  rcases h with h | h
  · exact Or.inl ((rf_fr hF hd).1.mpr h)
  · exact Or.inr h
theorem rp_fr {S S2 : List Nat} {F F2 : List (Nat × Nat)} {q q' q2 o : dK} (hF : cFr S F q q') (hd : rhT S F = true) (h : RP q' q2) (hF2 : cFr S2 F2 q2 o) (hd2 : rhT S2 F2 = true) : RP q o := by
  have e1 := rf_fr hF hd
  have e2 := (rf_fr hF2 hd2).2
  unfold RP at h ⊢
  rw [e2, ← e1.2, ← e1.1]
  exact h
theorem rp_f0 {S : List Nat} {F : List (Nat × Nat)} {q q' o : dK} (hF : cFr S F q q') (hd : rhT S F = true) (h : RP q' o) : RP q o := rp_fr hF hd h (cFr.rf (S := []) (F := [])) rfl
theorem ok_X3_lay_s32_s2_s20 (nc : Nat) (ns : Nat) (q : dK) (p3 : Int32) (hT : TC q) (hp0 : RH nc ns q) : dOk (zX3_lay_s32_s2_s20 nc ns q p3) (fun (o : dK) => (TC o) ∧ (cFr [19, 21, 33, 34, 35, 39, 40, 41, 42, 43, 44, 45] [(18, 1), (32, 13), (32, 14), (32, 15), (32, 16), (32, 17), (32, 100), (32, 101), (32, 102), (32, 103), (32, 104), (32, 105), (32, 106)] q o) ∧ (LD o) ∧ (0 ≤ Int32.toInt (o.1 32 15)) ∧ (Int32.toInt (o.1 32 15) < Int32.toInt (o.1 32 14)) ∧ (RP q o)) := by
  have f2 : 0 ≤ Int32.toInt (q.1 2 2) ∧ Int32.toInt (q.1 2 2) ≤ 6 := rg_2_2 hT
  obtain ⟨n, hn1, hn2, hn3⟩ := ti_nI f2.1
  have hn : n ≤ 6 := by omega
  obtain ⟨g1, g2, g3, g4, g5, g6, g7, g8, g9⟩ := fp_all n (by omega) n (by omega) (Nat.le_refl n)
  unfold zX3_lay_s32_s2_s20
  refine dOk_L (fun q1 e1 => dOk_L (fun q2 e2 => ?_))
  have hT1 : TC q1 := by rw [e1]; exact st_32_13 hT f2.1 f2.2
  have hT2 : TC q2 := by rw [e2]; exact sa_32_16 hT1
  have hF2 : cFr [19, 21, 33, 34, 35, 39, 40, 41, 42, 43, 44, 45] [(18, 1), (32, 13), (32, 14), (32, 15), (32, 16), (32, 17), (32, 100), (32, 101), (32, 102), (32, 103), (32, 104), (32, 105), (32, 106)] q q2 := by rw [e2, e1]; exact (cFr.rf.f (by decide)).f (by decide)
  have a13 : q2.1 32 13 = q.1 2 2 := by rw [e2, cui_n (by decide), e1, cui_e]
  have a103 : q2.1 32 103 = q.1 32 103 := by rw [e2, cui_n (by decide), e1, cui_n (by decide)]
  rw [a13]
  refine dOk_G (dg_ok f2.1 (by omega)) (dOk_L (fun v4 e4 => ?_))
  have hsz : Int32.toInt (v4 <<< ((q.1 2 2 : Int32) &&& 31)) = facI n * powI n := by rw [e4, hn1]; exact fp_sz n (by omega)
  refine dOk_L (fun q5 e5 => ?_)
  have hT5 : TC q5 := by rw [e5]; exact st_32_14 hT2 (by rw [hsz]; omega) (by rw [hsz]; omega)
  have hF5 : cFr [19, 21, 33, 34, 35, 39, 40, 41, 42, 43, 44, 45] [(18, 1), (32, 13), (32, 14), (32, 15), (32, 16), (32, 17), (32, 100), (32, 101), (32, 102), (32, 103), (32, 104), (32, 105), (32, 106)] q q5 := by rw [e5]; exact hF2.f (by decide)
  have b14 : q5.1 32 14 = v4 <<< ((q.1 2 2 : Int32) &&& 31) := by rw [e5, cui_e]
  have b13 : q5.1 32 13 = q.1 2 2 := by rw [e5, cui_n (by decide)]; exact a13
  have b103 : q5.1 32 103 = q.1 32 103 := by rw [e5, cui_n (by decide)]; exact a103
  have h13 : (q5.1 32 13).toInt = (n : Int) := by rw [b13]; omega
  have h14 : (q5.1 32 14).toInt = facI n * powI n := by rw [b14]; exact hsz
  have r103 := rg_32_103 hT
  have eRF : RF q ↔ facI n * powI n ≤ Int32.toInt (q.1 32 103) := by unfold RF; rw [← hn2]
  clear e1 e2 e4 e5 hsz b14
  refine dOk_le h14 (B := Int32.toInt (q.1 32 103)) (by rw [b103, of_cl r103.1]) (fun c => ?_) (fun c => ?_)
  · have hL5 : LD q5 := ld_mk hT5 n hn h13 h14 (by rw [h14, b103]; exact c)
    refine dOk_mono (ok_X3_lay_s32_s2_s20_46 nc ns q5 hT5 hL5) (fun o h => ?_)
    obtain ⟨h1, h2, h3, h4⟩ := h
    refine ⟨h1, hF5.t h2 (by decide) (by decide), ld_fr hL5 h2 rfl, h3, h4, fun _ => ?_, fun z => absurd (eRF.mpr c) z⟩
    exact (h2.1 32 103 (by decide) (by decide)).trans b103
  · have hn' : ¬ RF q := fun z => by have := eRF.mp z; omega
    obtain ⟨k1, k2⟩ := hp0.resolve_left hn'
    refine dOk_V (ok_X3_makeRoom_s32 nc ns q5 hT5 k1 k2 n hn h13 h14) (fun q8 h8 => ?_)
    obtain ⟨hT8, hF8, h103⟩ := h8
    have c13 : q8.1 32 13 = q5.1 32 13 := hF8.1 32 13 (by decide) (by decide)
    have c14 : q8.1 32 14 = q5.1 32 14 := hF8.1 32 14 (by decide) (by decide)
    have hL8 : LD q8 := ld_mk hT8 n hn (by rw [c13]; exact h13) (by rw [c14]; exact h14) (by rw [c14, h103]; first | done | exact Int.le_refl _)
    refine dOk_mono (ok_X3_lay_s32_s2_s20_46 nc ns q8 hT8 hL8) (fun o h => ?_)
    obtain ⟨h1, h2, h3, h4⟩ := h
    have e9 : o.1 32 103 = q8.1 32 103 := h2.1 32 103 (by decide) (by decide)
    refine ⟨h1, (hF5.t hF8 (by decide) (by decide)).t h2 (by decide) (by decide), ld_fr hL8 h2 rfl, h3, h4, fun z => absurd z hn', fun _ => ?_⟩
    rw [e9, h103, h14]; exact c
theorem ok_X9_spread_s0_s20 (nc : Nat) (ns : Nat) (q : dK) (hT : TC q) (hp0 : RH nc ns q) : dOk (zX9_spread_s0_s20 nc ns q) (fun (o : dK) => (TC o) ∧ (cFr [19, 21, 33, 34, 35, 39, 40, 41, 42, 43, 44, 45] [(18, 1), (32, 13), (32, 14), (32, 15), (32, 16), (32, 17), (32, 100), (32, 101), (32, 102), (32, 103), (32, 104), (32, 105), (32, 106)] q o) ∧ (LD o) ∧ (0 ≤ Int32.toInt (o.1 32 15)) ∧ (Int32.toInt (o.1 32 15) < Int32.toInt (o.1 32 14)) ∧ (RP q o)) := by
  unfold zX9_spread_s0_s20
  refine dOk_V (ok_X3_lay_s32_s2_s20 nc ns q (q.1 1 3) hT hp0) (fun q3 h => dOk_some h)
