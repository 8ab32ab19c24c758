/-! room on the paper -/
theorem nl0 {x : Int32} (h : 0 ≤ x.toInt) : ¬ x < 0 := by
  intro z
  have h2 := Int32.lt_iff_toInt_lt.mp z
  have h3 : (0 : Int32).toInt = 0 := rfl
  omega
theorem cn_j {q : dK} {j k i : Nat} {n : Int32} : (cnw q j k n).1 j i = 0 := by
  show (if j = j then (fun _ => (0 : Int32)) else if j = 32 then upd (q.1 32) k n else q.1 j) i = 0
  rw [if_pos rfl]
theorem cn_o {q : dK} {j k a : Nat} {n : Int32} (h : ¬ a = j) (h2 : ¬ a = 32) : (cnw q j k n).1 a = q.1 a := by
  show (if a = j then (fun _ => (0 : Int32)) else if a = 32 then upd (q.1 32) k n else q.1 a) = _
  rw [if_neg h, if_neg h2]
theorem cn_32 {q : dK} {j k : Nat} {n : Int32} (h : ¬ 32 = j) : (cnw q j k n).1 32 = upd (q.1 32) k n := by
  show (if 32 = j then (fun _ => (0 : Int32)) else if 32 = 32 then upd (q.1 32) k n else q.1 32) = _
  rw [if_neg h, if_pos rfl]
theorem cn_k {q : dK} {j k i : Nat} {n : Int32} (h : ¬ 32 = j) (h2 : ¬ i = k) : (cnw q j k n).1 32 i = q.1 32 i := by
  rw [cn_32 h]; exact if_neg h2
theorem cn_s {q : dK} {j k : Nat} {n : Int32} (h : ¬ 32 = j) : (cnw q j k n).1 32 k = n := by
  rw [cn_32 h]; exact if_pos rfl
def RMr (J : List Nat) (q q' : dK) : Prop := (∀ j k : Nat, j ∈ J → q'.1 j k = 0) ∧ (∀ j k : Nat, j ∉ J → ¬ (j = 32 ∧ 100 ≤ k ∧ k < 107) → q'.1 j k = q.1 j k) ∧ q'.2 = q.2
theorem RMr.rf {q : dK} : RMr [] q q := ⟨fun _ _ h => absurd h List.not_mem_nil, fun _ _ _ _ => rfl, rfl⟩
theorem RMr.s {J : List Nat} {q q' : dK} (h : RMr J q q') {j k : Nat} {n : Int32} (hj : ¬ 32 = j) (hJ : 32 ∉ J) (hk : 100 ≤ k ∧ k < 107) : RMr (j :: J) q (cnw q' j k n) := by
  refine ⟨fun a b ha => ?_, fun a b ha hb => ?_, h.2.2⟩
  · by_cases c : a = j
    · subst c; exact cn_j
    · have ha2 : a ∈ J := by
        rcases List.mem_cons.mp ha with z | z
        · exact absurd z c
        · exact z
      rw [cn_o c (fun z => hJ (by rw [← z]; exact ha2))]; exact h.1 a b ha2
  · have c : ¬ a = j := fun z => ha (by rw [z]; exact List.mem_cons_self)
    have c2 : a ∉ J := fun z => ha (List.mem_cons_of_mem _ z)
    by_cases c3 : a = 32
    · subst c3
      rw [cn_k hj (by omega)]; exact h.2.1 32 b c2 hb
    · rw [cn_o c c3]; exact h.2.1 a b c2 hb
theorem tc_room {q q' : dK} (h : TC q) (n : Nat) (hn : n ≤ 6) (h0 : ∀ j k : Nat, 39 ≤ j → j ≤ 45 → q'.1 j k = 0) (h1 : ∀ j k : Nat, (j < 39 ∨ 45 < j) → ¬ (j = 32 ∧ 100 ≤ k ∧ k < 107) → q'.1 j k = q.1 j k) (h2 : q'.2 = q.2) (k0 : (q'.1 32 100).toInt = facI n) (k1 : (q'.1 32 101).toInt = 6 * facI n) (k2 : (q'.1 32 102).toInt = 6 * powI n) (k3 : (q'.1 32 103).toInt = facI n * powI n) (k4 : (q'.1 32 104).toInt = facI n * powI n) (k5 : (q'.1 32 105).toInt = facI n * powI n) (k6 : (q'.1 32 106).toInt = facI n * powI n) : TC q' := by
  obtain ⟨hE, hC, hP, hL, hT⟩ := h
  obtain ⟨g1, g2, g3, g4, g5, g6, g7, g8, g9⟩ := fp_all n (by omega) n (by omega) (Nat.le_refl n)
  refine ⟨fun j k => ?_, ?_, Or.inr ⟨n, hn, k0, k1, k2, k3, k4, k5, k6⟩, by unfold CL; rw [h2]; exact hL, by rw [h2]; exact hT⟩
  · by_cases c : 39 ≤ j ∧ j ≤ 45
    · rw [h0 j k c.1 c.2]
      have hc : j = 39 ∨ j = 40 ∨ j = 41 ∨ j = 42 ∨ j = 43 ∨ j = 44 ∨ j = 45 := by omega
      rcases hc with e | e | e | e | e | e | e
      · subst e; exact ⟨(by decide : (-2147483648 : Int) ≤ 0), (by decide : (0 : Int) ≤ 2147483647)⟩
      · subst e; exact ⟨(by decide : (0 : Int) ≤ 0), (by decide : (0 : Int) ≤ 719)⟩
      · subst e; exact ⟨(by decide : (0 : Int) ≤ 0), (by decide : (0 : Int) ≤ 63)⟩
      · subst e; exact ⟨(by decide : (-2147483648 : Int) ≤ 0), (by decide : (0 : Int) ≤ 2147483647)⟩
      · subst e; exact ⟨(by decide : (-2147483648 : Int) ≤ 0), (by decide : (0 : Int) ≤ 2147483647)⟩
      · subst e; exact ⟨(by decide : (-2147483648 : Int) ≤ 0), (by decide : (0 : Int) ≤ 2147483647)⟩
      · subst e; exact ⟨(by decide : (-2147483648 : Int) ≤ 0), (by decide : (0 : Int) ≤ 2147483647)⟩
    · by_cases c2 : j = 32 ∧ 100 ≤ k ∧ k < 107
      · obtain ⟨rfl, c3, c4⟩ := c2
        have hc : k = 100 ∨ k = 101 ∨ k = 102 ∨ k = 103 ∨ k = 104 ∨ k = 105 ∨ k = 106 := by omega
        rcases hc with e | e | e | e | e | e | e
        · subst e; rw [k0]; exact ⟨(by omega : (0 : Int) ≤ facI n), (by omega : facI n ≤ (46080 : Int))⟩
        · subst e; rw [k1]; exact ⟨(by omega : (0 : Int) ≤ 6 * facI n), (by omega : 6 * facI n ≤ (46080 : Int))⟩
        · subst e; rw [k2]; exact ⟨(by omega : (0 : Int) ≤ 6 * powI n), (by omega : 6 * powI n ≤ (46080 : Int))⟩
        · subst e; rw [k3]; exact ⟨(by omega : (0 : Int) ≤ facI n * powI n), (by omega : facI n * powI n ≤ (46080 : Int))⟩
        · subst e; rw [k4]; exact ⟨(by omega : (0 : Int) ≤ facI n * powI n), (by omega : facI n * powI n ≤ (46080 : Int))⟩
        · subst e; rw [k5]; exact ⟨(by omega : (0 : Int) ≤ facI n * powI n), (by omega : facI n * powI n ≤ (46080 : Int))⟩
        · subst e; rw [k6]; exact ⟨(by omega : (0 : Int) ≤ facI n * powI n), (by omega : facI n * powI n ≤ (46080 : Int))⟩
      · rw [h1 j k (by omega) c2]; exact hE j k
  · unfold CC
    rw [h2]
    refine ⟨by rw [h1 20 2 (by omega) (by omega)]; exact hC.1, fun i => ?_⟩
    rw [h1 7 i (by omega) (by omega), h1 55 i (by omega) (by omega), h1 62 i (by omega) (by omega), h1 31 i (by omega) (by omega), h0 39 i (by omega) (by omega)]
    exact ⟨(hC.2 i).1, (hC.2 i).2.1, (hC.2 i).2.2.1, (hC.2 i).2.2.2.1, by unfold cD; decide⟩
theorem sh_6 {s : Int32} {n : Nat} (hn : n < 7) (hs : s.toInt = (n : Int)) : ((6 : Int32) <<< (s &&& 31)).toInt = 6 * powI n := by
  obtain ⟨m, rfl, hm, -⟩ := ti_nI (x := s) (by omega)
  have e : m = n := by omega
  subst e
  have h : ∀ k : Nat, k < 7 → ((6 : Int32) <<< (nI k &&& 31)).toInt = 6 * powI k := by decide +kernel
  exact h m hn

theorem ok_X3_makeRoom_s32 (nc : Nat) (ns : Nat) (q : dK) (hT : TC q) (hn1 : 7 ≤ nc) (hn2 : 189744 ≤ ns) (n : Nat) (hn : n ≤ 6) (h13 : (q.1 32 13).toInt = (n : Int)) (h14 : (q.1 32 14).toInt = facI n * powI n) : dOk (zX3_makeRoom_s32 nc ns q) (fun (o : dK) => (TC o) ∧ (cFr [34, 39, 40, 41, 42, 43, 44, 45] [(32, 17), (32, 100), (32, 101), (32, 102), (32, 103), (32, 104), (32, 105), (32, 106)] q o) ∧ (o.1 32 103 = q.1 32 14)) := by
  obtain ⟨g1, g2, g3, g4, g5, g6, g7, g8, g9⟩ := fp_all n (by omega) n (by omega) (Nat.le_refl n)
  have hS : 1 ≤ (q.1 32 14).toInt ∧ (q.1 32 14).toInt ≤ 46080 := by rw [h14]; exact ⟨g6, g7⟩
  have nS := cl_eq (i := q.1 32 14) (by omega)
  have hS0 := nl0 (x := q.1 32 14) (by omega)
  unfold zX3_makeRoom_s32
  refine dOk_G (decide_eq_true ⟨hS0, by omega, by omega, by omega⟩) (dOk_L (fun q2 eq2 => ?_))
  have aq2 : q2.1 32 14 = q.1 32 14 := by rw [eq2, cn_k (by decide) (by decide)]
  have bq2 : q2.1 32 13 = q.1 32 13 := by rw [eq2, cn_k (by decide) (by decide)]
  rw [aq2]
  refine dOk_G (decide_eq_true ⟨hS0, by omega, by omega, by omega⟩) (dOk_L (fun q4 eq4 => ?_))
  have aq4 : q4.1 32 14 = q.1 32 14 := by rw [eq4, cn_k (by decide) (by decide)]; exact aq2
  have bq4 : q4.1 32 13 = q.1 32 13 := by rw [eq4, cn_k (by decide) (by decide)]; exact bq2
  rw [aq4]
  refine dOk_G (decide_eq_true ⟨hS0, by omega, by omega, by omega⟩) (dOk_L (fun q6 eq6 => ?_))
  have aq6 : q6.1 32 14 = q.1 32 14 := by rw [eq6, cn_k (by decide) (by decide)]; exact aq4
  have bq6 : q6.1 32 13 = q.1 32 13 := by rw [eq6, cn_k (by decide) (by decide)]; exact bq4
  rw [aq6]
  refine dOk_G (decide_eq_true ⟨hS0, by omega, by omega, by omega⟩) (dOk_L (fun q8 eq8 => ?_))
  have aq8 : q8.1 32 14 = q.1 32 14 := by rw [eq8, cn_k (by decide) (by decide)]; exact aq6
  have bq8 : q8.1 32 13 = q.1 32 13 := by rw [eq8, cn_k (by decide) (by decide)]; exact bq6
  have hf := fac_v (x := q.1 32 13) (by omega) (by omega)
  rw [h13] at hf
  rw [bq8]
  refine dOk_G (dg_ok (by omega) (by omega)) (dOk_L (fun v10 e10 => ?_))
  rw [← e10] at hf
  have n10 := cl_eq (i := v10) (by omega)
  refine dOk_G (decide_eq_true ⟨nl0 (by omega), by omega, by omega, by omega⟩) (dOk_L (fun q12 eq12 => ?_))
  have bq12 : q12.1 32 13 = q.1 32 13 := by rw [eq12, cn_k (by decide) (by decide)]; exact bq8
  rw [bq12]
  refine dOk_G (dg_ok (by omega) (by omega)) (dOk_L (fun v14 e14 => ?_))
  have ev : v14 = v10 := by rw [e14, e10]
  rw [ev]
  have t6 : Int32.toInt (v10 * 6) = facI n * 6 := ti_mul hf (by decide) (by omega) (by omega)
  have n14 := cl_eq (i := v10 * 6) (by omega)
  refine dOk_G (decide_eq_true ⟨nl0 (by omega), by omega, by omega, by omega⟩) (dOk_L (fun q16 eq16 => ?_))
  have bq16 : q16.1 32 13 = q.1 32 13 := by rw [eq16, cn_k (by decide) (by decide)]; exact bq12
  rw [bq16]
  have t7 := sh_6 (s := q.1 32 13) (n := n) (by omega) h13
  have n16 := cl_eq (i := (6 : Int32) <<< ((q.1 32 13 : Int32) &&& 31)) (by omega)
  refine dOk_G (decide_eq_true ⟨nl0 (by omega), by omega, by omega, by omega⟩) (dOk_L (fun q18 eq18 => ?_))
  have bq18 : q18.1 32 13 = q.1 32 13 := by rw [eq18, cn_k (by decide) (by decide)]; exact bq16
  have l100 : q18.1 32 100 = v10 := by rw [eq18, cn_k (by decide) (by decide), eq16, cn_k (by decide) (by decide), eq12, cn_s (by decide)]
  have l101 : q18.1 32 101 = v10 * 6 := by rw [eq18, cn_k (by decide) (by decide), eq16, cn_s (by decide)]
  have l102 : q18.1 32 102 = (6 : Int32) <<< ((q.1 32 13 : Int32) &&& 31) := by rw [eq18, cn_s (by decide)]
  have l103 : q18.1 32 103 = q.1 32 14 := by rw [eq18, cn_k (by decide) (by decide), eq16, cn_k (by decide) (by decide), eq12, cn_k (by decide) (by decide), eq8, cn_k (by decide) (by decide), eq6, cn_k (by decide) (by decide), eq4, cn_k (by decide) (by decide), eq2, cn_s (by decide)]
  have l104 : q18.1 32 104 = q.1 32 14 := by rw [eq18, cn_k (by decide) (by decide), eq16, cn_k (by decide) (by decide), eq12, cn_k (by decide) (by decide), eq8, cn_k (by decide) (by decide), eq6, cn_k (by decide) (by decide), eq4, cn_s (by decide)]
  have l105 : q18.1 32 105 = q.1 32 14 := by rw [eq18, cn_k (by decide) (by decide), eq16, cn_k (by decide) (by decide), eq12, cn_k (by decide) (by decide), eq8, cn_k (by decide) (by decide), eq6, cn_s (by decide)]
  have l106 : q18.1 32 106 = q.1 32 14 := by rw [eq18, cn_k (by decide) (by decide), eq16, cn_k (by decide) (by decide), eq12, cn_k (by decide) (by decide), eq8, cn_s (by decide)]
  have hR : RMr [41, 40, 39, 45, 44, 43, 42] q q18 := by
    rw [eq18]
    refine RMr.s ?_ (by decide) (by decide) (by decide)
    rw [eq16]
    refine RMr.s ?_ (by decide) (by decide) (by decide)
    rw [eq12]
    refine RMr.s ?_ (by decide) (by decide) (by decide)
    rw [eq8]
    refine RMr.s ?_ (by decide) (by decide) (by decide)
    rw [eq6]
    refine RMr.s ?_ (by decide) (by decide) (by decide)
    rw [eq4]
    refine RMr.s ?_ (by decide) (by decide) (by decide)
    rw [eq2]
    exact RMr.s RMr.rf (by decide) (by decide) (by decide)
  have hT18 : TC q18 := tc_room hT n hn (fun j k c1 c2 => hR.1 j k (by have hc : j = 39 ∨ j = 40 ∨ j = 41 ∨ j = 42 ∨ j = 43 ∨ j = 44 ∨ j = 45 := by omega
                                                                       rcases hc with e | e | e | e | e | e | e <;> subst e <;> decide)) (fun j k c1 c2 => hR.2.1 j k (by simp only [List.mem_cons, List.not_mem_nil, or_false]; omega) c2) hR.2.2 (by rw [l100]; exact hf) (by rw [l101, t6]; omega) (by rw [l102]; exact t7) (by rw [l103]; exact h14) (by rw [l104]; exact h14) (by rw [l105]; exact h14) (by rw [l106]; exact h14)
  have hF18 : cFr [34, 39, 40, 41, 42, 43, 44, 45] [(32, 17), (32, 100), (32, 101), (32, 102), (32, 103), (32, 104), (32, 105), (32, 106)] q q18 := by
    refine ⟨fun j k c1 c2 => hR.2.1 j k (fun z => c1 ?_) (fun z => ?_), by rw [hR.2.2]⟩
    · simp only [List.mem_cons, List.not_mem_nil, or_false] at z ⊢
      omega
    · obtain ⟨rfl, z1, z2⟩ := z
      have hc : k = 100 ∨ k = 101 ∨ k = 102 ∨ k = 103 ∨ k = 104 ∨ k = 105 ∨ k = 106 := by omega
      rcases hc with e | e | e | e | e | e | e <;> subst e <;> exact c2 (by decide)
  have z18 : ∀ i : Nat, q18.1 39 i = 0 := fun i => hR.1 39 i (by decide)
  clear eq18 eq16 eq12 eq8 eq6 eq4 eq2 hR
  refine dOk_L (fun q19 eq19 => ?_)
  have hT19 : TC q19 := by rw [eq19]; exact sa_32_17 hT18
  have hF19 : cFr [34, 39, 40, 41, 42, 43, 44, 45] [(32, 17), (32, 100), (32, 101), (32, 102), (32, 103), (32, 104), (32, 105), (32, 106)] q q19 := by rw [eq19]; exact hF18.f (by decide)
  have m13 : q19.1 32 13 = q.1 32 13 := by rw [eq19, cui_n (by decide)]; exact bq18
  have m100 : (q19.1 32 100).toInt = facI n := by rw [eq19, cui_n (by decide), l100]; exact hf
  have m101 : (q19.1 32 101).toInt = 6 * facI n := by rw [eq19, cui_n (by decide), l101, t6]; omega
  have m102 : (q19.1 32 102).toInt = 6 * powI n := by rw [eq19, cui_n (by decide), l102]; exact t7
  have m103 : q19.1 32 103 = q.1 32 14 := by rw [eq19, cui_n (by decide)]; exact l103
  have z19 : ∀ i : Nat, q19.1 39 i = 0 := fun i => by rw [eq19, cui_o (by decide)]; exact z18 i
  clear eq19 hT18 hF18 z18
  unfold zX3_makeRoom_s32_91
  refine dFix_ok (fun (a : dK × Int32) => TC a.1 ∧ cFr [34, 39, 40] [] q19 a.1 ∧ 0 ≤ a.2.toInt ∧ a.2.toInt ≤ facI n ∧ ∀ i : Nat, a.2.toInt ≤ (i : Int) → a.1.1 39 i = 0) (fun (a : dK × Int32) => (facI n - a.2.toInt).toNat) ?_ _ ⟨hT19, cFr.rf, by show 0 ≤ Int32.toInt 0; decide, by show (0 : Int) ≤ facI n; omega, fun i _ => z19 i⟩ _ (dF_gt (by show (facI n - 0).toNat < 1000000000000; omega))
  intro a ha k91 hk91
  obtain ⟨qa, x1⟩ := a
  obtain ⟨a0, a1, a2, a3, a4⟩ := ha
  replace a0 : TC qa := a0
  replace a1 : cFr [34, 39, 40] [] q19 qa := a1
  replace a2 : 0 ≤ x1.toInt := a2
  replace a3 : x1.toInt ≤ facI n := a3
  replace a4 : ∀ i : Nat, x1.toInt ≤ (i : Int) → qa.1 39 i = 0 := a4
  have w100 : qa.1 32 100 = q19.1 32 100 := a1.1 32 100 (by decide) (by decide)
  have w101 : qa.1 32 101 = q19.1 32 101 := a1.1 32 101 (by decide) (by decide)
  show dOk (zX3_makeRoom_s32_91b nc ns (fun q x1 => k91 (q, x1)) qa x1) _
  unfold zX3_makeRoom_s32_91b
  refine dOk_le (A := facI n) (by rw [w100, of_cl (by omega)]; exact m100) rfl (fun c => ?_) (fun c => ?_)
  · unfold zX3_makeRoom_s32_113
    refine dFix_ok (fun (a : dK × Int32) => TC a.1 ∧ cFr [34, 39, 40, 41] [] q19 a.1 ∧ 0 ≤ a.2.toInt ∧ a.2.toInt ≤ powI n) (fun (a : dK × Int32) => (powI n - a.2.toInt).toNat) ?_ _ ⟨a0, cFr.rf.t a1 (by decide) (by decide), by show 0 ≤ Int32.toInt 0; decide, by show (0 : Int) ≤ powI n; omega⟩ _ (dF_gt (by show (powI n - 0).toNat < 1000000000000; omega))
    intro a ha k113 hk113
    obtain ⟨qb, y1⟩ := a
    obtain ⟨b0, b1, b2, b3⟩ := ha
    replace b0 : TC qb := b0
    replace b1 : cFr [34, 39, 40, 41] [] q19 qb := b1
    replace b2 : 0 ≤ y1.toInt := b2
    replace b3 : y1.toInt ≤ powI n := b3
    have v13 : qb.1 32 13 = q.1 32 13 := (b1.1 32 13 (by decide) (by decide)).trans m13
    show dOk (zX3_makeRoom_s32_113b nc ns (fun q x1 => k113 (q, x1)) qb y1) _
    unfold zX3_makeRoom_s32_113b
    refine dOk_le (A := powI n) (by rw [v13, ti_shlP (by omega) (by omega), h13]) rfl (fun c2 => dOk_some ⟨b0, hF19.t b1 (by decide) (by decide), (b1.1 32 103 (by decide) (by decide)).trans m103⟩) (fun c2 => ?_)
    unfold zX3_makeRoom_s32_125
    refine dFix_ok (fun (a : dK × Int32 × Int32) => TC a.1 ∧ cFr [34, 39, 40, 41] [] q19 a.1 ∧ a.2.1 = y1 ∧ 1 ≤ a.2.2.toInt ∧ a.2.2.toInt ≤ 7) (fun (a : dK × Int32 × Int32) => (7 - a.2.2.toInt).toNat) ?_ _ ⟨b0, b1, rfl, by show 1 ≤ Int32.toInt 1; decide, by show Int32.toInt 1 ≤ 7; decide⟩ _ (dF_gt (by show (7 - Int32.toInt 1).toNat < 1000000000000; decide))
    intro a ha k125 hk125
    obtain ⟨qc, z1, x2⟩ := a
    obtain ⟨e0, e1, e2, e3, e4⟩ := ha
    replace e0 : TC qc := e0
    replace e1 : cFr [34, 39, 40, 41] [] q19 qc := e1
    replace e2 : y1 = z1 := Eq.symm e2
    replace e3 : 1 ≤ x2.toInt := e3
    replace e4 : x2.toInt ≤ 7 := e4
    subst e2
    have u13 : qc.1 32 13 = q.1 32 13 := (e1.1 32 13 (by decide) (by decide)).trans m13
    have u102 : qc.1 32 102 = q19.1 32 102 := e1.1 32 102 (by decide) (by decide)
    have ty : Int32.toInt (y1 + 1) = y1.toInt + 1 := ti_add rfl (by decide) (by omega) (by omega)
    have tx : Int32.toInt (x2 + 1) = x2.toInt + 1 := ti_add rfl (by decide) (by omega) (by omega)
    show dOk (zX3_makeRoom_s32_125b nc ns (fun q x1 => k113 (q, x1)) (fun q x1 x2 => k125 (q, x1, x2)) qc y1 x2) _
    unfold zX3_makeRoom_s32_125b
    refine dOk_lt (A := (n : Int)) (by rw [u13]; exact h13) rfl (fun c3 => ?_) (fun c3 => ?_)
    · exact hk113 (qc, y1 + 1) ⟨e0, e1, by show 0 ≤ Int32.toInt (y1 + 1); omega, by show Int32.toInt (y1 + 1) ≤ powI n; omega⟩ (by show (powI n - Int32.toInt (y1 + 1)).toNat < (powI n - Int32.toInt y1).toNat; omega)
    · refine dOk_V (ok_X3_headsTurned y1 x2 b2 (by omega) e3 (by omega)) (fun r1 hr => ?_)
      replace hr : 0 ≤ Int32.toInt r1 ∧ Int32.toInt r1 ≤ 63 := hr
      have t1 : Int32.toInt (y1 * 6) = y1.toInt * 6 := ti_mul rfl (by decide) (by omega) (by omega)
      have t2 : Int32.toInt (y1 * 6 + x2) = y1.toInt * 6 + x2.toInt := ti_add t1 rfl (by omega) (by omega)
      have t3 : Int32.toInt (y1 * 6 + x2 - 1) = y1.toInt * 6 + x2.toInt - 1 := ti_sub t2 (by decide) (by omega) (by omega)
      refine dOk_G (dg_ok (by omega) (by rw [u102, cl_eq (by omega)]; omega)) (dOk_L (fun q4 e4q => ?_))
      exact hk125 (q4, y1, x2 + 1) ⟨by rw [e4q]; exact st_41 e0 hr.1 hr.2, by rw [e4q]; exact e1.i (by decide), rfl, by show 1 ≤ Int32.toInt (x2 + 1); omega, by show Int32.toInt (x2 + 1) ≤ 7; omega⟩ (by show (7 - Int32.toInt (x2 + 1)).toNat < (7 - Int32.toInt x2).toNat; omega)
  · have n1 := cl_eq a2
    have ty : Int32.toInt (x1 + 1) = x1.toInt + 1 := ti_add rfl (by decide) (by omega) (by omega)
    refine dOk_V (ok_X3_listOrder_s32 qa x1 a0 a2 (by rw [w100]; omega) (by rw [w100, w101]; omega) (by rw [w100]; omega) (a4 _ (by omega))) (fun q3 h3 => ?_)
    obtain ⟨h30, h31, h32⟩ := h3
    replace h30 : TC q3 := h30
    replace h31 : cFr [34, 39, 40] [] qa q3 := h31
    replace h32 : R39 qa x1 q3 := h32
    exact hk91 (q3, x1 + 1) ⟨h30, a1.t h31 (by decide) (by decide), by show 0 ≤ Int32.toInt (x1 + 1); omega, by show Int32.toInt (x1 + 1) ≤ facI n; omega, fun i hi => by replace hi : Int32.toInt (x1 + 1) ≤ (i : Int) := hi; show q3.1 39 i = 0; rw [h32 i (by omega)]; exact a4 i (by omega)⟩ (by show (facI n - Int32.toInt (x1 + 1)).toNat < (facI n - Int32.toInt x1).toNat; omega)
