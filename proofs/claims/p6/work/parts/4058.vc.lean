/-! towers by number: what a turn makes of one, what it pays, which are there -/
def ths (n u : Nat) : Prop := u / 64 < facN n ∧ u % 64 < 2 ^ n
def bhN (n u k : Nat) : Nat := 64 * obL n (u / 64) k + hbN (u % 64) k n
def prX (n u k : Nat) : Nat := ((k * 6 + (rkS n 0 (u / 64)).getD 0 0) * 7 + (if k < n then 1 + (rkS n 0 (u / 64)).getD k 0 else 0)) * 2 + u % 2
def prV (q : dS) (n u k : Nat) : Int32 := q.1 20 (prX n u k)
theorem pw_le {n : Nat} (hn : n ≤ 6) : 2 ^ n ≤ 64 := Nat.pow_le_pow_right (n := 2) (by decide) hn
theorem facI_N {n : Nat} (hn : n ≤ 6) : facI (n : Int) = (facN n : Int) := by
  have h : ∀ k : Nat, k < 7 → facI (k : Int) = (facN k : Int) := by decide
  exact h n (by omega)
theorem bh_inv {n u k : Nat} (hn : n ≤ 6) (hu : ths n u) (h1 : 1 ≤ k) (hk : k ≤ n) : ths n (bhN n u k) ∧ bhN n (bhN n u k) k = u := by
  obtain ⟨a1, a2⟩ := hu
  obtain ⟨b1, b2⟩ := ob_lt hn a1 h1 hk
  obtain ⟨c1, c2⟩ := hb_inv n (by omega) k (by omega) (u % 64) h1 hk a2
  have hw := pw_le hn
  have d1 : bhN n u k / 64 = obL n (u / 64) k := by unfold bhN; omega
  have d2 : bhN n u k % 64 = hbN (u % 64) k n := by unfold bhN; omega
  refine ⟨⟨by rw [d1]; exact b1, by rw [d2]; exact c1⟩, ?_⟩
  show 64 * obL n (bhN n u k / 64) k + hbN (bhN n u k % 64) k n = u
  rw [d1, d2, b2, c2]
  omega
theorem ths_lt {n u : Nat} (hn : n ≤ 6) (hu : ths n u) : u < 64 * facN n ∧ u < 46080 := by
  have h1 := hu.1
  have h2 := facN_le n hn
  omega
theorem q_rem {u : Nat} (hu : u < 46080) : (nI u - nI u / 64 * 64 : Int32) = nI (u % 64) := by
  rw [show (64 : Int32) = nI 64 from rfl, pk_rem (by omega) (by omega) (by omega)]
theorem q_div {u : Nat} (hu : u < 46080) : (nI u / 64 : Int32) = nI (u / 64) := by
  rw [show (64 : Int32) = nI 64 from rfl, pk_div (by omega) (by omega) (by omega)]
theorem q_rem2 {u : Nat} (hu : u < 46080) : (nI u - nI u / 2 * 2 : Int32) = nI (u % 2) := by
  rw [show (2 : Int32) = nI 2 from rfl, pk_rem (by omega) (by omega) (by omega)]
theorem q_lin (a b c : Nat) : (nI a * nI b + nI c : Int32) = nI (a * b + c) := by rw [pk_mul, nI_add]
theorem ok_behind2 (q : dS) (n u k : Nat) (hn : n ≤ 6) (ht : tabs q n) (hu : ths n u) (h1 : 1 ≤ k) (hk : k ≤ n) : dOk (zX10_behind q (nI u) (nI k)) (fun o => o.2 = q ∧ o.1 = nI (bhN n u k)) := by
  have hl := ths_lt hn hu
  have hf := facN_le n hn
  have hw := pw_le hn
  obtain ⟨a1, a2⟩ := hu
  obtain ⟨-, -, t16, t17, t18⟩ := ht
  unfold zX10_behind
  rw [q_rem hl.2, q_div hl.2, show (7 : Int32) = nI 7 from rfl, q_lin, q_lin]
  have i1 : Int32.toInt (nI (7 * (u / 64) + k)) = ((7 * (u / 64) + k : Nat) : Int) := nI_toInt (by omega)
  have i2 : Int32.toInt (nI (7 * (u % 64) + k)) = ((7 * (u % 64) + k : Nat) : Int) := nI_toInt (by omega)
  refine dOk_G (dg_ok (by omega) (by omega)) (dOk_L (fun v2 e2 => ?_))
  rw [nI_clamp (by omega), t17 (u / 64) k a1 h1 hk] at e2
  refine dOk_G (dg_ok (by omega) (by omega)) (dOk_L (fun v4 e4 => ?_))
  rw [nI_clamp (by omega), t18 (u % 64) k a2 h1 hk] at e4
  refine dOk_some ⟨rfl, ?_⟩
  show (64 * v2 + v4 : Int32) = nI (bhN n u k)
  rw [e2, e4, show (64 : Int32) = nI 64 from rfl, q_lin]
  rfl
theorem ok_priceOf2 (q : dS) (n u k : Nat) (hT : TS q) (hq : (q.1 2 29).toInt = (n : Int)) (ht : tabs q n) (hu : ths n u) (h1 : 1 ≤ k) (hk : k ≤ n) : dOk (zX10_priceOf q (nI u) (nI k)) (fun o => o.2 = q ∧ o.1 = prV q n u k) := by
  have fs : 0 ≤ Int32.toInt (q.1 2 29) ∧ Int32.toInt (q.1 2 29) ≤ 6 := hT.1 2 29
  have hn : n ≤ 6 := by omega
  have hl := ths_lt hn hu
  have hf := facN_le n hn
  obtain ⟨a1, a2⟩ := hu
  obtain ⟨-, -, t16, t17, t18⟩ := ht
  have tk : Int32.toInt (nI k) = (k : Int) := nI_toInt (by omega)
  have r0 := rk_6 n (by omega) (u / 64) (by omega) a1 0 (by omega) (by omega)
  have h41 : ∀ x : Nat, x < 7 → x = (if k < n then 1 + (rkS n 0 (u / 64)).getD k 0 else 0) → dOk (zX10_priceOf_41 q (nI u) (nI x) (nI ((rkS n 0 (u / 64)).getD 0 0)) (nI k)) (fun o => o.2 = q ∧ o.1 = prV q n u k) := by
    intro x hx ex
    unfold zX10_priceOf_41 zX10_askedAt
    refine dOk_V (R := fun r => r = nI (prX n u k)) ⟨_, rfl, ?_⟩ (fun r1 er => ?_)
    · show (((nI k * 6 + nI ((rkS n 0 (u / 64)).getD 0 0)) * 7 + nI x) * 2 + (nI u - nI u / 2 * 2) : Int32) = nI (prX n u k)
      rw [q_rem2 hl.2, show (6 : Int32) = nI 6 from rfl, show (7 : Int32) = nI 7 from rfl, show (2 : Int32) = nI 2 from rfl, q_lin, q_lin, q_lin]
      unfold prX
      rw [← ex]
    · have hx2 : prX n u k = ((k * 6 + (rkS n 0 (u / 64)).getD 0 0) * 7 + x) * 2 + u % 2 := by unfold prX; rw [← ex]
      have hb : prX n u k < 588 := by rw [hx2]; omega
      have ti : Int32.toInt (nI (prX n u k)) = ((prX n u k : Nat) : Int) := nI_toInt (by omega)
      rw [er]
      refine dOk_G (dg_ok (by omega) (by omega)) (dOk_L (fun v4 e4 => ?_))
      rw [nI_clamp (by omega)] at e4
      exact dOk_some ⟨rfl, e4⟩
  unfold zX10_priceOf
  have e6 : (6 * (nI u / 64 : Int32) : Int32) = nI (6 * (u / 64)) := by rw [q_div hl.2, show (6 : Int32) = nI 6 from rfl, pk_mul]
  rw [e6]
  have i1 : Int32.toInt (nI (6 * (u / 64))) = ((6 * (u / 64) : Nat) : Int) := nI_toInt (by omega)
  refine dOk_G (dg_ok (by omega) (by omega)) (dOk_L (fun v2 e2 => ?_))
  rw [nI_clamp (by omega)] at e2
  have g0 := t16 (u / 64) 0 a1 (by omega)
  rw [Nat.add_zero] at g0
  rw [g0] at e2
  refine dOk_B (ok_size q hT) (fun r3 q5 hr => ?_)
  have eq5 : q5 = q := hr.1
  have hr3 : Int32.toInt r3 = Int32.toInt (q.1 2 29) := hr.2.1
  subst eq5
  subst e2
  refine dOk_le (A := Int32.toInt r3) rfl tk (fun c => ?_) (fun c => ?_)
  · have ek : ¬ k < n := by omega
    exact h41 0 (by omega) (by rw [if_neg ek])
  · have ek : k < n := by omega
    rw [nI_add]
    have i2 : Int32.toInt (nI (6 * (u / 64) + k)) = ((6 * (u / 64) + k : Nat) : Int) := nI_toInt (by omega)
    refine dOk_G (dg_ok (by omega) (by omega)) (dOk_L (fun v7 e7 => ?_))
    rw [nI_clamp (by omega), t16 (u / 64) k a1 ek] at e7
    have rk := rk_6 n (by omega) (u / 64) (by omega) a1 k (by omega) ek
    rw [e7, show (1 : Int32) = nI 1 from rfl, nI_add]
    exact h41 _ (by omega) (by rw [if_pos ek])
theorem ok_isThere2 (q : dS) (n u : Nat) (hn : n ≤ 6) (hu : u < 46080) (h37 : q.1 0 37 = nI (facN n)) (h38 : q.1 0 38 = nI (2 ^ n)) : dOk (zX10_isThere q (nI u)) (fun o => o.2 = q ∧ (o.1 = 0 ∨ (o.1 = 1 ∧ ths n u))) := by
  have hf := facN_le n hn
  have hw := pw_le hn
  unfold zX10_isThere zX10_isThere_26 zX10_isThere_27
  rw [h37, h38, q_rem hu, q_div hu]
  refine dOk_le (nI_toInt (n := 2 ^ n) (by omega)) (nI_toInt (n := u % 64) (by omega)) (fun c => ?_) (fun c => ?_)
  · exact dOk_G rfl (dOk_some ⟨rfl, Or.inl rfl⟩)
  refine dOk_le (nI_toInt (n := facN n) (by omega)) (nI_toInt (n := u / 64) (by omega)) (fun c2 => ?_) (fun c2 => ?_)
  · exact dOk_G rfl (dOk_some ⟨rfl, Or.inl rfl⟩)
  · exact dOk_G rfl (dOk_some ⟨rfl, Or.inr ⟨rfl, Int.ofNat_lt.mp c2, Int.ofNat_lt.mp c⟩⟩)
/-! the search from the ordered towers: whoever was come to was come to by a turn -/
def Gq (p : Nat → Nat → Int32) (n : Nat) (d : Nat → Int32) : Prop := ∀ u : Nat, u < 64 * facN n → ¬ d u = 1000000 → ths n u ∧ (d u = 0 ∨ ∃ t k : Nat, 1 ≤ k ∧ k ≤ n ∧ ths n t ∧ bhN n t k = u ∧ ¬ p u k = -1 ∧ ¬ d t = 1000000 ∧ (d u).toInt = (d t).toInt + 1)
theorem G_push {p : Nat → Nat → Int32} {n : Nat} {d : Nat → Int32} {t k : Nat} {v : Int32} (hn : n ≤ 6) (h : Gq p n d) (ht : ths n t) (htd : ¬ d t = 1000000) (h1 : 1 ≤ k) (hk : k ≤ n) (hp : ¬ p (bhN n t k) k = -1) (hw : d (bhN n t k) = 1000000) (hv : v.toInt = (d t).toInt + 1) : Gq p n (upd d (bhN n t k) v) := by
  intro u hu hd
  have htw : ¬ t = bhN n t k := fun z => htd (by rw [z]; exact hw)
  by_cases c : u = bhN n t k
  · have e1 : upd d (bhN n t k) v u = v := if_pos c
    have e2 : upd d (bhN n t k) v t = d t := if_neg htw
    refine ⟨by rw [c]; exact (bh_inv hn ht h1 hk).1, Or.inr ⟨t, k, h1, hk, ht, c.symm, by rw [c]; exact hp, by rw [e2]; exact htd, ?_⟩⟩
    rw [e1, e2]; exact hv
  · have e1 : upd d (bhN n t k) v u = d u := if_neg c
    rw [e1] at hd
    obtain ⟨g1, g2⟩ := h u hu hd
    refine ⟨g1, ?_⟩
    rw [e1]
    rcases g2 with g2 | ⟨t2, k2, a1, a2, a3, a4, a5, a6, a7⟩
    · exact Or.inl g2
    · have h2 : ¬ t2 = bhN n t k := fun z => a6 (by rw [z]; exact hw)
      have e2 : upd d (bhN n t k) v t2 = d t2 := if_neg h2
      exact Or.inr ⟨t2, k2, a1, a2, a3, a4, a5, by rw [e2]; exact a6, by rw [e2]; exact a7⟩
def Cq (p : Nat → Nat → Int32) (N0 m : Nat) (d u : Nat → Int32) : Prop := Bq m d u ∧ Gq p N0 d ∧ ∀ j : Nat, j < m → ths N0 (u j).toInt.toNat
