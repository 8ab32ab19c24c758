/-! the reference's tokens -/
def wO : Nat → Nat
  | 0 => 0
  | 1 => 0
  | w + 1 => wO w + (wdL w).length + 1
theorem wO_tb : ∀ w : Nat, w < 27 → 1 ≤ w → wO (w + 1) = wO w + (wdL w).length + 1 ∧ wO w + (wdL w).length < 128 ∧ Int32.toInt (wB (wO w + (wdL w).length)) = 32 ∧ ∀ i : Nat, i < (wdL w).length → Int32.toInt (wB (wO w + i)) = (wdL w).getD i 0 ∧ ¬ (wdL w).getD i 0 = 32 ∧ 97 ≤ (wdL w).getD i 0 ∧ (wdL w).getD i 0 ≤ 122 := by decide +kernel
theorem wO_27 : wO 27 = 128 := by decide +kernel
/-- a byte here and there, as a letter -/
theorem tpR_eq {c s k : Int} (h : tpR c s) (h0 : 0 ≤ k) (h1 : k ≤ 127) : s = k ↔ c = k := by
  unfold tpR at h
  omega
theorem and255_i (x : Int32) : Int32.toInt (x &&& 255) = x.toInt % 256 := by
  have e : (x &&& 255 : Int32).toBitVec.toNat = x.toBitVec.toNat % 256 := by
    show (x.toBitVec &&& (255 : Int32).toBitVec).toNat = _
    rw [BitVec.toNat_and]
    exact Nat.and_two_pow_sub_one_eq_mod _ 8
  have h : x.toBitVec.toNat % 256 < 256 := Nat.mod_lt _ (by decide)
  have hl := x.toBitVec.isLt
  have e1 : Int32.toInt (x &&& 255) = ((x.toBitVec.toNat % 256 : Nat) : Int) := by
    rw [← e]
    show BitVec.toInt _ = _
    rw [BitVec.toInt_eq_toNat_cond, if_pos (by
      have z : (x &&& 255 : Int32).toBitVec.toNat < 256 := by rw [e]; exact h
      omega)]
  have e2 : x.toInt = if 2 * x.toBitVec.toNat < 2 ^ 32 then (x.toBitVec.toNat : Int) else (x.toBitVec.toNat : Int) - ((2 ^ 32 : Nat) : Int) := by
    show x.toBitVec.toInt = _
    exact BitVec.toInt_eq_toNat_cond _
  rw [e1, e2]
  by_cases c : 2 * x.toBitVec.toNat < 2 ^ 32
  · rw [if_pos c]; omega
  · rw [if_neg c]; omega
theorem m_small (v : Int32) : dAll (zX10_isSmall v) (fun r => (Int32.toInt r = 1 ∧ 97 ≤ v.toInt ∧ v.toInt ≤ 122) ∨ (Int32.toInt r = 0 ∧ ¬ (97 ≤ v.toInt ∧ v.toInt ≤ 122))) := by
  have d0 : Int32.toInt 0 = 0 := by decide
  have d1 : Int32.toInt 1 = 1 := by decide
  have d97 : Int32.toInt 97 = 97 := by decide
  have d122 : Int32.toInt 122 = 122 := by decide
  unfold zX10_isSmall zX10_isSmall_16 zX10_isSmall_17
  refine dA_lt (fun c => dA_G (fun _ => dA_some (Or.inr ⟨d0, by omega⟩))) (fun c => dA_lt (fun c2 => dA_G (fun _ => dA_some (Or.inr ⟨d0, by omega⟩))) (fun c2 => dA_G (fun _ => dA_some (Or.inl ⟨d1, by omega, by omega⟩))))
theorem m_digit (v : Int32) : dAll (zX10_isDigit v) (fun r => (Int32.toInt r = 1 ∧ 48 ≤ v.toInt ∧ v.toInt ≤ 57) ∨ (Int32.toInt r = 0 ∧ ¬ (48 ≤ v.toInt ∧ v.toInt ≤ 57))) := by
  have d0 : Int32.toInt 0 = 0 := by decide
  have d1 : Int32.toInt 1 = 1 := by decide
  have d48 : Int32.toInt 48 = 48 := by decide
  have d57 : Int32.toInt 57 = 57 := by decide
  unfold zX10_isDigit zX10_isDigit_16 zX10_isDigit_17
  refine dA_lt (fun c => dA_G (fun _ => dA_some (Or.inr ⟨d0, by omega⟩))) (fun c => dA_lt (fun c2 => dA_G (fun _ => dA_some (Or.inr ⟨d0, by omega⟩))) (fun c2 => dA_G (fun _ => dA_some (Or.inl ⟨d1, by omega, by omega⟩))))
/-- which word it is -/
def wcd (B : Nat → Int) (s e : Nat) (c : Int) : Prop := (∃ w : Nat, 1 ≤ w ∧ w ≤ 26 ∧ c = (w : Int) ∧ isW B s e w) ∨ (c = 0 ∧ ∀ w : Nat, 1 ≤ w → w ≤ 26 → ¬ isW B s e w)
theorem m_word {B : Nat → Int} (q : dS) (p1 p2 : Int32) (s e : Nat) (hB : ∀ i : Nat, s ≤ i → i < e → tpR (B i) (Int32.toInt (q.1 7 i))) (hw : ∀ i : Nat, i < 128 → q.1 6 i = wB i) (hs : Int32.toInt p1 = (s : Int)) (he : Int32.toInt p2 = (e : Int)) (hse : s ≤ e) (h400 : e ≤ 400) :
    dAll (zX10_wordOf q p1 p2) (fun (o : Int32 × dS) => o.2 = q ∧ wcd B s e (Int32.toInt o.1)) := by
  have d0 : Int32.toInt 0 = 0 := by decide
  have d1 : Int32.toInt 1 = 1 := by decide
  have d32 : Int32.toInt 32 = 32 := by decide
  have d128 : Int32.toInt 128 = 128 := by decide
  have h27 := wO_27
  unfold zX10_wordOf zX10_wordOf_5
  refine dA_fix (fun (a : dS × Int32 × Int32 × Int32 × Int32) => a.1 = q ∧ a.2.1 = p1 ∧ a.2.2.1 = p2 ∧ ∃ w : Nat, 1 ≤ w ∧ w ≤ 27 ∧ Int32.toInt a.2.2.2.1 = (w : Int) ∧ Int32.toInt a.2.2.2.2 = ((wO w : Nat) : Int) ∧ ∀ v : Nat, 1 ≤ v → v < w → ¬ isW B s e v) ?_ dF _ ⟨rfl, rfl, rfl, 1, Nat.le_refl _, by decide, d1, d0, fun v h1 h2 => by omega⟩
  intro k hk a ha
  obtain ⟨qa, x1, x2, x3, x4⟩ := a
  obtain ⟨a1, a2, a3, w, a4, a5, a6, a7, a8⟩ := ha
  replace a1 : qa = q := a1
  replace a2 : x1 = p1 := a2
  replace a3 : x2 = p2 := a3
  replace a6 : Int32.toInt x3 = (w : Int) := a6
  replace a7 : Int32.toInt x4 = ((wO w : Nat) : Int) := a7
  subst a1 a2 a3
  show dAll (zX10_wordOf_5b (fun q x1 x2 x3 x4 => k (q, x1, x2, x3, x4)) qa x1 x2 x3 x4) _
  unfold zX10_wordOf_5b
  refine dA_le (fun c => dA_some ⟨rfl, Or.inr ⟨d0, fun v v1 v2 => ?_⟩⟩) (fun c => ?_)
  · rcases Nat.lt_or_ge w 27 with hw27 | hw27
    · have := (wO_tb w (by omega) a4).2.1
      omega
    · exact a8 v v1 (by omega)
  · have hw26 : w ≤ 26 := by
      rcases Nat.lt_or_ge w 27 with z | z
      · omega
      · exfalso
        have ew : w = 27 := by omega
        rw [ew, h27] at a7
        omega
    obtain ⟨t1, t2, t3, t4⟩ := wO_tb w (by omega) a4
    have hL := (wd_len w (by omega)).1
    -- how long the word is
    unfold zX10_wordOf_18
    refine dA_fix (fun (b : dS × Int32 × Int32 × Int32 × Int32 × Int32) => b.1 = qa ∧ b.2.1 = x1 ∧ b.2.2.1 = x2 ∧ b.2.2.2.1 = x3 ∧ b.2.2.2.2.1 = x4 ∧ ∃ m : Nat, m ≤ (wdL w).length ∧ Int32.toInt b.2.2.2.2.2 = (m : Int)) ?_ dF _ ⟨rfl, rfl, rfl, rfl, rfl, 0, Nat.zero_le _, d0⟩
    intro k18 hk18 b hb
    obtain ⟨qb, y1, y2, y3, y4, y5⟩ := b
    obtain ⟨b1, b2, b3, b4, b5, m, b6, b7⟩ := hb
    replace b1 : qb = qa := b1
    replace b2 : y1 = x1 := b2
    replace b3 : y2 = x2 := b3
    replace b4 : y3 = x3 := b4
    replace b5 : y4 = x4 := b5
    replace b7 : Int32.toInt y5 = (m : Int) := b7
    subst b1 b2 b3 b4 b5
    show dAll (zX10_wordOf_18b _ (fun q x1 x2 x3 x4 x5 => k18 (q, x1, x2, x3, x4, x5)) qb y1 y2 y3 y4 y5) _
    unfold zX10_wordOf_18b
    refine dA_G (fun hg => dA_L (fun v2 e2 => ?_))
    have ta : Int32.toInt (y4 + y5) = ((wO w + m : Nat) : Int) := by rw [ti_add a7 b7 (by omega) (by omega)]; omega
    have na := cl_eq (i := y4 + y5) (by omega)
    have ev : Int32.toInt v2 = Int32.toInt (wB (wO w + m)) := by rw [e2, show Int32.toNatClampNeg (y4 + y5) = wO w + m by omega, hw _ (by omega)]
    have t5 : Int32.toInt (y5 + 1) = Int32.toInt y5 + 1 := ti_add rfl d1 (by omega) (by omega)
    -- the bytes against the word's
    have h52 : ∀ (y0 : Int32), m = (wdL w).length → ((Int32.toInt y0 = 1 ∧ e = s + (wdL w).length) ∨ (Int32.toInt y0 = 0 ∧ ¬ e = s + (wdL w).length)) → dAll (zX10_wordOf_52 (fun q x1 x2 x3 x4 => k (q, x1, x2, x3, x4)) qb y1 y2 y3 y4 y5 y0) (fun (o : Int32 × dS) => o.2 = qb ∧ wcd B s e (Int32.toInt o.1)) := by
      intro y0 em hy0
      have tw : Int32.toInt (y3 + 1) = Int32.toInt y3 + 1 := ti_add rfl d1 (by omega) (by omega)
      have to1 : Int32.toInt (y4 + (y5 + 1 : Int32)) = ((wO (w + 1) : Nat) : Int) := by rw [ti_add a7 t5 (by omega) (by omega)]; omega
      have h104 : ∀ (y6 : Int32), ((Int32.toInt y6 = 1 ∧ isW B s e w) ∨ (Int32.toInt y6 = 0 ∧ ¬ isW B s e w)) → dAll (zX10_wordOf_104 (fun q x1 x2 x3 x4 => k (q, x1, x2, x3, x4)) qb y1 y2 y3 y4 y5 y6) (fun (o : Int32 × dS) => o.2 = qb ∧ wcd B s e (Int32.toInt o.1)) := by
        intro y6 h6
        unfold zX10_wordOf_104
        refine dA_eq (fun _ c6 => ?_) (fun _ c6 => dA_some ⟨rfl, Or.inl ⟨w, a4, hw26, a6, ?_⟩⟩)
        · refine hk (qb, y1, y2, y3 + 1, y4 + (y5 + 1 : Int32)) ⟨rfl, rfl, rfl, w + 1, by omega, by omega, ?_, to1, fun v v1 v2 => ?_⟩
          · show Int32.toInt (y3 + 1) = _
            omega
          · by_cases cv : v = w
            · rw [cv]
              rcases h6 with h6 | h6
              · omega
              · exact h6.2
            · exact a8 v v1 (by omega)
        · rcases h6 with h6 | h6
          · exact h6.2
          · omega
      unfold zX10_wordOf_52 zX10_wordOf_57
      refine dA_fix (fun (d : dS × Int32 × Int32 × Int32 × Int32 × Int32 × Int32 × Int32) => d.1 = qb ∧ d.2.1 = y1 ∧ d.2.2.1 = y2 ∧ d.2.2.2.1 = y3 ∧ d.2.2.2.2.1 = y4 ∧ d.2.2.2.2.2.1 = y5 ∧ ∃ g : Nat, g ≤ (wdL w).length ∧ Int32.toInt d.2.2.2.2.2.2.2 = (g : Int) ∧ ((Int32.toInt d.2.2.2.2.2.2.1 = 1 ∧ e = s + (wdL w).length ∧ ∀ i : Nat, i < g → B (s + i) = (wdL w).getD i 0) ∨ (Int32.toInt d.2.2.2.2.2.2.1 = 0 ∧ ¬ isW B s e w))) ?_ dF _ ⟨rfl, rfl, rfl, rfl, rfl, rfl, 0, Nat.zero_le _, d0, ?_⟩
      · intro k57 hk57 d hd
        obtain ⟨qd, z1, z2, z3, z4, z5, z6, z7⟩ := d
        obtain ⟨c1, c2, c3, c4, c5, c6, g, c7, c8, c9⟩ := hd
        replace c1 : qd = qb := c1
        replace c2 : z1 = y1 := c2
        replace c3 : z2 = y2 := c3
        replace c4 : z3 = y3 := c4
        replace c5 : z4 = y4 := c5
        replace c6 : z5 = y5 := c6
        replace c8 : Int32.toInt z7 = (g : Int) := c8
        replace c9 : (Int32.toInt z6 = 1 ∧ e = s + (wdL w).length ∧ ∀ i : Nat, i < g → B (s + i) = (wdL w).getD i 0) ∨ (Int32.toInt z6 = 0 ∧ ¬ isW B s e w) := c9
        subst c1 c2 c3 c4 c5 c6
        show dAll (zX10_wordOf_57b _ (fun q x1 x2 x3 x4 x5 x6 x7 => k57 (q, x1, x2, x3, x4, x5, x6, x7)) qd z1 z2 z3 z4 z5 z6 z7) _
        unfold zX10_wordOf_57b
        refine dA_le (fun cc => h104 z6 ?_) (fun cc => dA_eq (fun _ cc6 => h104 z6 ?_) (fun _ cc6 => dA_G (fun hg2 => dA_L (fun u2 f2 => dA_G (fun hg4 => dA_L (fun u4 f4 => ?_))))))
        · rcases c9 with c9 | c9
          · exact Or.inl ⟨c9.1, c9.2.1, fun i hi => c9.2.2 i (by omega)⟩
          · exact Or.inr c9
        · rcases c9 with c9 | c9
          · omega
          · exact Or.inr c9
        · rcases c9 with c9 | c9
          · have tb : Int32.toInt (z4 + z7) = ((wO w + g : Nat) : Int) := by rw [ti_add a7 c8 (by omega) (by omega)]; omega
            have nb := cl_eq (i := z4 + z7) (by omega)
            have tc : Int32.toInt (z1 + z7) = ((s + g : Nat) : Int) := by rw [ti_add hs c8 (by omega) (by omega)]; omega
            have nc := cl_eq (i := z1 + z7) (by omega)
            have eu2 : Int32.toInt u2 = (wdL w).getD g 0 := by rw [f2, show Int32.toNatClampNeg (z4 + z7) = wO w + g by omega, hw _ (by omega)]; exact (t4 g (by omega)).1
            have eu4 : Int32.toInt u4 = Int32.toInt (qd.1 7 (s + g)) := by rw [f4, show Int32.toNatClampNeg (z1 + z7) = s + g by omega]
            have hbb := hB (s + g) (by omega) (by omega)
            have hch := (t4 g (by omega)).2.2
            have hiff := tpR_eq (k := (wdL w).getD g 0) hbb (by omega) (by omega)
            have t7 : Int32.toInt (z7 + 1) = Int32.toInt z7 + 1 := ti_add rfl d1 (by omega) (by omega)
            unfold zX10_wordOf_96
            refine dA_eq (fun _ ce => hk57 (qd, z1, z2, z3, z4, z5, 1, z7 + 1) ⟨rfl, rfl, rfl, rfl, rfl, rfl, g + 1, by omega, by show Int32.toInt (z7 + 1) = _; omega, Or.inl ⟨d1, c9.2.1, fun i hi => ?_⟩⟩) (fun _ ce => hk57 (qd, z1, z2, z3, z4, z5, 0, z7 + 1) ⟨rfl, rfl, rfl, rfl, rfl, rfl, g + 1, by omega, by show Int32.toInt (z7 + 1) = _; omega, Or.inr ⟨d0, fun z => ?_⟩⟩)
            · by_cases ci : i = g
              · rw [ci]; exact hiff.mp (by omega)
              · exact c9.2.2 i (by omega)
            · have y := hiff.mpr (z.2 g (by omega))
              omega
          · omega
      · rcases hy0 with h | h
        · exact Or.inl ⟨h.1, h.2, fun i hi => absurd hi (Nat.not_lt_zero i)⟩
        · exact Or.inr ⟨h.1, fun z => h.2 z.1⟩
    refine dA_eq (fun _ c2 => ?_) (fun _ c2 => ?_)
    · have em : m = (wdL w).length := by
        rcases Nat.lt_or_ge m (wdL w).length with cm | cm
        · have := t4 m cm
          omega
        · omega
      have tz : Int32.toInt (y2 - y1) = (e : Int) - (s : Int) := ti_sub he hs (by omega) (by omega)
      refine dA_eq (fun _ c3 => h52 1 em (Or.inl ⟨d1, by omega⟩)) (fun _ c3 => h52 0 em (Or.inr ⟨d0, by omega⟩))
    · refine hk18 (qb, y1, y2, y3, y4, y5 + 1) ⟨rfl, rfl, rfl, rfl, rfl, m + 1, ?_, ?_⟩
      · rcases Nat.lt_or_ge m (wdL w).length with cm | cm
        · omega
        · exfalso
          have em : m = (wdL w).length := by omega
          rw [em, t3] at ev
          omega
      · show Int32.toInt (y5 + 1) = _
        omega
/-- a token of the reference: its code, its value -/
def vR (x v : Int) : Prop := (x ≤ 1000000 → v = x) ∧ (1000000 < x → 1000000 < v)
def TKd (B : Nat → Int) (n s e : Nat) (c v : Int) : Prop := s < n ∧ En B n s e ∧ ((tkC (B s) = 1 ∧ wcd B s e c ∧ v = 0) ∨ (tkC (B s) = 2 ∧ c = 50 ∧ vR (dv B s (e - s)) v) ∨ (tkC (B s) = 3 ∧ c = 100 + B s ∧ v = 0))
def pn (es : Nat → Nat) (j : Nat) : Nat := if j = 0 then 0 else es (j - 1)
def LXc (B : Nat → Int) (n : Nat) (q : dS) (t : Nat) (ps es : Nat → Nat) : Prop := ∀ j : Nat, j < t → Sk B n (pn es j) (ps j) ∧ Int32.toInt (q.1 11 j) = ((ps j : Nat) : Int) ∧ TKd B n (ps j) (es j) (Int32.toInt (q.1 9 j)) (Int32.toInt (q.1 10 j))
def LX (B : Nat → Int) (n : Nat) (q : dS) (t : Nat) (ps es : Nat → Nat) : Prop := LXc B n q t ps es ∧ Sk B n (pn es t) n ∧ Int32.toInt (q.1 11 t) = (n : Int) ∧ Int32.toInt (q.1 9 t) = 0 ∧ Int32.toInt (q.1 10 t) = 0 ∧ Int32.toInt (q.1 0 18) = (t : Int) ∧ t ≤ 400
def ext (f : Nat → Nat) (t v : Nat) : Nat → Nat := fun j => if j = t then v else f j
theorem ext_e {f : Nat → Nat} {t v : Nat} : ext f t v t = v := if_pos rfl
theorem ext_n {f : Nat → Nat} {t v j : Nat} (h : ¬ j = t) : ext f t v j = f j := if_neg h
theorem pn_ext {es : Nat → Nat} {t e j : Nat} (h : j ≤ t) : pn (ext es t e) j = pn es j := by
  unfold pn
  by_cases c : j = 0
  · rw [if_pos c, if_pos c]
  · rw [if_neg c, if_neg c, ext_n (by omega)]
theorem pn_s {es : Nat → Nat} {t e : Nat} : pn (ext es t e) (t + 1) = e := by
  unfold pn
  rw [if_neg (by omega), Nat.add_sub_cancel, ext_e]
theorem LXc_ext {B : Nat → Int} {n : Nat} {qa qb : dS} {t s e : Nat} {ps es : Nat → Nat} (h : LXc B n qa t ps es) (h9 : ∀ j : Nat, j < t → qb.1 9 j = qa.1 9 j) (h10 : ∀ j : Nat, j < t → qb.1 10 j = qa.1 10 j) (h11 : ∀ j : Nat, j < t → qb.1 11 j = qa.1 11 j) (hS : Sk B n (pn es t) s) (hp : Int32.toInt (qb.1 11 t) = (s : Int)) (hk : TKd B n s e (Int32.toInt (qb.1 9 t)) (Int32.toInt (qb.1 10 t))) : LXc B n qb (t + 1) (ext ps t s) (ext es t e) := by
  intro j hj
  rw [pn_ext (by omega)]
  by_cases c : j = t
  · rw [c, ext_e, ext_e]
    exact ⟨hS, hp, hk⟩
  · rw [ext_n c, ext_n c, h9 j (by omega), h10 j (by omega), h11 j (by omega)]
    exact h j (by omega)
theorem m_169 {B : Nat → Int} {k7 : dS → Int32 → Int32 → Option dS} {P : dS → Prop} (q0 : dS) (x1 x3 x4 x0 : Int32) (t s e : Nat) (ht : Int32.toInt (q0.1 0 18) = (t : Int)) (ht4 : t < 401) (hs : Int32.toInt x0 = (s : Int)) (he : Int32.toInt x4 = (e : Int)) (hse : s ≤ e) (h400 : e ≤ 400) (hB : ∀ i : Nat, s ≤ i → i < e → tpR (B i) (Int32.toInt (q0.1 7 i)))
    (hv0 : Int32.toInt (q0.1 10 t) = 0) (hd : 48 ≤ Int32.toInt x3 ∧ Int32.toInt x3 ≤ 57 → ∀ i : Nat, s ≤ i → i < e → 48 ≤ B i ∧ B i ≤ 57)
    (hk : ∀ qb : dS, (∀ j i : Nat, ¬ (j = 10 ∧ i = t) → ¬ (j = 0 ∧ i = 18) → qb.1 j i = q0.1 j i) → Int32.toInt (qb.1 0 18) = (t : Int) + 1 → ((48 ≤ Int32.toInt x3 ∧ Int32.toInt x3 ≤ 57) → vR (dv B s (e - s)) (Int32.toInt (qb.1 10 t))) → (¬ (48 ≤ Int32.toInt x3 ∧ Int32.toInt x3 ≤ 57) → Int32.toInt (qb.1 10 t) = 0) → dAll (k7 qb x1 x4) P) :
    dAll (zX10_splits_169 k7 dF q0 x1 x3 x4 x0) P := by
  have d0 : Int32.toInt 0 = 0 := by decide
  have d1 : Int32.toInt 1 = 1 := by decide
  have d10 : Int32.toInt 10 = 10 := by decide
  have d48 : Int32.toInt 48 = 48 := by decide
  have dM : Int32.toInt 1000000 = 1000000 := by decide
  unfold zX10_splits_169
  refine dA_fix (fun (a : dS × Int32 × Int32 × Int32 × Int32) => a.2.1 = x1 ∧ a.2.2.1 = x3 ∧ a.2.2.2.1 = x4 ∧ ∃ m : Nat, s + m ≤ e ∧ Int32.toInt a.2.2.2.2 = ((s + m : Nat) : Int) ∧ (∀ j i : Nat, ¬ (j = 10 ∧ i = t) → a.1.1 j i = q0.1 j i) ∧ (m = 0 → Int32.toInt (a.1.1 10 t) = 0) ∧ vR (dv B s m) (Int32.toInt (a.1.1 10 t)) ∧ 0 ≤ Int32.toInt (a.1.1 10 t) ∧ Int32.toInt (a.1.1 10 t) ≤ 10000009 ∧ ((48 ≤ Int32.toInt x3 ∧ Int32.toInt x3 ≤ 57) ∨ m = 0)) ?_ dF _ ⟨rfl, rfl, rfl, 0, by omega, by show Int32.toInt x0 = _; rw [hs, Nat.add_zero], fun _ _ _ => rfl, fun _ => hv0, ?_, by show 0 ≤ Int32.toInt (q0.1 10 t); omega, by show Int32.toInt (q0.1 10 t) ≤ 10000009; omega, Or.inr rfl⟩
  · intro k hk169 a ha
    obtain ⟨qa, y1, y3, y4, y5⟩ := a
    obtain ⟨a1, a2, a3, m, a4, a5, a6, a7, a8, a9, a10, a11⟩ := ha
    replace a1 : y1 = x1 := a1
    replace a2 : y3 = x3 := a2
    replace a3 : y4 = x4 := a3
    replace a5 : Int32.toInt y5 = ((s + m : Nat) : Int) := a5
    replace a6 : ∀ j i : Nat, ¬ (j = 10 ∧ i = t) → qa.1 j i = q0.1 j i := a6
    replace a7 : m = 0 → Int32.toInt (qa.1 10 t) = 0 := a7
    replace a8 : vR (dv B s m) (Int32.toInt (qa.1 10 t)) := a8
    replace a9 : 0 ≤ Int32.toInt (qa.1 10 t) := a9
    replace a10 : Int32.toInt (qa.1 10 t) ≤ 10000009 := a10
    subst a1 a2 a3
    show dAll (zX10_splits_169b k7 (fun q x1 x3 x4 x5 => k (q, x1, x3, x4, x5)) qa y1 y3 y4 y5) _
    have et : qa.1 0 18 = q0.1 0 18 := a6 0 18 (by omega)
    have nt := cl_eq (i := qa.1 0 18) (by rw [et]; omega)
    have ct : Int32.toNatClampNeg (qa.1 0 18) = t := by rw [et] at nt ⊢; omega
    have h247 : (((48 ≤ Int32.toInt y3 ∧ Int32.toInt y3 ≤ 57) → s + m = e)) → dAll (zX10_splits_247 k7 qa y1 y4) P := by
      intro hend
      unfold zX10_splits_247
      refine dA_L (fun q1 e1 => hk q1 (fun j i h1 h2 => ?_) ?_ (fun hdg => ?_) (fun hnd => ?_))
      · rw [e1]
        by_cases cj : j = 0
        · subst cj
          rw [dui_n (fun z => h2 ⟨rfl, z⟩)]; exact a6 0 i h1
        · rw [dui_o cj]; exact a6 j i h1
      · rw [e1, dui_e, ti_add (et ▸ ht : Int32.toInt (qa.1 0 18) = (t : Int)) d1 (by omega) (by omega)]
      · have em := hend hdg
        have r : q1.1 10 t = qa.1 10 t := by rw [e1, dui_o (by decide)]
        rw [r, show e - s = m by omega]
        exact a8
      · have r : q1.1 10 t = qa.1 10 t := by rw [e1, dui_o (by decide)]
        rw [r]
        rcases a11 with z | z
        · exact absurd z hnd
        · exact a7 z
    unfold zX10_splits_169b
    refine dA_le (fun c => h247 (fun _ => by omega)) (fun c => dA_V (m_digit y3) (fun r1 hr => dA_eq (fun _ c1 => h247 (fun z => ?_)) (fun _ c1 => ?_)))
    · rcases hr with hr | hr
      · omega
      · exact absurd z hr.2
    · have hdg : 48 ≤ Int32.toInt y3 ∧ Int32.toInt y3 ≤ 57 := by
        rcases hr with hr | hr
        · exact hr.2
        · omega
      have hb := hd hdg (s + m) (by omega) (by omega)
      have hbb := hB (s + m) (by omega) (by omega)
      have n5 := cl_eq (i := y5) (by omega)
      have t5 : Int32.toInt (y5 + 1) = Int32.toInt y5 + 1 := ti_add rfl d1 (by omega) (by omega)
      have h240 : ∀ (w : Int32), vR (dv B s (m + 1)) (Int32.toInt w) → 0 ≤ Int32.toInt w → Int32.toInt w ≤ 10000009 → dAll (zX10_splits_240 k7 (fun q x1 x3 x4 x5 => k (q, x1, x3, x4, x5)) qa y1 y3 y4 y5 w (qa.1 0 18)) P := by
        intro w w1 w2 w3
        unfold zX10_splits_240
        refine dA_G (fun _ => dA_L (fun q2 e2 => ?_))
        rw [ct] at e2
        have r : q2.1 10 t = w := by rw [e2, dui_e]
        refine hk169 (q2, y1, y3, y4, y5 + 1) ⟨rfl, rfl, rfl, m + 1, by omega, ?_, fun j i hj => ?_, fun z => by omega, ?_, ?_, ?_, Or.inl hdg⟩
        · show Int32.toInt (y5 + 1) = _
          omega
        · show q2.1 j i = _
          rw [e2]
          by_cases cj : j = 10
          · subst cj
            rw [dui_n (fun z => hj ⟨rfl, z⟩)]; exact a6 10 i hj
          · rw [dui_o cj]; exact a6 j i hj
        · show vR _ (Int32.toInt (q2.1 10 t)); rw [r]; exact w1
        · show 0 ≤ Int32.toInt (q2.1 10 t); rw [r]; exact w2
        · show Int32.toInt (q2.1 10 t) ≤ _; rw [r]; exact w3
      have hdv : dv B s (m + 1) = 10 * dv B s m + (B (s + m) - 48) := rfl
      refine dA_G (fun _ => dA_L (fun v4 e4 => dA_le (fun c4 => dA_G (fun _ => dA_L (fun v6 e6 => dA_G (fun hg8 => dA_L (fun v8 e8 => ?_))))) (fun c4 => dA_G (fun _ => dA_L (fun v10 e10 => ?_)))))
      · rw [ct] at e4 e6
        have r8 : Int32.toInt v8 = B (s + m) := by
          rw [e8, show Int32.toNatClampNeg y5 = s + m by omega, a6 7 _ (by omega)]
          exact (tpR_eq hbb (by omega) (by omega)).mpr rfl
        have t10 : Int32.toInt (10 * v6 : Int32) = 10 * Int32.toInt v6 := ti_mul d10 rfl (by rw [e6]; omega) (by rw [e6]; rw [e4] at c4; omega)
        have ta : Int32.toInt ((10 * v6 : Int32) + v8) = 10 * Int32.toInt v6 + B (s + m) := ti_add t10 r8 (by rw [e6]; omega) (by rw [e6]; rw [e4] at c4; omega)
        have ts : Int32.toInt (((10 * v6 : Int32) + v8) - 48 : Int32) = 10 * Int32.toInt v6 + B (s + m) - 48 := ti_sub ta d48 (by rw [e6]; omega) (by rw [e6]; rw [e4] at c4; omega)
        rw [e4] at c4
        rw [e6] at ts
        unfold vR at a8
        have hx : Int32.toInt (qa.1 10 t) = dv B s m := by
          by_cases cc : dv B s m ≤ 1000000
          · exact a8.1 cc
          · have := a8.2 (by omega)
            omega
        refine h240 _ ?_ (by rw [e6, ts]; omega) (by rw [e6, ts]; omega)
        rw [e6, ts, hdv]
        unfold vR
        omega
      · rw [ct] at e4 e10
        rw [e4] at c4
        have hm0 : 0 ≤ dv B s m := dv_0 m (fun i hi => (hd hdg (s + i) (by omega) (by omega)).1)
        refine h240 v10 ?_ (by rw [e10]; exact a9) (by rw [e10]; exact a10)
        rw [e10, hdv]
        unfold vR at a8 ⊢
        by_cases cc : dv B s m ≤ 1000000
        · have := a8.1 cc
          omega
        · have := a8.2 (by omega)
          omega
  · show vR (dv B s 0) (Int32.toInt (q0.1 10 t))
    rw [hv0]
    exact ⟨fun _ => rfl, fun z => absurd z (show ¬ (1000000 : Int) < 0 by decide)⟩
theorem m_splits {B : Nat → Int} (q : dS) (hT : TS q) (p1 : Int32) (n : Nat) (hn : Int32.toInt p1 = (n : Int)) (h400 : n ≤ 400) (hB : ∀ i : Nat, i < n → tpR (B i) (Int32.toInt (q.1 7 i))) :
    dAll (zX10_splits q p1) (fun (o : dS) => (∃ (t : Nat) (ps es : Nat → Nat), LX B n o t ps es) ∧ ∀ j i : Nat, ¬ (j = 9 ∨ j = 10 ∨ j = 11) → ¬ (j = 0 ∧ i = 18) → o.1 j i = q.1 j i) := by
  have d0 : Int32.toInt 0 = 0 := by decide
  have d1 : Int32.toInt 1 = 1 := by decide
  have d32 : Int32.toInt 32 = 32 := by decide
  have d50 : Int32.toInt 50 = 50 := by decide
  have d100 : Int32.toInt 100 = 100 := by decide
  have hw : ∀ i : Nat, i < 128 → q.1 6 i = wB i := hT.2.2.2
  unfold zX10_splits
  refine dA_L (fun q1 e1 => ?_)
  unfold zX10_splits_7
  refine dA_fix (fun (a : dS × Int32 × Int32) => a.2.1 = p1 ∧ ∃ (t k : Nat) (ps es : Nat → Nat), Int32.toInt a.2.2 = (k : Int) ∧ k ≤ n ∧ t ≤ k ∧ Int32.toInt (a.1.1 0 18) = (t : Int) ∧ LXc B n a.1 t ps es ∧ pn es t ≤ k ∧ (∀ i : Nat, pn es t ≤ i → i < k → B i = 32) ∧ ∀ j i : Nat, ¬ (j = 9 ∨ j = 10 ∨ j = 11) → ¬ (j = 0 ∧ i = 18) → a.1.1 j i = q.1 j i) ?_ dF _ ⟨rfl, 0, 0, fun _ => 0, fun _ => 0, d0, Nat.zero_le _, Nat.le_refl _, by show Int32.toInt (q1.1 0 18) = _; rw [e1, dui_e]; exact d0, fun j hj => absurd hj (Nat.not_lt_zero j), Nat.le_refl _, fun i h1 h2 => absurd h2 (Nat.not_lt_zero i), fun j i h1 h2 => ?_⟩
  · intro k7 hk7 a ha
    obtain ⟨qa, x1, x2⟩ := a
    obtain ⟨a1, t, k, ps, es, a2, a3, a4, a5, a6, a7, a8, a9⟩ := ha
    replace a1 : x1 = p1 := a1
    replace a2 : Int32.toInt x2 = (k : Int) := a2
    replace a5 : Int32.toInt (qa.1 0 18) = (t : Int) := a5
    replace a6 : LXc B n qa t ps es := a6
    replace a9 : ∀ j i : Nat, ¬ (j = 9 ∨ j = 10 ∨ j = 11) → ¬ (j = 0 ∧ i = 18) → qa.1 j i = q.1 j i := a9
    subst a1
    show dAll (zX10_splits_7b (fun q x1 x2 => k7 (q, x1, x2)) qa x1 x2) _
    have nt := cl_eq (i := qa.1 0 18) (by omega)
    have ct : Int32.toNatClampNeg (qa.1 0 18) = t := by omega
    have nk := cl_eq (i := x2) (by omega)
    have r7 : ∀ i : Nat, qa.1 7 i = q.1 7 i := fun i => a9 7 i (by decide) (by omega)
    have r6 : ∀ i : Nat, qa.1 6 i = q.1 6 i := fun i => a9 6 i (by decide) (by omega)
    unfold zX10_splits_7b
    refine dA_le (fun c => dA_G (fun _ => dA_L (fun q2 e2 => dA_G (fun _ => dA_L (fun q4 e4 => dA_G (fun _ => dA_L (fun q6 e6 => dA_some ?_))))))) (fun c => dA_G (fun _ => dA_L (fun v8 e8 => ?_)))
    · have ek : k = n := by omega
      rw [ct] at e2
      have f2 : q2.1 0 18 = qa.1 0 18 := by rw [e2, dui_o (by decide)]
      rw [f2, ct] at e4
      have f4 : q4.1 0 18 = qa.1 0 18 := by rw [e4, dui_o (by decide), f2]
      rw [f4, ct] at e6
      refine ⟨⟨t, ps, es, fun j hj => ?_, ⟨by omega, Nat.le_refl _, fun i i1 i2 => a8 i i1 (by omega), fun z => absurd z (Nat.lt_irrefl _)⟩, ?_, ?_, ?_, ?_, by omega⟩, fun j i h1 h2 => ?_⟩
      · have r9 : q6.1 9 j = qa.1 9 j := by rw [e6, dui_o (by decide), e4, dui_n (by omega), e2, dui_o (by decide)]
        have r10 : q6.1 10 j = qa.1 10 j := by rw [e6, dui_n (by omega), e4, dui_o (by decide), e2, dui_o (by decide)]
        have r11 : q6.1 11 j = qa.1 11 j := by rw [e6, dui_o (by decide), e4, dui_o (by decide), e2, dui_n (by omega)]
        rw [r9, r10, r11]; exact a6 j hj
      · rw [e6, dui_o (by decide), e4, dui_o (by decide), e2, dui_e]; exact hn
      · rw [e6, dui_o (by decide), e4, dui_e]; exact d0
      · rw [e6, dui_e]; exact d0
      · rw [e6, dui_o (by decide), f4]; exact a5
      · have c9 : ¬ j = 9 := fun z => h1 (Or.inl z)
        have c10 : ¬ j = 10 := fun z => h1 (Or.inr (Or.inl z))
        have c11 : ¬ j = 11 := fun z => h1 (Or.inr (Or.inr z))
        rw [e6, dui_o c10, e4, dui_o c9, e2, dui_o c11]; exact a9 j i h1 h2
    · have ev : Int32.toInt v8 = Int32.toInt (q.1 7 k) := by rw [e8, show Int32.toNatClampNeg x2 = k by omega, r7]
      have hbk := hB k (by omega)
      have tk : Int32.toInt (x2 + 1) = Int32.toInt x2 + 1 := ti_add rfl d1 (by omega) (by omega)
      refine dA_eq (fun _ c8 => hk7 (qa, x1, x2 + 1) ⟨rfl, t, k + 1, ps, es, by show Int32.toInt (x2 + 1) = _; omega, by omega, by omega, a5, a6, by omega, fun i i1 i2 => ?_, a9⟩) (fun _ c8 => ?_)
      · by_cases ci : i = k
        · rw [ci]; exact (tpR_eq hbk (by omega) (by omega)).mp (by omega)
        · exact a8 i i1 (by omega)
      · have hS : Sk B n (pn es t) k := ⟨a7, by omega, a8, fun _ z => c8 (by rw [ev]; exact ((tpR_eq hbk (by omega) (by omega)).mpr z).trans d32.symm)⟩
        have hBk : ∀ x : Int, 0 ≤ x → x ≤ 127 → (Int32.toInt v8 = x ↔ B k = x) := fun x h0 h1 => by rw [ev]; exact tpR_eq hbk h0 h1
        have hc1 : (97 ≤ Int32.toInt v8 ∧ Int32.toInt v8 ≤ 122) ↔ tkC (B k) = 1 := by
          rw [tkC_1, ev]
          unfold tpR at hbk
          omega
        have hc2 : (48 ≤ Int32.toInt v8 ∧ Int32.toInt v8 ≤ 57) ↔ tkC (B k) = 2 := by
          rw [tkC_2, ev]
          unfold tpR at hbk
          omega
        -- a token whose end is told
        have h100 : ∀ (x4 : Int32) (e : Nat), Int32.toInt x4 = (e : Int) → En B n k e → dAll (zX10_splits_100 (fun q x1 x2 => k7 (q, x1, x2)) qa x1 x2 v8 x4) (fun (o : dS) => (∃ (t : Nat) (ps es : Nat → Nat), LX B n o t ps es) ∧ ∀ j i : Nat, ¬ (j = 9 ∨ j = 10 ∨ j = 11) → ¬ (j = 0 ∧ i = 18) → o.1 j i = q.1 j i) := by
          intro x4 e h4 hE
          have hke : k < e ∧ e ≤ n := by
            rcases hE with z | z
            · omega
            · exact ⟨z.2.1, z.2.2.1⟩
          have hin : ∀ i : Nat, k ≤ i → i < e → tkC (B i) = tkC (B k) := by
            rcases hE with z | z
            · omega
            · exact z.2.2.2.2.1
          -- behind the code
          have h165 : ∀ (qc : dS) (y0 : Int32), (∀ j i : Nat, ¬ (j = 10 ∧ i = t) → ¬ (j = 11 ∧ i = t) → qc.1 j i = qa.1 j i) → Int32.toInt (qc.1 10 t) = 0 → Int32.toInt (qc.1 11 t) = (k : Int) → ((tkC (B k) = 1 ∧ wcd B k e (Int32.toInt y0)) ∨ (tkC (B k) = 2 ∧ Int32.toInt y0 = 50) ∨ (tkC (B k) = 3 ∧ Int32.toInt y0 = 100 + B k)) → ∀ (y1 : Int32), Int32.toInt y1 = (t : Int) → dAll (zX10_splits_165 (fun q x1 x2 => k7 (q, x1, x2)) qc x1 x2 v8 x4 y0 y1) (fun (o : dS) => (∃ (t : Nat) (ps es : Nat → Nat), LX B n o t ps es) ∧ ∀ j i : Nat, ¬ (j = 9 ∨ j = 10 ∨ j = 11) → ¬ (j = 0 ∧ i = 18) → o.1 j i = q.1 j i) := by
            intro qc y0 f g10 g11 hcode y1 hy1
            have n1 := cl_eq (i := y1) (by omega)
            unfold zX10_splits_165
            refine dA_G (fun hg => dA_L (fun q2 e2 => ?_))
            rw [show Int32.toNatClampNeg y1 = t by omega] at e2
            have f2 : ∀ j i : Nat, ¬ (j = 9 ∧ i = t) → ¬ (j = 10 ∧ i = t) → ¬ (j = 11 ∧ i = t) → q2.1 j i = qa.1 j i := by
              intro j i h9 h10 h11
              rw [e2]
              by_cases cj : j = 9
              · subst cj
                rw [dui_n (fun z => h9 ⟨rfl, z⟩)]; exact f 9 i h10 h11
              · rw [dui_o cj]; exact f j i h10 h11
            refine m_169 (B := B) q2 x1 v8 x4 x2 t k e (by rw [f2 0 18 (by omega) (by omega) (by omega)]; exact a5) (by omega) a2 h4 (by omega) (by omega) (fun i i1 i2 => ?_) ?_ (fun hdg i i1 i2 => ?_) (fun qb w1 w2 w3 w4 => ?_)
            · rw [f2 7 i (by omega) (by omega) (by omega), r7]; exact hB i (by omega)
            · rw [e2, dui_o (by decide)]; exact g10
            · exact (tkC_2 _).mp ((hin i i1 i2).trans (hc2.mp hdg))
            · refine hk7 (qb, x1, x4) ⟨rfl, t + 1, e, ext ps t k, ext es t e, h4, by omega, by omega, ?_, ?_, by rw [pn_s]; exact Nat.le_refl _, fun i i1 i2 => by rw [pn_s] at i1; omega, fun j i h1 h2 => ?_⟩
              · show Int32.toInt (qb.1 0 18) = _
                omega
              · refine LXc_ext (qa := qa) a6 (fun j hj => ?_) (fun j hj => ?_) (fun j hj => ?_) hS ?_ ⟨by omega, hE, ?_⟩
                · rw [w1 9 j (by omega) (by omega)]; exact f2 9 j (by omega) (by omega) (by omega)
                · rw [w1 10 j (by omega) (by omega)]; exact f2 10 j (by omega) (by omega) (by omega)
                · rw [w1 11 j (by omega) (by omega)]; exact f2 11 j (by omega) (by omega) (by omega)
                · rw [w1 11 t (by omega) (by omega), e2, dui_o (by decide)]; exact g11
                · have ec : qb.1 9 t = y0 := by rw [w1 9 t (by omega) (by omega), e2, dui_e]
                  rw [ec]
                  rcases hcode with z | z | z
                  · exact Or.inl ⟨z.1, z.2, w4 (fun y => by have := hc2.mp y; omega)⟩
                  · exact Or.inr (Or.inl ⟨z.1, z.2, w3 (hc2.mpr z.1)⟩)
                  · exact Or.inr (Or.inr ⟨z.1, z.2, w4 (fun y => by have := hc2.mp y; omega)⟩)
              · show qb.1 j i = _
                rw [w1 j i (fun z => h1 (Or.inr (Or.inl z.1))) h2, f2 j i (fun z => h1 (Or.inl z.1)) (fun z => h1 (Or.inr (Or.inl z.1))) (fun z => h1 (Or.inr (Or.inr z.1)))]
                exact a9 j i h1 h2
          unfold zX10_splits_100
          refine dA_G (fun _ => dA_L (fun q2 e2 => dA_G (fun _ => dA_L (fun q4 e4 => ?_))))
          rw [ct] at e2
          have f2 : q2.1 0 18 = qa.1 0 18 := by rw [e2, dui_o (by decide)]
          rw [f2, ct] at e4
          have f4 : ∀ j i : Nat, ¬ (j = 10 ∧ i = t) → ¬ (j = 11 ∧ i = t) → q4.1 j i = qa.1 j i := by
            intro j i h10 h11
            rw [e4]
            by_cases cj : j = 10
            · subst cj
              rw [dui_n (fun z => h10 ⟨rfl, z⟩), e2, dui_o (by decide)]
            · rw [dui_o cj, e2]
              by_cases cj2 : j = 11
              · subst cj2
                rw [dui_n (fun z => h11 ⟨rfl, z⟩)]
              · rw [dui_o cj2]
          have g10 : Int32.toInt (q4.1 10 t) = 0 := by rw [e4, dui_e]; exact d0
          have g11 : Int32.toInt (q4.1 11 t) = (k : Int) := by rw [e4, dui_o (by decide), e2, dui_e]; exact a2
          have g18 : Int32.toInt (q4.1 0 18) = (t : Int) := by rw [f4 0 18 (by omega) (by omega)]; exact a5
          refine dA_V (m_small v8) (fun r5 hr5 => dA_eq (fun _ c5 => dA_V (m_digit v8) (fun r7 hr7 => dA_eq (fun _ c7 => ?_) (fun _ c7 => ?_))) (fun _ c5 => ?_))
          · have n1 : ¬ tkC (B k) = 1 := fun z => by
              rcases hr5 with y | y
              · omega
              · exact y.2 (hc1.mpr z)
            have n2 : ¬ tkC (B k) = 2 := fun z => by
              rcases hr7 with y | y
              · omega
              · exact y.2 (hc2.mpr z)
            have c3 : tkC (B k) = 3 := by
              rcases tkC_r (B k) with z | z | z
              · exact absurd z n1
              · exact absurd z n2
              · exact z
            refine h165 q4 _ f4 g10 g11 (Or.inr (Or.inr ⟨c3, ?_⟩)) _ g18
            have hand : Int32.toInt (v8 &&& 255) = B k := by
              have z := and255_i v8
              rw [z, ev]
              unfold tpR at hbk
              omega
            exact ti_add d100 hand (by unfold tpR at hbk; omega) (by unfold tpR at hbk; omega)
          · have c2 : tkC (B k) = 2 := by
              rcases hr7 with y | y
              · exact hc2.mp y.2
              · omega
            exact h165 q4 _ f4 g10 g11 (Or.inr (Or.inl ⟨c2, d50⟩)) _ g18
          · have c1 : tkC (B k) = 1 := by
              rcases hr5 with y | y
              · exact hc1.mp y.2
              · omega
            refine dA_B (m_word (B := B) q4 x2 x4 k e (fun i i1 i2 => ?_) (fun i hi => ?_) a2 h4 (by omega) (by omega)) (fun r9 q11 z => ?_)
            · rw [f4 7 i (by omega) (by omega), r7]; exact hB i (by omega)
            · rw [f4 6 i (by omega) (by omega), r6]; exact hw i hi
            · obtain ⟨z1, z2⟩ := z
              replace z1 : q11 = q4 := z1
              subst z1
              exact h165 q11 r9 f4 g10 g11 (Or.inl ⟨c1, z2⟩) _ g18
        -- digits that follow
        have h68 : ∀ (x4 : Int32) (e : Nat), Int32.toInt x4 = (e : Int) → k < e → e ≤ n → (∀ i : Nat, k ≤ i → i < e → tkC (B i) = tkC (B k)) → (tkC (B k) = 1 → e < n → ¬ tkC (B e) = 1) → (¬ tkC (B k) = 1 → e = k + 1) → dAll (zX10_splits_68 (fun q x1 x2 => k7 (q, x1, x2)) qa x1 x2 v8 x4) (fun (o : dS) => (∃ (t : Nat) (ps es : Nat → Nat), LX B n o t ps es) ∧ ∀ j i : Nat, ¬ (j = 9 ∨ j = 10 ∨ j = 11) → ¬ (j = 0 ∧ i = 18) → o.1 j i = q.1 j i) := by
          intro x4 e h4 he1 he2 hin hn1 hn3
          unfold zX10_splits_68
          refine dA_V (m_digit v8) (fun r1 hr => dA_eq (fun _ c1 => h100 x4 e h4 (Or.inr ⟨by omega, he1, he2, fun z => hn3 (by omega), hin, fun z3 zn => ?_⟩)) (fun _ c1 => ?_))
          · rcases tkC_r (B k) with z | z | z
            · rw [z]; exact hn1 z zn
            · exfalso
              rcases hr with y | y
              · omega
              · exact y.2 (hc2.mpr z)
            · exact absurd z z3
          · have c2 : tkC (B k) = 2 := by
              rcases hr with y | y
              · exact hc2.mp y.2
              · omega
            unfold zX10_splits_75
            refine dA_fix (fun (b : dS × Int32 × Int32 × Int32 × Int32) => b.1 = qa ∧ b.2.1 = x1 ∧ b.2.2.1 = x2 ∧ b.2.2.2.1 = v8 ∧ ∃ f : Nat, Int32.toInt b.2.2.2.2 = (f : Int) ∧ k < f ∧ f ≤ n ∧ ∀ i : Nat, k ≤ i → i < f → tkC (B i) = tkC (B k)) ?_ dF _ ⟨rfl, rfl, rfl, rfl, e, h4, he1, he2, hin⟩
            intro k75 hk75 b hb
            obtain ⟨qb, y1, y2, y3, y4⟩ := b
            obtain ⟨b1, b2, b3, b4, f, b5, b6, b7, b8⟩ := hb
            replace b1 : qb = qa := b1
            replace b2 : y1 = x1 := b2
            replace b3 : y2 = x2 := b3
            replace b4 : y3 = v8 := b4
            replace b5 : Int32.toInt y4 = (f : Int) := b5
            subst b1 b2 b3 b4
            show dAll (zX10_splits_75b _ (fun q x1 x2 x3 x4 => k75 (q, x1, x2, x3, x4)) qb y1 y2 y3 y4) _
            unfold zX10_splits_75b
            refine dA_le (fun c => h100 y4 f b5 (Or.inr ⟨by omega, b6, b7, fun z => by omega, b8, fun _ z => by omega⟩)) (fun c => dA_G (fun _ => dA_L (fun v2 f2 => dA_V (m_digit v2) (fun r3 hr3 => ?_))))
            have n4 := cl_eq (i := y4) (by omega)
            have hbf := hB f (by omega)
            have ev2 : Int32.toInt v2 = Int32.toInt (q.1 7 f) := by rw [f2, show Int32.toNatClampNeg y4 = f by omega, r7]
            have hcf : (48 ≤ Int32.toInt v2 ∧ Int32.toInt v2 ≤ 57) ↔ tkC (B f) = 2 := by
              rw [tkC_2, ev2]
              unfold tpR at hbf
              omega
            have t4 : Int32.toInt (y4 + 1) = Int32.toInt y4 + 1 := ti_add rfl d1 (by omega) (by omega)
            refine dA_eq (fun _ c3 => h100 y4 f b5 (Or.inr ⟨by omega, b6, b7, fun z => by omega, b8, fun _ _ z => ?_⟩)) (fun _ c3 => hk75 (qb, y1, y2, y3, y4 + 1) ⟨rfl, rfl, rfl, rfl, f + 1, by show Int32.toInt (y4 + 1) = _; omega, by omega, by omega, fun i i1 i2 => ?_⟩)
            · rcases hr3 with y | y
              · omega
              · exact y.2 (hcf.mpr (z.trans c2))
            · by_cases ci : i = f
              · rw [ci, c2]
                rcases hr3 with y | y
                · exact hcf.mp y.2
                · omega
              · exact b8 i i1 (by omega)
        refine dA_V (m_small v8) (fun r9 hr9 => dA_eq (fun _ c9 => h68 (x2 + 1 : Int32) (k + 1) (by omega) (by omega) (by omega) (fun i i1 i2 => by rw [show i = k by omega]) (fun z => ?_) (fun _ => rfl)) (fun _ c9 => ?_))
        · exfalso
          rcases hr9 with y | y
          · omega
          · exact y.2 (hc1.mpr z)
        · have c1 : tkC (B k) = 1 := by
            rcases hr9 with y | y
            · exact hc1.mp y.2
            · omega
          unfold zX10_splits_43
          refine dA_fix (fun (b : dS × Int32 × Int32 × Int32 × Int32) => b.1 = qa ∧ b.2.1 = x1 ∧ b.2.2.1 = x2 ∧ b.2.2.2.1 = v8 ∧ ∃ f : Nat, Int32.toInt b.2.2.2.2 = (f : Int) ∧ k < f ∧ f ≤ n ∧ ∀ i : Nat, k ≤ i → i < f → tkC (B i) = tkC (B k)) ?_ dF _ ⟨rfl, rfl, rfl, rfl, k + 1, by show Int32.toInt (x2 + 1) = _; omega, by omega, by omega, fun i i1 i2 => by rw [show i = k by omega]⟩
          intro k43 hk43 b hb
          obtain ⟨qb, y1, y2, y3, y4⟩ := b
          obtain ⟨b1, b2, b3, b4, f, b5, b6, b7, b8⟩ := hb
          replace b1 : qb = qa := b1
          replace b2 : y1 = x1 := b2
          replace b3 : y2 = x2 := b3
          replace b4 : y3 = v8 := b4
          replace b5 : Int32.toInt y4 = (f : Int) := b5
          subst b1 b2 b3 b4
          show dAll (zX10_splits_43b _ (fun q x1 x2 x3 x4 => k43 (q, x1, x2, x3, x4)) qb y1 y2 y3 y4) _
          unfold zX10_splits_43b
          refine dA_le (fun c => h68 y4 f b5 b6 b7 b8 (fun _ z => by omega) (fun z => absurd c1 z)) (fun c => dA_G (fun _ => dA_L (fun v2 f2 => dA_V (m_small v2) (fun r3 hr3 => ?_))))
          have n4 := cl_eq (i := y4) (by omega)
          have hbf := hB f (by omega)
          have ev2 : Int32.toInt v2 = Int32.toInt (q.1 7 f) := by rw [f2, show Int32.toNatClampNeg y4 = f by omega, r7]
          have hcf : (97 ≤ Int32.toInt v2 ∧ Int32.toInt v2 ≤ 122) ↔ tkC (B f) = 1 := by
            rw [tkC_1, ev2]
            unfold tpR at hbf
            omega
          have t4 : Int32.toInt (y4 + 1) = Int32.toInt y4 + 1 := ti_add rfl d1 (by omega) (by omega)
          refine dA_eq (fun _ c3 => h68 y4 f b5 b6 b7 b8 (fun _ _ z => ?_) (fun z => absurd c1 z)) (fun _ c3 => hk43 (qb, y1, y2, y3, y4 + 1) ⟨rfl, rfl, rfl, rfl, f + 1, by show Int32.toInt (y4 + 1) = _; omega, by omega, by omega, fun i i1 i2 => ?_⟩)
          · rcases hr3 with y | y
            · omega
            · exact y.2 (hcf.mpr z)
          · by_cases ci : i = f
            · rw [ci, c1]
              rcases hr3 with y | y
              · exact hcf.mp y.2
              · omega
            · exact b8 i i1 (by omega)
  · show q1.1 j i = _
    rw [e1]
    by_cases cj : j = 0
    · subst cj
      exact dui_n (fun z => h2 ⟨rfl, z⟩)
    · rw [dui_o cj]
