/-! words: 1 pays .. 26 times -/
def wdL (w : Nat) : List Int := match w with
  | 1 => [112, 97, 121, 115]
  | 2 => [98, 97, 114, 115]
  | 3 => [116, 105, 112, 115]
  | 4 => [105, 102]
  | 5 => [111, 114]
  | 6 => [97, 110, 100]
  | 7 => [110, 111, 116]
  | 8 => [103, 114, 105, 112]
  | 9 => [116, 111, 112]
  | 10 => [110, 101, 120, 116]
  | 11 => [102, 108, 111, 111, 114, 115]
  | 12 => [114, 97, 110, 107]
  | 13 => [112, 108, 97, 99, 101]
  | 14 => [109, 111, 111, 100]
  | 15 => [104, 101, 97, 100]
  | 16 => [121, 101, 97, 114]
  | 17 => [100, 111, 110, 101]
  | 18 => [108, 97, 116, 101, 115, 116]
  | 19 => [112, 97, 105, 100]
  | 20 => [103, 97, 112, 115]
  | 21 => [97, 116]
  | 22 => [116, 117, 114, 110]
  | 23 => [114, 105, 103, 104, 116]
  | 24 => [115, 119, 97, 112]
  | 25 => [112, 97, 115, 115]
  | 26 => [116, 105, 109, 101, 115]
  | _ => []
def isW (B : Nat → Int) (s e w : Nat) : Prop := e = s + (wdL w).length ∧ ∀ i : Nat, i < (wdL w).length → B (s + i) = (wdL w).getD i 0
theorem wd_n0 : ∀ w : Nat, w < 27 → ∀ v : Nat, v < 27 → w = 0 ∨ v = 0 ∨ w = v ∨ ¬ wdL w = wdL v := by decide +kernel
theorem wd_ne (w : Nat) (h : w < 27) (v : Nat) (k : v < 27) (h1 : 1 ≤ w) (k1 : 1 ≤ v) (hn : ¬ w = v) : ¬ wdL w = wdL v := by
  rcases wd_n0 w h v k with z | z | z | z
  · omega
  · omega
  · exact absurd z hn
  · exact z
theorem wd_len : ∀ w : Nat, w < 27 → (wdL w).length ≤ 6 ∧ (1 ≤ w → 1 ≤ (wdL w).length) := by decide +kernel
/-- a token is one word at most -/
theorem isW_u {B : Nat → Int} {s e w v : Nat} (h1 : 1 ≤ w) (h2 : w ≤ 26) (k1 : 1 ≤ v) (k2 : v ≤ 26) (h : isW B s e w) (k : isW B s e v) : w = v := by
  by_cases c : w = v
  · exact c
  · refine absurd ?_ (wd_ne w (by omega) v (by omega) h1 k1 c)
    have hl : (wdL w).length = (wdL v).length := by have := h.1; have := k.1; omega
    apply List.ext_getElem hl
    intro i i1 i2
    have a := h.2 i i1
    have b := k.2 i i2
    rw [List.getD_eq_getElem?_getD, List.getElem?_eq_getElem i1] at a
    rw [List.getD_eq_getElem?_getD, List.getElem?_eq_getElem i2] at b
    exact a.symm.trans b
/-- the class's texts, as numbers -/
def cw (t i : Nat) : Int := Int32.toInt ((kzByt.getD t []).getD i 0)
theorem chV_i {t : Nat} {x : Int32} {i : Nat} (h : Int32.toInt x = (i : Int)) : Int32.toInt (chV t x) = cw t i := by
  have n := cl_eq (i := x) (by omega)
  unfold chV cw
  rw [show Int32.toNatClampNeg x = i by omega]
/-- a sign at hand -/
def sgA (B : Nat → Int) (n s : Nat) (tk : Int) (c : Int) : Prop := tk = 3 ∧ s < n ∧ B s = c
theorem sg_is {B : Nat → Int} (q : dK) (p1 : Int32) (n s : Nat) (hB : ∀ i : Nat, Int32.toInt (q.1 46 i) = B i) (h1 : Int32.toInt (q.1 24 1) = (n : Int)) (h5 : Int32.toInt (q.1 24 5) = (s : Int)) :
    dAll (zX4_isSign_s24 q p1) (fun (o : Int32 × dK) => o.2 = q ∧ ((Int32.toInt o.1 = 1 ∧ sgA B n s (Int32.toInt (q.1 24 4)) (Int32.toInt p1)) ∨ (Int32.toInt o.1 = 0 ∧ ¬ sgA B n s (Int32.toInt (q.1 24 4)) (Int32.toInt p1)))) := by
  have d3 : Int32.toInt 3 = 3 := by decide
  have d0 : Int32.toInt 0 = 0 := by decide
  have d1 : Int32.toInt 1 = 1 := by decide
  unfold zX4_isSign_s24 zX4_isSign_s24_36 zX4_isSign_s24_37
  refine dA_eq (fun _ c => dA_le (fun c2 => dA_G (fun _ => dA_some ⟨rfl, Or.inr ⟨d0, ?_⟩⟩)) (fun c2 => dA_G (fun _ => dA_G (fun hg => dA_L (fun v3 e3 => ?_))))) (fun _ c => dA_G (fun _ => dA_some ⟨rfl, Or.inr ⟨d0, ?_⟩⟩))
  · intro z
    have := z.2.1
    omega
  · have n5 := cl_eq (i := q.1 24 5) (by omega)
    have ev : Int32.toInt v3 = B s := by rw [e3, hB, show Int32.toNatClampNeg (q.1 24 5) = s by omega]
    refine dA_eq (fun _ c5 => dA_G (fun _ => dA_some ⟨rfl, Or.inl ⟨d1, by omega, by omega, by omega⟩⟩)) (fun _ c5 => dA_G (fun _ => dA_some ⟨rfl, Or.inr ⟨d0, ?_⟩⟩))
    intro z
    have := z.2.2
    omega
  · intro z
    have := z.1
    omega
/-- bytes that are as a piece of a text -/
def smW (B : Nat → Int) (s e t f l : Nat) : Prop := e = s + l ∧ ∀ i : Nat, i < l → B (s + i) = cw t (f + i)
theorem sm_6 {B : Nat → Int} (q : dK) (p2 p3 : Int32) (s e f l : Nat) (hB : ∀ i : Nat, Int32.toInt (q.1 46 i) = B i) (h5 : Int32.toInt (q.1 24 5) = (s : Int)) (h6 : Int32.toInt (q.1 24 6) = (e : Int)) (hse : s ≤ e) (he : e ≤ 400) (hf : Int32.toInt p2 = (f : Int)) (hl : Int32.toInt p3 = ((f + l : Nat) : Int)) (hL : f + l ≤ 5) :
    dAll (zX4_isSame_s24_t6 q p2 p3) (fun (o : Int32 × dK) => o.2 = q ∧ ((Int32.toInt o.1 = 1 ∧ smW B s e 6 f l) ∨ (Int32.toInt o.1 = 0 ∧ ¬ smW B s e 6 f l))) := by
  have d0 : Int32.toInt 0 = 0 := by decide
  have d1 : Int32.toInt 1 = 1 := by decide
  have t1 : Int32.toInt (p3 - p2) = (l : Int) := by rw [ti_sub hl hf (by omega) (by omega)]; omega
  have t2 : Int32.toInt ((q.1 24 6) - (q.1 24 5)) = (e : Int) - (s : Int) := ti_sub h6 h5 (by omega) (by omega)
  unfold zX4_isSame_s24_t6
  refine dA_eq (fun _ c => ?_) (fun _ c => dA_some ⟨rfl, Or.inr ⟨d0, fun z => by have := z.1; omega⟩⟩)
  have hel : e = s + l := by omega
  unfold zX4_isSame_s24_t6_20
  refine dA_fix (fun (a : dK × Int32 × Int32 × Int32) => a.1 = q ∧ a.2.1 = p2 ∧ a.2.2.1 = p3 ∧ ∃ m : Nat, m ≤ l ∧ Int32.toInt a.2.2.2 = ((f + m : Nat) : Int) ∧ ∀ i : Nat, i < m → B (s + i) = cw 6 (f + i)) ?_ dF _ ⟨rfl, rfl, rfl, 0, Nat.zero_le _, by show Int32.toInt p2 = _; rw [hf]; rfl, fun i hi => absurd hi (Nat.not_lt_zero i)⟩
  intro k hk a ha
  obtain ⟨qa, x2, x3, x4⟩ := a
  obtain ⟨a1, a2, a3, m, a4, a5, a6⟩ := ha
  replace a1 : qa = q := a1
  replace a2 : x2 = p2 := a2
  replace a3 : x3 = p3 := a3
  replace a5 : Int32.toInt x4 = ((f + m : Nat) : Int) := a5
  subst a1 a2 a3
  show dAll (zX4_isSame_s24_t6_20b (fun q x2 x3 x4 => k (q, x2, x3, x4)) qa x2 x3 x4) _
  unfold zX4_isSame_s24_t6_20b
  refine dA_le (fun c9 => dA_some ⟨rfl, Or.inl ⟨d1, hel, fun i hi => a6 i (by omega)⟩⟩) (fun c9 => dA_G (fun _ => dA_L (fun v2 e2 => dA_G (fun _ => dA_G (fun hg => dA_L (fun v5 e5 => ?_))))))
  have ta : Int32.toInt ((qa.1 24 5) + x4) = (s : Int) + ((f + m : Nat) : Int) := ti_add h5 a5 (by omega) (by omega)
  have ts : Int32.toInt (((qa.1 24 5) + x4) - x2) = ((s + m : Nat) : Int) := by rw [ti_sub ta hf (by omega) (by omega)]; omega
  have nx := cl_eq (i := ((qa.1 24 5) + x4) - x2) (by omega)
  have ev2 : Int32.toInt v2 = cw 6 (f + m) := by rw [e2]; exact chV_i a5
  have ev5 : Int32.toInt v5 = B (s + m) := by rw [e5, hB, show Int32.toNatClampNeg (((qa.1 24 5) + x4) - x2) = s + m by omega]
  refine dA_eq (fun _ c5 => ?_) (fun _ c5 => dA_some ⟨rfl, Or.inr ⟨d0, fun z => ?_⟩⟩)
  · have t4 : Int32.toInt (x4 + 1) = Int32.toInt x4 + 1 := ti_add rfl d1 (by omega) (by omega)
    refine hk (qa, x2, x3, x4 + 1) ⟨rfl, rfl, rfl, m + 1, by omega, ?_, fun i hi => ?_⟩
    · show Int32.toInt (x4 + 1) = _
      omega
    · by_cases ci : i = m
      · rw [ci, ← ev5, ← ev2]; exact c5.symm
      · exact a6 i (by omega)
  · have := z.2 m (by omega)
    omega
theorem smw_6 {B : Nat → Int} {s e : Nat} : smW B s e 6 0 5 ↔ isW B s e 26 := by
  have h : ∀ i : Nat, i < 5 → cw 6 (0 + i) = (wdL 26).getD i 0 := by decide +kernel
  exact ⟨fun z => ⟨z.1, fun i hi => (z.2 i hi).trans (h i hi)⟩, fun z => ⟨z.1, fun i hi => (z.2 i hi).trans (h i hi).symm⟩⟩
theorem wd_6 {B : Nat → Int} (q : dK) (s e : Nat) (hB : ∀ i : Nat, Int32.toInt (q.1 46 i) = B i) (h5 : Int32.toInt (q.1 24 5) = (s : Int)) (h6 : Int32.toInt (q.1 24 6) = (e : Int)) (hse : s ≤ e) (he : e ≤ 400) :
    dAll (zX4_isWord_s24_t6 q) (fun (o : Int32 × dK) => o.2 = q ∧ ((Int32.toInt o.1 = 1 ∧ Int32.toInt (q.1 24 4) = 1 ∧ isW B s e 26) ∨ (Int32.toInt o.1 = 0 ∧ ¬ (Int32.toInt (q.1 24 4) = 1 ∧ isW B s e 26)))) := by
  have d0 : Int32.toInt 0 = 0 := by decide
  have d1 : Int32.toInt 1 = 1 := by decide
  unfold zX4_isWord_s24_t6 zX4_isWord_s24_t6_25 zX4_isWord_s24_t6_26
  refine dA_eq (fun _ c => dA_B (sm_6 q 0 5 s e 0 5 hB h5 h6 hse he d0 (by decide) (by decide)) (fun r1 q3 z => ?_)) (fun _ c => dA_G (fun _ => dA_some ⟨rfl, Or.inr ⟨d0, fun z => c (z.1.trans d1.symm)⟩⟩))
  obtain ⟨z1, z2⟩ := z
  replace z1 : q3 = q := z1
  replace z2 : (Int32.toInt r1 = 1 ∧ smW B s e 6 0 5) ∨ (Int32.toInt r1 = 0 ∧ ¬ smW B s e 6 0 5) := z2
  subst z1
  refine dA_eq (fun _ c5 => dA_G (fun _ => dA_some ⟨rfl, Or.inr ⟨d0, fun y => ?_⟩⟩)) (fun _ c5 => dA_G (fun _ => dA_some ⟨rfl, Or.inl ⟨d1, c.trans d1, ?_⟩⟩))
  · rcases z2 with z2 | z2
    · omega
    · exact z2.2 (smw_6.mpr y.2)
  · rcases z2 with z2 | z2
    · exact smw_6.mp z2.2
    · omega

theorem sm_7 {B : Nat → Int} (q : dK) (p2 p3 : Int32) (s e f l : Nat) (hB : ∀ i : Nat, Int32.toInt (q.1 46 i) = B i) (h5 : Int32.toInt (q.1 24 5) = (s : Int)) (h6 : Int32.toInt (q.1 24 6) = (e : Int)) (hse : s ≤ e) (he : e ≤ 400) (hf : Int32.toInt p2 = (f : Int)) (hl : Int32.toInt p3 = ((f + l : Nat) : Int)) (hL : f + l ≤ 2) :
    dAll (zX4_isSame_s24_t7 q p2 p3) (fun (o : Int32 × dK) => o.2 = q ∧ ((Int32.toInt o.1 = 1 ∧ smW B s e 7 f l) ∨ (Int32.toInt o.1 = 0 ∧ ¬ smW B s e 7 f l))) := by
  have d0 : Int32.toInt 0 = 0 := by decide
  have d1 : Int32.toInt 1 = 1 := by decide
  have t1 : Int32.toInt (p3 - p2) = (l : Int) := by rw [ti_sub hl hf (by omega) (by omega)]; omega
  have t2 : Int32.toInt ((q.1 24 6) - (q.1 24 5)) = (e : Int) - (s : Int) := ti_sub h6 h5 (by omega) (by omega)
  unfold zX4_isSame_s24_t7
  refine dA_eq (fun _ c => ?_) (fun _ c => dA_some ⟨rfl, Or.inr ⟨d0, fun z => by have := z.1; omega⟩⟩)
  have hel : e = s + l := by omega
  unfold zX4_isSame_s24_t7_20
  refine dA_fix (fun (a : dK × Int32 × Int32 × Int32) => a.1 = q ∧ a.2.1 = p2 ∧ a.2.2.1 = p3 ∧ ∃ m : Nat, m ≤ l ∧ Int32.toInt a.2.2.2 = ((f + m : Nat) : Int) ∧ ∀ i : Nat, i < m → B (s + i) = cw 7 (f + i)) ?_ dF _ ⟨rfl, rfl, rfl, 0, Nat.zero_le _, by show Int32.toInt p2 = _; rw [hf]; rfl, fun i hi => absurd hi (Nat.not_lt_zero i)⟩
  intro k hk a ha
  obtain ⟨qa, x2, x3, x4⟩ := a
  obtain ⟨a1, a2, a3, m, a4, a5, a6⟩ := ha
  replace a1 : qa = q := a1
  replace a2 : x2 = p2 := a2
  replace a3 : x3 = p3 := a3
  replace a5 : Int32.toInt x4 = ((f + m : Nat) : Int) := a5
  subst a1 a2 a3
  show dAll (zX4_isSame_s24_t7_20b (fun q x2 x3 x4 => k (q, x2, x3, x4)) qa x2 x3 x4) _
  unfold zX4_isSame_s24_t7_20b
  refine dA_le (fun c9 => dA_some ⟨rfl, Or.inl ⟨d1, hel, fun i hi => a6 i (by omega)⟩⟩) (fun c9 => dA_G (fun _ => dA_L (fun v2 e2 => dA_G (fun _ => dA_G (fun hg => dA_L (fun v5 e5 => ?_))))))
  have ta : Int32.toInt ((qa.1 24 5) + x4) = (s : Int) + ((f + m : Nat) : Int) := ti_add h5 a5 (by omega) (by omega)
  have ts : Int32.toInt (((qa.1 24 5) + x4) - x2) = ((s + m : Nat) : Int) := by rw [ti_sub ta hf (by omega) (by omega)]; omega
  have nx := cl_eq (i := ((qa.1 24 5) + x4) - x2) (by omega)
  have ev2 : Int32.toInt v2 = cw 7 (f + m) := by rw [e2]; exact chV_i a5
  have ev5 : Int32.toInt v5 = B (s + m) := by rw [e5, hB, show Int32.toNatClampNeg (((qa.1 24 5) + x4) - x2) = s + m by omega]
  refine dA_eq (fun _ c5 => ?_) (fun _ c5 => dA_some ⟨rfl, Or.inr ⟨d0, fun z => ?_⟩⟩)
  · have t4 : Int32.toInt (x4 + 1) = Int32.toInt x4 + 1 := ti_add rfl d1 (by omega) (by omega)
    refine hk (qa, x2, x3, x4 + 1) ⟨rfl, rfl, rfl, m + 1, by omega, ?_, fun i hi => ?_⟩
    · show Int32.toInt (x4 + 1) = _
      omega
    · by_cases ci : i = m
      · rw [ci, ← ev5, ← ev2]; exact c5.symm
      · exact a6 i (by omega)
  · have := z.2 m (by omega)
    omega
theorem smw_7 {B : Nat → Int} {s e : Nat} : smW B s e 7 0 2 ↔ isW B s e 4 := by
  have h : ∀ i : Nat, i < 2 → cw 7 (0 + i) = (wdL 4).getD i 0 := by decide +kernel
  exact ⟨fun z => ⟨z.1, fun i hi => (z.2 i hi).trans (h i hi)⟩, fun z => ⟨z.1, fun i hi => (z.2 i hi).trans (h i hi).symm⟩⟩
theorem wd_7 {B : Nat → Int} (q : dK) (s e : Nat) (hB : ∀ i : Nat, Int32.toInt (q.1 46 i) = B i) (h5 : Int32.toInt (q.1 24 5) = (s : Int)) (h6 : Int32.toInt (q.1 24 6) = (e : Int)) (hse : s ≤ e) (he : e ≤ 400) :
    dAll (zX4_isWord_s24_t7 q) (fun (o : Int32 × dK) => o.2 = q ∧ ((Int32.toInt o.1 = 1 ∧ Int32.toInt (q.1 24 4) = 1 ∧ isW B s e 4) ∨ (Int32.toInt o.1 = 0 ∧ ¬ (Int32.toInt (q.1 24 4) = 1 ∧ isW B s e 4)))) := by
  have d0 : Int32.toInt 0 = 0 := by decide
  have d1 : Int32.toInt 1 = 1 := by decide
  unfold zX4_isWord_s24_t7 zX4_isWord_s24_t7_25 zX4_isWord_s24_t7_26
  refine dA_eq (fun _ c => dA_B (sm_7 q 0 2 s e 0 2 hB h5 h6 hse he d0 (by decide) (by decide)) (fun r1 q3 z => ?_)) (fun _ c => dA_G (fun _ => dA_some ⟨rfl, Or.inr ⟨d0, fun z => c (z.1.trans d1.symm)⟩⟩))
  obtain ⟨z1, z2⟩ := z
  replace z1 : q3 = q := z1
  replace z2 : (Int32.toInt r1 = 1 ∧ smW B s e 7 0 2) ∨ (Int32.toInt r1 = 0 ∧ ¬ smW B s e 7 0 2) := z2
  subst z1
  refine dA_eq (fun _ c5 => dA_G (fun _ => dA_some ⟨rfl, Or.inr ⟨d0, fun y => ?_⟩⟩)) (fun _ c5 => dA_G (fun _ => dA_some ⟨rfl, Or.inl ⟨d1, c.trans d1, ?_⟩⟩))
  · rcases z2 with z2 | z2
    · omega
    · exact z2.2 (smw_7.mpr y.2)
  · rcases z2 with z2 | z2
    · exact smw_7.mp z2.2
    · omega

theorem sm_8 {B : Nat → Int} (q : dK) (p2 p3 : Int32) (s e f l : Nat) (hB : ∀ i : Nat, Int32.toInt (q.1 46 i) = B i) (h5 : Int32.toInt (q.1 24 5) = (s : Int)) (h6 : Int32.toInt (q.1 24 6) = (e : Int)) (hse : s ≤ e) (he : e ≤ 400) (hf : Int32.toInt p2 = (f : Int)) (hl : Int32.toInt p3 = ((f + l : Nat) : Int)) (hL : f + l ≤ 3) :
    dAll (zX4_isSame_s24_t8 q p2 p3) (fun (o : Int32 × dK) => o.2 = q ∧ ((Int32.toInt o.1 = 1 ∧ smW B s e 8 f l) ∨ (Int32.toInt o.1 = 0 ∧ ¬ smW B s e 8 f l))) := by
  have d0 : Int32.toInt 0 = 0 := by decide
  have d1 : Int32.toInt 1 = 1 := by decide
  have t1 : Int32.toInt (p3 - p2) = (l : Int) := by rw [ti_sub hl hf (by omega) (by omega)]; omega
  have t2 : Int32.toInt ((q.1 24 6) - (q.1 24 5)) = (e : Int) - (s : Int) := ti_sub h6 h5 (by omega) (by omega)
  unfold zX4_isSame_s24_t8
  refine dA_eq (fun _ c => ?_) (fun _ c => dA_some ⟨rfl, Or.inr ⟨d0, fun z => by have := z.1; omega⟩⟩)
  have hel : e = s + l := by omega
  unfold zX4_isSame_s24_t8_20
  refine dA_fix (fun (a : dK × Int32 × Int32 × Int32) => a.1 = q ∧ a.2.1 = p2 ∧ a.2.2.1 = p3 ∧ ∃ m : Nat, m ≤ l ∧ Int32.toInt a.2.2.2 = ((f + m : Nat) : Int) ∧ ∀ i : Nat, i < m → B (s + i) = cw 8 (f + i)) ?_ dF _ ⟨rfl, rfl, rfl, 0, Nat.zero_le _, by show Int32.toInt p2 = _; rw [hf]; rfl, fun i hi => absurd hi (Nat.not_lt_zero i)⟩
  intro k hk a ha
  obtain ⟨qa, x2, x3, x4⟩ := a
  obtain ⟨a1, a2, a3, m, a4, a5, a6⟩ := ha
  replace a1 : qa = q := a1
  replace a2 : x2 = p2 := a2
  replace a3 : x3 = p3 := a3
  replace a5 : Int32.toInt x4 = ((f + m : Nat) : Int) := a5
  subst a1 a2 a3
  show dAll (zX4_isSame_s24_t8_20b (fun q x2 x3 x4 => k (q, x2, x3, x4)) qa x2 x3 x4) _
  unfold zX4_isSame_s24_t8_20b
  refine dA_le (fun c9 => dA_some ⟨rfl, Or.inl ⟨d1, hel, fun i hi => a6 i (by omega)⟩⟩) (fun c9 => dA_G (fun _ => dA_L (fun v2 e2 => dA_G (fun _ => dA_G (fun hg => dA_L (fun v5 e5 => ?_))))))
  have ta : Int32.toInt ((qa.1 24 5) + x4) = (s : Int) + ((f + m : Nat) : Int) := ti_add h5 a5 (by omega) (by omega)
  have ts : Int32.toInt (((qa.1 24 5) + x4) - x2) = ((s + m : Nat) : Int) := by rw [ti_sub ta hf (by omega) (by omega)]; omega
  have nx := cl_eq (i := ((qa.1 24 5) + x4) - x2) (by omega)
  have ev2 : Int32.toInt v2 = cw 8 (f + m) := by rw [e2]; exact chV_i a5
  have ev5 : Int32.toInt v5 = B (s + m) := by rw [e5, hB, show Int32.toNatClampNeg (((qa.1 24 5) + x4) - x2) = s + m by omega]
  refine dA_eq (fun _ c5 => ?_) (fun _ c5 => dA_some ⟨rfl, Or.inr ⟨d0, fun z => ?_⟩⟩)
  · have t4 : Int32.toInt (x4 + 1) = Int32.toInt x4 + 1 := ti_add rfl d1 (by omega) (by omega)
    refine hk (qa, x2, x3, x4 + 1) ⟨rfl, rfl, rfl, m + 1, by omega, ?_, fun i hi => ?_⟩
    · show Int32.toInt (x4 + 1) = _
      omega
    · by_cases ci : i = m
      · rw [ci, ← ev5, ← ev2]; exact c5.symm
      · exact a6 i (by omega)
  · have := z.2 m (by omega)
    omega
theorem smw_8 {B : Nat → Int} {s e : Nat} : smW B s e 8 0 3 ↔ isW B s e 7 := by
  have h : ∀ i : Nat, i < 3 → cw 8 (0 + i) = (wdL 7).getD i 0 := by decide +kernel
  exact ⟨fun z => ⟨z.1, fun i hi => (z.2 i hi).trans (h i hi)⟩, fun z => ⟨z.1, fun i hi => (z.2 i hi).trans (h i hi).symm⟩⟩
theorem wd_8 {B : Nat → Int} (q : dK) (s e : Nat) (hB : ∀ i : Nat, Int32.toInt (q.1 46 i) = B i) (h5 : Int32.toInt (q.1 24 5) = (s : Int)) (h6 : Int32.toInt (q.1 24 6) = (e : Int)) (hse : s ≤ e) (he : e ≤ 400) :
    dAll (zX4_isWord_s24_t8 q) (fun (o : Int32 × dK) => o.2 = q ∧ ((Int32.toInt o.1 = 1 ∧ Int32.toInt (q.1 24 4) = 1 ∧ isW B s e 7) ∨ (Int32.toInt o.1 = 0 ∧ ¬ (Int32.toInt (q.1 24 4) = 1 ∧ isW B s e 7)))) := by
  have d0 : Int32.toInt 0 = 0 := by decide
  have d1 : Int32.toInt 1 = 1 := by decide
  unfold zX4_isWord_s24_t8 zX4_isWord_s24_t8_25 zX4_isWord_s24_t8_26
  refine dA_eq (fun _ c => dA_B (sm_8 q 0 3 s e 0 3 hB h5 h6 hse he d0 (by decide) (by decide)) (fun r1 q3 z => ?_)) (fun _ c => dA_G (fun _ => dA_some ⟨rfl, Or.inr ⟨d0, fun z => c (z.1.trans d1.symm)⟩⟩))
  obtain ⟨z1, z2⟩ := z
  replace z1 : q3 = q := z1
  replace z2 : (Int32.toInt r1 = 1 ∧ smW B s e 8 0 3) ∨ (Int32.toInt r1 = 0 ∧ ¬ smW B s e 8 0 3) := z2
  subst z1
  refine dA_eq (fun _ c5 => dA_G (fun _ => dA_some ⟨rfl, Or.inr ⟨d0, fun y => ?_⟩⟩)) (fun _ c5 => dA_G (fun _ => dA_some ⟨rfl, Or.inl ⟨d1, c.trans d1, ?_⟩⟩))
  · rcases z2 with z2 | z2
    · omega
    · exact z2.2 (smw_8.mpr y.2)
  · rcases z2 with z2 | z2
    · exact smw_8.mp z2.2
    · omega

theorem sm_10 {B : Nat → Int} (q : dK) (p2 p3 : Int32) (s e f l : Nat) (hB : ∀ i : Nat, Int32.toInt (q.1 46 i) = B i) (h5 : Int32.toInt (q.1 24 5) = (s : Int)) (h6 : Int32.toInt (q.1 24 6) = (e : Int)) (hse : s ≤ e) (he : e ≤ 400) (hf : Int32.toInt p2 = (f : Int)) (hl : Int32.toInt p3 = ((f + l : Nat) : Int)) (hL : f + l ≤ 3) :
    dAll (zX4_isSame_s24_t10 q p2 p3) (fun (o : Int32 × dK) => o.2 = q ∧ ((Int32.toInt o.1 = 1 ∧ smW B s e 10 f l) ∨ (Int32.toInt o.1 = 0 ∧ ¬ smW B s e 10 f l))) := by
  have d0 : Int32.toInt 0 = 0 := by decide
  have d1 : Int32.toInt 1 = 1 := by decide
  have t1 : Int32.toInt (p3 - p2) = (l : Int) := by rw [ti_sub hl hf (by omega) (by omega)]; omega
  have t2 : Int32.toInt ((q.1 24 6) - (q.1 24 5)) = (e : Int) - (s : Int) := ti_sub h6 h5 (by omega) (by omega)
  unfold zX4_isSame_s24_t10
  refine dA_eq (fun _ c => ?_) (fun _ c => dA_some ⟨rfl, Or.inr ⟨d0, fun z => by have := z.1; omega⟩⟩)
  have hel : e = s + l := by omega
  unfold zX4_isSame_s24_t10_20
  refine dA_fix (fun (a : dK × Int32 × Int32 × Int32) => a.1 = q ∧ a.2.1 = p2 ∧ a.2.2.1 = p3 ∧ ∃ m : Nat, m ≤ l ∧ Int32.toInt a.2.2.2 = ((f + m : Nat) : Int) ∧ ∀ i : Nat, i < m → B (s + i) = cw 10 (f + i)) ?_ dF _ ⟨rfl, rfl, rfl, 0, Nat.zero_le _, by show Int32.toInt p2 = _; rw [hf]; rfl, fun i hi => absurd hi (Nat.not_lt_zero i)⟩
  intro k hk a ha
  obtain ⟨qa, x2, x3, x4⟩ := a
  obtain ⟨a1, a2, a3, m, a4, a5, a6⟩ := ha
  replace a1 : qa = q := a1
  replace a2 : x2 = p2 := a2
  replace a3 : x3 = p3 := a3
  replace a5 : Int32.toInt x4 = ((f + m : Nat) : Int) := a5
  subst a1 a2 a3
  show dAll (zX4_isSame_s24_t10_20b (fun q x2 x3 x4 => k (q, x2, x3, x4)) qa x2 x3 x4) _
  unfold zX4_isSame_s24_t10_20b
  refine dA_le (fun c9 => dA_some ⟨rfl, Or.inl ⟨d1, hel, fun i hi => a6 i (by omega)⟩⟩) (fun c9 => dA_G (fun _ => dA_L (fun v2 e2 => dA_G (fun _ => dA_G (fun hg => dA_L (fun v5 e5 => ?_))))))
  have ta : Int32.toInt ((qa.1 24 5) + x4) = (s : Int) + ((f + m : Nat) : Int) := ti_add h5 a5 (by omega) (by omega)
  have ts : Int32.toInt (((qa.1 24 5) + x4) - x2) = ((s + m : Nat) : Int) := by rw [ti_sub ta hf (by omega) (by omega)]; omega
  have nx := cl_eq (i := ((qa.1 24 5) + x4) - x2) (by omega)
  have ev2 : Int32.toInt v2 = cw 10 (f + m) := by rw [e2]; exact chV_i a5
  have ev5 : Int32.toInt v5 = B (s + m) := by rw [e5, hB, show Int32.toNatClampNeg (((qa.1 24 5) + x4) - x2) = s + m by omega]
  refine dA_eq (fun _ c5 => ?_) (fun _ c5 => dA_some ⟨rfl, Or.inr ⟨d0, fun z => ?_⟩⟩)
  · have t4 : Int32.toInt (x4 + 1) = Int32.toInt x4 + 1 := ti_add rfl d1 (by omega) (by omega)
    refine hk (qa, x2, x3, x4 + 1) ⟨rfl, rfl, rfl, m + 1, by omega, ?_, fun i hi => ?_⟩
    · show Int32.toInt (x4 + 1) = _
      omega
    · by_cases ci : i = m
      · rw [ci, ← ev5, ← ev2]; exact c5.symm
      · exact a6 i (by omega)
  · have := z.2 m (by omega)
    omega
theorem smw_10 {B : Nat → Int} {s e : Nat} : smW B s e 10 0 3 ↔ isW B s e 6 := by
  have h : ∀ i : Nat, i < 3 → cw 10 (0 + i) = (wdL 6).getD i 0 := by decide +kernel
  exact ⟨fun z => ⟨z.1, fun i hi => (z.2 i hi).trans (h i hi)⟩, fun z => ⟨z.1, fun i hi => (z.2 i hi).trans (h i hi).symm⟩⟩
theorem wd_10 {B : Nat → Int} (q : dK) (s e : Nat) (hB : ∀ i : Nat, Int32.toInt (q.1 46 i) = B i) (h5 : Int32.toInt (q.1 24 5) = (s : Int)) (h6 : Int32.toInt (q.1 24 6) = (e : Int)) (hse : s ≤ e) (he : e ≤ 400) :
    dAll (zX4_isWord_s24_t10 q) (fun (o : Int32 × dK) => o.2 = q ∧ ((Int32.toInt o.1 = 1 ∧ Int32.toInt (q.1 24 4) = 1 ∧ isW B s e 6) ∨ (Int32.toInt o.1 = 0 ∧ ¬ (Int32.toInt (q.1 24 4) = 1 ∧ isW B s e 6)))) := by
  have d0 : Int32.toInt 0 = 0 := by decide
  have d1 : Int32.toInt 1 = 1 := by decide
  unfold zX4_isWord_s24_t10 zX4_isWord_s24_t10_25 zX4_isWord_s24_t10_26
  refine dA_eq (fun _ c => dA_B (sm_10 q 0 3 s e 0 3 hB h5 h6 hse he d0 (by decide) (by decide)) (fun r1 q3 z => ?_)) (fun _ c => dA_G (fun _ => dA_some ⟨rfl, Or.inr ⟨d0, fun z => c (z.1.trans d1.symm)⟩⟩))
  obtain ⟨z1, z2⟩ := z
  replace z1 : q3 = q := z1
  replace z2 : (Int32.toInt r1 = 1 ∧ smW B s e 10 0 3) ∨ (Int32.toInt r1 = 0 ∧ ¬ smW B s e 10 0 3) := z2
  subst z1
  refine dA_eq (fun _ c5 => dA_G (fun _ => dA_some ⟨rfl, Or.inr ⟨d0, fun y => ?_⟩⟩)) (fun _ c5 => dA_G (fun _ => dA_some ⟨rfl, Or.inl ⟨d1, c.trans d1, ?_⟩⟩))
  · rcases z2 with z2 | z2
    · omega
    · exact z2.2 (smw_10.mpr y.2)
  · rcases z2 with z2 | z2
    · exact smw_10.mp z2.2
    · omega

theorem sm_11 {B : Nat → Int} (q : dK) (p2 p3 : Int32) (s e f l : Nat) (hB : ∀ i : Nat, Int32.toInt (q.1 46 i) = B i) (h5 : Int32.toInt (q.1 24 5) = (s : Int)) (h6 : Int32.toInt (q.1 24 6) = (e : Int)) (hse : s ≤ e) (he : e ≤ 400) (hf : Int32.toInt p2 = (f : Int)) (hl : Int32.toInt p3 = ((f + l : Nat) : Int)) (hL : f + l ≤ 2) :
    dAll (zX4_isSame_s24_t11 q p2 p3) (fun (o : Int32 × dK) => o.2 = q ∧ ((Int32.toInt o.1 = 1 ∧ smW B s e 11 f l) ∨ (Int32.toInt o.1 = 0 ∧ ¬ smW B s e 11 f l))) := by
  have d0 : Int32.toInt 0 = 0 := by decide
  have d1 : Int32.toInt 1 = 1 := by decide
  have t1 : Int32.toInt (p3 - p2) = (l : Int) := by rw [ti_sub hl hf (by omega) (by omega)]; omega
  have t2 : Int32.toInt ((q.1 24 6) - (q.1 24 5)) = (e : Int) - (s : Int) := ti_sub h6 h5 (by omega) (by omega)
  unfold zX4_isSame_s24_t11
  refine dA_eq (fun _ c => ?_) (fun _ c => dA_some ⟨rfl, Or.inr ⟨d0, fun z => by have := z.1; omega⟩⟩)
  have hel : e = s + l := by omega
  unfold zX4_isSame_s24_t11_20
  refine dA_fix (fun (a : dK × Int32 × Int32 × Int32) => a.1 = q ∧ a.2.1 = p2 ∧ a.2.2.1 = p3 ∧ ∃ m : Nat, m ≤ l ∧ Int32.toInt a.2.2.2 = ((f + m : Nat) : Int) ∧ ∀ i : Nat, i < m → B (s + i) = cw 11 (f + i)) ?_ dF _ ⟨rfl, rfl, rfl, 0, Nat.zero_le _, by show Int32.toInt p2 = _; rw [hf]; rfl, fun i hi => absurd hi (Nat.not_lt_zero i)⟩
  intro k hk a ha
  obtain ⟨qa, x2, x3, x4⟩ := a
  obtain ⟨a1, a2, a3, m, a4, a5, a6⟩ := ha
  replace a1 : qa = q := a1
  replace a2 : x2 = p2 := a2
  replace a3 : x3 = p3 := a3
  replace a5 : Int32.toInt x4 = ((f + m : Nat) : Int) := a5
  subst a1 a2 a3
  show dAll (zX4_isSame_s24_t11_20b (fun q x2 x3 x4 => k (q, x2, x3, x4)) qa x2 x3 x4) _
  unfold zX4_isSame_s24_t11_20b
  refine dA_le (fun c9 => dA_some ⟨rfl, Or.inl ⟨d1, hel, fun i hi => a6 i (by omega)⟩⟩) (fun c9 => dA_G (fun _ => dA_L (fun v2 e2 => dA_G (fun _ => dA_G (fun hg => dA_L (fun v5 e5 => ?_))))))
  have ta : Int32.toInt ((qa.1 24 5) + x4) = (s : Int) + ((f + m : Nat) : Int) := ti_add h5 a5 (by omega) (by omega)
  have ts : Int32.toInt (((qa.1 24 5) + x4) - x2) = ((s + m : Nat) : Int) := by rw [ti_sub ta hf (by omega) (by omega)]; omega
  have nx := cl_eq (i := ((qa.1 24 5) + x4) - x2) (by omega)
  have ev2 : Int32.toInt v2 = cw 11 (f + m) := by rw [e2]; exact chV_i a5
  have ev5 : Int32.toInt v5 = B (s + m) := by rw [e5, hB, show Int32.toNatClampNeg (((qa.1 24 5) + x4) - x2) = s + m by omega]
  refine dA_eq (fun _ c5 => ?_) (fun _ c5 => dA_some ⟨rfl, Or.inr ⟨d0, fun z => ?_⟩⟩)
  · have t4 : Int32.toInt (x4 + 1) = Int32.toInt x4 + 1 := ti_add rfl d1 (by omega) (by omega)
    refine hk (qa, x2, x3, x4 + 1) ⟨rfl, rfl, rfl, m + 1, by omega, ?_, fun i hi => ?_⟩
    · show Int32.toInt (x4 + 1) = _
      omega
    · by_cases ci : i = m
      · rw [ci, ← ev5, ← ev2]; exact c5.symm
      · exact a6 i (by omega)
  · have := z.2 m (by omega)
    omega
theorem smw_11 {B : Nat → Int} {s e : Nat} : smW B s e 11 0 2 ↔ isW B s e 5 := by
  have h : ∀ i : Nat, i < 2 → cw 11 (0 + i) = (wdL 5).getD i 0 := by decide +kernel
  exact ⟨fun z => ⟨z.1, fun i hi => (z.2 i hi).trans (h i hi)⟩, fun z => ⟨z.1, fun i hi => (z.2 i hi).trans (h i hi).symm⟩⟩
theorem wd_11 {B : Nat → Int} (q : dK) (s e : Nat) (hB : ∀ i : Nat, Int32.toInt (q.1 46 i) = B i) (h5 : Int32.toInt (q.1 24 5) = (s : Int)) (h6 : Int32.toInt (q.1 24 6) = (e : Int)) (hse : s ≤ e) (he : e ≤ 400) :
    dAll (zX4_isWord_s24_t11 q) (fun (o : Int32 × dK) => o.2 = q ∧ ((Int32.toInt o.1 = 1 ∧ Int32.toInt (q.1 24 4) = 1 ∧ isW B s e 5) ∨ (Int32.toInt o.1 = 0 ∧ ¬ (Int32.toInt (q.1 24 4) = 1 ∧ isW B s e 5)))) := by
  have d0 : Int32.toInt 0 = 0 := by decide
  have d1 : Int32.toInt 1 = 1 := by decide
  unfold zX4_isWord_s24_t11 zX4_isWord_s24_t11_25 zX4_isWord_s24_t11_26
  refine dA_eq (fun _ c => dA_B (sm_11 q 0 2 s e 0 2 hB h5 h6 hse he d0 (by decide) (by decide)) (fun r1 q3 z => ?_)) (fun _ c => dA_G (fun _ => dA_some ⟨rfl, Or.inr ⟨d0, fun z => c (z.1.trans d1.symm)⟩⟩))
  obtain ⟨z1, z2⟩ := z
  replace z1 : q3 = q := z1
  replace z2 : (Int32.toInt r1 = 1 ∧ smW B s e 11 0 2) ∨ (Int32.toInt r1 = 0 ∧ ¬ smW B s e 11 0 2) := z2
  subst z1
  refine dA_eq (fun _ c5 => dA_G (fun _ => dA_some ⟨rfl, Or.inr ⟨d0, fun y => ?_⟩⟩)) (fun _ c5 => dA_G (fun _ => dA_some ⟨rfl, Or.inl ⟨d1, c.trans d1, ?_⟩⟩))
  · rcases z2 with z2 | z2
    · omega
    · exact z2.2 (smw_11.mpr y.2)
  · rcases z2 with z2 | z2
    · exact smw_11.mp z2.2
    · omega

theorem sm_0 {B : Nat → Int} (q : dK) (p2 p3 : Int32) (s e f l : Nat) (hB : ∀ i : Nat, Int32.toInt (q.1 46 i) = B i) (h5 : Int32.toInt (q.1 24 5) = (s : Int)) (h6 : Int32.toInt (q.1 24 6) = (e : Int)) (hse : s ≤ e) (he : e ≤ 400) (hf : Int32.toInt p2 = (f : Int)) (hl : Int32.toInt p3 = ((f + l : Nat) : Int)) (hL : f + l ≤ 21) :
    dAll (zX4_isSame_s24_t0 q p2 p3) (fun (o : Int32 × dK) => o.2 = q ∧ ((Int32.toInt o.1 = 1 ∧ smW B s e 0 f l) ∨ (Int32.toInt o.1 = 0 ∧ ¬ smW B s e 0 f l))) := by
  have d0 : Int32.toInt 0 = 0 := by decide
  have d1 : Int32.toInt 1 = 1 := by decide
  have t1 : Int32.toInt (p3 - p2) = (l : Int) := by rw [ti_sub hl hf (by omega) (by omega)]; omega
  have t2 : Int32.toInt ((q.1 24 6) - (q.1 24 5)) = (e : Int) - (s : Int) := ti_sub h6 h5 (by omega) (by omega)
  unfold zX4_isSame_s24_t0
  refine dA_eq (fun _ c => ?_) (fun _ c => dA_some ⟨rfl, Or.inr ⟨d0, fun z => by have := z.1; omega⟩⟩)
  have hel : e = s + l := by omega
  unfold zX4_isSame_s24_t0_20
  refine dA_fix (fun (a : dK × Int32 × Int32 × Int32) => a.1 = q ∧ a.2.1 = p2 ∧ a.2.2.1 = p3 ∧ ∃ m : Nat, m ≤ l ∧ Int32.toInt a.2.2.2 = ((f + m : Nat) : Int) ∧ ∀ i : Nat, i < m → B (s + i) = cw 0 (f + i)) ?_ dF _ ⟨rfl, rfl, rfl, 0, Nat.zero_le _, by show Int32.toInt p2 = _; rw [hf]; rfl, fun i hi => absurd hi (Nat.not_lt_zero i)⟩
  intro k hk a ha
  obtain ⟨qa, x2, x3, x4⟩ := a
  obtain ⟨a1, a2, a3, m, a4, a5, a6⟩ := ha
  replace a1 : qa = q := a1
  replace a2 : x2 = p2 := a2
  replace a3 : x3 = p3 := a3
  replace a5 : Int32.toInt x4 = ((f + m : Nat) : Int) := a5
  subst a1 a2 a3
  show dAll (zX4_isSame_s24_t0_20b (fun q x2 x3 x4 => k (q, x2, x3, x4)) qa x2 x3 x4) _
  unfold zX4_isSame_s24_t0_20b
  refine dA_le (fun c9 => dA_some ⟨rfl, Or.inl ⟨d1, hel, fun i hi => a6 i (by omega)⟩⟩) (fun c9 => dA_G (fun _ => dA_L (fun v2 e2 => dA_G (fun _ => dA_G (fun hg => dA_L (fun v5 e5 => ?_))))))
  have ta : Int32.toInt ((qa.1 24 5) + x4) = (s : Int) + ((f + m : Nat) : Int) := ti_add h5 a5 (by omega) (by omega)
  have ts : Int32.toInt (((qa.1 24 5) + x4) - x2) = ((s + m : Nat) : Int) := by rw [ti_sub ta hf (by omega) (by omega)]; omega
  have nx := cl_eq (i := ((qa.1 24 5) + x4) - x2) (by omega)
  have ev2 : Int32.toInt v2 = cw 0 (f + m) := by rw [e2]; exact chV_i a5
  have ev5 : Int32.toInt v5 = B (s + m) := by rw [e5, hB, show Int32.toNatClampNeg (((qa.1 24 5) + x4) - x2) = s + m by omega]
  refine dA_eq (fun _ c5 => ?_) (fun _ c5 => dA_some ⟨rfl, Or.inr ⟨d0, fun z => ?_⟩⟩)
  · have t4 : Int32.toInt (x4 + 1) = Int32.toInt x4 + 1 := ti_add rfl d1 (by omega) (by omega)
    refine hk (qa, x2, x3, x4 + 1) ⟨rfl, rfl, rfl, m + 1, by omega, ?_, fun i hi => ?_⟩
    · show Int32.toInt (x4 + 1) = _
      omega
    · by_cases ci : i = m
      · rw [ci, ← ev5, ← ev2]; exact c5.symm
      · exact a6 i (by omega)
  · have := z.2 m (by omega)
    omega
def wof_0 (j : Nat) : Nat := if j = 0 then 0 else if j = 1 then 5 else if j = 2 then 11 else if j = 3 then 16 else 21
def wln_0 (j : Nat) : Nat := if j = 0 then 4 else if j = 1 then 5 else if j = 2 then 4 else if j = 3 then 4 else 0
def wcd_0 (j : Nat) : Nat := if j = 0 then 22 else if j = 1 then 23 else if j = 2 then 24 else if j = 3 then 25 else 0
theorem wtb_0 : ∀ j : Nat, j < 4 → wof_0 (j + 1) = wof_0 j + wln_0 j + 1 ∧ wof_0 j + wln_0 j < 21 ∧ cw 0 (wof_0 j + wln_0 j) = 32 ∧ (∀ i : Nat, i < wln_0 j → ¬ cw 0 (wof_0 j + i) = 32) ∧ (wdL (wcd_0 j)).length = wln_0 j ∧ (∀ i : Nat, i < wln_0 j → cw 0 (wof_0 j + i) = (wdL (wcd_0 j)).getD i 0) := by decide +kernel
theorem wte_0 : wof_0 0 = 0 ∧ wof_0 4 = 21 := by decide
theorem smi_0 {B : Nat → Int} {s e j : Nat} (hj : j < 4) : smW B s e 0 (wof_0 j) (wln_0 j) ↔ isW B s e (wcd_0 j) := by
  obtain ⟨-, -, -, -, h5, h6⟩ := wtb_0 j hj
  unfold smW isW
  rw [h5]
  exact ⟨fun z => ⟨z.1, fun i hi => (z.2 i hi).trans (h6 i hi)⟩, fun z => ⟨z.1, fun i hi => (z.2 i hi).trans (h6 i hi).symm⟩⟩
theorem win_0 {B : Nat → Int} (q : dK) (s e : Nat) (hB : ∀ i : Nat, Int32.toInt (q.1 46 i) = B i) (h5 : Int32.toInt (q.1 24 5) = (s : Int)) (h6 : Int32.toInt (q.1 24 6) = (e : Int)) (hse : s ≤ e) (he : e ≤ 400) :
    dAll (zX4_wordIn_s24_t0 q) (fun (o : Int32 × dK) => o.2 = q ∧ ((Int32.toInt (q.1 24 4) = 1 ∧ ∃ j : Nat, j < 4 ∧ Int32.toInt o.1 = (j : Int) ∧ isW B s e (wcd_0 j)) ∨ (Int32.toInt o.1 = -1 ∧ ∀ j : Nat, j < 4 → ¬ (Int32.toInt (q.1 24 4) = 1 ∧ isW B s e (wcd_0 j))))) := by
  have d0 : Int32.toInt 0 = 0 := by decide
  have d1 : Int32.toInt 1 = 1 := by decide
  have dm : Int32.toInt (-1) = -1 := by decide
  have d32 : Int32.toInt 32 = 32 := by decide
  have dL : Int32.toInt 21 = 21 := by decide
  unfold zX4_wordIn_s24_t0 zX4_wordIn_s24_t0_7
  refine dA_fix (fun (a : dK × Int32 × Int32 × Int32) => a.1 = q ∧ ∃ j m : Nat, j ≤ 4 ∧ Int32.toInt a.2.1 = (j : Int) ∧ Int32.toInt a.2.2.1 = ((wof_0 j : Nat) : Int) ∧ Int32.toInt a.2.2.2 = ((wof_0 j + m : Nat) : Int) ∧ (j < 4 → m ≤ wln_0 j) ∧ (j = 4 → m = 0) ∧ ∀ i : Nat, i < j → ¬ isW B s e (wcd_0 i)) ?_ dF _ ⟨rfl, 0, 0, by decide, d0, d0, d0, fun _ => Nat.zero_le _, fun _ => rfl, fun i hi => absurd hi (Nat.not_lt_zero i)⟩
  intro k hk a ha
  obtain ⟨qa, x2, x3, x4⟩ := a
  obtain ⟨a1, j, m, a2, a3, a4, a5, a6, a7, a8⟩ := ha
  replace a1 : qa = q := a1
  replace a3 : Int32.toInt x2 = (j : Int) := a3
  replace a4 : Int32.toInt x3 = ((wof_0 j : Nat) : Int) := a4
  replace a5 : Int32.toInt x4 = ((wof_0 j + m : Nat) : Int) := a5
  subst a1
  show dAll (zX4_wordIn_s24_t0_7b (fun q x2 x3 x4 => k (q, x2, x3, x4)) qa x2 x3 x4) _
  unfold zX4_wordIn_s24_t0_7b zX4_wordIn_s24_t0_62 zX4_wordIn_s24_t0_56
  have hN := wte_0.2
  refine dA_le (fun c => dA_some ⟨rfl, Or.inr ⟨dm, fun i hi z => ?_⟩⟩) (fun c => dA_eq (fun _ c1 => dA_G (fun hg => dA_L (fun v2 e2 => ?_))) (fun _ c1 => dA_some ⟨rfl, Or.inr ⟨dm, fun i hi z => c1 (z.1.trans d1.symm)⟩⟩))
  · rcases Nat.lt_or_ge j 4 with hj | hj
    · have := (wtb_0 j hj).2.1
      have := a6 hj
      omega
    · exact a8 i (by omega) z.2
  · have hj : j < 4 := by
      rcases Nat.lt_or_ge j 4 with hj | hj
      · exact hj
      · exfalso
        have ej : j = 4 := by omega
        have := a7 ej
        rw [ej] at a5
        omega
    obtain ⟨w1, w2, w3, w4, w5, w6⟩ := wtb_0 j hj
    have hm := a6 hj
    have ev : Int32.toInt v2 = cw 0 (wof_0 j + m) := by rw [e2]; exact chV_i a5
    have t4 : Int32.toInt (x4 + 1) = Int32.toInt x4 + 1 := ti_add rfl d1 (by omega) (by omega)
    have t2 : Int32.toInt (x2 + 1) = Int32.toInt x2 + 1 := ti_add rfl d1 (by omega) (by omega)
    refine dA_eq (fun _ c2 => ?_) (fun _ c2 => ?_)
    · have em : m = wln_0 j := by
        rcases Nat.lt_or_ge m (wln_0 j) with cm | cm
        · exact absurd (by omega) (w4 m cm)
        · omega
      refine dA_B (sm_0 qa x3 x4 s e (wof_0 j) (wln_0 j) hB h5 h6 hse he a4 (by rw [a5, em]) (by omega)) (fun r3 q5 z => ?_)
      obtain ⟨z1, z2⟩ := z
      replace z1 : q5 = qa := z1
      replace z2 : (Int32.toInt r3 = 1 ∧ smW B s e 0 (wof_0 j) (wln_0 j)) ∨ (Int32.toInt r3 = 0 ∧ ¬ smW B s e 0 (wof_0 j) (wln_0 j)) := z2
      subst z1
      refine dA_eq (fun _ c3 => ?_) (fun _ c3 => dA_some ⟨rfl, Or.inl ⟨c1.trans d1, j, hj, a3, ?_⟩⟩)
      · refine hk (q5, x2 + 1, x4 + 1, x4 + 1) ⟨rfl, j + 1, 0, by omega, ?_, ?_, ?_, fun _ => Nat.zero_le _, fun _ => rfl, fun i hi => ?_⟩
        · show Int32.toInt (x2 + 1) = _
          omega
        · show Int32.toInt (x4 + 1) = _
          omega
        · show Int32.toInt (x4 + 1) = _
          omega
        · by_cases ci : i = j
          · rw [ci]
            rcases z2 with z2 | z2
            · omega
            · exact fun y => z2.2 ((smi_0 hj).mpr y)
          · exact a8 i (by omega)
      · rcases z2 with z2 | z2
        · exact (smi_0 hj).mp z2.2
        · omega
    · refine hk (qa, x2, x3, x4 + 1) ⟨rfl, j, m + 1, a2, a3, a4, ?_, fun _ => ?_, fun y => by omega, a8⟩
      · show Int32.toInt (x4 + 1) = _
        omega
      · rcases Nat.lt_or_ge m (wln_0 j) with cm | cm
        · omega
        · exfalso
          have em : m = wln_0 j := by omega
          rw [em, w3] at ev
          exact c2 (ev.trans d32.symm)

theorem sm_1 {B : Nat → Int} (q : dK) (p2 p3 : Int32) (s e f l : Nat) (hB : ∀ i : Nat, Int32.toInt (q.1 46 i) = B i) (h5 : Int32.toInt (q.1 24 5) = (s : Int)) (h6 : Int32.toInt (q.1 24 6) = (e : Int)) (hse : s ≤ e) (he : e ≤ 400) (hf : Int32.toInt p2 = (f : Int)) (hl : Int32.toInt p3 = ((f + l : Nat) : Int)) (hL : f + l ≤ 15) :
    dAll (zX4_isSame_s24_t1 q p2 p3) (fun (o : Int32 × dK) => o.2 = q ∧ ((Int32.toInt o.1 = 1 ∧ smW B s e 1 f l) ∨ (Int32.toInt o.1 = 0 ∧ ¬ smW B s e 1 f l))) := by
  have d0 : Int32.toInt 0 = 0 := by decide
  have d1 : Int32.toInt 1 = 1 := by decide
  have t1 : Int32.toInt (p3 - p2) = (l : Int) := by rw [ti_sub hl hf (by omega) (by omega)]; omega
  have t2 : Int32.toInt ((q.1 24 6) - (q.1 24 5)) = (e : Int) - (s : Int) := ti_sub h6 h5 (by omega) (by omega)
  unfold zX4_isSame_s24_t1
  refine dA_eq (fun _ c => ?_) (fun _ c => dA_some ⟨rfl, Or.inr ⟨d0, fun z => by have := z.1; omega⟩⟩)
  have hel : e = s + l := by omega
  unfold zX4_isSame_s24_t1_20
  refine dA_fix (fun (a : dK × Int32 × Int32 × Int32) => a.1 = q ∧ a.2.1 = p2 ∧ a.2.2.1 = p3 ∧ ∃ m : Nat, m ≤ l ∧ Int32.toInt a.2.2.2 = ((f + m : Nat) : Int) ∧ ∀ i : Nat, i < m → B (s + i) = cw 1 (f + i)) ?_ dF _ ⟨rfl, rfl, rfl, 0, Nat.zero_le _, by show Int32.toInt p2 = _; rw [hf]; rfl, fun i hi => absurd hi (Nat.not_lt_zero i)⟩
  intro k hk a ha
  obtain ⟨qa, x2, x3, x4⟩ := a
  obtain ⟨a1, a2, a3, m, a4, a5, a6⟩ := ha
  replace a1 : qa = q := a1
  replace a2 : x2 = p2 := a2
  replace a3 : x3 = p3 := a3
  replace a5 : Int32.toInt x4 = ((f + m : Nat) : Int) := a5
  subst a1 a2 a3
  show dAll (zX4_isSame_s24_t1_20b (fun q x2 x3 x4 => k (q, x2, x3, x4)) qa x2 x3 x4) _
  unfold zX4_isSame_s24_t1_20b
  refine dA_le (fun c9 => dA_some ⟨rfl, Or.inl ⟨d1, hel, fun i hi => a6 i (by omega)⟩⟩) (fun c9 => dA_G (fun _ => dA_L (fun v2 e2 => dA_G (fun _ => dA_G (fun hg => dA_L (fun v5 e5 => ?_))))))
  have ta : Int32.toInt ((qa.1 24 5) + x4) = (s : Int) + ((f + m : Nat) : Int) := ti_add h5 a5 (by omega) (by omega)
  have ts : Int32.toInt (((qa.1 24 5) + x4) - x2) = ((s + m : Nat) : Int) := by rw [ti_sub ta hf (by omega) (by omega)]; omega
  have nx := cl_eq (i := ((qa.1 24 5) + x4) - x2) (by omega)
  have ev2 : Int32.toInt v2 = cw 1 (f + m) := by rw [e2]; exact chV_i a5
  have ev5 : Int32.toInt v5 = B (s + m) := by rw [e5, hB, show Int32.toNatClampNeg (((qa.1 24 5) + x4) - x2) = s + m by omega]
  refine dA_eq (fun _ c5 => ?_) (fun _ c5 => dA_some ⟨rfl, Or.inr ⟨d0, fun z => ?_⟩⟩)
  · have t4 : Int32.toInt (x4 + 1) = Int32.toInt x4 + 1 := ti_add rfl d1 (by omega) (by omega)
    refine hk (qa, x2, x3, x4 + 1) ⟨rfl, rfl, rfl, m + 1, by omega, ?_, fun i hi => ?_⟩
    · show Int32.toInt (x4 + 1) = _
      omega
    · by_cases ci : i = m
      · rw [ci, ← ev5, ← ev2]; exact c5.symm
      · exact a6 i (by omega)
  · have := z.2 m (by omega)
    omega
def wof_1 (j : Nat) : Nat := if j = 0 then 0 else if j = 1 then 5 else if j = 2 then 10 else 15
def wln_1 (j : Nat) : Nat := if j = 0 then 4 else if j = 1 then 4 else if j = 2 then 4 else 0
def wcd_1 (j : Nat) : Nat := if j = 0 then 1 else if j = 1 then 2 else if j = 2 then 3 else 0
theorem wtb_1 : ∀ j : Nat, j < 3 → wof_1 (j + 1) = wof_1 j + wln_1 j + 1 ∧ wof_1 j + wln_1 j < 15 ∧ cw 1 (wof_1 j + wln_1 j) = 32 ∧ (∀ i : Nat, i < wln_1 j → ¬ cw 1 (wof_1 j + i) = 32) ∧ (wdL (wcd_1 j)).length = wln_1 j ∧ (∀ i : Nat, i < wln_1 j → cw 1 (wof_1 j + i) = (wdL (wcd_1 j)).getD i 0) := by decide +kernel
theorem wte_1 : wof_1 0 = 0 ∧ wof_1 3 = 15 := by decide
theorem smi_1 {B : Nat → Int} {s e j : Nat} (hj : j < 3) : smW B s e 1 (wof_1 j) (wln_1 j) ↔ isW B s e (wcd_1 j) := by
  obtain ⟨-, -, -, -, h5, h6⟩ := wtb_1 j hj
  unfold smW isW
  rw [h5]
  exact ⟨fun z => ⟨z.1, fun i hi => (z.2 i hi).trans (h6 i hi)⟩, fun z => ⟨z.1, fun i hi => (z.2 i hi).trans (h6 i hi).symm⟩⟩
theorem win_1 {B : Nat → Int} (q : dK) (s e : Nat) (hB : ∀ i : Nat, Int32.toInt (q.1 46 i) = B i) (h5 : Int32.toInt (q.1 24 5) = (s : Int)) (h6 : Int32.toInt (q.1 24 6) = (e : Int)) (hse : s ≤ e) (he : e ≤ 400) :
    dAll (zX4_wordIn_s24_t1 q) (fun (o : Int32 × dK) => o.2 = q ∧ ((Int32.toInt (q.1 24 4) = 1 ∧ ∃ j : Nat, j < 3 ∧ Int32.toInt o.1 = (j : Int) ∧ isW B s e (wcd_1 j)) ∨ (Int32.toInt o.1 = -1 ∧ ∀ j : Nat, j < 3 → ¬ (Int32.toInt (q.1 24 4) = 1 ∧ isW B s e (wcd_1 j))))) := by
  have d0 : Int32.toInt 0 = 0 := by decide
  have d1 : Int32.toInt 1 = 1 := by decide
  have dm : Int32.toInt (-1) = -1 := by decide
  have d32 : Int32.toInt 32 = 32 := by decide
  have dL : Int32.toInt 15 = 15 := by decide
  unfold zX4_wordIn_s24_t1 zX4_wordIn_s24_t1_7
  refine dA_fix (fun (a : dK × Int32 × Int32 × Int32) => a.1 = q ∧ ∃ j m : Nat, j ≤ 3 ∧ Int32.toInt a.2.1 = (j : Int) ∧ Int32.toInt a.2.2.1 = ((wof_1 j : Nat) : Int) ∧ Int32.toInt a.2.2.2 = ((wof_1 j + m : Nat) : Int) ∧ (j < 3 → m ≤ wln_1 j) ∧ (j = 3 → m = 0) ∧ ∀ i : Nat, i < j → ¬ isW B s e (wcd_1 i)) ?_ dF _ ⟨rfl, 0, 0, by decide, d0, d0, d0, fun _ => Nat.zero_le _, fun _ => rfl, fun i hi => absurd hi (Nat.not_lt_zero i)⟩
  intro k hk a ha
  obtain ⟨qa, x2, x3, x4⟩ := a
  obtain ⟨a1, j, m, a2, a3, a4, a5, a6, a7, a8⟩ := ha
  replace a1 : qa = q := a1
  replace a3 : Int32.toInt x2 = (j : Int) := a3
  replace a4 : Int32.toInt x3 = ((wof_1 j : Nat) : Int) := a4
  replace a5 : Int32.toInt x4 = ((wof_1 j + m : Nat) : Int) := a5
  subst a1
  show dAll (zX4_wordIn_s24_t1_7b (fun q x2 x3 x4 => k (q, x2, x3, x4)) qa x2 x3 x4) _
  unfold zX4_wordIn_s24_t1_7b zX4_wordIn_s24_t1_62 zX4_wordIn_s24_t1_56
  have hN := wte_1.2
  refine dA_le (fun c => dA_some ⟨rfl, Or.inr ⟨dm, fun i hi z => ?_⟩⟩) (fun c => dA_eq (fun _ c1 => dA_G (fun hg => dA_L (fun v2 e2 => ?_))) (fun _ c1 => dA_some ⟨rfl, Or.inr ⟨dm, fun i hi z => c1 (z.1.trans d1.symm)⟩⟩))
  · rcases Nat.lt_or_ge j 3 with hj | hj
    · have := (wtb_1 j hj).2.1
      have := a6 hj
      omega
    · exact a8 i (by omega) z.2
  · have hj : j < 3 := by
      rcases Nat.lt_or_ge j 3 with hj | hj
      · exact hj
      · exfalso
        have ej : j = 3 := by omega
        have := a7 ej
        rw [ej] at a5
        omega
    obtain ⟨w1, w2, w3, w4, w5, w6⟩ := wtb_1 j hj
    have hm := a6 hj
    have ev : Int32.toInt v2 = cw 1 (wof_1 j + m) := by rw [e2]; exact chV_i a5
    have t4 : Int32.toInt (x4 + 1) = Int32.toInt x4 + 1 := ti_add rfl d1 (by omega) (by omega)
    have t2 : Int32.toInt (x2 + 1) = Int32.toInt x2 + 1 := ti_add rfl d1 (by omega) (by omega)
    refine dA_eq (fun _ c2 => ?_) (fun _ c2 => ?_)
    · have em : m = wln_1 j := by
        rcases Nat.lt_or_ge m (wln_1 j) with cm | cm
        · exact absurd (by omega) (w4 m cm)
        · omega
      refine dA_B (sm_1 qa x3 x4 s e (wof_1 j) (wln_1 j) hB h5 h6 hse he a4 (by rw [a5, em]) (by omega)) (fun r3 q5 z => ?_)
      obtain ⟨z1, z2⟩ := z
      replace z1 : q5 = qa := z1
      replace z2 : (Int32.toInt r3 = 1 ∧ smW B s e 1 (wof_1 j) (wln_1 j)) ∨ (Int32.toInt r3 = 0 ∧ ¬ smW B s e 1 (wof_1 j) (wln_1 j)) := z2
      subst z1
      refine dA_eq (fun _ c3 => ?_) (fun _ c3 => dA_some ⟨rfl, Or.inl ⟨c1.trans d1, j, hj, a3, ?_⟩⟩)
      · refine hk (q5, x2 + 1, x4 + 1, x4 + 1) ⟨rfl, j + 1, 0, by omega, ?_, ?_, ?_, fun _ => Nat.zero_le _, fun _ => rfl, fun i hi => ?_⟩
        · show Int32.toInt (x2 + 1) = _
          omega
        · show Int32.toInt (x4 + 1) = _
          omega
        · show Int32.toInt (x4 + 1) = _
          omega
        · by_cases ci : i = j
          · rw [ci]
            rcases z2 with z2 | z2
            · omega
            · exact fun y => z2.2 ((smi_1 hj).mpr y)
          · exact a8 i (by omega)
      · rcases z2 with z2 | z2
        · exact (smi_1 hj).mp z2.2
        · omega
    · refine hk (qa, x2, x3, x4 + 1) ⟨rfl, j, m + 1, a2, a3, a4, ?_, fun _ => ?_, fun y => by omega, a8⟩
      · show Int32.toInt (x4 + 1) = _
        omega
      · rcases Nat.lt_or_ge m (wln_1 j) with cm | cm
        · omega
        · exfalso
          have em : m = wln_1 j := by omega
          rw [em, w3] at ev
          exact c2 (ev.trans d32.symm)

theorem sm_2 {B : Nat → Int} (q : dK) (p2 p3 : Int32) (s e f l : Nat) (hB : ∀ i : Nat, Int32.toInt (q.1 46 i) = B i) (h5 : Int32.toInt (q.1 24 5) = (s : Int)) (h6 : Int32.toInt (q.1 24 6) = (e : Int)) (hse : s ≤ e) (he : e ≤ 400) (hf : Int32.toInt p2 = (f : Int)) (hl : Int32.toInt p3 = ((f + l : Nat) : Int)) (hL : f + l ≤ 35) :
    dAll (zX4_isSame_s24_t2 q p2 p3) (fun (o : Int32 × dK) => o.2 = q ∧ ((Int32.toInt o.1 = 1 ∧ smW B s e 2 f l) ∨ (Int32.toInt o.1 = 0 ∧ ¬ smW B s e 2 f l))) := by
  have d0 : Int32.toInt 0 = 0 := by decide
  have d1 : Int32.toInt 1 = 1 := by decide
  have t1 : Int32.toInt (p3 - p2) = (l : Int) := by rw [ti_sub hl hf (by omega) (by omega)]; omega
  have t2 : Int32.toInt ((q.1 24 6) - (q.1 24 5)) = (e : Int) - (s : Int) := ti_sub h6 h5 (by omega) (by omega)
  unfold zX4_isSame_s24_t2
  refine dA_eq (fun _ c => ?_) (fun _ c => dA_some ⟨rfl, Or.inr ⟨d0, fun z => by have := z.1; omega⟩⟩)
  have hel : e = s + l := by omega
  unfold zX4_isSame_s24_t2_20
  refine dA_fix (fun (a : dK × Int32 × Int32 × Int32) => a.1 = q ∧ a.2.1 = p2 ∧ a.2.2.1 = p3 ∧ ∃ m : Nat, m ≤ l ∧ Int32.toInt a.2.2.2 = ((f + m : Nat) : Int) ∧ ∀ i : Nat, i < m → B (s + i) = cw 2 (f + i)) ?_ dF _ ⟨rfl, rfl, rfl, 0, Nat.zero_le _, by show Int32.toInt p2 = _; rw [hf]; rfl, fun i hi => absurd hi (Nat.not_lt_zero i)⟩
  intro k hk a ha
  obtain ⟨qa, x2, x3, x4⟩ := a
  obtain ⟨a1, a2, a3, m, a4, a5, a6⟩ := ha
  replace a1 : qa = q := a1
  replace a2 : x2 = p2 := a2
  replace a3 : x3 = p3 := a3
  replace a5 : Int32.toInt x4 = ((f + m : Nat) : Int) := a5
  subst a1 a2 a3
  show dAll (zX4_isSame_s24_t2_20b (fun q x2 x3 x4 => k (q, x2, x3, x4)) qa x2 x3 x4) _
  unfold zX4_isSame_s24_t2_20b
  refine dA_le (fun c9 => dA_some ⟨rfl, Or.inl ⟨d1, hel, fun i hi => a6 i (by omega)⟩⟩) (fun c9 => dA_G (fun _ => dA_L (fun v2 e2 => dA_G (fun _ => dA_G (fun hg => dA_L (fun v5 e5 => ?_))))))
  have ta : Int32.toInt ((qa.1 24 5) + x4) = (s : Int) + ((f + m : Nat) : Int) := ti_add h5 a5 (by omega) (by omega)
  have ts : Int32.toInt (((qa.1 24 5) + x4) - x2) = ((s + m : Nat) : Int) := by rw [ti_sub ta hf (by omega) (by omega)]; omega
  have nx := cl_eq (i := ((qa.1 24 5) + x4) - x2) (by omega)
  have ev2 : Int32.toInt v2 = cw 2 (f + m) := by rw [e2]; exact chV_i a5
  have ev5 : Int32.toInt v5 = B (s + m) := by rw [e5, hB, show Int32.toNatClampNeg (((qa.1 24 5) + x4) - x2) = s + m by omega]
  refine dA_eq (fun _ c5 => ?_) (fun _ c5 => dA_some ⟨rfl, Or.inr ⟨d0, fun z => ?_⟩⟩)
  · have t4 : Int32.toInt (x4 + 1) = Int32.toInt x4 + 1 := ti_add rfl d1 (by omega) (by omega)
    refine hk (qa, x2, x3, x4 + 1) ⟨rfl, rfl, rfl, m + 1, by omega, ?_, fun i hi => ?_⟩
    · show Int32.toInt (x4 + 1) = _
      omega
    · by_cases ci : i = m
      · rw [ci, ← ev5, ← ev2]; exact c5.symm
      · exact a6 i (by omega)
  · have := z.2 m (by omega)
    omega
def wof_2 (j : Nat) : Nat := if j = 0 then 0 else if j = 1 then 5 else if j = 2 then 10 else if j = 3 then 17 else if j = 4 then 22 else if j = 5 then 27 else if j = 6 then 30 else 35
def wln_2 (j : Nat) : Nat := if j = 0 then 4 else if j = 1 then 4 else if j = 2 then 6 else if j = 3 then 4 else if j = 4 then 4 else if j = 5 then 2 else if j = 6 then 4 else 0
def wcd_2 (j : Nat) : Nat := if j = 0 then 16 else if j = 1 then 17 else if j = 2 then 18 else if j = 3 then 19 else if j = 4 then 20 else if j = 5 then 21 else if j = 6 then 15 else 0
theorem wtb_2 : ∀ j : Nat, j < 7 → wof_2 (j + 1) = wof_2 j + wln_2 j + 1 ∧ wof_2 j + wln_2 j < 35 ∧ cw 2 (wof_2 j + wln_2 j) = 32 ∧ (∀ i : Nat, i < wln_2 j → ¬ cw 2 (wof_2 j + i) = 32) ∧ (wdL (wcd_2 j)).length = wln_2 j ∧ (∀ i : Nat, i < wln_2 j → cw 2 (wof_2 j + i) = (wdL (wcd_2 j)).getD i 0) := by decide +kernel
theorem wte_2 : wof_2 0 = 0 ∧ wof_2 7 = 35 := by decide
theorem smi_2 {B : Nat → Int} {s e j : Nat} (hj : j < 7) : smW B s e 2 (wof_2 j) (wln_2 j) ↔ isW B s e (wcd_2 j) := by
  obtain ⟨-, -, -, -, h5, h6⟩ := wtb_2 j hj
  unfold smW isW
  rw [h5]
  exact ⟨fun z => ⟨z.1, fun i hi => (z.2 i hi).trans (h6 i hi)⟩, fun z => ⟨z.1, fun i hi => (z.2 i hi).trans (h6 i hi).symm⟩⟩
theorem win_2 {B : Nat → Int} (q : dK) (s e : Nat) (hB : ∀ i : Nat, Int32.toInt (q.1 46 i) = B i) (h5 : Int32.toInt (q.1 24 5) = (s : Int)) (h6 : Int32.toInt (q.1 24 6) = (e : Int)) (hse : s ≤ e) (he : e ≤ 400) :
    dAll (zX4_wordIn_s24_t2 q) (fun (o : Int32 × dK) => o.2 = q ∧ ((Int32.toInt (q.1 24 4) = 1 ∧ ∃ j : Nat, j < 7 ∧ Int32.toInt o.1 = (j : Int) ∧ isW B s e (wcd_2 j)) ∨ (Int32.toInt o.1 = -1 ∧ ∀ j : Nat, j < 7 → ¬ (Int32.toInt (q.1 24 4) = 1 ∧ isW B s e (wcd_2 j))))) := by
  have d0 : Int32.toInt 0 = 0 := by decide
  have d1 : Int32.toInt 1 = 1 := by decide
  have dm : Int32.toInt (-1) = -1 := by decide
  have d32 : Int32.toInt 32 = 32 := by decide
  have dL : Int32.toInt 35 = 35 := by decide
  unfold zX4_wordIn_s24_t2 zX4_wordIn_s24_t2_7
  refine dA_fix (fun (a : dK × Int32 × Int32 × Int32) => a.1 = q ∧ ∃ j m : Nat, j ≤ 7 ∧ Int32.toInt a.2.1 = (j : Int) ∧ Int32.toInt a.2.2.1 = ((wof_2 j : Nat) : Int) ∧ Int32.toInt a.2.2.2 = ((wof_2 j + m : Nat) : Int) ∧ (j < 7 → m ≤ wln_2 j) ∧ (j = 7 → m = 0) ∧ ∀ i : Nat, i < j → ¬ isW B s e (wcd_2 i)) ?_ dF _ ⟨rfl, 0, 0, by decide, d0, d0, d0, fun _ => Nat.zero_le _, fun _ => rfl, fun i hi => absurd hi (Nat.not_lt_zero i)⟩
  intro k hk a ha
  obtain ⟨qa, x2, x3, x4⟩ := a
  obtain ⟨a1, j, m, a2, a3, a4, a5, a6, a7, a8⟩ := ha
  replace a1 : qa = q := a1
  replace a3 : Int32.toInt x2 = (j : Int) := a3
  replace a4 : Int32.toInt x3 = ((wof_2 j : Nat) : Int) := a4
  replace a5 : Int32.toInt x4 = ((wof_2 j + m : Nat) : Int) := a5
  subst a1
  show dAll (zX4_wordIn_s24_t2_7b (fun q x2 x3 x4 => k (q, x2, x3, x4)) qa x2 x3 x4) _
  unfold zX4_wordIn_s24_t2_7b zX4_wordIn_s24_t2_62 zX4_wordIn_s24_t2_56
  have hN := wte_2.2
  refine dA_le (fun c => dA_some ⟨rfl, Or.inr ⟨dm, fun i hi z => ?_⟩⟩) (fun c => dA_eq (fun _ c1 => dA_G (fun hg => dA_L (fun v2 e2 => ?_))) (fun _ c1 => dA_some ⟨rfl, Or.inr ⟨dm, fun i hi z => c1 (z.1.trans d1.symm)⟩⟩))
  · rcases Nat.lt_or_ge j 7 with hj | hj
    · have := (wtb_2 j hj).2.1
      have := a6 hj
      omega
    · exact a8 i (by omega) z.2
  · have hj : j < 7 := by
      rcases Nat.lt_or_ge j 7 with hj | hj
      · exact hj
      · exfalso
        have ej : j = 7 := by omega
        have := a7 ej
        rw [ej] at a5
        omega
    obtain ⟨w1, w2, w3, w4, w5, w6⟩ := wtb_2 j hj
    have hm := a6 hj
    have ev : Int32.toInt v2 = cw 2 (wof_2 j + m) := by rw [e2]; exact chV_i a5
    have t4 : Int32.toInt (x4 + 1) = Int32.toInt x4 + 1 := ti_add rfl d1 (by omega) (by omega)
    have t2 : Int32.toInt (x2 + 1) = Int32.toInt x2 + 1 := ti_add rfl d1 (by omega) (by omega)
    refine dA_eq (fun _ c2 => ?_) (fun _ c2 => ?_)
    · have em : m = wln_2 j := by
        rcases Nat.lt_or_ge m (wln_2 j) with cm | cm
        · exact absurd (by omega) (w4 m cm)
        · omega
      refine dA_B (sm_2 qa x3 x4 s e (wof_2 j) (wln_2 j) hB h5 h6 hse he a4 (by rw [a5, em]) (by omega)) (fun r3 q5 z => ?_)
      obtain ⟨z1, z2⟩ := z
      replace z1 : q5 = qa := z1
      replace z2 : (Int32.toInt r3 = 1 ∧ smW B s e 2 (wof_2 j) (wln_2 j)) ∨ (Int32.toInt r3 = 0 ∧ ¬ smW B s e 2 (wof_2 j) (wln_2 j)) := z2
      subst z1
      refine dA_eq (fun _ c3 => ?_) (fun _ c3 => dA_some ⟨rfl, Or.inl ⟨c1.trans d1, j, hj, a3, ?_⟩⟩)
      · refine hk (q5, x2 + 1, x4 + 1, x4 + 1) ⟨rfl, j + 1, 0, by omega, ?_, ?_, ?_, fun _ => Nat.zero_le _, fun _ => rfl, fun i hi => ?_⟩
        · show Int32.toInt (x2 + 1) = _
          omega
        · show Int32.toInt (x4 + 1) = _
          omega
        · show Int32.toInt (x4 + 1) = _
          omega
        · by_cases ci : i = j
          · rw [ci]
            rcases z2 with z2 | z2
            · omega
            · exact fun y => z2.2 ((smi_2 hj).mpr y)
          · exact a8 i (by omega)
      · rcases z2 with z2 | z2
        · exact (smi_2 hj).mp z2.2
        · omega
    · refine hk (qa, x2, x3, x4 + 1) ⟨rfl, j, m + 1, a2, a3, a4, ?_, fun _ => ?_, fun y => by omega, a8⟩
      · show Int32.toInt (x4 + 1) = _
        omega
      · rcases Nat.lt_or_ge m (wln_2 j) with cm | cm
        · omega
        · exfalso
          have em : m = wln_2 j := by omega
          rw [em, w3] at ev
          exact c2 (ev.trans d32.symm)

theorem sm_3 {B : Nat → Int} (q : dK) (p2 p3 : Int32) (s e f l : Nat) (hB : ∀ i : Nat, Int32.toInt (q.1 46 i) = B i) (h5 : Int32.toInt (q.1 24 5) = (s : Int)) (h6 : Int32.toInt (q.1 24 6) = (e : Int)) (hse : s ≤ e) (he : e ≤ 400) (hf : Int32.toInt p2 = (f : Int)) (hl : Int32.toInt p3 = ((f + l : Nat) : Int)) (hL : f + l ≤ 47) :
    dAll (zX4_isSame_s24_t3 q p2 p3) (fun (o : Int32 × dK) => o.2 = q ∧ ((Int32.toInt o.1 = 1 ∧ smW B s e 3 f l) ∨ (Int32.toInt o.1 = 0 ∧ ¬ smW B s e 3 f l))) := by
  have d0 : Int32.toInt 0 = 0 := by decide
  have d1 : Int32.toInt 1 = 1 := by decide
  have t1 : Int32.toInt (p3 - p2) = (l : Int) := by rw [ti_sub hl hf (by omega) (by omega)]; omega
  have t2 : Int32.toInt ((q.1 24 6) - (q.1 24 5)) = (e : Int) - (s : Int) := ti_sub h6 h5 (by omega) (by omega)
  unfold zX4_isSame_s24_t3
  refine dA_eq (fun _ c => ?_) (fun _ c => dA_some ⟨rfl, Or.inr ⟨d0, fun z => by have := z.1; omega⟩⟩)
  have hel : e = s + l := by omega
  unfold zX4_isSame_s24_t3_20
  refine dA_fix (fun (a : dK × Int32 × Int32 × Int32) => a.1 = q ∧ a.2.1 = p2 ∧ a.2.2.1 = p3 ∧ ∃ m : Nat, m ≤ l ∧ Int32.toInt a.2.2.2 = ((f + m : Nat) : Int) ∧ ∀ i : Nat, i < m → B (s + i) = cw 3 (f + i)) ?_ dF _ ⟨rfl, rfl, rfl, 0, Nat.zero_le _, by show Int32.toInt p2 = _; rw [hf]; rfl, fun i hi => absurd hi (Nat.not_lt_zero i)⟩
  intro k hk a ha
  obtain ⟨qa, x2, x3, x4⟩ := a
  obtain ⟨a1, a2, a3, m, a4, a5, a6⟩ := ha
  replace a1 : qa = q := a1
  replace a2 : x2 = p2 := a2
  replace a3 : x3 = p3 := a3
  replace a5 : Int32.toInt x4 = ((f + m : Nat) : Int) := a5
  subst a1 a2 a3
  show dAll (zX4_isSame_s24_t3_20b (fun q x2 x3 x4 => k (q, x2, x3, x4)) qa x2 x3 x4) _
  unfold zX4_isSame_s24_t3_20b
  refine dA_le (fun c9 => dA_some ⟨rfl, Or.inl ⟨d1, hel, fun i hi => a6 i (by omega)⟩⟩) (fun c9 => dA_G (fun _ => dA_L (fun v2 e2 => dA_G (fun _ => dA_G (fun hg => dA_L (fun v5 e5 => ?_))))))
  have ta : Int32.toInt ((qa.1 24 5) + x4) = (s : Int) + ((f + m : Nat) : Int) := ti_add h5 a5 (by omega) (by omega)
  have ts : Int32.toInt (((qa.1 24 5) + x4) - x2) = ((s + m : Nat) : Int) := by rw [ti_sub ta hf (by omega) (by omega)]; omega
  have nx := cl_eq (i := ((qa.1 24 5) + x4) - x2) (by omega)
  have ev2 : Int32.toInt v2 = cw 3 (f + m) := by rw [e2]; exact chV_i a5
  have ev5 : Int32.toInt v5 = B (s + m) := by rw [e5, hB, show Int32.toNatClampNeg (((qa.1 24 5) + x4) - x2) = s + m by omega]
  refine dA_eq (fun _ c5 => ?_) (fun _ c5 => dA_some ⟨rfl, Or.inr ⟨d0, fun z => ?_⟩⟩)
  · have t4 : Int32.toInt (x4 + 1) = Int32.toInt x4 + 1 := ti_add rfl d1 (by omega) (by omega)
    refine hk (qa, x2, x3, x4 + 1) ⟨rfl, rfl, rfl, m + 1, by omega, ?_, fun i hi => ?_⟩
    · show Int32.toInt (x4 + 1) = _
      omega
    · by_cases ci : i = m
      · rw [ci, ← ev5, ← ev2]; exact c5.symm
      · exact a6 i (by omega)
  · have := z.2 m (by omega)
    omega
def wof_3 (j : Nat) : Nat := if j = 0 then 0 else if j = 1 then 5 else if j = 2 then 9 else if j = 3 then 14 else if j = 4 then 19 else if j = 5 then 26 else if j = 6 then 31 else if j = 7 then 37 else if j = 8 then 42 else 47
def wln_3 (j : Nat) : Nat := if j = 0 then 4 else if j = 1 then 3 else if j = 2 then 4 else if j = 3 then 4 else if j = 4 then 6 else if j = 5 then 4 else if j = 6 then 5 else if j = 7 then 4 else if j = 8 then 4 else 0
def wcd_3 (j : Nat) : Nat := if j = 0 then 8 else if j = 1 then 9 else if j = 2 then 10 else if j = 3 then 15 else if j = 4 then 11 else if j = 5 then 12 else if j = 6 then 13 else if j = 7 then 16 else if j = 8 then 14 else 0
theorem wtb_3 : ∀ j : Nat, j < 9 → wof_3 (j + 1) = wof_3 j + wln_3 j + 1 ∧ wof_3 j + wln_3 j < 47 ∧ cw 3 (wof_3 j + wln_3 j) = 32 ∧ (∀ i : Nat, i < wln_3 j → ¬ cw 3 (wof_3 j + i) = 32) ∧ (wdL (wcd_3 j)).length = wln_3 j ∧ (∀ i : Nat, i < wln_3 j → cw 3 (wof_3 j + i) = (wdL (wcd_3 j)).getD i 0) := by decide +kernel
theorem wte_3 : wof_3 0 = 0 ∧ wof_3 9 = 47 := by decide
theorem smi_3 {B : Nat → Int} {s e j : Nat} (hj : j < 9) : smW B s e 3 (wof_3 j) (wln_3 j) ↔ isW B s e (wcd_3 j) := by
  obtain ⟨-, -, -, -, h5, h6⟩ := wtb_3 j hj
  unfold smW isW
  rw [h5]
  exact ⟨fun z => ⟨z.1, fun i hi => (z.2 i hi).trans (h6 i hi)⟩, fun z => ⟨z.1, fun i hi => (z.2 i hi).trans (h6 i hi).symm⟩⟩
theorem win_3 {B : Nat → Int} (q : dK) (s e : Nat) (hB : ∀ i : Nat, Int32.toInt (q.1 46 i) = B i) (h5 : Int32.toInt (q.1 24 5) = (s : Int)) (h6 : Int32.toInt (q.1 24 6) = (e : Int)) (hse : s ≤ e) (he : e ≤ 400) :
    dAll (zX4_wordIn_s24_t3 q) (fun (o : Int32 × dK) => o.2 = q ∧ ((Int32.toInt (q.1 24 4) = 1 ∧ ∃ j : Nat, j < 9 ∧ Int32.toInt o.1 = (j : Int) ∧ isW B s e (wcd_3 j)) ∨ (Int32.toInt o.1 = -1 ∧ ∀ j : Nat, j < 9 → ¬ (Int32.toInt (q.1 24 4) = 1 ∧ isW B s e (wcd_3 j))))) := by
  have d0 : Int32.toInt 0 = 0 := by decide
  have d1 : Int32.toInt 1 = 1 := by decide
  have dm : Int32.toInt (-1) = -1 := by decide
  have d32 : Int32.toInt 32 = 32 := by decide
  have dL : Int32.toInt 47 = 47 := by decide
  unfold zX4_wordIn_s24_t3 zX4_wordIn_s24_t3_7
  refine dA_fix (fun (a : dK × Int32 × Int32 × Int32) => a.1 = q ∧ ∃ j m : Nat, j ≤ 9 ∧ Int32.toInt a.2.1 = (j : Int) ∧ Int32.toInt a.2.2.1 = ((wof_3 j : Nat) : Int) ∧ Int32.toInt a.2.2.2 = ((wof_3 j + m : Nat) : Int) ∧ (j < 9 → m ≤ wln_3 j) ∧ (j = 9 → m = 0) ∧ ∀ i : Nat, i < j → ¬ isW B s e (wcd_3 i)) ?_ dF _ ⟨rfl, 0, 0, by decide, d0, d0, d0, fun _ => Nat.zero_le _, fun _ => rfl, fun i hi => absurd hi (Nat.not_lt_zero i)⟩
  intro k hk a ha
  obtain ⟨qa, x2, x3, x4⟩ := a
  obtain ⟨a1, j, m, a2, a3, a4, a5, a6, a7, a8⟩ := ha
  replace a1 : qa = q := a1
  replace a3 : Int32.toInt x2 = (j : Int) := a3
  replace a4 : Int32.toInt x3 = ((wof_3 j : Nat) : Int) := a4
  replace a5 : Int32.toInt x4 = ((wof_3 j + m : Nat) : Int) := a5
  subst a1
  show dAll (zX4_wordIn_s24_t3_7b (fun q x2 x3 x4 => k (q, x2, x3, x4)) qa x2 x3 x4) _
  unfold zX4_wordIn_s24_t3_7b zX4_wordIn_s24_t3_62 zX4_wordIn_s24_t3_56
  have hN := wte_3.2
  refine dA_le (fun c => dA_some ⟨rfl, Or.inr ⟨dm, fun i hi z => ?_⟩⟩) (fun c => dA_eq (fun _ c1 => dA_G (fun hg => dA_L (fun v2 e2 => ?_))) (fun _ c1 => dA_some ⟨rfl, Or.inr ⟨dm, fun i hi z => c1 (z.1.trans d1.symm)⟩⟩))
  · rcases Nat.lt_or_ge j 9 with hj | hj
    · have := (wtb_3 j hj).2.1
      have := a6 hj
      omega
    · exact a8 i (by omega) z.2
  · have hj : j < 9 := by
      rcases Nat.lt_or_ge j 9 with hj | hj
      · exact hj
      · exfalso
        have ej : j = 9 := by omega
        have := a7 ej
        rw [ej] at a5
        omega
    obtain ⟨w1, w2, w3, w4, w5, w6⟩ := wtb_3 j hj
    have hm := a6 hj
    have ev : Int32.toInt v2 = cw 3 (wof_3 j + m) := by rw [e2]; exact chV_i a5
    have t4 : Int32.toInt (x4 + 1) = Int32.toInt x4 + 1 := ti_add rfl d1 (by omega) (by omega)
    have t2 : Int32.toInt (x2 + 1) = Int32.toInt x2 + 1 := ti_add rfl d1 (by omega) (by omega)
    refine dA_eq (fun _ c2 => ?_) (fun _ c2 => ?_)
    · have em : m = wln_3 j := by
        rcases Nat.lt_or_ge m (wln_3 j) with cm | cm
        · exact absurd (by omega) (w4 m cm)
        · omega
      refine dA_B (sm_3 qa x3 x4 s e (wof_3 j) (wln_3 j) hB h5 h6 hse he a4 (by rw [a5, em]) (by omega)) (fun r3 q5 z => ?_)
      obtain ⟨z1, z2⟩ := z
      replace z1 : q5 = qa := z1
      replace z2 : (Int32.toInt r3 = 1 ∧ smW B s e 3 (wof_3 j) (wln_3 j)) ∨ (Int32.toInt r3 = 0 ∧ ¬ smW B s e 3 (wof_3 j) (wln_3 j)) := z2
      subst z1
      refine dA_eq (fun _ c3 => ?_) (fun _ c3 => dA_some ⟨rfl, Or.inl ⟨c1.trans d1, j, hj, a3, ?_⟩⟩)
      · refine hk (q5, x2 + 1, x4 + 1, x4 + 1) ⟨rfl, j + 1, 0, by omega, ?_, ?_, ?_, fun _ => Nat.zero_le _, fun _ => rfl, fun i hi => ?_⟩
        · show Int32.toInt (x2 + 1) = _
          omega
        · show Int32.toInt (x4 + 1) = _
          omega
        · show Int32.toInt (x4 + 1) = _
          omega
        · by_cases ci : i = j
          · rw [ci]
            rcases z2 with z2 | z2
            · omega
            · exact fun y => z2.2 ((smi_3 hj).mpr y)
          · exact a8 i (by omega)
      · rcases z2 with z2 | z2
        · exact (smi_3 hj).mp z2.2
        · omega
    · refine hk (qa, x2, x3, x4 + 1) ⟨rfl, j, m + 1, a2, a3, a4, ?_, fun _ => ?_, fun y => by omega, a8⟩
      · show Int32.toInt (x4 + 1) = _
        omega
      · rcases Nat.lt_or_ge m (wln_3 j) with cm | cm
        · omega
        · exfalso
          have em : m = wln_3 j := by omega
          rw [em, w3] at ev
          exact c2 (ev.trans d32.symm)

theorem sgt_4 : ∀ j : Nat, j < 3 → cw 4 j = ([42, 47, 37] : List Int).getD j 0 := by decide +kernel
theorem sgi_4 {B : Nat → Int} (q : dK) (p2 : Int32) (n s : Nat) (hB : ∀ i : Nat, Int32.toInt (q.1 46 i) = B i) (h1 : Int32.toInt (q.1 24 1) = (n : Int)) (h5 : Int32.toInt (q.1 24 5) = (s : Int)) (hp : 0 ≤ Int32.toInt p2 ∧ Int32.toInt p2 ≤ 100) :
    dAll (zX4_signIn_s24_t4 q p2) (fun (o : Int32 × dK) => o.2 = q ∧ ((∃ j : Nat, j < 3 ∧ Int32.toInt o.1 = Int32.toInt p2 + (j : Int) ∧ sgA B n s (Int32.toInt (q.1 24 4)) (([42, 47, 37] : List Int).getD j 0)) ∨ (Int32.toInt o.1 = -1 ∧ ∀ j : Nat, j < 3 → ¬ sgA B n s (Int32.toInt (q.1 24 4)) (([42, 47, 37] : List Int).getD j 0)))) := by
  have d0 : Int32.toInt 0 = 0 := by decide
  have d1 : Int32.toInt 1 = 1 := by decide
  have dm : Int32.toInt (-1) = -1 := by decide
  have dN : Int32.toInt 3 = 3 := by decide
  unfold zX4_signIn_s24_t4 zX4_signIn_s24_t4_2
  refine dA_fix (fun (a : dK × Int32 × Int32) => a.1 = q ∧ a.2.1 = p2 ∧ ∃ j : Nat, j ≤ 3 ∧ Int32.toInt a.2.2 = (j : Int) ∧ ∀ i : Nat, i < j → ¬ sgA B n s (Int32.toInt (q.1 24 4)) (([42, 47, 37] : List Int).getD i 0)) ?_ dF _ ⟨rfl, rfl, 0, by decide, d0, fun i hi => absurd hi (Nat.not_lt_zero i)⟩
  intro k hk a ha
  obtain ⟨qa, x2, x3⟩ := a
  obtain ⟨a1, a2, j, a3, a4, a5⟩ := ha
  replace a1 : qa = q := a1
  replace a2 : x2 = p2 := a2
  replace a4 : Int32.toInt x3 = (j : Int) := a4
  subst a1 a2
  show dAll (zX4_signIn_s24_t4_2b (fun q x2 x3 => k (q, x2, x3)) qa x2 x3) _
  unfold zX4_signIn_s24_t4_2b
  refine dA_le (fun c => dA_some ⟨rfl, Or.inr ⟨dm, fun i hi => a5 i (by omega)⟩⟩) (fun c => dA_G (fun _ => dA_L (fun v2 e2 => ?_)))
  have ev : Int32.toInt v2 = ([42, 47, 37] : List Int).getD j 0 := by rw [e2, chV_i a4]; exact sgt_4 j (by omega)
  refine dA_B (sg_is qa v2 n s hB h1 h5) (fun r3 q5 z => ?_)
  obtain ⟨z1, z2⟩ := z
  replace z1 : q5 = qa := z1
  replace z2 : (Int32.toInt r3 = 1 ∧ sgA B n s (Int32.toInt (qa.1 24 4)) (Int32.toInt v2)) ∨ (Int32.toInt r3 = 0 ∧ ¬ sgA B n s (Int32.toInt (qa.1 24 4)) (Int32.toInt v2)) := z2
  subst z1
  rw [ev] at z2
  have t3 : Int32.toInt (x3 + 1) = Int32.toInt x3 + 1 := ti_add rfl d1 (by omega) (by omega)
  refine dA_eq (fun _ c3 => ?_) (fun _ c3 => dA_some ⟨rfl, Or.inl ⟨j, by omega, ?_, ?_⟩⟩)
  · refine hk (q5, x2, x3 + 1) ⟨rfl, rfl, j + 1, by omega, ?_, fun i hi => ?_⟩
    · show Int32.toInt (x3 + 1) = _
      omega
    · by_cases ci : i = j
      · rw [ci]
        rcases z2 with z2 | z2
        · omega
        · exact z2.2
      · exact a5 i (by omega)
  · show Int32.toInt (x2 + x3) = _
    rw [ti_add rfl a4 (by omega) (by omega)]
  · rcases z2 with z2 | z2
    · exact z2.2
    · omega

theorem sgt_5 : ∀ j : Nat, j < 2 → cw 5 j = ([43, 45] : List Int).getD j 0 := by decide +kernel
theorem sgi_5 {B : Nat → Int} (q : dK) (p2 : Int32) (n s : Nat) (hB : ∀ i : Nat, Int32.toInt (q.1 46 i) = B i) (h1 : Int32.toInt (q.1 24 1) = (n : Int)) (h5 : Int32.toInt (q.1 24 5) = (s : Int)) (hp : 0 ≤ Int32.toInt p2 ∧ Int32.toInt p2 ≤ 100) :
    dAll (zX4_signIn_s24_t5 q p2) (fun (o : Int32 × dK) => o.2 = q ∧ ((∃ j : Nat, j < 2 ∧ Int32.toInt o.1 = Int32.toInt p2 + (j : Int) ∧ sgA B n s (Int32.toInt (q.1 24 4)) (([43, 45] : List Int).getD j 0)) ∨ (Int32.toInt o.1 = -1 ∧ ∀ j : Nat, j < 2 → ¬ sgA B n s (Int32.toInt (q.1 24 4)) (([43, 45] : List Int).getD j 0)))) := by
  have d0 : Int32.toInt 0 = 0 := by decide
  have d1 : Int32.toInt 1 = 1 := by decide
  have dm : Int32.toInt (-1) = -1 := by decide
  have dN : Int32.toInt 2 = 2 := by decide
  unfold zX4_signIn_s24_t5 zX4_signIn_s24_t5_2
  refine dA_fix (fun (a : dK × Int32 × Int32) => a.1 = q ∧ a.2.1 = p2 ∧ ∃ j : Nat, j ≤ 2 ∧ Int32.toInt a.2.2 = (j : Int) ∧ ∀ i : Nat, i < j → ¬ sgA B n s (Int32.toInt (q.1 24 4)) (([43, 45] : List Int).getD i 0)) ?_ dF _ ⟨rfl, rfl, 0, by decide, d0, fun i hi => absurd hi (Nat.not_lt_zero i)⟩
  intro k hk a ha
  obtain ⟨qa, x2, x3⟩ := a
  obtain ⟨a1, a2, j, a3, a4, a5⟩ := ha
  replace a1 : qa = q := a1
  replace a2 : x2 = p2 := a2
  replace a4 : Int32.toInt x3 = (j : Int) := a4
  subst a1 a2
  show dAll (zX4_signIn_s24_t5_2b (fun q x2 x3 => k (q, x2, x3)) qa x2 x3) _
  unfold zX4_signIn_s24_t5_2b
  refine dA_le (fun c => dA_some ⟨rfl, Or.inr ⟨dm, fun i hi => a5 i (by omega)⟩⟩) (fun c => dA_G (fun _ => dA_L (fun v2 e2 => ?_)))
  have ev : Int32.toInt v2 = ([43, 45] : List Int).getD j 0 := by rw [e2, chV_i a4]; exact sgt_5 j (by omega)
  refine dA_B (sg_is qa v2 n s hB h1 h5) (fun r3 q5 z => ?_)
  obtain ⟨z1, z2⟩ := z
  replace z1 : q5 = qa := z1
  replace z2 : (Int32.toInt r3 = 1 ∧ sgA B n s (Int32.toInt (qa.1 24 4)) (Int32.toInt v2)) ∨ (Int32.toInt r3 = 0 ∧ ¬ sgA B n s (Int32.toInt (qa.1 24 4)) (Int32.toInt v2)) := z2
  subst z1
  rw [ev] at z2
  have t3 : Int32.toInt (x3 + 1) = Int32.toInt x3 + 1 := ti_add rfl d1 (by omega) (by omega)
  refine dA_eq (fun _ c3 => ?_) (fun _ c3 => dA_some ⟨rfl, Or.inl ⟨j, by omega, ?_, ?_⟩⟩)
  · refine hk (q5, x2, x3 + 1) ⟨rfl, rfl, j + 1, by omega, ?_, fun i hi => ?_⟩
    · show Int32.toInt (x3 + 1) = _
      omega
    · by_cases ci : i = j
      · rw [ci]
        rcases z2 with z2 | z2
        · omega
        · exact z2.2
      · exact a5 i (by omega)
  · show Int32.toInt (x2 + x3) = _
    rw [ti_add rfl a4 (by omega) (by omega)]
  · rcases z2 with z2 | z2
    · exact z2.2
    · omega

theorem sgt_9 : ∀ j : Nat, j < 3 → cw 9 j = ([60, 62, 61] : List Int).getD j 0 := by decide +kernel
theorem sgi_9 {B : Nat → Int} (q : dK) (p2 : Int32) (n s : Nat) (hB : ∀ i : Nat, Int32.toInt (q.1 46 i) = B i) (h1 : Int32.toInt (q.1 24 1) = (n : Int)) (h5 : Int32.toInt (q.1 24 5) = (s : Int)) (hp : 0 ≤ Int32.toInt p2 ∧ Int32.toInt p2 ≤ 100) :
    dAll (zX4_signIn_s24_t9 q p2) (fun (o : Int32 × dK) => o.2 = q ∧ ((∃ j : Nat, j < 3 ∧ Int32.toInt o.1 = Int32.toInt p2 + (j : Int) ∧ sgA B n s (Int32.toInt (q.1 24 4)) (([60, 62, 61] : List Int).getD j 0)) ∨ (Int32.toInt o.1 = -1 ∧ ∀ j : Nat, j < 3 → ¬ sgA B n s (Int32.toInt (q.1 24 4)) (([60, 62, 61] : List Int).getD j 0)))) := by
  have d0 : Int32.toInt 0 = 0 := by decide
  have d1 : Int32.toInt 1 = 1 := by decide
  have dm : Int32.toInt (-1) = -1 := by decide
  have dN : Int32.toInt 3 = 3 := by decide
  unfold zX4_signIn_s24_t9 zX4_signIn_s24_t9_2
  refine dA_fix (fun (a : dK × Int32 × Int32) => a.1 = q ∧ a.2.1 = p2 ∧ ∃ j : Nat, j ≤ 3 ∧ Int32.toInt a.2.2 = (j : Int) ∧ ∀ i : Nat, i < j → ¬ sgA B n s (Int32.toInt (q.1 24 4)) (([60, 62, 61] : List Int).getD i 0)) ?_ dF _ ⟨rfl, rfl, 0, by decide, d0, fun i hi => absurd hi (Nat.not_lt_zero i)⟩
  intro k hk a ha
  obtain ⟨qa, x2, x3⟩ := a
  obtain ⟨a1, a2, j, a3, a4, a5⟩ := ha
  replace a1 : qa = q := a1
  replace a2 : x2 = p2 := a2
  replace a4 : Int32.toInt x3 = (j : Int) := a4
  subst a1 a2
  show dAll (zX4_signIn_s24_t9_2b (fun q x2 x3 => k (q, x2, x3)) qa x2 x3) _
  unfold zX4_signIn_s24_t9_2b
  refine dA_le (fun c => dA_some ⟨rfl, Or.inr ⟨dm, fun i hi => a5 i (by omega)⟩⟩) (fun c => dA_G (fun _ => dA_L (fun v2 e2 => ?_)))
  have ev : Int32.toInt v2 = ([60, 62, 61] : List Int).getD j 0 := by rw [e2, chV_i a4]; exact sgt_9 j (by omega)
  refine dA_B (sg_is qa v2 n s hB h1 h5) (fun r3 q5 z => ?_)
  obtain ⟨z1, z2⟩ := z
  replace z1 : q5 = qa := z1
  replace z2 : (Int32.toInt r3 = 1 ∧ sgA B n s (Int32.toInt (qa.1 24 4)) (Int32.toInt v2)) ∨ (Int32.toInt r3 = 0 ∧ ¬ sgA B n s (Int32.toInt (qa.1 24 4)) (Int32.toInt v2)) := z2
  subst z1
  rw [ev] at z2
  have t3 : Int32.toInt (x3 + 1) = Int32.toInt x3 + 1 := ti_add rfl d1 (by omega) (by omega)
  refine dA_eq (fun _ c3 => ?_) (fun _ c3 => dA_some ⟨rfl, Or.inl ⟨j, by omega, ?_, ?_⟩⟩)
  · refine hk (q5, x2, x3 + 1) ⟨rfl, rfl, j + 1, by omega, ?_, fun i hi => ?_⟩
    · show Int32.toInt (x3 + 1) = _
      omega
    · by_cases ci : i = j
      · rw [ci]
        rcases z2 with z2 | z2
        · omega
        · exact z2.2
      · exact a5 i (by omega)
  · show Int32.toInt (x2 + x3) = _
    rw [ti_add rfl a4 (by omega) (by omega)]
  · rcases z2 with z2 | z2
    · exact z2.2
    · omega

