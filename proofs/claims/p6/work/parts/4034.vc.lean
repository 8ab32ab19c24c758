/-! the reader of texts: what it takes is in the grammar -/
def pC (n : Nat) (c : Nat → Int32) (i : Nat) : Int := if i < n then (c i).toInt else 0
def pV (v : Nat → Int32) (i : Nat) : Int := (v i).toInt
def loW (o : Bool) : Int := match o with
  | true => 15
  | false => 8
def hiW (o : Bool) : Int := match o with
  | true => 21
  | false => 16
def fn (q : dS) : Prop := q.1 0 21 = -1
def PQ (o : Bool) (n : Nat) (c v : Nat → Int32) (i : Nat) (q : dS) : Prop := TS q ∧ q.1 9 = c ∧ q.1 10 = v ∧ (q.1 0 18).toInt = (n : Int) ∧ n ≤ 400 ∧ c n = 0 ∧ (q.1 0 19).toInt = (i : Int) ∧ i ≤ n ∧ (q.1 0 10).toInt = bI o ∧ (q.1 0 8).toInt = loW o ∧ (q.1 0 9).toInt = hiW o
def PR (o : Bool) (n : Nat) (c v : Nat → Int32) (q : dS) (i : Nat) (X : Nat → Prop) (Q : dS) : Prop := ∃ j : Nat, i ≤ j ∧ PQ o n c v j Q ∧ dFr [] [19, 20, 21] q Q ∧ (fn Q → fn q ∧ X j)
theorem PR.bind {o : Bool} {n : Nat} {c v : Nat → Int32} {q Q Q2 : dS} {i j : Nat} {X Y : Nat → Prop} (hj : i ≤ j) (hF : dFr [] [19, 20, 21] q Q) (hX : fn Q → fn q) (h2 : PR o n c v Q j Y Q2) (hk : ∀ m : Nat, fn Q → Y m → X m) : PR o n c v q i X Q2 := by
  obtain ⟨m, h3, h4, h5, h6⟩ := h2
  exact ⟨m, by omega, h4, hF.t h5 (by decide) (by decide), fun z => ⟨hX (h6 z).1, hk m (h6 z).1 (h6 z).2⟩⟩
theorem PR.no {o : Bool} {n : Nat} {c v : Nat → Int32} {q Q : dS} {i j : Nat} {X : Nat → Prop} (hj : i ≤ j) (h : PQ o n c v j Q) (hF : dFr [] [19, 20, 21] q Q) (hn : ¬ fn Q) : PR o n c v q i X Q := ⟨j, hj, h, hF, fun z => absurd z hn⟩
theorem pq_set {o : Bool} {n : Nat} {c v : Nat → Int32} {i : Nat} {q : dS} {k : Nat} {x : Int32} (hk : k = 20 ∨ k = 21) (h : PQ o n c v i q) : PQ o n c v i (dui q 0 k x) := by
  obtain ⟨hT, h1, h2, h3, h4, h5, h6, h7, h8, h9, h10⟩ := h
  refine ⟨?_, ?_, ?_, ?_, h4, h5, ?_, h7, ?_, ?_, ?_⟩
  · rcases hk with e | e <;> subst e <;> exact ts_f hT (ti_rg _).1 (ti_rg _).2
  · rw [dui_o (by decide)]; exact h1
  · rw [dui_o (by decide)]; exact h2
  · rw [dui_n (by omega)]; exact h3
  · rw [dui_n (by omega)]; exact h6
  · rw [dui_n (by omega)]; exact h8
  · rw [dui_n (by omega)]; exact h9
  · rw [dui_n (by omega)]; exact h10
theorem pq_tok {o : Bool} {n : Nat} {c v : Nat → Int32} {i : Nat} {q : dS} (h : PQ o n c v i q) (hi : i < n) : PQ o n c v (i + 1) (dui q 0 19 ((q.1 0 19) + 1)) := by
  obtain ⟨hT, h1, h2, h3, h4, h5, h6, h7, h8, h9, h10⟩ := h
  have t : Int32.toInt (q.1 0 19 + 1) = (i : Int) + 1 := ti_add h6 (by decide) (by omega) (by omega)
  refine ⟨ts_f hT (ti_rg _).1 (ti_rg _).2, ?_, ?_, ?_, h4, h5, ?_, by omega, ?_, ?_, ?_⟩
  · rw [dui_o (by decide)]; exact h1
  · rw [dui_o (by decide)]; exact h2
  · rw [dui_n (by decide)]; exact h3
  · rw [dui_e, t]; omega
  · rw [dui_n (by decide)]; exact h8
  · rw [dui_n (by decide)]; exact h9
  · rw [dui_n (by decide)]; exact h10
theorem fr_p {q : dS} {k : Nat} {x : Int32} (hk : k ∈ [19, 20, 21]) : dFr [] [19, 20, 21] q (dui q 0 k x) := dFr.rf.f hk
theorem fr_pt {q q1 q2 : dS} (h : dFr [] [19, 20, 21] q q1) (h2 : dFr [] [19, 20, 21] q1 q2) : dFr [] [19, 20, 21] q q2 := h.t h2 (by decide) (by decide)
theorem fn_tok {q : dS} {x : Int32} : fn (dui q 0 19 x) ↔ fn q := by unfold fn; rw [dui_n (by decide)]
theorem fn_lea {q : dS} {x : Int32} : fn (dui q 0 20 x) ↔ fn q := by unfold fn; rw [dui_n (by decide)]
theorem pr_fine (q : dS) : dOk (zX10_fine q) (fun r => r.2 = q ∧ ((r.1 = 1 ∧ fn q) ∨ (r.1 = 0 ∧ ¬ fn q))) := by
  unfold zX10_fine zX10_fine_13
  by_cases c : q.1 0 21 = -1
  · rw [if_pos c]; exact dOk_G (by decide) (dOk_some ⟨rfl, Or.inl ⟨rfl, c⟩⟩)
  · rw [if_neg c]; exact dOk_G (by decide) (dOk_some ⟨rfl, Or.inr ⟨rfl, c⟩⟩)
theorem pr_faults {o : Bool} {n : Nat} {c v : Nat → Int32} {i : Nat} {q : dS} (h : PQ o n c v i q) : dOk (zX10_faults q) (fun Q => PQ o n c v i Q ∧ dFr [] [19, 20, 21] q Q ∧ ¬ fn Q) := by
  unfold zX10_faults zX10_faults_20
  refine dOk_B (pr_fine q) (fun r q3 hr => ?_)
  obtain ⟨e3, hr⟩ := hr
  have e3 : q3 = q := e3
  subst e3
  rcases hr with ⟨e, hf⟩ | ⟨e, hf⟩
  · have e : r = 1 := e
    subst e
    rw [if_neg (by decide)]
    have h19 := h.2.2.2.2.2.2.1
    have hn := h.2.2.2.2.2.2.2.1
    have h400 := h.2.2.2.2.1
    refine dOk_G (dg_ok (by omega) (by omega)) (dOk_L (fun v5 e5 => dOk_L (fun q6 e6 => dOk_some ?_)))
    have f5 : 0 ≤ Int32.toInt v5 ∧ Int32.toInt v5 ≤ 400 := by rw [e5]; exact h.1.1 11 _
    subst e6
    refine ⟨pq_set (Or.inr rfl) h, fr_p (by decide), ?_⟩
    unfold fn
    rw [dui_e]
    intro z
    rw [z] at f5
    exact absurd f5.1 (by decide)
  · have e : r = 0 := e
    subst e
    rw [if_pos rfl]
    exact dOk_some ⟨h, dFr.rf, hf⟩
/-- the code in hand -/
theorem pr_code {o : Bool} {n : Nat} {c v : Nat → Int32} {i : Nat} {q : dS} (h : PQ o n c v i q) : (dg (q.1 0 19) 401 = true) ∧ Int32.toInt (q.1 9 (Int32.toNatClampNeg (q.1 0 19))) = pC n c i ∧ Int32.toInt (q.1 10 (Int32.toNatClampNeg (q.1 0 19))) = pV v i := by
  have h19 := h.2.2.2.2.2.2.1
  have hn := h.2.2.2.2.2.2.2.1
  have h400 := h.2.2.2.2.1
  have e : Int32.toNatClampNeg (q.1 0 19) = i := by
    have := cl_eq (i := q.1 0 19) (by omega)
    omega
  refine ⟨dg_ok (by omega) (by omega), ?_, ?_⟩
  · rw [e, h.2.1]
    unfold pC
    by_cases z : i < n
    · rw [if_pos z]
    · rw [if_neg z]
      have : i = n := by omega
      rw [this, h.2.2.2.2.2.1]
      decide
  · rw [e, h.2.2.1]
    rfl
theorem pC_in {n : Nat} {c : Nat → Int32} {i : Nat} (h : ¬ pC n c i = 0) : i < n := by
  unfold pC at h
  by_cases z : i < n
  · exact z
  · rw [if_neg z] at h; exact absurd rfl h
theorem pr_takes {o : Bool} {n : Nat} {c v : Nat → Int32} {i : Nat} {q : dS} (p1 : Int32) (hp : ¬ p1.toInt = 0) (h : PQ o n c v i q) : dOk (zX10_takes0 q p1) (fun r => (r.1 = 1 ∧ fn q ∧ fn r.2 ∧ pC n c i = p1.toInt ∧ PQ o n c v (i + 1) r.2 ∧ dFr [] [19, 20, 21] q r.2) ∨ (r.1 = 0 ∧ r.2 = q ∧ (fn q → ¬ pC n c i = p1.toInt))) := by
  unfold zX10_takes0 zX10_takes0_24 zX10_takes0_25 zX10_takes0_40
  refine dOk_B (pr_fine q) (fun r q3 hr => ?_)
  obtain ⟨e3, hr⟩ := hr
  have e3 : q3 = q := e3
  subst e3
  rw [if_pos rfl]
  rcases hr with ⟨e, hf⟩ | ⟨e, hf⟩
  · have e : r = 1 := e
    subst e
    rw [if_neg (by decide)]
    obtain ⟨g1, g2, _⟩ := pr_code h
    refine dOk_G g1 (dOk_L (fun v5 e5 => ?_))
    rw [← e5] at g2
    refine dOk_eq rfl rfl (fun _ z => ?_) (fun _ z => ?_)
    · rw [if_neg (by decide)]
      refine dOk_L (fun q1 e1 => dOk_G (by decide) (dOk_some (Or.inl ⟨rfl, hf, ?_, by omega, ?_, ?_⟩)))
      · show fn q1
        rw [e1]; exact fn_tok.mpr hf
      · show PQ o n c v (i + 1) q1
        rw [e1]; exact pq_tok h (pC_in (c := c) (by omega))
      · show dFr [] [19, 20, 21] q3 q1
        rw [e1]; exact fr_p (by decide)
    · exact dOk_G (by decide) (dOk_some (Or.inr ⟨rfl, rfl, fun _ => by omega⟩))
  · have e : r = 0 := e
    subst e
    rw [if_pos rfl]
    exact dOk_G (by decide) (dOk_some (Or.inr ⟨rfl, rfl, fun z => absurd z hf⟩))
theorem pr_must {o : Bool} {n : Nat} {c v : Nat → Int32} {i : Nat} {q : dS} (p1 : Int32) (hp : ¬ p1.toInt = 0) (h : PQ o n c v i q) : dOk (zX10_must q p1) (fun Q => PR o n c v q i (fun j => j = i + 1 ∧ pC n c i = p1.toInt) Q) := by
  unfold zX10_must zX10_must_12
  refine dOk_B (pr_takes p1 hp h) (fun r q3 hr => ?_)
  rcases hr with ⟨e, h1, h2, h3, h4, h5⟩ | ⟨e, e3, h2⟩
  · have e : r = 1 := e
    subst e
    rw [if_neg (by decide)]
    exact dOk_some ⟨i + 1, by omega, h4, h5, fun _ => ⟨h1, rfl, h3⟩⟩
  · have e : r = 0 := e
    have e3 : q3 = q := e3
    subst e e3
    rw [if_pos rfl]
    refine dOk_V (pr_faults h) (fun q6 h6 => dOk_some ?_)
    exact PR.no (Nat.le_refl i) h6.1 h6.2.1 h6.2.2
theorem pr_leaf {o : Bool} {n : Nat} {c v : Nat → Int32} {i : Nat} {q : dS} (hi : i < n) (h : PQ o n c v i q) : dOk (zX10_leaf q) (fun Q => PR o n c v q i (fun j => j = i + 1) Q) := by
  have h13 : ∀ q1 : dS, PQ o n c v i q1 → dFr [] [19, 20, 21] q q1 → (fn q1 → fn q) → dOk (zX10_leaf_13 q1) (fun Q => PR o n c v q i (fun j => j = i + 1) Q) := by
    intro q1 h1 hF1 hf1
    unfold zX10_leaf_13 zX10_leaf_40
    refine dOk_L (fun q2 e2 => ?_)
    have h2 : PQ o n c v i q2 := by rw [e2]; exact pq_set (Or.inl rfl) h1
    have hF2 : dFr [] [19, 20, 21] q q2 := by rw [e2]; exact fr_pt hF1 (fr_p (by decide))
    have hf2 : fn q2 → fn q := by rw [e2]; exact fun z => hf1 (fn_lea.mp z)
    refine dOk_B (pr_fine q2) (fun r q4 hr => ?_)
    obtain ⟨e3, hr⟩ := hr
    have e3 : q4 = q2 := e3
    subst e3
    rcases hr with ⟨e, hf⟩ | ⟨e, hf⟩
    · have e : r = 1 := e
      subst e
      rw [if_neg (by decide)]
      refine dOk_L (fun q5 e5 => dOk_some ?_)
      subst e5
      exact ⟨i + 1, by omega, pq_tok h2 hi, fr_pt hF2 (fr_p (by decide)), fun z => ⟨hf2 hf, rfl⟩⟩
    · have e : r = 0 := e
      subst e
      rw [if_pos rfl]
      exact dOk_some (PR.no (Nat.le_refl i) h2 hF2 hf)
  unfold zX10_leaf
  refine dOk_eq rfl rfl (fun _ _ => ?_) (fun _ _ => h13 q h dFr.rf (fun z => z))
  exact dOk_V (pr_faults h) (fun q3 h3 => h13 q3 h3.1 h3.2.1 (fun z => absurd z h3.2.2))
theorem pr_number {o : Bool} {n : Nat} {c v : Nat → Int32} {i : Nat} {q : dS} (p1 p2 : Int32) (h : PQ o n c v i q) : dOk (zX10_mustNumber q p1 p2) (fun Q => PR o n c v q i (fun j => j = i + 1 ∧ pC n c i = 50 ∧ p1.toInt ≤ pV v i ∧ pV v i ≤ p2.toInt) Q) := by
  have h42 : ∀ q1 : dS, PQ o n c v i q1 → dFr [] [19, 20, 21] q q1 → (fn q1 → fn q ∧ pC n c i = 50 ∧ p1.toInt ≤ pV v i ∧ pV v i ≤ p2.toInt) → dOk (zX10_mustNumber_42 q1) (fun Q => PR o n c v q i (fun j => j = i + 1 ∧ pC n c i = 50 ∧ p1.toInt ≤ pV v i ∧ pV v i ≤ p2.toInt) Q) := by
    intro q1 h1 hF1 hf1
    unfold zX10_mustNumber_42 zX10_mustNumber_59
    refine dOk_B (pr_fine q1) (fun r q4 hr => ?_)
    obtain ⟨e3, hr⟩ := hr
    have e3 : q4 = q1 := e3
    subst e3
    rcases hr with ⟨e, hf⟩ | ⟨e, hf⟩
    · have e : r = 1 := e
      subst e
      rw [if_neg (by decide)]
      refine dOk_L (fun q5 e5 => dOk_some ?_)
      subst e5
      have hh := hf1 hf
      exact ⟨i + 1, by omega, pq_tok h1 (pC_in (c := c) (by omega)), fr_pt hF1 (fr_p (by decide)), fun z => ⟨hh.1, rfl, hh.2⟩⟩
    · have e : r = 0 := e
      subst e
      rw [if_pos rfl]
      exact dOk_some (PR.no (Nat.le_refl i) h1 hF1 hf)
  have h38 : dOk (zX10_mustNumber_38 q) (fun Q => PR o n c v q i (fun j => j = i + 1 ∧ pC n c i = 50 ∧ p1.toInt ≤ pV v i ∧ pV v i ≤ p2.toInt) Q) := by
    unfold zX10_mustNumber_38
    exact dOk_V (pr_faults h) (fun q3 h3 => h42 q3 h3.1 h3.2.1 (fun z => absurd z h3.2.2))
  unfold zX10_mustNumber
  refine dOk_B (pr_fine q) (fun r q3 hr => ?_)
  obtain ⟨e3, hr⟩ := hr
  have e3 : q3 = q := e3
  subst e3
  rcases hr with ⟨e, hf⟩ | ⟨e, hf⟩
  · have e : r = 1 := e
    subst e
    rw [if_neg (by decide)]
    obtain ⟨g1, g2, g3⟩ := pr_code h
    refine dOk_G g1 (dOk_L (fun v5 e5 => ?_))
    rw [← e5] at g2
    refine dOk_eq (A := v5.toInt) (B := 50) rfl (by decide) (fun _ z => ?_) (fun _ _ => h38)
    refine dOk_G g1 (dOk_L (fun v7 e7 => ?_))
    rw [← e7] at g3
    refine dOk_V (ok_lies v7 p1 p2) (fun r8 hr8 => ?_)
    have hr8 : (Int32.toInt r8 = 1 ∧ Int32.toInt p1 ≤ Int32.toInt v7 ∧ Int32.toInt v7 ≤ Int32.toInt p2) ∨ (Int32.toInt r8 = 0 ∧ (Int32.toInt v7 < Int32.toInt p1 ∨ Int32.toInt p2 < Int32.toInt v7)) := hr8
    exact dOk_eq (A := r8.toInt) (B := 0) rfl (by decide) (fun _ _ => h38) (fun _ z8 => h42 q3 h dFr.rf (fun _ => ⟨hf, by omega, by omega, by omega⟩))
  · have e : r = 0 := e
    subst e
    rw [if_pos rfl]
    exact h42 q3 h dFr.rf (fun z => absurd z hf)
