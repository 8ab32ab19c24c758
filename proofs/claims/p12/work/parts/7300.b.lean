/-! calls over the first part of a world in two parts -/
theorem sp_C (wc wr : va_W) : (List.range wc.length).map (fun i => (wc ++ wr)[i]?) = wc.map some := by
  rw [← dw_rng wc]
  apply List.map_congr_left
  intro i hi
  exact List.getElem?_append_left (List.mem_range.mp hi)
theorem sp_R (wc wr : va_W) : ((List.range wr.length).map (fun i => wc.length + i)).map (fun i => (wc ++ wr)[i]?) = wr.map some := by
  rw [List.map_map, ← dw_rng wr]
  apply List.map_congr_left
  intro i _
  show (wc ++ wr)[wc.length + i]? = wr[i]?
  rw [List.getElem?_append_right (Nat.le_add_right _ _), Nat.add_sub_cancel_left]
theorem sp_n (n k : Nat) : va_nd ((List.range k).map (fun i => n + i)) = true := by
  apply dw_nd_of
  rw [List.pairwise_map]
  exact List.pairwise_lt_range.imp (fun h => Nat.add_lt_add_left h n)
theorem sp_d (n k : Nat) : ∀ i ∈ (List.range k).map (fun i => n + i), i ∉ List.range n := by
  intro i hi
  obtain ⟨j, _, rfl⟩ := List.mem_map.mp hi
  intro h
  exact absurd (List.mem_range.mp h) (by omega)
section SP
variable {p : Program} {l : Launch} {e : Env} {R : Room} {s : State} {m : MethodId} {args : Array Value} {below : List Frame} {meth : Method} {c : Code} {H : Heap} {locs : List Loc} {cells slots : Nat} {Q : State → Prop}
variable {pc : Nat} {ls : Array Slot} {rest st0 : List Value} {a : Array Value} {A0 : Nat → Prop} {H0 : Heap} {mc ms : Nat} {D : va_G} {ty : Nat → ClassId} {wc wr : va_W}
theorem sp_ki {post : Int32 → va_W → Prop} (hr : va_Run p l e R s m args below meth c H locs cells slots mc ms (F0 m pc ls st0) rest (va_Qi post (kz_B D ty (va_A wc H.size)) (va_A wc H.size) a) (va_A wc H.size)) (hP : va_P D vwCl (wc ++ wr) H) (hD : va_D A0 (wc ++ wr)) (hS : va_S A0 H0 H locs) (hA : ∀ q, H0.size ≤ q → A0 q)
    (kk : ∀ (r : Int32) (u : va_W) (H1 : Heap) (locs1 : List Loc), post r u → va_P D vwCl (wr ++ u) H1 → va_D A0 (wr ++ u) → va_S A0 H0 H1 locs1 → W p l e R s m args below meth c H1 locs1 (cells + mc) (slots + ms) Q (F0 m (pc + 3) ls (.int r :: rest))) : W p l e R s m args below meth c H locs cells slots Q (F0 m pc ls st0) :=
  kz_ki hr hP hD hS hA _ _ (sp_C wc wr) (sp_R wc wr) (sp_n _ _) (sp_d _ _) kk
theorem sp_kl {post : Int64 → va_W → Prop} (hr : va_Run p l e R s m args below meth c H locs cells slots mc ms (F0 m pc ls st0) rest (va_Ql post (kz_B D ty (va_A wc H.size)) (va_A wc H.size) a) (va_A wc H.size)) (hP : va_P D vwCl (wc ++ wr) H) (hD : va_D A0 (wc ++ wr)) (hS : va_S A0 H0 H locs) (hA : ∀ q, H0.size ≤ q → A0 q)
    (kk : ∀ (r : Int64) (u : va_W) (H1 : Heap) (locs1 : List Loc), post r u → va_P D vwCl (wr ++ u) H1 → va_D A0 (wr ++ u) → va_S A0 H0 H1 locs1 → W p l e R s m args below meth c H1 locs1 (cells + mc) (slots + ms) Q (F0 m (pc + 3) ls (.long r :: rest))) : W p l e R s m args below meth c H locs cells slots Q (F0 m pc ls st0) :=
  kz_kl hr hP hD hS hA _ _ (sp_C wc wr) (sp_R wc wr) (sp_n _ _) (sp_d _ _) kk
theorem sp_pv {A : Nat → Prop} {eo : Nat → Nat} {b ci : Nat} {fs As : List Value} {r : vw_C} (hK : va_K D vwCl (kzT ty) s) (hN : kz_N s) (hE : kz_E eo A s s.heap) (hP : va_P D vwCl (wc ++ wr) H) (hD : va_D A (wc ++ wr)) (hS : va_S A s.heap H locs) (hA : ∀ q, s.heap.size ≤ q → A q) (hc : vwCl[ci]? = some r) (he : wc[0]? = some (b, .inr (ci, fs))) : PreV s H r.1 b (va_Pc (.ref b :: As) (kz_pre D ty eo wc H.size)) As := by
  have hl : 0 < wc.length := (List.getElem?_eq_some_iff.mp he).1
  exact kz_preV (q0 := 0) hK hN hE hP hD hS hA hc (by rw [List.getElem?_append_left hl]; exact he) _ (dw_nd _) (sp_C wc wr)
end SP
/-! the law's invariant -/
/-- how often the paper's room can still grow -/
def lw_lv (x : Int) : Nat := (if x < 1 then 1 else 0) + (if x < 2 then 1 else 0) + (if x < 8 then 1 else 0) + (if x < 48 then 1 else 0) + (if x < 384 then 1 else 0) + (if x < 3840 then 1 else 0) + (if x < 46080 then 1 else 0)
theorem lw_ln {q : dK} (h : TC q) : Int32.toInt (q.1 32 103) = 0 ∨ Int32.toInt (q.1 32 103) = 1 ∨ Int32.toInt (q.1 32 103) = 2 ∨ Int32.toInt (q.1 32 103) = 8 ∨ Int32.toInt (q.1 32 103) = 48 ∨ Int32.toInt (q.1 32 103) = 384 ∨ Int32.toInt (q.1 32 103) = 3840 ∨ Int32.toInt (q.1 32 103) = 46080 := by
  rcases h.2.2.1 with hz | ⟨f, hf, _, _, _, k3, _, _, _⟩
  · left
    rw [hz.1]; decide
  · rw [k3]
    have hv : ∀ f : Nat, f < 7 → facI f * powI f = 0 ∨ facI f * powI f = 1 ∨ facI f * powI f = 2 ∨ facI f * powI f = 8 ∨ facI f * powI f = 48 ∨ facI f * powI f = 384 ∨ facI f * powI f = 3840 ∨ facI f * powI f = 46080 := by decide +kernel
    exact hv f (by omega)
theorem lw_dec {q o : dK} (h : TC q) (h2 : TC o) (hlt : Int32.toInt (q.1 32 103) < Int32.toInt (o.1 32 103)) : lw_lv (Int32.toInt (o.1 32 103)) + 1 ≤ lw_lv (Int32.toInt (q.1 32 103)) := by
  have a := lw_ln h
  have b := lw_ln h2
  generalize Int32.toInt (q.1 32 103) = x at a hlt ⊢
  generalize Int32.toInt (o.1 32 103) = y at b hlt ⊢
  rcases a with e | e | e | e | e | e | e | e <;> subst e <;> rcases b with e | e | e | e | e | e | e | e <;> subst e <;> first | (exfalso; omega) | decide
/-- what a call of the class leaves, and pays -/
def lw_X (q o : dK) (mc ms : Nat) : Prop := TC o ∧ o.2.2.length ≤ q.2.2.length + 1 ∧ mc ≤ 7 ∧ ms + 189744 * lw_lv (Int32.toInt (o.1 32 103)) ≤ 476 + 189744 * lw_lv (Int32.toInt (q.1 32 103))
theorem lx_rf {q : dK} (hT : TC q) : lw_X q q 0 0 := ⟨hT, Nat.le_succ _, Nat.zero_le _, by omega⟩
theorem lx_fr {S : List Nat} {F : List (Nat × Nat)} {q o : dK} (hT : TC o) (hF : cFr S F q o) (hd : (!S.contains 32 && !F.contains (32, 103)) = true) : lw_X q o 0 0 := by
  simp only [Bool.and_eq_true, Bool.not_eq_true', List.contains_eq_mem, decide_eq_false_iff_not] at hd
  refine ⟨hT, by rw [hF.2]; exact Nat.le_succ _, Nat.zero_le _, ?_⟩
  rw [hF.1 32 103 hd.1 hd.2]; omega
theorem lx_ps {nc ns : Nat} {q o : dK} (hT : TC q) (h : PS nc ns q o) : lw_X q o nc ns := by
  obtain ⟨h1, h2, h3, h4⟩ := h
  refine ⟨h1, by rw [h3]; exact Nat.le_succ _, ?_, ?_⟩
  · rcases h4 with ⟨rfl, _, _⟩ | ⟨rfl, _, _⟩ <;> omega
  · rcases h4 with ⟨_, rfl, e⟩ | ⟨_, rfl, e⟩
    · rw [e]; omega
    · have := lw_dec hT h1 e
      omega
/-- how the two sides stand to each other -/
def lw_R (q : dK) (q2 : dS) : Prop := ltY q q2 ∧ Int32.toInt (q.1 0 12) = Int32.toInt (q2.1 0 13) ∧ Int32.toInt (q.1 9 0) = Int32.toInt (q2.1 4 0) ∧ Int32.toInt (q.1 9 1) = Int32.toInt (q2.1 4 1) ∧ Int32.toInt (q.1 1 8) = Int32.toInt (q2.1 2 31) ∧ Int32.toInt (q.1 49 8) = Int32.toInt (q2.1 3 31) ∧ Int32.toInt (q.1 56 8) = Int32.toInt (q2.1 3 5671) ∧ Int32.toInt (q.1 1 9) = Int32.toInt (q2.1 2 32) ∧ Int32.toInt (q.1 0 13) = Int32.toInt (q2.1 0 14) ∧ (Int32.toInt (q.1 9 0) = 0 ∨ Int32.toInt (q.1 49 9) = Int32.toInt (q2.1 3 32)) ∧ (Int32.toInt (q.1 9 1) = 0 ∨ Int32.toInt (q.1 56 9) = Int32.toInt (q2.1 3 5672))
/-- i calls are done -/
def lw_J (q : dK) (q2 : dS) (i cells slots : Nat) : Prop := TC q ∧ TS q2 ∧ lw_R q q2 ∧ q.2.2.length ≤ i ∧ cells ≤ 91 + 7 * i ∧ slots + 189744 * lw_lv (Int32.toInt (q.1 32 103)) ≤ 1545109 + 476 * i
theorem lw_step {q o : dK} {q2 o2 : dS} {i cells slots mc ms : Nat} (J : lw_J q q2 i cells slots) (X : lw_X q o mc ms) (h2 : TS o2) (h : lw_R o o2) : lw_J o o2 (i + 1) (cells + mc + 0) (slots + ms + 0) := by
  obtain ⟨_, _, _, j4, j5, j6⟩ := J
  obtain ⟨x1, x2, x3, x4⟩ := X
  exact ⟨x1, h2, h, by omega, by omega, by omega⟩
theorem lw_room {q o : dK} {q2 : dS} {i cells slots mc ms : Nat} (J : lw_J q q2 i cells slots) (X : lw_X q o mc ms) (hi : i ≤ 63) : cells + mc ≤ 600000 ∧ slots + ms ≤ 7302250 := by
  obtain ⟨_, _, _, j4, j5, j6⟩ := J
  obtain ⟨x1, x2, x3, x4⟩ := X
  exact ⟨by omega, by omega⟩

/-! what image and back answer, and the flags of the images -/
theorem dOk_get {α : Type} {x : Option α} {P : α → Prop} {o : α} (h : dOk x P) (e : x = some o) : P o := by
  obtain ⟨w, e2, hw⟩ := h
  rw [e] at e2
  cases e2
  exact hw
def PIm (a r : Int32) (f0 f1 g0 g1 : Int) : Prop := (Int32.toInt a = 0 ∧ Int32.toInt r = 0 ∧ g0 = 1 ∧ g1 = f1) ∨ (Int32.toInt a = 1 ∧ Int32.toInt r = 0 ∧ g1 = 1 ∧ g0 = f0) ∨ ((Int32.toInt a < 0 ∨ 1 < Int32.toInt a) ∧ Int32.toInt r = -1 ∧ g0 = f0 ∧ g1 = f1)
def PBk (a r : Int32) (f0 f1 : Int) : Prop := (Int32.toInt a = 0 ∧ f0 = 0 ∧ Int32.toInt r = -2) ∨ (Int32.toInt a = 0 ∧ ¬ f0 = 0 ∧ Int32.toInt r = 0) ∨ (Int32.toInt a = 1 ∧ f1 = 0 ∧ Int32.toInt r = -2) ∨ (Int32.toInt a = 1 ∧ ¬ f1 = 0 ∧ Int32.toInt r = 0) ∨ ((Int32.toInt a < 0 ∨ 1 < Int32.toInt a) ∧ Int32.toInt r = -1)
def PIs (a : Int32) (s i0 i1 j0 j1 : Int) : Prop := (Int32.toInt a = 0 ∧ j0 = s ∧ j1 = i1) ∨ (Int32.toInt a = 1 ∧ j0 = i0 ∧ j1 = s) ∨ ((Int32.toInt a < 0 ∨ 1 < Int32.toInt a) ∧ j0 = i0 ∧ j1 = i1)
def PBs (a : Int32) (f0 f1 s i0 i1 s2 : Int) : Prop := (Int32.toInt a = 0 ∧ f0 = 0 ∧ s2 = s) ∨ (Int32.toInt a = 0 ∧ ¬ f0 = 0 ∧ s2 = i0) ∨ (Int32.toInt a = 1 ∧ f1 = 0 ∧ s2 = s) ∨ (Int32.toInt a = 1 ∧ ¬ f1 = 0 ∧ s2 = i1) ∨ ((Int32.toInt a < 0 ∨ 1 < Int32.toInt a) ∧ s2 = s)
theorem ok2_isImage (p1 : Int32) : dOk (zX9_isImage p1) (fun (o : Int32) => (Int32.toInt o = 1 ∧ 0 ≤ Int32.toInt p1 ∧ Int32.toInt p1 ≤ 1) ∨ (Int32.toInt o = 0 ∧ (Int32.toInt p1 < 0 ∨ 1 < Int32.toInt p1))) := by
  unfold zX9_isImage zX9_isImage_13 zX9_isImage_14
  refine dOk_lt rfl (by decide : Int32.toInt 0 = 0) (fun c => dOk_G (by decide) (dOk_some (Or.inr ⟨by decide, Or.inl c⟩))) (fun c => ?_)
  refine dOk_le (by decide : Int32.toInt 2 = 2) rfl (fun c2 => dOk_G (by decide) (dOk_some (Or.inr ⟨by decide, Or.inr (by omega)⟩))) (fun c2 => dOk_G (by decide) (dOk_some (Or.inl ⟨by decide, c, by omega⟩)))
theorem cl_01 {x : Int32} : (Int32.toInt x = 0 → Int32.toNatClampNeg x = 0) ∧ (Int32.toInt x = 1 → Int32.toNatClampNeg x = 1) := by
  have h : Int32.toNatClampNeg x = x.toInt.toNat := rfl
  exact ⟨fun z => by omega, fun z => by omega⟩
theorem ok2_X9_image (q : dK) (p1 : Int32) (hT : TC q) : dOk (zX9_image_s0 q p1) (fun (o : Int32 × dK) => PIm p1 o.1 (Int32.toInt (q.1 9 0)) (Int32.toInt (q.1 9 1)) (Int32.toInt (o.2.1 9 0)) (Int32.toInt (o.2.1 9 1)) ∧ PIs p1 (Int32.toInt (q.1 1 8)) (Int32.toInt (q.1 49 8)) (Int32.toInt (q.1 56 8)) (Int32.toInt (o.2.1 49 8)) (Int32.toInt (o.2.1 56 8)) ∧ PIs p1 (Int32.toInt (q.1 1 9)) (Int32.toInt (q.1 49 9)) (Int32.toInt (q.1 56 9)) (Int32.toInt (o.2.1 49 9)) (Int32.toInt (o.2.1 56 9))) := by
  have b1 : vp_nar .boolean 1 = 1 := by decide
  have end9 : ∀ (q7 q9 : dK), TC q7 → q7.1 9 = q.1 9 → q9 = cui q7 9 (Int32.toNatClampNeg p1) (vp_nar .boolean 1) → (Int32.toInt p1 = 0 ∨ Int32.toInt p1 = 1) → PIs p1 (Int32.toInt (q.1 1 8)) (Int32.toInt (q.1 49 8)) (Int32.toInt (q.1 56 8)) (Int32.toInt (q7.1 49 8)) (Int32.toInt (q7.1 56 8)) → PIs p1 (Int32.toInt (q.1 1 9)) (Int32.toInt (q.1 49 9)) (Int32.toInt (q.1 56 9)) (Int32.toInt (q7.1 49 9)) (Int32.toInt (q7.1 56 9)) → dOk (dB (zX9_accept_s0 q9 0) (fun r10 q12 => some (r10, q12))) (fun (o : Int32 × dK) => PIm p1 o.1 (Int32.toInt (q.1 9 0)) (Int32.toInt (q.1 9 1)) (Int32.toInt (o.2.1 9 0)) (Int32.toInt (o.2.1 9 1)) ∧ PIs p1 (Int32.toInt (q.1 1 8)) (Int32.toInt (q.1 49 8)) (Int32.toInt (q.1 56 8)) (Int32.toInt (o.2.1 49 8)) (Int32.toInt (o.2.1 56 8)) ∧ PIs p1 (Int32.toInt (q.1 1 9)) (Int32.toInt (q.1 49 9)) (Int32.toInt (q.1 56 9)) (Int32.toInt (o.2.1 49 9)) (Int32.toInt (o.2.1 56 9))) := by
    intro q7 q9 hT7 h9 e9 hc k6 k1
    rw [b1] at e9
    have hT9 : TC q9 := by rw [e9]; exact sa_9 hT7
    refine dOk_B (ok_X9_accept_s0 q9 0 hT9) (fun r10 q12 h => dOk_some ?_)
    obtain ⟨-, h2, h3⟩ := h
    replace h2 : cFr [] [(0, 18)] q9 q12 := h2
    replace h3 : Int32.toInt r10 = 0 := h3
    have f49 : q12.1 49 = q7.1 49 := (h2.row 49 (by decide) (by decide)).trans (by rw [e9]; exact cui_o (by decide))
    have f56 : q12.1 56 = q7.1 56 := (h2.row 56 (by decide) (by decide)).trans (by rw [e9]; exact cui_o (by decide))
    show PIm p1 r10 (Int32.toInt (q.1 9 0)) (Int32.toInt (q.1 9 1)) (Int32.toInt (q12.1 9 0)) (Int32.toInt (q12.1 9 1)) ∧ PIs p1 (Int32.toInt (q.1 1 8)) (Int32.toInt (q.1 49 8)) (Int32.toInt (q.1 56 8)) (Int32.toInt (q12.1 49 8)) (Int32.toInt (q12.1 56 8)) ∧ PIs p1 (Int32.toInt (q.1 1 9)) (Int32.toInt (q.1 49 9)) (Int32.toInt (q.1 56 9)) (Int32.toInt (q12.1 49 9)) (Int32.toInt (q12.1 56 9))
    rw [f49, f56, h2.1 9 0 (by decide) (by decide), h2.1 9 1 (by decide) (by decide), e9]
    refine ⟨?_, k6, k1⟩
    rcases hc with hc | hc
    · rw [cl_01.1 hc, cui_e, cui_n (by decide), h9]
      exact Or.inl ⟨hc, h3, by decide, rfl⟩
    · rw [cl_01.2 hc, cui_e, cui_n (by decide), h9]
      exact Or.inr (Or.inl ⟨hc, h3, by decide, rfl⟩)
  unfold zX9_image_s0
  refine dOk_V (ok2_isImage p1) (fun r1 h1 => ?_)
  replace h1 : (Int32.toInt r1 = 1 ∧ 0 ≤ Int32.toInt p1 ∧ Int32.toInt p1 ≤ 1) ∨ (Int32.toInt r1 = 0 ∧ (Int32.toInt p1 < 0 ∨ 1 < Int32.toInt p1)) := h1
  refine dOk_eq rfl (by decide : Int32.toInt 0 = 0) (fun _ c => ?_) (fun _ c => ?_)
  · refine dOk_B (ok_X9_refuse_s0 q (-1) hT) (fun r22 q24 h => dOk_some ?_)
    obtain ⟨-, h2, h3⟩ := h
    replace h2 : cFr [48] [(0, 18)] q q24 := h2
    replace h3 : Int32.toInt r22 = -1 := h3
    have w : ∀ j : Nat, j = 9 ∨ j = 49 ∨ j = 56 → q24.1 j = q.1 j := fun j hj => h2.row j (by rw [List.mem_singleton]; omega) (fun p hp => by rw [List.mem_singleton] at hp; rw [hp]; show ¬ 0 = j; omega)
    show PIm p1 r22 (Int32.toInt (q.1 9 0)) (Int32.toInt (q.1 9 1)) (Int32.toInt (q24.1 9 0)) (Int32.toInt (q24.1 9 1)) ∧ PIs p1 (Int32.toInt (q.1 1 8)) (Int32.toInt (q.1 49 8)) (Int32.toInt (q.1 56 8)) (Int32.toInt (q24.1 49 8)) (Int32.toInt (q24.1 56 8)) ∧ PIs p1 (Int32.toInt (q.1 1 9)) (Int32.toInt (q.1 49 9)) (Int32.toInt (q.1 56 9)) (Int32.toInt (q24.1 49 9)) (Int32.toInt (q24.1 56 9))
    rw [w 9 (by decide), w 49 (by decide), w 56 (by decide)]
    have hc2 : Int32.toInt p1 < 0 ∨ 1 < Int32.toInt p1 := by omega
    exact ⟨Or.inr (Or.inr ⟨hc2, h3, rfl, rfl⟩), Or.inr (Or.inr ⟨hc2, rfl, rfl⟩), Or.inr (Or.inr ⟨hc2, rfl, rfl⟩)⟩
  · have hd : dg p1 2 = true := dg_ok (by omega) (by omega)
    refine dOk_G hd ?_
    refine dOk_eq rfl (by decide : Int32.toInt 0 = 0) (fun _ c0 => ?_) (fun _ c0 => ?_)
    · refine dOk_V (dA_ok (ok_X6_copyFrom_s49_s1 q hT) (cpl_49_1 q hT)) (fun q7 h7 => dOk_G hd (dOk_L (fun q9 e9 => end9 q7 q9 h7.1.1 (h7.1.2.1.row 9 (by decide) (by decide)) e9 (Or.inl c0) (Or.inl ⟨c0, congrArg Int32.toInt h7.2.1, ?_⟩) (Or.inl ⟨c0, congrArg Int32.toInt h7.2.2, ?_⟩))))
      · rw [h7.1.2.1.1 56 8 (by decide) (by decide)]
      · rw [h7.1.2.1.1 56 9 (by decide) (by decide)]
    · have c1 : Int32.toInt p1 = 1 := by omega
      refine dOk_G (decide_eq_true (Int32.toInt_inj.mp (c1.trans (by decide : (1 : Int) = Int32.toInt 1)))) ?_
      refine dOk_V (dA_ok (ok_X6_copyFrom_s56_s1 q hT) (cpl_56_1 q hT)) (fun q7 h7 => dOk_G hd (dOk_L (fun q9 e9 => end9 q7 q9 h7.1.1 (h7.1.2.1.row 9 (by decide) (by decide)) e9 (Or.inr c1) (Or.inr (Or.inl ⟨c1, ?_, congrArg Int32.toInt h7.2.1⟩)) (Or.inr (Or.inl ⟨c1, ?_, congrArg Int32.toInt h7.2.2⟩)))))
      · rw [h7.1.2.1.1 49 8 (by decide) (by decide)]
      · rw [h7.1.2.1.1 49 9 (by decide) (by decide)]

theorem ok2_X9_back (q : dK) (p1 : Int32) (hT : TC q) : dOk (zX9_back_s0 q p1) (fun (o : Int32 × dK) => PBk p1 o.1 (Int32.toInt (q.1 9 0)) (Int32.toInt (q.1 9 1)) ∧ PBs p1 (Int32.toInt (q.1 9 0)) (Int32.toInt (q.1 9 1)) (Int32.toInt (q.1 1 8)) (Int32.toInt (q.1 49 8)) (Int32.toInt (q.1 56 8)) (Int32.toInt (o.2.1 1 8)) ∧ PBs p1 (Int32.toInt (q.1 9 0)) (Int32.toInt (q.1 9 1)) (Int32.toInt (q.1 1 9)) (Int32.toInt (q.1 49 9)) (Int32.toInt (q.1 56 9)) (Int32.toInt (o.2.1 1 9))) := by
  unfold zX9_back_s0
  refine dOk_V (ok2_isImage p1) (fun r1 h1 => ?_)
  replace h1 : (Int32.toInt r1 = 1 ∧ 0 ≤ Int32.toInt p1 ∧ Int32.toInt p1 ≤ 1) ∨ (Int32.toInt r1 = 0 ∧ (Int32.toInt p1 < 0 ∨ 1 < Int32.toInt p1)) := h1
  refine dOk_eq rfl (by decide : Int32.toInt 0 = 0) (fun _ c => ?_) (fun _ c => ?_)
  · refine dOk_B (ok_X9_refuse_s0 q (-1) hT) (fun r22 q24 h => dOk_some ?_)
    have h3 : Int32.toInt r22 = -1 := h.2.2
    have w : q24.1 1 = q.1 1 := (h.2.1 : cFr [48] [(0, 18)] q q24).row 1 (by decide) (by decide)
    show PBk p1 r22 (Int32.toInt (q.1 9 0)) (Int32.toInt (q.1 9 1)) ∧ PBs p1 (Int32.toInt (q.1 9 0)) (Int32.toInt (q.1 9 1)) (Int32.toInt (q.1 1 8)) (Int32.toInt (q.1 49 8)) (Int32.toInt (q.1 56 8)) (Int32.toInt (q24.1 1 8)) ∧ PBs p1 (Int32.toInt (q.1 9 0)) (Int32.toInt (q.1 9 1)) (Int32.toInt (q.1 1 9)) (Int32.toInt (q.1 49 9)) (Int32.toInt (q.1 56 9)) (Int32.toInt (q24.1 1 9))
    rw [w]
    have hc2 : Int32.toInt p1 < 0 ∨ 1 < Int32.toInt p1 := by omega
    exact ⟨Or.inr (Or.inr (Or.inr (Or.inr ⟨hc2, h3⟩))), Or.inr (Or.inr (Or.inr (Or.inr ⟨hc2, rfl⟩))), Or.inr (Or.inr (Or.inr (Or.inr ⟨hc2, rfl⟩)))⟩
  · have hd : dg p1 2 = true := dg_ok (by omega) (by omega)
    have hc : Int32.toInt p1 = 0 ∨ Int32.toInt p1 = 1 := by omega
    refine dOk_G hd (dOk_L (fun v4 e4 => ?_))
    refine dOk_eq rfl (by decide : Int32.toInt 0 = 0) (fun _ c4 => ?_) (fun _ c4 => ?_)
    · refine dOk_B (ok_X9_refuse_s0 q (-2) hT) (fun r22 q24 h => dOk_some ?_)
      have h3 : Int32.toInt r22 = -2 := h.2.2
      have w : q24.1 1 = q.1 1 := (h.2.1 : cFr [48] [(0, 18)] q q24).row 1 (by decide) (by decide)
      show PBk p1 r22 (Int32.toInt (q.1 9 0)) (Int32.toInt (q.1 9 1)) ∧ PBs p1 (Int32.toInt (q.1 9 0)) (Int32.toInt (q.1 9 1)) (Int32.toInt (q.1 1 8)) (Int32.toInt (q.1 49 8)) (Int32.toInt (q.1 56 8)) (Int32.toInt (q24.1 1 8)) ∧ PBs p1 (Int32.toInt (q.1 9 0)) (Int32.toInt (q.1 9 1)) (Int32.toInt (q.1 1 9)) (Int32.toInt (q.1 49 9)) (Int32.toInt (q.1 56 9)) (Int32.toInt (q24.1 1 9))
      rw [w]
      rcases hc with hc | hc
      · rw [cl_01.1 hc] at e4
        rw [e4] at c4
        exact ⟨Or.inl ⟨hc, c4, h3⟩, Or.inl ⟨hc, c4, rfl⟩, Or.inl ⟨hc, c4, rfl⟩⟩
      · rw [cl_01.2 hc] at e4
        rw [e4] at c4
        exact ⟨Or.inr (Or.inr (Or.inl ⟨hc, c4, h3⟩)), Or.inr (Or.inr (Or.inl ⟨hc, c4, rfl⟩)), Or.inr (Or.inr (Or.inl ⟨hc, c4, rfl⟩))⟩
    · refine dOk_G hd ?_
      refine dOk_eq rfl (by decide : Int32.toInt 0 = 0) (fun _ c0 => ?_) (fun _ c0 => ?_)
      · rw [cl_01.1 c0] at e4
        rw [e4] at c4
        refine dOk_V (dA_ok (ok_X6_copyFrom_s1_s49 q hT) (cpl_1_49 q hT)) (fun q9 h9 => dOk_V (ok_X0_clear_s10 q9 h9.1.1) (fun q12 h12 => dOk_B (ok_X9_accept_s0 q12 0 h12.1) (fun r13 q15 h => dOk_some ?_)))
        have h3 : Int32.toInt r13 = 0 := h.2.2
        have w : q15.1 1 = q9.1 1 := ((h.2.1 : cFr [] [(0, 18)] q12 q15).row 1 (by decide) (by decide)).trans (h12.2.row 1 (by decide) (by decide))
        show PBk p1 r13 (Int32.toInt (q.1 9 0)) (Int32.toInt (q.1 9 1)) ∧ PBs p1 (Int32.toInt (q.1 9 0)) (Int32.toInt (q.1 9 1)) (Int32.toInt (q.1 1 8)) (Int32.toInt (q.1 49 8)) (Int32.toInt (q.1 56 8)) (Int32.toInt (q15.1 1 8)) ∧ PBs p1 (Int32.toInt (q.1 9 0)) (Int32.toInt (q.1 9 1)) (Int32.toInt (q.1 1 9)) (Int32.toInt (q.1 49 9)) (Int32.toInt (q.1 56 9)) (Int32.toInt (q15.1 1 9))
        rw [w]
        exact ⟨Or.inr (Or.inl ⟨c0, c4, h3⟩), Or.inr (Or.inl ⟨c0, c4, congrArg Int32.toInt h9.2.1⟩), Or.inr (Or.inl ⟨c0, c4, congrArg Int32.toInt h9.2.2⟩)⟩
      · have c1 : Int32.toInt p1 = 1 := by omega
        rw [cl_01.2 c1] at e4
        rw [e4] at c4
        refine dOk_G (decide_eq_true (Int32.toInt_inj.mp (c1.trans (by decide : (1 : Int) = Int32.toInt 1)))) ?_
        refine dOk_V (dA_ok (ok_X6_copyFrom_s1_s56 q hT) (cpl_1_56 q hT)) (fun q9 h9 => dOk_V (ok_X0_clear_s10 q9 h9.1.1) (fun q12 h12 => dOk_B (ok_X9_accept_s0 q12 0 h12.1) (fun r13 q15 h => dOk_some ?_)))
        have h3 : Int32.toInt r13 = 0 := h.2.2
        have w : q15.1 1 = q9.1 1 := ((h.2.1 : cFr [] [(0, 18)] q12 q15).row 1 (by decide) (by decide)).trans (h12.2.row 1 (by decide) (by decide))
        show PBk p1 r13 (Int32.toInt (q.1 9 0)) (Int32.toInt (q.1 9 1)) ∧ PBs p1 (Int32.toInt (q.1 9 0)) (Int32.toInt (q.1 9 1)) (Int32.toInt (q.1 1 8)) (Int32.toInt (q.1 49 8)) (Int32.toInt (q.1 56 8)) (Int32.toInt (q15.1 1 8)) ∧ PBs p1 (Int32.toInt (q.1 9 0)) (Int32.toInt (q.1 9 1)) (Int32.toInt (q.1 1 9)) (Int32.toInt (q.1 49 9)) (Int32.toInt (q.1 56 9)) (Int32.toInt (q15.1 1 9))
        rw [w]
        exact ⟨Or.inr (Or.inr (Or.inr (Or.inl ⟨c1, c4, h3⟩))), Or.inr (Or.inr (Or.inr (Or.inl ⟨c1, c4, congrArg Int32.toInt h9.2.1⟩))), Or.inr (Or.inr (Or.inr (Or.inl ⟨c1, c4, congrArg Int32.toInt h9.2.2⟩)))⟩

theorem ok2_X10_image (q : dS) (p1 : Int32) (hT : TS q) : dOk (zX10_image q p1) (fun (o : Int32 × dS) => PIm p1 o.1 (Int32.toInt (q.1 4 0)) (Int32.toInt (q.1 4 1)) (Int32.toInt (o.2.1 4 0)) (Int32.toInt (o.2.1 4 1)) ∧ PIs p1 (Int32.toInt (q.1 2 31)) (Int32.toInt (q.1 3 31)) (Int32.toInt (q.1 3 5671)) (Int32.toInt (o.2.1 3 31)) (Int32.toInt (o.2.1 3 5671)) ∧ PIs p1 (Int32.toInt (q.1 2 32)) (Int32.toInt (q.1 3 32)) (Int32.toInt (q.1 3 5672)) (Int32.toInt (o.2.1 3 32)) (Int32.toInt (o.2.1 3 5672))) := by
  have b1 : vp_nar .boolean 1 = 1 := by decide
  unfold zX10_image
  refine dOk_V (ok_lies p1 0 1) (fun r hr => ?_)
  replace hr : (Int32.toInt r = 1 ∧ (0 : Int) ≤ Int32.toInt p1 ∧ Int32.toInt p1 ≤ 1) ∨ (Int32.toInt r = 0 ∧ (Int32.toInt p1 < 0 ∨ 1 < Int32.toInt p1)) := hr
  refine dOk_eq rfl (by decide : Int32.toInt 0 = 0) (fun _ c => ?_) (fun _ c => ?_)
  · refine dOk_B (ok_refuses q (-1) hT (by decide) (by decide)) (fun r3 q5 h => dOk_some ?_)
    obtain ⟨-, h2, h3⟩ := h
    replace h2 : dFr [1] [0] q q5 := h2
    replace h3 : Int32.toInt r3 = -1 := h3
    show PIm p1 r3 (Int32.toInt (q.1 4 0)) (Int32.toInt (q.1 4 1)) (Int32.toInt (q5.1 4 0)) (Int32.toInt (q5.1 4 1)) ∧ PIs p1 (Int32.toInt (q.1 2 31)) (Int32.toInt (q.1 3 31)) (Int32.toInt (q.1 3 5671)) (Int32.toInt (q5.1 3 31)) (Int32.toInt (q5.1 3 5671)) ∧ PIs p1 (Int32.toInt (q.1 2 32)) (Int32.toInt (q.1 3 32)) (Int32.toInt (q.1 3 5672)) (Int32.toInt (q5.1 3 32)) (Int32.toInt (q5.1 3 5672))
    rw [h2.1 4 (by decide) (by decide), h2.1 3 (by decide) (by decide)]
    have hc2 : Int32.toInt p1 < 0 ∨ 1 < Int32.toInt p1 := by omega
    exact ⟨Or.inr (Or.inr ⟨hc2, h3, rfl, rfl⟩), Or.inr (Or.inr ⟨hc2, rfl, rfl⟩), Or.inr (Or.inr ⟨hc2, rfl, rfl⟩)⟩
  · have hc : Int32.toInt p1 = 0 ∨ Int32.toInt p1 = 1 := by omega
    have np := cl_eq (i := p1) (by omega)
    obtain ⟨K, hK⟩ : ∃ K : Nat, (K : Int) = 5640 * Int32.toInt p1 := ⟨5640 * Int32.toNatClampNeg p1, by omega⟩
    unfold zX10_image_17
    refine dFix_ok (fun (a : dS × Int32 × Int32) => a.1.1 4 = q.1 4 ∧ a.1.1 2 = q.1 2 ∧ a.2.1 = p1 ∧ 0 ≤ a.2.2.toInt ∧ a.2.2.toInt ≤ 5640 ∧ (∀ l : Nat, (l : Int) < a.2.2.toInt → a.1.1 3 (K + l) = q.1 2 l) ∧ (∀ i : Nat, (i < K ∨ K + 5640 ≤ i) → a.1.1 3 i = q.1 3 i)) (fun (a : dS × Int32 × Int32) => (5640 - a.2.2.toInt).toNat) ?_ _ ⟨rfl, rfl, rfl, by show 0 ≤ Int32.toInt 0; decide, by show Int32.toInt 0 ≤ 5640; decide, fun l hl => absurd hl (by show ¬ (l : Int) < Int32.toInt 0; rw [show Int32.toInt 0 = 0 by decide]; omega), fun _ _ => rfl⟩ _ (dF_gt (by show (5640 - Int32.toInt 0).toNat < 1000000000000; decide))
    intro a ha k hk
    obtain ⟨qa, x1, x2⟩ := a
    obtain ⟨a1, a5, a2, a3, a4, a6, a7⟩ := ha
    replace a1 : qa.1 4 = q.1 4 := a1
    replace a5 : qa.1 2 = q.1 2 := a5
    replace a2 : p1 = x1 := Eq.symm a2
    replace a3 : 0 ≤ x2.toInt := a3
    replace a4 : x2.toInt ≤ 5640 := a4
    replace a6 : ∀ l : Nat, (l : Int) < x2.toInt → qa.1 3 (K + l) = q.1 2 l := a6
    replace a7 : ∀ i : Nat, (i < K ∨ K + 5640 ≤ i) → qa.1 3 i = q.1 3 i := a7
    subst a2
    show dOk (zX10_image_17b (fun q x1 x2 => k (q, x1, x2)) qa p1 x2) _
    unfold zX10_image_17b
    refine dOk_le (by decide : Int32.toInt 5640 = 5640) rfl (fun c2 => ?_) (fun c2 => ?_)
    · refine dOk_G (dg_ok (by omega) (by omega)) (dOk_L (fun q2 e2 => ?_))
      rw [b1] at e2
      refine (show dOk (some ((0 : Int32), dui q2 0 0 0)) _ from dOk_some ?_)
      show PIm p1 0 (Int32.toInt (q.1 4 0)) (Int32.toInt (q.1 4 1)) (Int32.toInt ((dui q2 0 0 0).1 4 0)) (Int32.toInt ((dui q2 0 0 0).1 4 1)) ∧ PIs p1 (Int32.toInt (q.1 2 31)) (Int32.toInt (q.1 3 31)) (Int32.toInt (q.1 3 5671)) (Int32.toInt ((dui q2 0 0 0).1 3 31)) (Int32.toInt ((dui q2 0 0 0).1 3 5671)) ∧ PIs p1 (Int32.toInt (q.1 2 32)) (Int32.toInt (q.1 3 32)) (Int32.toInt (q.1 3 5672)) (Int32.toInt ((dui q2 0 0 0).1 3 32)) (Int32.toInt ((dui q2 0 0 0).1 3 5672))
      rw [dui_o (j' := 4) (by decide), dui_o (j' := 3) (by decide), e2, dui_o (j' := 3) (by decide)]
      rcases hc with hc | hc
      · have K0 : K = 0 := by omega
        subst K0
        have z6 : qa.1 3 31 = q.1 2 31 := a6 31 (by omega)
        have z7 : qa.1 3 32 = q.1 2 32 := a6 32 (by omega)
        rw [cl_01.1 hc, dui_e, dui_n (by decide), a1, a7 5671 (by omega), a7 5672 (by omega), z6, z7]
        exact ⟨Or.inl ⟨hc, by decide, by decide, rfl⟩, Or.inl ⟨hc, rfl, rfl⟩, Or.inl ⟨hc, rfl, rfl⟩⟩
      · have K0 : K = 5640 := by omega
        subst K0
        have z6 : qa.1 3 5671 = q.1 2 31 := a6 31 (by omega)
        have z7 : qa.1 3 5672 = q.1 2 32 := a6 32 (by omega)
        rw [cl_01.2 hc, dui_e, dui_n (by decide), a1, a7 31 (by omega), a7 32 (by omega), z6, z7]
        exact ⟨Or.inr (Or.inl ⟨hc, by decide, by decide, rfl⟩), Or.inr (Or.inl ⟨hc, rfl, rfl⟩), Or.inr (Or.inl ⟨hc, rfl, rfl⟩)⟩
    · have t1 : Int32.toInt (5640 * p1) = 5640 * Int32.toInt p1 := ti_mul (by decide) rfl (by omega) (by omega)
      have t2 : Int32.toInt (5640 * p1 + x2) = 5640 * Int32.toInt p1 + x2.toInt := ti_add t1 rfl (by omega) (by omega)
      have t3 : Int32.toInt (x2 + 1) = x2.toInt + 1 := ti_add rfl (by decide) (by omega) (by omega)
      have n2 := cl_eq a3
      have n3 := cl_eq (i := 5640 * p1 + x2) (by omega)
      have n4 : Int32.toNatClampNeg (5640 * p1 + x2) = K + Int32.toNatClampNeg x2 := by omega
      refine dOk_G (dg_ok a3 (by omega)) (dOk_L (fun v7 e7 => dOk_G (dg_ok (by omega) (by omega)) (dOk_L (fun q9 e9 => ?_))))
      rw [n4] at e9
      refine hk (q9, p1, x2 + 1) ⟨by rw [e9, dui_o (by decide)]; exact a1, by rw [e9, dui_o (by decide)]; exact a5, rfl, by show 0 ≤ Int32.toInt (x2 + 1); omega, by show Int32.toInt (x2 + 1) ≤ 5640; omega, fun l hl => ?_, fun i hi => ?_⟩ (by show (5640 - Int32.toInt (x2 + 1)).toNat < (5640 - Int32.toInt x2).toNat; omega)
      · replace hl : (l : Int) < Int32.toInt (x2 + 1) := hl
        show q9.1 3 (K + l) = q.1 2 l
        rw [e9]
        by_cases cl : l = Int32.toNatClampNeg x2
        · subst cl; rw [dui_e, e7, a5]
        · rw [dui_n (by omega)]; exact a6 l (by omega)
      · show q9.1 3 i = q.1 3 i
        rw [e9, dui_n (by omega)]; exact a7 i hi

theorem ok2_X10_back (q : dS) (p1 : Int32) (hT : TS q) : dOk (zX10_back q p1) (fun (o : Int32 × dS) => PBk p1 o.1 (Int32.toInt (q.1 4 0)) (Int32.toInt (q.1 4 1)) ∧ PBs p1 (Int32.toInt (q.1 4 0)) (Int32.toInt (q.1 4 1)) (Int32.toInt (q.1 2 31)) (Int32.toInt (q.1 3 31)) (Int32.toInt (q.1 3 5671)) (Int32.toInt (o.2.1 2 31)) ∧ PBs p1 (Int32.toInt (q.1 4 0)) (Int32.toInt (q.1 4 1)) (Int32.toInt (q.1 2 32)) (Int32.toInt (q.1 3 32)) (Int32.toInt (q.1 3 5672)) (Int32.toInt (o.2.1 2 32))) := by
  unfold zX10_back
  refine dOk_V (ok_lies p1 0 1) (fun r hr => ?_)
  replace hr : (Int32.toInt r = 1 ∧ (0 : Int) ≤ Int32.toInt p1 ∧ Int32.toInt p1 ≤ 1) ∨ (Int32.toInt r = 0 ∧ (Int32.toInt p1 < 0 ∨ 1 < Int32.toInt p1)) := hr
  refine dOk_eq rfl (by decide : Int32.toInt 0 = 0) (fun _ c => ?_) (fun _ c => ?_)
  · refine dOk_B (ok_refuses q (-1) hT (by decide) (by decide)) (fun r3 q5 h => dOk_some ?_)
    have h3 : Int32.toInt r3 = -1 := h.2.2
    show PBk p1 r3 (Int32.toInt (q.1 4 0)) (Int32.toInt (q.1 4 1)) ∧ PBs p1 (Int32.toInt (q.1 4 0)) (Int32.toInt (q.1 4 1)) (Int32.toInt (q.1 2 31)) (Int32.toInt (q.1 3 31)) (Int32.toInt (q.1 3 5671)) (Int32.toInt (q5.1 2 31)) ∧ PBs p1 (Int32.toInt (q.1 4 0)) (Int32.toInt (q.1 4 1)) (Int32.toInt (q.1 2 32)) (Int32.toInt (q.1 3 32)) (Int32.toInt (q.1 3 5672)) (Int32.toInt (q5.1 2 32))
    rw [h.2.1.1 2 (by decide) (by decide)]
    have hc2 : Int32.toInt p1 < 0 ∨ 1 < Int32.toInt p1 := by omega
    exact ⟨Or.inr (Or.inr (Or.inr (Or.inr ⟨hc2, h3⟩))), Or.inr (Or.inr (Or.inr (Or.inr ⟨hc2, rfl⟩))), Or.inr (Or.inr (Or.inr (Or.inr ⟨hc2, rfl⟩)))⟩
  · have hc : Int32.toInt p1 = 0 ∨ Int32.toInt p1 = 1 := by omega
    have np := cl_eq (i := p1) (by omega)
    refine dOk_G (dg_ok (by omega) (by omega)) (dOk_L (fun v4 e4 => ?_))
    refine dOk_eq rfl (by decide : Int32.toInt 0 = 0) (fun _ c4 => ?_) (fun _ c4 => ?_)
    · refine dOk_B (ok_refuses q (-2) hT (by decide) (by decide)) (fun r3 q5 h => dOk_some ?_)
      have h3 : Int32.toInt r3 = -2 := h.2.2
      show PBk p1 r3 (Int32.toInt (q.1 4 0)) (Int32.toInt (q.1 4 1)) ∧ PBs p1 (Int32.toInt (q.1 4 0)) (Int32.toInt (q.1 4 1)) (Int32.toInt (q.1 2 31)) (Int32.toInt (q.1 3 31)) (Int32.toInt (q.1 3 5671)) (Int32.toInt (q5.1 2 31)) ∧ PBs p1 (Int32.toInt (q.1 4 0)) (Int32.toInt (q.1 4 1)) (Int32.toInt (q.1 2 32)) (Int32.toInt (q.1 3 32)) (Int32.toInt (q.1 3 5672)) (Int32.toInt (q5.1 2 32))
      rw [h.2.1.1 2 (by decide) (by decide)]
      rcases hc with hc | hc
      · rw [cl_01.1 hc] at e4
        rw [e4] at c4
        exact ⟨Or.inl ⟨hc, c4, h3⟩, Or.inl ⟨hc, c4, rfl⟩, Or.inl ⟨hc, c4, rfl⟩⟩
      · rw [cl_01.2 hc] at e4
        rw [e4] at c4
        exact ⟨Or.inr (Or.inr (Or.inl ⟨hc, c4, h3⟩)), Or.inr (Or.inr (Or.inl ⟨hc, c4, rfl⟩)), Or.inr (Or.inr (Or.inl ⟨hc, c4, rfl⟩))⟩
    · obtain ⟨K, hK⟩ : ∃ K : Nat, (K : Int) = 5640 * Int32.toInt p1 := ⟨5640 * Int32.toNatClampNeg p1, by omega⟩
      unfold zX10_back_33
      refine dFix_ok (fun (a : dS × Int32 × Int32) => a.1.1 3 = q.1 3 ∧ a.2.1 = p1 ∧ 0 ≤ a.2.2.toInt ∧ a.2.2.toInt ≤ 5640 ∧ (∀ l : Nat, (l : Int) < a.2.2.toInt → a.1.1 2 l = q.1 3 (K + l))) (fun (a : dS × Int32 × Int32) => (5640 - a.2.2.toInt).toNat) ?_ _ ⟨rfl, rfl, by show 0 ≤ Int32.toInt 0; decide, by show Int32.toInt 0 ≤ 5640; decide, fun l hl => absurd hl (by show ¬ (l : Int) < Int32.toInt 0; rw [show Int32.toInt 0 = 0 by decide]; omega)⟩ _ (dF_gt (by show (5640 - Int32.toInt 0).toNat < 1000000000000; decide))
      intro a ha k hk
      obtain ⟨qa, x1, x2⟩ := a
      obtain ⟨a1, a2, a3, a4, a6⟩ := ha
      replace a1 : qa.1 3 = q.1 3 := a1
      replace a2 : p1 = x1 := Eq.symm a2
      replace a3 : 0 ≤ x2.toInt := a3
      replace a4 : x2.toInt ≤ 5640 := a4
      replace a6 : ∀ l : Nat, (l : Int) < x2.toInt → qa.1 2 l = q.1 3 (K + l) := a6
      subst a2
      show dOk (zX10_back_33b (fun q x1 x2 => k (q, x1, x2)) qa p1 x2) _
      unfold zX10_back_33b
      refine dOk_le (by decide : Int32.toInt 5640 = 5640) rfl (fun c2 => ?_) (fun c2 => ?_)
      · refine (show dOk (some ((0 : Int32), dui (dui qa 0 32 0) 0 0 0)) _ from dOk_some ?_)
        show PBk p1 0 (Int32.toInt (q.1 4 0)) (Int32.toInt (q.1 4 1)) ∧ PBs p1 (Int32.toInt (q.1 4 0)) (Int32.toInt (q.1 4 1)) (Int32.toInt (q.1 2 31)) (Int32.toInt (q.1 3 31)) (Int32.toInt (q.1 3 5671)) (Int32.toInt ((dui (dui qa 0 32 0) 0 0 0).1 2 31)) ∧ PBs p1 (Int32.toInt (q.1 4 0)) (Int32.toInt (q.1 4 1)) (Int32.toInt (q.1 2 32)) (Int32.toInt (q.1 3 32)) (Int32.toInt (q.1 3 5672)) (Int32.toInt ((dui (dui qa 0 32 0) 0 0 0).1 2 32))
        rw [dui_o (j' := 2) (by decide), dui_o (j' := 2) (by decide), a6 31 (by omega), a6 32 (by omega)]
        rcases hc with hc | hc
        · have K0 : K = 0 := by omega
          subst K0
          rw [cl_01.1 hc] at e4
          rw [e4] at c4
          exact ⟨Or.inr (Or.inl ⟨hc, c4, by decide⟩), Or.inr (Or.inl ⟨hc, c4, rfl⟩), Or.inr (Or.inl ⟨hc, c4, rfl⟩)⟩
        · have K0 : K = 5640 := by omega
          subst K0
          rw [cl_01.2 hc] at e4
          rw [e4] at c4
          exact ⟨Or.inr (Or.inr (Or.inr (Or.inl ⟨hc, c4, by decide⟩))), Or.inr (Or.inr (Or.inr (Or.inl ⟨hc, c4, rfl⟩))), Or.inr (Or.inr (Or.inr (Or.inl ⟨hc, c4, rfl⟩)))⟩
      · have t1 : Int32.toInt (5640 * p1) = 5640 * Int32.toInt p1 := ti_mul (by decide) rfl (by omega) (by omega)
        have t2 : Int32.toInt (5640 * p1 + x2) = 5640 * Int32.toInt p1 + x2.toInt := ti_add t1 rfl (by omega) (by omega)
        have t3 : Int32.toInt (x2 + 1) = x2.toInt + 1 := ti_add rfl (by decide) (by omega) (by omega)
        have n2 := cl_eq a3
        have n3 := cl_eq (i := 5640 * p1 + x2) (by omega)
        have n4 : Int32.toNatClampNeg (5640 * p1 + x2) = K + Int32.toNatClampNeg x2 := by omega
        refine dOk_G (dg_ok (by omega) (by omega)) (dOk_L (fun v5 e5 => dOk_G (dg_ok a3 (by omega)) (dOk_L (fun q7 e7 => ?_))))
        rw [n4, a1] at e5
        refine hk (q7, p1, x2 + 1) ⟨by rw [e7, dui_o (by decide)]; exact a1, rfl, by show 0 ≤ Int32.toInt (x2 + 1); omega, by show Int32.toInt (x2 + 1) ≤ 5640; omega, fun l hl => ?_⟩ (by show (5640 - Int32.toInt (x2 + 1)).toNat < (5640 - Int32.toInt x2).toNat; omega)
        replace hl : (l : Int) < Int32.toInt (x2 + 1) := hl
        show q7.1 2 l = q.1 3 (K + l)
        rw [e7]
        by_cases cl : l = Int32.toNatClampNeg x2
        · subst cl; rw [dui_e, e5]
        · rw [dui_n cl]; exact a6 l (by omega)

theorem lx_floor (q : dK) (a1 a2 : Int32) (hT : TC q) : ∃ (r : Int32) (o : dK), zX9_floor_s0 q a1 a2 = some (r, o) ∧ lw_X q o 0 0 ∧ (Int32.toInt (o.1 0 12) = Int32.toInt (q.1 0 12)) ∧ (Int32.toInt (o.1 9 0) = Int32.toInt (q.1 9 0)) ∧ (Int32.toInt (o.1 9 1) = Int32.toInt (q.1 9 1)) ∧ (Int32.toInt (o.1 1 8) = Int32.toInt (q.1 1 8)) ∧ (Int32.toInt (o.1 49 8) = Int32.toInt (q.1 49 8)) ∧ (Int32.toInt (o.1 56 8) = Int32.toInt (q.1 56 8)) ∧ (Int32.toInt (o.1 1 9) = Int32.toInt (q.1 1 9)) ∧ (Int32.toInt (o.1 49 9) = Int32.toInt (q.1 49 9)) ∧ (Int32.toInt (o.1 56 9) = Int32.toInt (q.1 56 9)) ∧ (Int32.toInt (o.1 0 13) = Int32.toInt (q.1 0 13)) ∧ (o.1 46 = q.1 46) := by
  obtain ⟨⟨r, o⟩, e, h⟩ := ok_X9_floor_s0 q a1 a2 hT
  have h1 : TC o := h.1
  have h2 : cFr [3, 4, 48] [(0, 18), (2, 2), (10, 2)] q o := h.2
  exact ⟨r, o, e, lx_fr h1 h2 rfl, ⟨congrArg Int32.toInt (h2.1 0 12 (by decide) (by decide)), congrArg Int32.toInt (h2.1 9 0 (by decide) (by decide)), congrArg Int32.toInt (h2.1 9 1 (by decide) (by decide)), congrArg Int32.toInt (h2.1 1 8 (by decide) (by decide)), congrArg Int32.toInt (h2.1 49 8 (by decide) (by decide)), congrArg Int32.toInt (h2.1 56 8 (by decide) (by decide)), congrArg Int32.toInt (h2.1 1 9 (by decide) (by decide)), congrArg Int32.toInt (h2.1 49 9 (by decide) (by decide)), congrArg Int32.toInt (h2.1 56 9 (by decide) (by decide)), congrArg Int32.toInt (h2.1 0 13 (by decide) (by decide)), (h2.row 46 (by decide) (by decide))⟩⟩

theorem lx_at (q : dK) (a1 a2 : Int32) (hT : TC q) : ∃ (r : Int32) (o : dK), zX9_at_s0 q a1 a2 = some (r, o) ∧ lw_X q o 0 0 ∧ (Int32.toInt (o.1 0 12) = Int32.toInt (q.1 0 12)) ∧ (Int32.toInt (o.1 9 0) = Int32.toInt (q.1 9 0)) ∧ (Int32.toInt (o.1 9 1) = Int32.toInt (q.1 9 1)) ∧ (Int32.toInt (o.1 1 8) = Int32.toInt (q.1 1 8)) ∧ (Int32.toInt (o.1 49 8) = Int32.toInt (q.1 49 8)) ∧ (Int32.toInt (o.1 56 8) = Int32.toInt (q.1 56 8)) ∧ (Int32.toInt (o.1 1 9) = Int32.toInt (q.1 1 9)) ∧ (Int32.toInt (o.1 49 9) = Int32.toInt (q.1 49 9)) ∧ (Int32.toInt (o.1 56 9) = Int32.toInt (q.1 56 9)) ∧ (Int32.toInt (o.1 0 13) = Int32.toInt (q.1 0 13)) ∧ (o.1 46 = q.1 46) := by
  obtain ⟨⟨r, o⟩, e, h⟩ := ok_X9_at_s0 q a1 a2 hT
  have h1 : TC o := h.1
  have h2 : cFr [19, 21] [(18, 1), (20, 2)] q o := h.2
  exact ⟨r, o, e, lx_fr h1 h2 rfl, ⟨congrArg Int32.toInt (h2.1 0 12 (by decide) (by decide)), congrArg Int32.toInt (h2.1 9 0 (by decide) (by decide)), congrArg Int32.toInt (h2.1 9 1 (by decide) (by decide)), congrArg Int32.toInt (h2.1 1 8 (by decide) (by decide)), congrArg Int32.toInt (h2.1 49 8 (by decide) (by decide)), congrArg Int32.toInt (h2.1 56 8 (by decide) (by decide)), congrArg Int32.toInt (h2.1 1 9 (by decide) (by decide)), congrArg Int32.toInt (h2.1 49 9 (by decide) (by decide)), congrArg Int32.toInt (h2.1 56 9 (by decide) (by decide)), congrArg Int32.toInt (h2.1 0 13 (by decide) (by decide)), (h2.row 46 (by decide) (by decide))⟩⟩

theorem lx_asks (q : dK) (a1 a2 : Int32) (hT : TC q) : ∃ (r : Int32) (o : dK), zX9_asks_s0 q a1 a2 = some (r, o) ∧ lw_X q o 0 0 ∧ (Int32.toInt (o.1 0 12) = Int32.toInt (q.1 0 12)) ∧ (Int32.toInt (o.1 9 0) = Int32.toInt (q.1 9 0)) ∧ (Int32.toInt (o.1 9 1) = Int32.toInt (q.1 9 1)) ∧ (Int32.toInt (o.1 1 8) = Int32.toInt (q.1 1 8)) ∧ (Int32.toInt (o.1 49 8) = Int32.toInt (q.1 49 8)) ∧ (Int32.toInt (o.1 56 8) = Int32.toInt (q.1 56 8)) ∧ (Int32.toInt (o.1 1 9) = Int32.toInt (q.1 1 9)) ∧ (Int32.toInt (o.1 49 9) = Int32.toInt (q.1 49 9)) ∧ (Int32.toInt (o.1 56 9) = Int32.toInt (q.1 56 9)) ∧ (Int32.toInt (o.1 0 13) = Int32.toInt (q.1 0 13)) ∧ (o.1 46 = q.1 46) := by
  obtain ⟨⟨r, o⟩, e, h⟩ := ok_X9_asks_s0 q a1 a2 hT
  have h1 : TC o := h.1
  have h2 : cFr [19, 21] [(18, 1), (20, 2)] q o := h.2
  exact ⟨r, o, e, lx_fr h1 h2 rfl, ⟨congrArg Int32.toInt (h2.1 0 12 (by decide) (by decide)), congrArg Int32.toInt (h2.1 9 0 (by decide) (by decide)), congrArg Int32.toInt (h2.1 9 1 (by decide) (by decide)), congrArg Int32.toInt (h2.1 1 8 (by decide) (by decide)), congrArg Int32.toInt (h2.1 49 8 (by decide) (by decide)), congrArg Int32.toInt (h2.1 56 8 (by decide) (by decide)), congrArg Int32.toInt (h2.1 1 9 (by decide) (by decide)), congrArg Int32.toInt (h2.1 49 9 (by decide) (by decide)), congrArg Int32.toInt (h2.1 56 9 (by decide) (by decide)), congrArg Int32.toInt (h2.1 0 13 (by decide) (by decide)), (h2.row 46 (by decide) (by decide))⟩⟩

theorem lx_terms (q : dK) (a1 a2 : Int32) (hT : TC q) : ∃ (r : Int32) (o : dK), zX9_terms_s0 q a1 a2 = some (r, o) ∧ lw_X q o 0 0 ∧ (Int32.toInt (o.1 0 12) = Int32.toInt (q.1 0 12)) ∧ (Int32.toInt (o.1 9 0) = Int32.toInt (q.1 9 0)) ∧ (Int32.toInt (o.1 9 1) = Int32.toInt (q.1 9 1)) ∧ (Int32.toInt (o.1 1 8) = Int32.toInt (q.1 1 8)) ∧ (Int32.toInt (o.1 49 8) = Int32.toInt (q.1 49 8)) ∧ (Int32.toInt (o.1 56 8) = Int32.toInt (q.1 56 8)) ∧ (Int32.toInt (o.1 1 9) = Int32.toInt (q.1 1 9)) ∧ (Int32.toInt (o.1 49 9) = Int32.toInt (q.1 49 9)) ∧ (Int32.toInt (o.1 56 9) = Int32.toInt (q.1 56 9)) ∧ (Int32.toInt (o.1 0 13) = Int32.toInt (q.1 0 13)) ∧ (o.1 46 = q.1 46) := by
  obtain ⟨⟨r, o⟩, e, h⟩ := ok_X9_terms_s0 q a1 a2 hT
  have h1 : TC o := h.1
  have h2 : cFr [48] [(0, 18), (1, 1), (1, 2), (1, 3), (2, 4), (10, 2)] q o := h.2.1
  exact ⟨r, o, e, lx_fr h1 h2 rfl, ⟨congrArg Int32.toInt (h2.1 0 12 (by decide) (by decide)), congrArg Int32.toInt (h2.1 9 0 (by decide) (by decide)), congrArg Int32.toInt (h2.1 9 1 (by decide) (by decide)), congrArg Int32.toInt (h2.1 1 8 (by decide) (by decide)), congrArg Int32.toInt (h2.1 49 8 (by decide) (by decide)), congrArg Int32.toInt (h2.1 56 8 (by decide) (by decide)), congrArg Int32.toInt (h2.1 1 9 (by decide) (by decide)), congrArg Int32.toInt (h2.1 49 9 (by decide) (by decide)), congrArg Int32.toInt (h2.1 56 9 (by decide) (by decide)), congrArg Int32.toInt (h2.1 0 13 (by decide) (by decide)), (h2.row 46 (by decide) (by decide))⟩⟩

theorem lx_feed (q : dK) (a1 a2 a3 a4 a5 : Int32) (hT : TC q) : ∃ (r : Int32) (o : dK), zX9_feed_s0 q a1 a2 a3 a4 a5 = some (r, o) ∧ lw_X q o 0 0 ∧ ((Int32.toInt (q.1 0 12) ≤ 380 ∧ Int32.toInt (o.1 0 12) = Int32.toInt (q.1 0 12) + 20) ∨ (380 < Int32.toInt (q.1 0 12) ∧ Int32.toInt (o.1 0 12) = Int32.toInt (q.1 0 12))) ∧ (Int32.toInt (o.1 9 0) = Int32.toInt (q.1 9 0)) ∧ (Int32.toInt (o.1 9 1) = Int32.toInt (q.1 9 1)) ∧ (Int32.toInt (o.1 1 8) = Int32.toInt (q.1 1 8)) ∧ (Int32.toInt (o.1 49 8) = Int32.toInt (q.1 49 8)) ∧ (Int32.toInt (o.1 56 8) = Int32.toInt (q.1 56 8)) ∧ (Int32.toInt (o.1 1 9) = Int32.toInt (q.1 1 9)) ∧ (Int32.toInt (o.1 49 9) = Int32.toInt (q.1 49 9)) ∧ (Int32.toInt (o.1 56 9) = Int32.toInt (q.1 56 9)) ∧ (Int32.toInt (o.1 0 13) = Int32.toInt (q.1 0 13)) := by
  obtain ⟨⟨r, o⟩, e, h⟩ := ok_X9_feed_s0 q a1 a2 a3 a4 a5 hT
  have h1 : TC o := h.1
  have h2 : cFr [46] [(0, 12)] q o := h.2.1
  have h3 := h.2.2
  replace h3 : (Int32.toInt (q.1 0 12) ≤ 380 ∧ Int32.toInt (o.1 0 12) = Int32.toInt (q.1 0 12) + 20 ∧ Int32.toInt r = Int32.toInt (o.1 0 12)) ∨ (380 < Int32.toInt (q.1 0 12) ∧ Int32.toInt (o.1 0 12) = Int32.toInt (q.1 0 12) ∧ Int32.toInt r = -1) := h3
  exact ⟨r, o, e, lx_fr h1 h2 rfl, ⟨by rcases h3 with h3 | h3 <;> omega, congrArg Int32.toInt (h2.1 9 0 (by decide) (by decide)), congrArg Int32.toInt (h2.1 9 1 (by decide) (by decide)), congrArg Int32.toInt (h2.1 1 8 (by decide) (by decide)), congrArg Int32.toInt (h2.1 49 8 (by decide) (by decide)), congrArg Int32.toInt (h2.1 56 8 (by decide) (by decide)), congrArg Int32.toInt (h2.1 1 9 (by decide) (by decide)), congrArg Int32.toInt (h2.1 49 9 (by decide) (by decide)), congrArg Int32.toInt (h2.1 56 9 (by decide) (by decide)), congrArg Int32.toInt (h2.1 0 13 (by decide) (by decide))⟩⟩

theorem lx_end (q : dK) (a1 : Int32) (hT : TC q) : ∃ (r : Int32) (o : dK), zX9_end_s0 q a1 = some (r, o) ∧ lw_X q o 0 0 ∧ ((0 ≤ Int32.toInt a1 ∧ Int32.toInt a1 ≤ Int32.toInt (q.1 0 12) ∧ Int32.toInt (o.1 0 12) = Int32.toInt a1 ∧ Int32.toInt r = Int32.toInt a1) ∨ ((Int32.toInt a1 < 0 ∨ Int32.toInt (q.1 0 12) < Int32.toInt a1) ∧ Int32.toInt (o.1 0 12) = Int32.toInt (q.1 0 12) ∧ Int32.toInt r = -1)) ∧ (Int32.toInt (o.1 9 0) = Int32.toInt (q.1 9 0)) ∧ (Int32.toInt (o.1 9 1) = Int32.toInt (q.1 9 1)) ∧ (Int32.toInt (o.1 1 8) = Int32.toInt (q.1 1 8)) ∧ (Int32.toInt (o.1 49 8) = Int32.toInt (q.1 49 8)) ∧ (Int32.toInt (o.1 56 8) = Int32.toInt (q.1 56 8)) ∧ (Int32.toInt (o.1 1 9) = Int32.toInt (q.1 1 9)) ∧ (Int32.toInt (o.1 49 9) = Int32.toInt (q.1 49 9)) ∧ (Int32.toInt (o.1 56 9) = Int32.toInt (q.1 56 9)) ∧ (Int32.toInt (o.1 0 13) = Int32.toInt (q.1 0 13)) ∧ (o.1 46 = q.1 46) := by
  obtain ⟨⟨r, o⟩, e, h⟩ := ok_X9_end_s0 q a1 hT
  have h1 : TC o := h.1
  have h2 : cFr [] [(0, 12)] q o := h.2.1
  have h3 := h.2.2
  replace h3 : (0 ≤ Int32.toInt a1 ∧ Int32.toInt a1 ≤ Int32.toInt (q.1 0 12) ∧ Int32.toInt (o.1 0 12) = Int32.toInt a1 ∧ Int32.toInt r = Int32.toInt a1) ∨ ((Int32.toInt a1 < 0 ∨ Int32.toInt (q.1 0 12) < Int32.toInt a1) ∧ Int32.toInt (o.1 0 12) = Int32.toInt (q.1 0 12) ∧ Int32.toInt r = -1) := h3
  exact ⟨r, o, e, lx_fr h1 h2 rfl, ⟨h3, congrArg Int32.toInt (h2.1 9 0 (by decide) (by decide)), congrArg Int32.toInt (h2.1 9 1 (by decide) (by decide)), congrArg Int32.toInt (h2.1 1 8 (by decide) (by decide)), congrArg Int32.toInt (h2.1 49 8 (by decide) (by decide)), congrArg Int32.toInt (h2.1 56 8 (by decide) (by decide)), congrArg Int32.toInt (h2.1 1 9 (by decide) (by decide)), congrArg Int32.toInt (h2.1 49 9 (by decide) (by decide)), congrArg Int32.toInt (h2.1 56 9 (by decide) (by decide)), congrArg Int32.toInt (h2.1 0 13 (by decide) (by decide)), (h2.row 46 (by decide) (by decide))⟩⟩

theorem lx_row (q : dK) (hT : TC q) : ∃ (r : Int32) (o : dK), zX9_row_s0 q = some (r, o) ∧ lw_X q o 0 0 ∧ (Int32.toInt (o.1 0 12) = 0) ∧ (Int32.toInt (o.1 9 0) = Int32.toInt (q.1 9 0)) ∧ (Int32.toInt (o.1 9 1) = Int32.toInt (q.1 9 1)) ∧ (Int32.toInt (o.1 1 8) = Int32.toInt (q.1 1 8)) ∧ (Int32.toInt (o.1 49 8) = Int32.toInt (q.1 49 8)) ∧ (Int32.toInt (o.1 56 8) = Int32.toInt (q.1 56 8)) ∧ (Int32.toInt (o.1 1 9) = Int32.toInt (q.1 1 9)) ∧ (Int32.toInt (o.1 49 9) = Int32.toInt (q.1 49 9)) ∧ (Int32.toInt (o.1 56 9) = Int32.toInt (q.1 56 9)) ∧ (Int32.toInt (o.1 0 13) = Int32.toInt (q.1 0 13)) := by
  obtain ⟨⟨r, o⟩, e, h⟩ := ok_X9_row_s0 q hT
  have h1 : TC o := h.1
  have h2 : cFr [3, 4, 48] [(0, 12), (0, 14), (0, 18), (2, 2), (10, 2)] q o := h.2.1
  have h3 := h.2.2
  replace h3 : Int32.toInt (o.1 0 12) = 0 := h3
  exact ⟨r, o, e, lx_fr h1 h2 rfl, ⟨h3, congrArg Int32.toInt (h2.1 9 0 (by decide) (by decide)), congrArg Int32.toInt (h2.1 9 1 (by decide) (by decide)), congrArg Int32.toInt (h2.1 1 8 (by decide) (by decide)), congrArg Int32.toInt (h2.1 49 8 (by decide) (by decide)), congrArg Int32.toInt (h2.1 56 8 (by decide) (by decide)), congrArg Int32.toInt (h2.1 1 9 (by decide) (by decide)), congrArg Int32.toInt (h2.1 49 9 (by decide) (by decide)), congrArg Int32.toInt (h2.1 56 9 (by decide) (by decide)), congrArg Int32.toInt (h2.1 0 13 (by decide) (by decide))⟩⟩

theorem lx_bricks (q : dK) (hT : TC q) : ∃ (r : Int32) (o : dK), zX9_bricks_s0 q = some (r, o) ∧ lw_X q o 0 0 ∧ (Int32.toInt (o.1 0 12) = Int32.toInt (q.1 0 12)) ∧ (Int32.toInt (o.1 9 0) = Int32.toInt (q.1 9 0)) ∧ (Int32.toInt (o.1 9 1) = Int32.toInt (q.1 9 1)) ∧ (Int32.toInt (o.1 1 8) = Int32.toInt (q.1 1 8)) ∧ (Int32.toInt (o.1 49 8) = Int32.toInt (q.1 49 8)) ∧ (Int32.toInt (o.1 56 8) = Int32.toInt (q.1 56 8)) ∧ (Int32.toInt (o.1 1 9) = Int32.toInt (q.1 1 9)) ∧ (Int32.toInt (o.1 49 9) = Int32.toInt (q.1 49 9)) ∧ (Int32.toInt (o.1 56 9) = Int32.toInt (q.1 56 9)) ∧ (Int32.toInt (o.1 0 13) = Int32.toInt (q.1 0 13)) ∧ (o.1 46 = q.1 46) := by
  obtain ⟨⟨r, o⟩, e, h⟩ := ok_X9_bricks_s0 q hT
  have h1 : o = q := h
  subst h1
  exact ⟨r, o, e, lx_rf hT, ⟨rfl, rfl, rfl, rfl, rfl, rfl, rfl, rfl, rfl, rfl, rfl⟩⟩

theorem lx_law (q : dK) (hT : TC q) (hL : q.2.2.length < 1000) : ∃ (r : Int32) (o : dK), zX9_law_s0 468 q = some (r, o) ∧ lw_X q o 7 468 ∧ (Int32.toInt (o.1 0 12) = 0) ∧ (Int32.toInt (o.1 9 0) = Int32.toInt (q.1 9 0)) ∧ (Int32.toInt (o.1 9 1) = Int32.toInt (q.1 9 1)) ∧ (Int32.toInt (o.1 49 8) = Int32.toInt (q.1 49 8)) ∧ (Int32.toInt (o.1 56 8) = Int32.toInt (q.1 56 8)) ∧ (Int32.toInt (o.1 49 9) = Int32.toInt (q.1 49 9)) ∧ (Int32.toInt (o.1 56 9) = Int32.toInt (q.1 56 9)) := by
  obtain ⟨⟨r, o⟩, e, h1, h2, h3, h4, h5⟩ := ok_X9_law_s0 468 q hT (Nat.le_refl _) hL
  replace h1 : TC o := h1
  replace h2 : o.1 0 12 = 0 := h2
  replace h3 : o.1 32 103 = q.1 32 103 := h3
  replace h5 : KL q o := h5
  exact ⟨r, o, e, ⟨h1, h4, Nat.le_refl _, by rw [h3]; omega⟩, ⟨by rw [h2]; decide, congrArg Int32.toInt (h5 9 0 (by decide)), congrArg Int32.toInt (h5 9 1 (by decide)), congrArg Int32.toInt (h5 49 8 (by decide)), congrArg Int32.toInt (h5 56 8 (by decide)), congrArg Int32.toInt (h5 49 9 (by decide)), congrArg Int32.toInt (h5 56 9 (by decide))⟩⟩

theorem lx_orders (q : dK) (hT : TC q) : ∃ (r : Int32) (o : dK), zX9_orders_s0 q = some (r, o) ∧ lw_X q o 0 0 ∧ (Int32.toInt (o.1 0 12) = 0) ∧ (Int32.toInt (o.1 9 0) = Int32.toInt (q.1 9 0)) ∧ (Int32.toInt (o.1 9 1) = Int32.toInt (q.1 9 1)) ∧ (Int32.toInt (o.1 1 8) = Int32.toInt (q.1 1 8)) ∧ (Int32.toInt (o.1 49 8) = Int32.toInt (q.1 49 8)) ∧ (Int32.toInt (o.1 56 8) = Int32.toInt (q.1 56 8)) ∧ (Int32.toInt (o.1 1 9) = Int32.toInt (q.1 1 9)) ∧ (Int32.toInt (o.1 49 9) = Int32.toInt (q.1 49 9)) ∧ (Int32.toInt (o.1 56 9) = Int32.toInt (q.1 56 9)) := by
  obtain ⟨⟨r, o⟩, e, h⟩ := ok_X9_orders_s0 q hT
  have h1 : TC o := h.1
  have h2 : cFr [3, 4, 12, 14, 19, 21, 23, 26, 27, 28, 29, 30, 31, 48] [(0, 12), (0, 13), (0, 15), (0, 18), (2, 2), (2, 3), (2, 4), (10, 2), (10, 5), (18, 1), (20, 2), (22, 2), (22, 3), (24, 0), (24, 1), (24, 2), (24, 3), (24, 4), (24, 5), (24, 6), (24, 7), (24, 8), (24, 9), (24, 10), (25, 6), (25, 7)] q o := h.2.1
  have h3 := h.2.2
  replace h3 : Int32.toInt (o.1 0 12) = 0 := h3
  exact ⟨r, o, e, lx_fr h1 h2 rfl, ⟨h3, congrArg Int32.toInt (h2.1 9 0 (by decide) (by decide)), congrArg Int32.toInt (h2.1 9 1 (by decide) (by decide)), congrArg Int32.toInt (h2.1 1 8 (by decide) (by decide)), congrArg Int32.toInt (h2.1 49 8 (by decide) (by decide)), congrArg Int32.toInt (h2.1 56 8 (by decide) (by decide)), congrArg Int32.toInt (h2.1 1 9 (by decide) (by decide)), congrArg Int32.toInt (h2.1 49 9 (by decide) (by decide)), congrArg Int32.toInt (h2.1 56 9 (by decide) (by decide))⟩⟩

theorem lx_fault (q : dK) (hT : TC q) : ∃ (r : Int32) (o : dK), zX9_fault_s0 q = some (r, o) ∧ lw_X q o 0 0 ∧ (Int32.toInt (o.1 0 12) = Int32.toInt (q.1 0 12)) ∧ (Int32.toInt r = Int32.toInt (q.1 0 13)) ∧ (Int32.toInt (o.1 9 0) = Int32.toInt (q.1 9 0)) ∧ (Int32.toInt (o.1 9 1) = Int32.toInt (q.1 9 1)) ∧ (Int32.toInt (o.1 1 8) = Int32.toInt (q.1 1 8)) ∧ (Int32.toInt (o.1 49 8) = Int32.toInt (q.1 49 8)) ∧ (Int32.toInt (o.1 56 8) = Int32.toInt (q.1 56 8)) ∧ (Int32.toInt (o.1 1 9) = Int32.toInt (q.1 1 9)) ∧ (Int32.toInt (o.1 49 9) = Int32.toInt (q.1 49 9)) ∧ (Int32.toInt (o.1 56 9) = Int32.toInt (q.1 56 9)) ∧ (Int32.toInt (o.1 0 13) = Int32.toInt (q.1 0 13)) ∧ (o.1 46 = q.1 46) := by
  obtain ⟨⟨r, o⟩, e, h⟩ := ok_X9_fault_s0 q hT
  have h1 : o = q := h
  subst h1
  exact ⟨r, o, e, lx_rf hT, ⟨rfl, (dA_some (o := (o.1 0 13, o)) (P := fun (a : Int32 × dK) => Int32.toInt a.1 = Int32.toInt (o.1 0 13)) rfl (r, o) e), rfl, rfl, rfl, rfl, rfl, rfl, rfl, rfl, rfl, rfl⟩⟩

theorem lx_stopped (q : dK) (hT : TC q) : ∃ (r : Int32) (o : dK), zX9_stopped_s0 q = some (r, o) ∧ lw_X q o 0 0 ∧ (Int32.toInt (o.1 0 12) = Int32.toInt (q.1 0 12)) ∧ (Int32.toInt (o.1 9 0) = Int32.toInt (q.1 9 0)) ∧ (Int32.toInt (o.1 9 1) = Int32.toInt (q.1 9 1)) ∧ (Int32.toInt (o.1 1 8) = Int32.toInt (q.1 1 8)) ∧ (Int32.toInt (o.1 49 8) = Int32.toInt (q.1 49 8)) ∧ (Int32.toInt (o.1 56 8) = Int32.toInt (q.1 56 8)) ∧ (Int32.toInt (o.1 1 9) = Int32.toInt (q.1 1 9)) ∧ (Int32.toInt (o.1 49 9) = Int32.toInt (q.1 49 9)) ∧ (Int32.toInt (o.1 56 9) = Int32.toInt (q.1 56 9)) ∧ (Int32.toInt (o.1 0 13) = Int32.toInt (q.1 0 13)) ∧ (o.1 46 = q.1 46) := by
  obtain ⟨⟨r, o⟩, e, h⟩ := ok_X9_stopped_s0 q hT
  have h1 : o = q := h
  subst h1
  exact ⟨r, o, e, lx_rf hT, ⟨rfl, rfl, rfl, rfl, rfl, rfl, rfl, rfl, rfl, rfl, rfl⟩⟩

theorem lx_force (q : dK) (a1 : Int32) (hT : TC q) : ∃ (r : Int32) (o : dK), zX9_force_s0 q a1 = some (r, o) ∧ lw_X q o 0 0 ∧ (Int32.toInt (o.1 0 12) = Int32.toInt (q.1 0 12)) ∧ (((-1 ≤ Int32.toInt a1 ∧ Int32.toInt a1 < Int32.toInt (q.1 1 8) ∨ Int32.toInt a1 = -1) ∧ Int32.toInt r = Int32.toInt (q.1 1 9) ∧ Int32.toInt (o.1 1 9) = Int32.toInt a1 ∨ ¬ (-1 ≤ Int32.toInt a1 ∧ Int32.toInt a1 < Int32.toInt (q.1 1 8) ∨ Int32.toInt a1 = -1) ∧ Int32.toInt r = -2 ∧ Int32.toInt (o.1 1 9) = Int32.toInt (q.1 1 9))) ∧ (Int32.toInt (o.1 9 0) = Int32.toInt (q.1 9 0)) ∧ (Int32.toInt (o.1 9 1) = Int32.toInt (q.1 9 1)) ∧ (Int32.toInt (o.1 1 8) = Int32.toInt (q.1 1 8)) ∧ (Int32.toInt (o.1 49 8) = Int32.toInt (q.1 49 8)) ∧ (Int32.toInt (o.1 56 8) = Int32.toInt (q.1 56 8)) ∧ (Int32.toInt (o.1 49 9) = Int32.toInt (q.1 49 9)) ∧ (Int32.toInt (o.1 56 9) = Int32.toInt (q.1 56 9)) ∧ (Int32.toInt (o.1 0 13) = Int32.toInt (q.1 0 13)) ∧ (o.1 46 = q.1 46) := by
  obtain ⟨⟨r, o⟩, e, h⟩ := ok_X9_force_s0 q a1 hT
  have h1 : TC o := h.1
  have h2 : cFr [48] [(0, 18), (1, 9)] q o := h.2
  exact ⟨r, o, e, lx_fr h1 h2 rfl, ⟨congrArg Int32.toInt (h2.1 0 12 (by decide) (by decide)), (ok2_X9_force q a1 (r, o) e), congrArg Int32.toInt (h2.1 9 0 (by decide) (by decide)), congrArg Int32.toInt (h2.1 9 1 (by decide) (by decide)), congrArg Int32.toInt (h2.1 1 8 (by decide) (by decide)), congrArg Int32.toInt (h2.1 49 8 (by decide) (by decide)), congrArg Int32.toInt (h2.1 56 8 (by decide) (by decide)), congrArg Int32.toInt (h2.1 49 9 (by decide) (by decide)), congrArg Int32.toInt (h2.1 56 9 (by decide) (by decide)), congrArg Int32.toInt (h2.1 0 13 (by decide) (by decide)), (h2.row 46 (by decide) (by decide))⟩⟩

theorem lx_turn (q : dK) (a1 : Int32) (hT : TC q) : ∃ (r : Int32) (o : dK), zX9_turn_s0 q a1 = some (r, o) ∧ lw_X q o 0 0 ∧ (Int32.toInt (o.1 0 12) = Int32.toInt (q.1 0 12)) ∧ (Int32.toInt (o.1 9 0) = Int32.toInt (q.1 9 0)) ∧ (Int32.toInt (o.1 9 1) = Int32.toInt (q.1 9 1)) ∧ (Int32.toInt (o.1 1 8) = Int32.toInt (q.1 1 8)) ∧ (Int32.toInt (o.1 49 8) = Int32.toInt (q.1 49 8)) ∧ (Int32.toInt (o.1 56 8) = Int32.toInt (q.1 56 8)) ∧ (Int32.toInt (o.1 1 9) = Int32.toInt (q.1 1 9)) ∧ (Int32.toInt (o.1 49 9) = Int32.toInt (q.1 49 9)) ∧ (Int32.toInt (o.1 56 9) = Int32.toInt (q.1 56 9)) ∧ (Int32.toInt (o.1 0 13) = Int32.toInt (q.1 0 13)) ∧ (o.1 46 = q.1 46) := by
  obtain ⟨⟨r, o⟩, e, h⟩ := ok_X9_turn_s0 q a1 hT
  have h1 : TC o := h.1
  have h2 : cFr [3, 4, 12, 19, 21, 48] [(0, 18), (2, 3), (2, 4), (10, 2), (18, 1), (20, 2)] q o := h.2
  exact ⟨r, o, e, lx_fr h1 h2 rfl, ⟨congrArg Int32.toInt (h2.1 0 12 (by decide) (by decide)), congrArg Int32.toInt (h2.1 9 0 (by decide) (by decide)), congrArg Int32.toInt (h2.1 9 1 (by decide) (by decide)), congrArg Int32.toInt (h2.1 1 8 (by decide) (by decide)), congrArg Int32.toInt (h2.1 49 8 (by decide) (by decide)), congrArg Int32.toInt (h2.1 56 8 (by decide) (by decide)), congrArg Int32.toInt (h2.1 1 9 (by decide) (by decide)), congrArg Int32.toInt (h2.1 49 9 (by decide) (by decide)), congrArg Int32.toInt (h2.1 56 9 (by decide) (by decide)), congrArg Int32.toInt (h2.1 0 13 (by decide) (by decide)), (h2.row 46 (by decide) (by decide))⟩⟩

theorem lx_right (q : dK) (a1 : Int32) (hT : TC q) : ∃ (r : Int32) (o : dK), zX9_right_s0 q a1 = some (r, o) ∧ lw_X q o 0 0 ∧ (Int32.toInt (o.1 0 12) = Int32.toInt (q.1 0 12)) ∧ (Int32.toInt (o.1 9 0) = Int32.toInt (q.1 9 0)) ∧ (Int32.toInt (o.1 9 1) = Int32.toInt (q.1 9 1)) ∧ (Int32.toInt (o.1 1 8) = Int32.toInt (q.1 1 8)) ∧ (Int32.toInt (o.1 49 8) = Int32.toInt (q.1 49 8)) ∧ (Int32.toInt (o.1 56 8) = Int32.toInt (q.1 56 8)) ∧ (Int32.toInt (o.1 1 9) = Int32.toInt (q.1 1 9)) ∧ (Int32.toInt (o.1 49 9) = Int32.toInt (q.1 49 9)) ∧ (Int32.toInt (o.1 56 9) = Int32.toInt (q.1 56 9)) ∧ (Int32.toInt (o.1 0 13) = Int32.toInt (q.1 0 13)) ∧ (o.1 46 = q.1 46) := by
  obtain ⟨⟨r, o⟩, e, h⟩ := ok_X9_right_s0 q a1 hT
  have h1 : TC o := h.1
  have h2 : cFr [3, 4, 12, 19, 21, 48] [(0, 18), (2, 3), (2, 4), (10, 2), (18, 1), (20, 2)] q o := h.2
  exact ⟨r, o, e, lx_fr h1 h2 rfl, ⟨congrArg Int32.toInt (h2.1 0 12 (by decide) (by decide)), congrArg Int32.toInt (h2.1 9 0 (by decide) (by decide)), congrArg Int32.toInt (h2.1 9 1 (by decide) (by decide)), congrArg Int32.toInt (h2.1 1 8 (by decide) (by decide)), congrArg Int32.toInt (h2.1 49 8 (by decide) (by decide)), congrArg Int32.toInt (h2.1 56 8 (by decide) (by decide)), congrArg Int32.toInt (h2.1 1 9 (by decide) (by decide)), congrArg Int32.toInt (h2.1 49 9 (by decide) (by decide)), congrArg Int32.toInt (h2.1 56 9 (by decide) (by decide)), congrArg Int32.toInt (h2.1 0 13 (by decide) (by decide)), (h2.row 46 (by decide) (by decide))⟩⟩

theorem lx_swap (q : dK) (a1 : Int32) (hT : TC q) : ∃ (r : Int32) (o : dK), zX9_swap_s0 q a1 = some (r, o) ∧ lw_X q o 0 0 ∧ (Int32.toInt (o.1 0 12) = Int32.toInt (q.1 0 12)) ∧ (Int32.toInt (o.1 9 0) = Int32.toInt (q.1 9 0)) ∧ (Int32.toInt (o.1 9 1) = Int32.toInt (q.1 9 1)) ∧ (Int32.toInt (o.1 1 8) = Int32.toInt (q.1 1 8)) ∧ (Int32.toInt (o.1 49 8) = Int32.toInt (q.1 49 8)) ∧ (Int32.toInt (o.1 56 8) = Int32.toInt (q.1 56 8)) ∧ (Int32.toInt (o.1 1 9) = Int32.toInt (q.1 1 9)) ∧ (Int32.toInt (o.1 49 9) = Int32.toInt (q.1 49 9)) ∧ (Int32.toInt (o.1 56 9) = Int32.toInt (q.1 56 9)) ∧ (Int32.toInt (o.1 0 13) = Int32.toInt (q.1 0 13)) ∧ (o.1 46 = q.1 46) := by
  obtain ⟨⟨r, o⟩, e, h⟩ := ok_X9_swap_s0 q a1 hT
  have h1 : TC o := h.1
  have h2 : cFr [3, 4, 12, 19, 21, 48] [(0, 18), (2, 3), (2, 4), (10, 2), (18, 1), (20, 2)] q o := h.2
  exact ⟨r, o, e, lx_fr h1 h2 rfl, ⟨congrArg Int32.toInt (h2.1 0 12 (by decide) (by decide)), congrArg Int32.toInt (h2.1 9 0 (by decide) (by decide)), congrArg Int32.toInt (h2.1 9 1 (by decide) (by decide)), congrArg Int32.toInt (h2.1 1 8 (by decide) (by decide)), congrArg Int32.toInt (h2.1 49 8 (by decide) (by decide)), congrArg Int32.toInt (h2.1 56 8 (by decide) (by decide)), congrArg Int32.toInt (h2.1 1 9 (by decide) (by decide)), congrArg Int32.toInt (h2.1 49 9 (by decide) (by decide)), congrArg Int32.toInt (h2.1 56 9 (by decide) (by decide)), congrArg Int32.toInt (h2.1 0 13 (by decide) (by decide)), (h2.row 46 (by decide) (by decide))⟩⟩

theorem lx_pass (q : dK) (hT : TC q) : ∃ (r : Int32) (o : dK), zX9_pass_s0 q = some (r, o) ∧ lw_X q o 0 0 ∧ (Int32.toInt (o.1 0 12) = Int32.toInt (q.1 0 12)) ∧ (Int32.toInt (o.1 9 0) = Int32.toInt (q.1 9 0)) ∧ (Int32.toInt (o.1 9 1) = Int32.toInt (q.1 9 1)) ∧ (Int32.toInt (o.1 1 8) = Int32.toInt (q.1 1 8)) ∧ (Int32.toInt (o.1 49 8) = Int32.toInt (q.1 49 8)) ∧ (Int32.toInt (o.1 56 8) = Int32.toInt (q.1 56 8)) ∧ (Int32.toInt (o.1 1 9) = Int32.toInt (q.1 1 9)) ∧ (Int32.toInt (o.1 49 9) = Int32.toInt (q.1 49 9)) ∧ (Int32.toInt (o.1 56 9) = Int32.toInt (q.1 56 9)) ∧ (Int32.toInt (o.1 0 13) = Int32.toInt (q.1 0 13)) ∧ (o.1 46 = q.1 46) := by
  obtain ⟨⟨r, o⟩, e, h⟩ := ok_X9_pass_s0 q hT
  have h1 : TC o := h.1
  have h2 : cFr [3, 4, 12, 19, 21, 48] [(0, 18), (2, 3), (2, 4), (10, 2), (18, 1), (20, 2)] q o := h.2
  exact ⟨r, o, e, lx_fr h1 h2 rfl, ⟨congrArg Int32.toInt (h2.1 0 12 (by decide) (by decide)), congrArg Int32.toInt (h2.1 9 0 (by decide) (by decide)), congrArg Int32.toInt (h2.1 9 1 (by decide) (by decide)), congrArg Int32.toInt (h2.1 1 8 (by decide) (by decide)), congrArg Int32.toInt (h2.1 49 8 (by decide) (by decide)), congrArg Int32.toInt (h2.1 56 8 (by decide) (by decide)), congrArg Int32.toInt (h2.1 1 9 (by decide) (by decide)), congrArg Int32.toInt (h2.1 49 9 (by decide) (by decide)), congrArg Int32.toInt (h2.1 56 9 (by decide) (by decide)), congrArg Int32.toInt (h2.1 0 13 (by decide) (by decide)), (h2.row 46 (by decide) (by decide))⟩⟩

theorem lx_undo (q : dK) (hT : TC q) : ∃ (r : Int32) (o : dK), zX9_undo_s0 q = some (r, o) ∧ lw_X q o 0 0 ∧ (Int32.toInt (o.1 0 12) = Int32.toInt (q.1 0 12)) ∧ (Int32.toInt (o.1 9 0) = Int32.toInt (q.1 9 0)) ∧ (Int32.toInt (o.1 9 1) = Int32.toInt (q.1 9 1)) ∧ (Int32.toInt (o.1 1 8) = Int32.toInt (q.1 1 8)) ∧ (Int32.toInt (o.1 49 8) = Int32.toInt (q.1 49 8)) ∧ (Int32.toInt (o.1 56 8) = Int32.toInt (q.1 56 8)) ∧ (Int32.toInt (o.1 1 9) = Int32.toInt (q.1 1 9)) ∧ (Int32.toInt (o.1 49 9) = Int32.toInt (q.1 49 9)) ∧ (Int32.toInt (o.1 56 9) = Int32.toInt (q.1 56 9)) ∧ (Int32.toInt (o.1 0 13) = Int32.toInt (q.1 0 13)) ∧ (o.1 46 = q.1 46) := by
  obtain ⟨⟨r, o⟩, e, h⟩ := ok_X9_undo_s0 q hT
  have h1 : TC o := h.1
  have h2 : cFr [3, 4, 48] [(0, 18), (2, 2), (2, 3), (2, 4), (10, 2)] q o := h.2
  exact ⟨r, o, e, lx_fr h1 h2 rfl, ⟨congrArg Int32.toInt (h2.1 0 12 (by decide) (by decide)), congrArg Int32.toInt (h2.1 9 0 (by decide) (by decide)), congrArg Int32.toInt (h2.1 9 1 (by decide) (by decide)), congrArg Int32.toInt (h2.1 1 8 (by decide) (by decide)), congrArg Int32.toInt (h2.1 49 8 (by decide) (by decide)), congrArg Int32.toInt (h2.1 56 8 (by decide) (by decide)), congrArg Int32.toInt (h2.1 1 9 (by decide) (by decide)), congrArg Int32.toInt (h2.1 49 9 (by decide) (by decide)), congrArg Int32.toInt (h2.1 56 9 (by decide) (by decide)), congrArg Int32.toInt (h2.1 0 13 (by decide) (by decide)), (h2.row 46 (by decide) (by decide))⟩⟩

theorem lx_fewest (q : dK) (a1 : Int32) (hT : TC q) : ∃ (nc ns : Nat) (r : Int32) (o : dK), zX9_fewest_s0 nc ns q a1 = some (r, o) ∧ lw_X q o nc ns ∧ (Int32.toInt (o.1 0 12) = Int32.toInt (q.1 0 12)) ∧ (Int32.toInt (o.1 9 0) = Int32.toInt (q.1 9 0)) ∧ (Int32.toInt (o.1 9 1) = Int32.toInt (q.1 9 1)) ∧ (Int32.toInt (o.1 1 8) = Int32.toInt (q.1 1 8)) ∧ (Int32.toInt (o.1 49 8) = Int32.toInt (q.1 49 8)) ∧ (Int32.toInt (o.1 56 8) = Int32.toInt (q.1 56 8)) ∧ (Int32.toInt (o.1 1 9) = Int32.toInt (q.1 1 9)) ∧ (Int32.toInt (o.1 49 9) = Int32.toInt (q.1 49 9)) ∧ (Int32.toInt (o.1 56 9) = Int32.toInt (q.1 56 9)) ∧ (Int32.toInt (o.1 0 13) = Int32.toInt (q.1 0 13)) ∧ (o.1 46 = q.1 46) := by
  obtain ⟨nc, ns, ⟨r, o⟩, e, h⟩ := su_X9_fewest q a1 hT
  have h2 : KP q o := h.2.1
  exact ⟨nc, ns, r, o, e, lx_ps hT h, ⟨congrArg Int32.toInt (h2 0 12 (by decide)), congrArg Int32.toInt (h2 9 0 (by decide)), congrArg Int32.toInt (h2 9 1 (by decide)), congrArg Int32.toInt (h2 1 8 (by decide)), congrArg Int32.toInt (h2 49 8 (by decide)), congrArg Int32.toInt (h2 56 8 (by decide)), congrArg Int32.toInt (h2 1 9 (by decide)), congrArg Int32.toInt (h2 49 9 (by decide)), congrArg Int32.toInt (h2 56 9 (by decide)), congrArg Int32.toInt (h2 0 13 (by decide)), (kpj_row h2)⟩⟩

theorem lx_many (q : dK) (hT : TC q) : ∃ (nc ns : Nat) (r : Int32) (o : dK), zX9_many_s0 nc ns q = some (r, o) ∧ lw_X q o nc ns ∧ (Int32.toInt (o.1 0 12) = Int32.toInt (q.1 0 12)) ∧ (Int32.toInt (o.1 9 0) = Int32.toInt (q.1 9 0)) ∧ (Int32.toInt (o.1 9 1) = Int32.toInt (q.1 9 1)) ∧ (Int32.toInt (o.1 1 8) = Int32.toInt (q.1 1 8)) ∧ (Int32.toInt (o.1 49 8) = Int32.toInt (q.1 49 8)) ∧ (Int32.toInt (o.1 56 8) = Int32.toInt (q.1 56 8)) ∧ (Int32.toInt (o.1 1 9) = Int32.toInt (q.1 1 9)) ∧ (Int32.toInt (o.1 49 9) = Int32.toInt (q.1 49 9)) ∧ (Int32.toInt (o.1 56 9) = Int32.toInt (q.1 56 9)) ∧ (Int32.toInt (o.1 0 13) = Int32.toInt (q.1 0 13)) ∧ (o.1 46 = q.1 46) := by
  obtain ⟨nc, ns, ⟨r, o⟩, e, h⟩ := su_X9_many q hT
  have h2 : KP q o := h.2.1
  exact ⟨nc, ns, r, o, e, lx_ps hT h, ⟨congrArg Int32.toInt (h2 0 12 (by decide)), congrArg Int32.toInt (h2 9 0 (by decide)), congrArg Int32.toInt (h2 9 1 (by decide)), congrArg Int32.toInt (h2 1 8 (by decide)), congrArg Int32.toInt (h2 49 8 (by decide)), congrArg Int32.toInt (h2 56 8 (by decide)), congrArg Int32.toInt (h2 1 9 (by decide)), congrArg Int32.toInt (h2 49 9 (by decide)), congrArg Int32.toInt (h2 56 9 (by decide)), congrArg Int32.toInt (h2 0 13 (by decide)), (kpj_row h2)⟩⟩

theorem lx_cheapest (q : dK) (hT : TC q) : ∃ (nc ns : Nat) (r : Int32) (o : dK), zX9_cheapest_s0 nc ns q = some (r, o) ∧ lw_X q o nc ns ∧ (Int32.toInt (o.1 0 12) = Int32.toInt (q.1 0 12)) ∧ (Int32.toInt (o.1 9 0) = Int32.toInt (q.1 9 0)) ∧ (Int32.toInt (o.1 9 1) = Int32.toInt (q.1 9 1)) ∧ (Int32.toInt (o.1 1 8) = Int32.toInt (q.1 1 8)) ∧ (Int32.toInt (o.1 49 8) = Int32.toInt (q.1 49 8)) ∧ (Int32.toInt (o.1 56 8) = Int32.toInt (q.1 56 8)) ∧ (Int32.toInt (o.1 1 9) = Int32.toInt (q.1 1 9)) ∧ (Int32.toInt (o.1 49 9) = Int32.toInt (q.1 49 9)) ∧ (Int32.toInt (o.1 56 9) = Int32.toInt (q.1 56 9)) ∧ (Int32.toInt (o.1 0 13) = Int32.toInt (q.1 0 13)) ∧ (o.1 46 = q.1 46) := by
  obtain ⟨nc, ns, ⟨r, o⟩, e, h⟩ := su_X9_cheapest q hT
  have h2 : KP q o := h.2.1
  exact ⟨nc, ns, r, o, e, lx_ps hT h, ⟨congrArg Int32.toInt (h2 0 12 (by decide)), congrArg Int32.toInt (h2 9 0 (by decide)), congrArg Int32.toInt (h2 9 1 (by decide)), congrArg Int32.toInt (h2 1 8 (by decide)), congrArg Int32.toInt (h2 49 8 (by decide)), congrArg Int32.toInt (h2 56 8 (by decide)), congrArg Int32.toInt (h2 1 9 (by decide)), congrArg Int32.toInt (h2 49 9 (by decide)), congrArg Int32.toInt (h2 56 9 (by decide)), congrArg Int32.toInt (h2 0 13 (by decide)), (kpj_row h2)⟩⟩

theorem lx_worst (q : dK) (a1 : Int32) (hT : TC q) : ∃ (nc ns : Nat) (r : Int32) (o : dK), zX9_worst_s0 nc ns q a1 = some (r, o) ∧ lw_X q o nc ns ∧ (Int32.toInt (o.1 0 12) = Int32.toInt (q.1 0 12)) ∧ (Int32.toInt (o.1 9 0) = Int32.toInt (q.1 9 0)) ∧ (Int32.toInt (o.1 9 1) = Int32.toInt (q.1 9 1)) ∧ (Int32.toInt (o.1 1 8) = Int32.toInt (q.1 1 8)) ∧ (Int32.toInt (o.1 49 8) = Int32.toInt (q.1 49 8)) ∧ (Int32.toInt (o.1 56 8) = Int32.toInt (q.1 56 8)) ∧ (Int32.toInt (o.1 1 9) = Int32.toInt (q.1 1 9)) ∧ (Int32.toInt (o.1 49 9) = Int32.toInt (q.1 49 9)) ∧ (Int32.toInt (o.1 56 9) = Int32.toInt (q.1 56 9)) ∧ (Int32.toInt (o.1 0 13) = Int32.toInt (q.1 0 13)) ∧ (o.1 46 = q.1 46) := by
  obtain ⟨nc, ns, ⟨r, o⟩, e, h⟩ := su_X9_worst q a1 hT
  have h2 : KP q o := h.2.1
  exact ⟨nc, ns, r, o, e, lx_ps hT h, ⟨congrArg Int32.toInt (h2 0 12 (by decide)), congrArg Int32.toInt (h2 9 0 (by decide)), congrArg Int32.toInt (h2 9 1 (by decide)), congrArg Int32.toInt (h2 1 8 (by decide)), congrArg Int32.toInt (h2 49 8 (by decide)), congrArg Int32.toInt (h2 56 8 (by decide)), congrArg Int32.toInt (h2 1 9 (by decide)), congrArg Int32.toInt (h2 49 9 (by decide)), congrArg Int32.toInt (h2 56 9 (by decide)), congrArg Int32.toInt (h2 0 13 (by decide)), (kpj_row h2)⟩⟩

theorem lx_reach (q : dK) (hT : TC q) : ∃ (nc ns : Nat) (r : Int32) (o : dK), zX9_reach_s0 nc ns q = some (r, o) ∧ lw_X q o nc ns ∧ (Int32.toInt (o.1 0 12) = Int32.toInt (q.1 0 12)) ∧ (Int32.toInt (o.1 9 0) = Int32.toInt (q.1 9 0)) ∧ (Int32.toInt (o.1 9 1) = Int32.toInt (q.1 9 1)) ∧ (Int32.toInt (o.1 1 8) = Int32.toInt (q.1 1 8)) ∧ (Int32.toInt (o.1 49 8) = Int32.toInt (q.1 49 8)) ∧ (Int32.toInt (o.1 56 8) = Int32.toInt (q.1 56 8)) ∧ (Int32.toInt (o.1 1 9) = Int32.toInt (q.1 1 9)) ∧ (Int32.toInt (o.1 49 9) = Int32.toInt (q.1 49 9)) ∧ (Int32.toInt (o.1 56 9) = Int32.toInt (q.1 56 9)) ∧ (Int32.toInt (o.1 0 13) = Int32.toInt (q.1 0 13)) ∧ (o.1 46 = q.1 46) := by
  obtain ⟨nc, ns, ⟨r, o⟩, e, h⟩ := su_X9_reach q hT
  have h2 : KP q o := h.2.1
  exact ⟨nc, ns, r, o, e, lx_ps hT h, ⟨congrArg Int32.toInt (h2 0 12 (by decide)), congrArg Int32.toInt (h2 9 0 (by decide)), congrArg Int32.toInt (h2 9 1 (by decide)), congrArg Int32.toInt (h2 1 8 (by decide)), congrArg Int32.toInt (h2 49 8 (by decide)), congrArg Int32.toInt (h2 56 8 (by decide)), congrArg Int32.toInt (h2 1 9 (by decide)), congrArg Int32.toInt (h2 49 9 (by decide)), congrArg Int32.toInt (h2 56 9 (by decide)), congrArg Int32.toInt (h2 0 13 (by decide)), (kpj_row h2)⟩⟩

theorem lx_gaps (q : dK) (hT : TC q) : ∃ (r : Int32) (o : dK), zX9_gaps_s0 q = some (r, o) ∧ lw_X q o 0 0 ∧ (Int32.toInt (o.1 0 12) = Int32.toInt (q.1 0 12)) ∧ (Int32.toInt (o.1 9 0) = Int32.toInt (q.1 9 0)) ∧ (Int32.toInt (o.1 9 1) = Int32.toInt (q.1 9 1)) ∧ (Int32.toInt (o.1 1 8) = Int32.toInt (q.1 1 8)) ∧ (Int32.toInt (o.1 49 8) = Int32.toInt (q.1 49 8)) ∧ (Int32.toInt (o.1 56 8) = Int32.toInt (q.1 56 8)) ∧ (Int32.toInt (o.1 1 9) = Int32.toInt (q.1 1 9)) ∧ (Int32.toInt (o.1 49 9) = Int32.toInt (q.1 49 9)) ∧ (Int32.toInt (o.1 56 9) = Int32.toInt (q.1 56 9)) ∧ (Int32.toInt (o.1 0 13) = Int32.toInt (q.1 0 13)) ∧ (o.1 46 = q.1 46) := by
  obtain ⟨⟨r, o⟩, e, h⟩ := ok_X9_gaps_s0 q hT
  have h1 : o = q := h
  subst h1
  exact ⟨r, o, e, lx_rf hT, ⟨rfl, rfl, rfl, rfl, rfl, rfl, rfl, rfl, rfl, rfl, rfl⟩⟩

theorem lx_comes (q : dK) (a1 : Int32) (hT : TC q) : ∃ (nc ns : Nat) (r : Int32) (o : dK), zX9_comes_s0 nc ns q a1 = some (r, o) ∧ lw_X q o nc ns ∧ (Int32.toInt (o.1 0 12) = Int32.toInt (q.1 0 12)) ∧ (Int32.toInt (o.1 9 0) = Int32.toInt (q.1 9 0)) ∧ (Int32.toInt (o.1 9 1) = Int32.toInt (q.1 9 1)) ∧ (Int32.toInt (o.1 1 8) = Int32.toInt (q.1 1 8)) ∧ (Int32.toInt (o.1 49 8) = Int32.toInt (q.1 49 8)) ∧ (Int32.toInt (o.1 56 8) = Int32.toInt (q.1 56 8)) ∧ (Int32.toInt (o.1 1 9) = Int32.toInt (q.1 1 9)) ∧ (Int32.toInt (o.1 49 9) = Int32.toInt (q.1 49 9)) ∧ (Int32.toInt (o.1 56 9) = Int32.toInt (q.1 56 9)) ∧ (Int32.toInt (o.1 0 13) = Int32.toInt (q.1 0 13)) ∧ (o.1 46 = q.1 46) := by
  obtain ⟨nc, ns, ⟨r, o⟩, e, h⟩ := su_X9_comes q a1 hT
  have h2 : KP q o := h.2.1
  exact ⟨nc, ns, r, o, e, lx_ps hT h, ⟨congrArg Int32.toInt (h2 0 12 (by decide)), congrArg Int32.toInt (h2 9 0 (by decide)), congrArg Int32.toInt (h2 9 1 (by decide)), congrArg Int32.toInt (h2 1 8 (by decide)), congrArg Int32.toInt (h2 49 8 (by decide)), congrArg Int32.toInt (h2 56 8 (by decide)), congrArg Int32.toInt (h2 1 9 (by decide)), congrArg Int32.toInt (h2 49 9 (by decide)), congrArg Int32.toInt (h2 56 9 (by decide)), congrArg Int32.toInt (h2 0 13 (by decide)), (kpj_row h2)⟩⟩

theorem lx_view (q : dK) (a1 : Int32) (hT : TC q) : ∃ (nc ns : Nat) (r : Int32) (o : dK), zX9_view_s0 nc ns q a1 = some (r, o) ∧ lw_X q o nc ns ∧ (Int32.toInt (o.1 0 12) = Int32.toInt (q.1 0 12)) ∧ (Int32.toInt (o.1 9 0) = Int32.toInt (q.1 9 0)) ∧ (Int32.toInt (o.1 9 1) = Int32.toInt (q.1 9 1)) ∧ (Int32.toInt (o.1 1 8) = Int32.toInt (q.1 1 8)) ∧ (Int32.toInt (o.1 49 8) = Int32.toInt (q.1 49 8)) ∧ (Int32.toInt (o.1 56 8) = Int32.toInt (q.1 56 8)) ∧ (Int32.toInt (o.1 1 9) = Int32.toInt (q.1 1 9)) ∧ (Int32.toInt (o.1 49 9) = Int32.toInt (q.1 49 9)) ∧ (Int32.toInt (o.1 56 9) = Int32.toInt (q.1 56 9)) ∧ (Int32.toInt (o.1 0 13) = Int32.toInt (q.1 0 13)) ∧ (o.1 46 = q.1 46) := by
  obtain ⟨nc, ns, ⟨r, o⟩, e, h⟩ := su_X9_view q a1 hT
  have h2 : KP q o := h.2.1
  exact ⟨nc, ns, r, o, e, lx_ps hT h, ⟨congrArg Int32.toInt (h2 0 12 (by decide)), congrArg Int32.toInt (h2 9 0 (by decide)), congrArg Int32.toInt (h2 9 1 (by decide)), congrArg Int32.toInt (h2 1 8 (by decide)), congrArg Int32.toInt (h2 49 8 (by decide)), congrArg Int32.toInt (h2 56 8 (by decide)), congrArg Int32.toInt (h2 1 9 (by decide)), congrArg Int32.toInt (h2 49 9 (by decide)), congrArg Int32.toInt (h2 56 9 (by decide)), congrArg Int32.toInt (h2 0 13 (by decide)), (kpj_row h2)⟩⟩

theorem lx_stays (q : dK) (a1 : Int32) (hT : TC q) : ∃ (r : Int32) (o : dK), zX9_stays_s0 q a1 = some (r, o) ∧ lw_X q o 0 0 ∧ (Int32.toInt (o.1 0 12) = Int32.toInt (q.1 0 12)) ∧ (Int32.toInt (o.1 9 0) = Int32.toInt (q.1 9 0)) ∧ (Int32.toInt (o.1 9 1) = Int32.toInt (q.1 9 1)) ∧ (Int32.toInt (o.1 1 8) = Int32.toInt (q.1 1 8)) ∧ (Int32.toInt (o.1 49 8) = Int32.toInt (q.1 49 8)) ∧ (Int32.toInt (o.1 56 8) = Int32.toInt (q.1 56 8)) ∧ (Int32.toInt (o.1 1 9) = Int32.toInt (q.1 1 9)) ∧ (Int32.toInt (o.1 49 9) = Int32.toInt (q.1 49 9)) ∧ (Int32.toInt (o.1 56 9) = Int32.toInt (q.1 56 9)) ∧ (Int32.toInt (o.1 0 13) = Int32.toInt (q.1 0 13)) ∧ (o.1 46 = q.1 46) := by
  obtain ⟨⟨r, o⟩, e, h⟩ := ok_X9_stays_s0 q a1 hT
  have h1 : o = q := h
  subst h1
  exact ⟨r, o, e, lx_rf hT, ⟨rfl, rfl, rfl, rfl, rfl, rfl, rfl, rfl, rfl, rfl, rfl⟩⟩

theorem lx_seen (q : dK) (a1 a2 : Int32) (hT : TC q) : ∃ (r : Int32) (o : dK), zX9_seen_s0 q a1 a2 = some (r, o) ∧ lw_X q o 0 0 ∧ (Int32.toInt (o.1 0 12) = Int32.toInt (q.1 0 12)) ∧ (Int32.toInt (o.1 9 0) = Int32.toInt (q.1 9 0)) ∧ (Int32.toInt (o.1 9 1) = Int32.toInt (q.1 9 1)) ∧ (Int32.toInt (o.1 1 8) = Int32.toInt (q.1 1 8)) ∧ (Int32.toInt (o.1 49 8) = Int32.toInt (q.1 49 8)) ∧ (Int32.toInt (o.1 56 8) = Int32.toInt (q.1 56 8)) ∧ (Int32.toInt (o.1 1 9) = Int32.toInt (q.1 1 9)) ∧ (Int32.toInt (o.1 49 9) = Int32.toInt (q.1 49 9)) ∧ (Int32.toInt (o.1 56 9) = Int32.toInt (q.1 56 9)) ∧ (Int32.toInt (o.1 0 13) = Int32.toInt (q.1 0 13)) ∧ (o.1 46 = q.1 46) := by
  obtain ⟨⟨r, o⟩, e, h⟩ := ok_X9_seen_s0 q a1 a2 hT
  have h1 : TC o := h.1
  have h2 : cFr [5, 6, 48] [(0, 18), (1, 6)] q o := h.2.1
  exact ⟨r, o, e, lx_fr h1 h2 rfl, ⟨congrArg Int32.toInt (h2.1 0 12 (by decide) (by decide)), congrArg Int32.toInt (h2.1 9 0 (by decide) (by decide)), congrArg Int32.toInt (h2.1 9 1 (by decide) (by decide)), congrArg Int32.toInt (h2.1 1 8 (by decide) (by decide)), congrArg Int32.toInt (h2.1 49 8 (by decide) (by decide)), congrArg Int32.toInt (h2.1 56 8 (by decide) (by decide)), congrArg Int32.toInt (h2.1 1 9 (by decide) (by decide)), congrArg Int32.toInt (h2.1 49 9 (by decide) (by decide)), congrArg Int32.toInt (h2.1 56 9 (by decide) (by decide)), congrArg Int32.toInt (h2.1 0 13 (by decide) (by decide)), (h2.row 46 (by decide) (by decide))⟩⟩

theorem lx_forget (q : dK) (hT : TC q) : ∃ (r : Int32) (o : dK), zX9_forget_s0 q = some (r, o) ∧ lw_X q o 0 0 ∧ (Int32.toInt (o.1 0 12) = Int32.toInt (q.1 0 12)) ∧ (Int32.toInt (o.1 9 0) = Int32.toInt (q.1 9 0)) ∧ (Int32.toInt (o.1 9 1) = Int32.toInt (q.1 9 1)) ∧ (Int32.toInt (o.1 1 8) = Int32.toInt (q.1 1 8)) ∧ (Int32.toInt (o.1 49 8) = Int32.toInt (q.1 49 8)) ∧ (Int32.toInt (o.1 56 8) = Int32.toInt (q.1 56 8)) ∧ (Int32.toInt (o.1 1 9) = Int32.toInt (q.1 1 9)) ∧ (Int32.toInt (o.1 49 9) = Int32.toInt (q.1 49 9)) ∧ (Int32.toInt (o.1 56 9) = Int32.toInt (q.1 56 9)) ∧ (Int32.toInt (o.1 0 13) = Int32.toInt (q.1 0 13)) ∧ (o.1 46 = q.1 46) := by
  obtain ⟨⟨r, o⟩, e, h⟩ := ok_X9_forget_s0 q hT
  have h1 : TC o := h.1
  have h2 : cFr [] [(1, 6)] q o := h.2.1
  exact ⟨r, o, e, lx_fr h1 h2 rfl, ⟨congrArg Int32.toInt (h2.1 0 12 (by decide) (by decide)), congrArg Int32.toInt (h2.1 9 0 (by decide) (by decide)), congrArg Int32.toInt (h2.1 9 1 (by decide) (by decide)), congrArg Int32.toInt (h2.1 1 8 (by decide) (by decide)), congrArg Int32.toInt (h2.1 49 8 (by decide) (by decide)), congrArg Int32.toInt (h2.1 56 8 (by decide) (by decide)), congrArg Int32.toInt (h2.1 1 9 (by decide) (by decide)), congrArg Int32.toInt (h2.1 49 9 (by decide) (by decide)), congrArg Int32.toInt (h2.1 56 9 (by decide) (by decide)), congrArg Int32.toInt (h2.1 0 13 (by decide) (by decide)), (h2.row 46 (by decide) (by decide))⟩⟩

theorem lx_was (q : dK) (hT : TC q) : ∃ (r : Int32) (o : dK), zX9_was_s0 q = some (r, o) ∧ lw_X q o 0 0 ∧ (Int32.toInt (o.1 0 12) = Int32.toInt (q.1 0 12)) ∧ (Int32.toInt (o.1 9 0) = Int32.toInt (q.1 9 0)) ∧ (Int32.toInt (o.1 9 1) = Int32.toInt (q.1 9 1)) ∧ (Int32.toInt (o.1 1 8) = Int32.toInt (q.1 1 8)) ∧ (Int32.toInt (o.1 49 8) = Int32.toInt (q.1 49 8)) ∧ (Int32.toInt (o.1 56 8) = Int32.toInt (q.1 56 8)) ∧ (Int32.toInt (o.1 1 9) = Int32.toInt (q.1 1 9)) ∧ (Int32.toInt (o.1 49 9) = Int32.toInt (q.1 49 9)) ∧ (Int32.toInt (o.1 56 9) = Int32.toInt (q.1 56 9)) ∧ (Int32.toInt (o.1 0 13) = Int32.toInt (q.1 0 13)) ∧ (o.1 46 = q.1 46) := by
  obtain ⟨⟨r, o⟩, e, h⟩ := ok_X9_was_s0 q hT
  have h1 : TC o := h.1
  have h2 : cFr [19, 21] [(18, 1), (20, 2)] q o := h.2
  exact ⟨r, o, e, lx_fr h1 h2 rfl, ⟨congrArg Int32.toInt (h2.1 0 12 (by decide) (by decide)), congrArg Int32.toInt (h2.1 9 0 (by decide) (by decide)), congrArg Int32.toInt (h2.1 9 1 (by decide) (by decide)), congrArg Int32.toInt (h2.1 1 8 (by decide) (by decide)), congrArg Int32.toInt (h2.1 49 8 (by decide) (by decide)), congrArg Int32.toInt (h2.1 56 8 (by decide) (by decide)), congrArg Int32.toInt (h2.1 1 9 (by decide) (by decide)), congrArg Int32.toInt (h2.1 49 9 (by decide) (by decide)), congrArg Int32.toInt (h2.1 56 9 (by decide) (by decide)), congrArg Int32.toInt (h2.1 0 13 (by decide) (by decide)), (h2.row 46 (by decide) (by decide))⟩⟩

theorem lx_look (q : dK) (a1 : Int32) (hT : TC q) : ∃ (r : Int32) (o : dK), zX9_look_s0 q a1 = some (r, o) ∧ lw_X q o 0 0 ∧ (Int32.toInt (o.1 0 12) = Int32.toInt (q.1 0 12)) ∧ (Int32.toInt (o.1 9 0) = Int32.toInt (q.1 9 0)) ∧ (Int32.toInt (o.1 9 1) = Int32.toInt (q.1 9 1)) ∧ (Int32.toInt (o.1 1 8) = Int32.toInt (q.1 1 8)) ∧ (Int32.toInt (o.1 49 8) = Int32.toInt (q.1 49 8)) ∧ (Int32.toInt (o.1 56 8) = Int32.toInt (q.1 56 8)) ∧ (Int32.toInt (o.1 1 9) = Int32.toInt (q.1 1 9)) ∧ (Int32.toInt (o.1 49 9) = Int32.toInt (q.1 49 9)) ∧ (Int32.toInt (o.1 56 9) = Int32.toInt (q.1 56 9)) ∧ (Int32.toInt (o.1 0 13) = Int32.toInt (q.1 0 13)) ∧ (o.1 46 = q.1 46) := by
  obtain ⟨⟨r, o⟩, e, h⟩ := ok_X9_look_s0 q a1 hT
  have h1 : TC o := h.1
  have h2 : cFr [19, 21] [(18, 1), (20, 2)] q o := h.2
  exact ⟨r, o, e, lx_fr h1 h2 rfl, ⟨congrArg Int32.toInt (h2.1 0 12 (by decide) (by decide)), congrArg Int32.toInt (h2.1 9 0 (by decide) (by decide)), congrArg Int32.toInt (h2.1 9 1 (by decide) (by decide)), congrArg Int32.toInt (h2.1 1 8 (by decide) (by decide)), congrArg Int32.toInt (h2.1 49 8 (by decide) (by decide)), congrArg Int32.toInt (h2.1 56 8 (by decide) (by decide)), congrArg Int32.toInt (h2.1 1 9 (by decide) (by decide)), congrArg Int32.toInt (h2.1 49 9 (by decide) (by decide)), congrArg Int32.toInt (h2.1 56 9 (by decide) (by decide)), congrArg Int32.toInt (h2.1 0 13 (by decide) (by decide)), (h2.row 46 (by decide) (by decide))⟩⟩

theorem lx_few (q : dK) (a1 a2 : Int32) (hT : TC q) : ∃ (r : Int64) (o : dK), zX9_few_s0 q a1 a2 = some (r, o) ∧ lw_X q o 0 0 ∧ (Int32.toInt (o.1 0 12) = Int32.toInt (q.1 0 12)) ∧ (Int32.toInt (o.1 9 0) = Int32.toInt (q.1 9 0)) ∧ (Int32.toInt (o.1 9 1) = Int32.toInt (q.1 9 1)) ∧ (Int32.toInt (o.1 1 8) = Int32.toInt (q.1 1 8)) ∧ (Int32.toInt (o.1 49 8) = Int32.toInt (q.1 49 8)) ∧ (Int32.toInt (o.1 56 8) = Int32.toInt (q.1 56 8)) ∧ (Int32.toInt (o.1 1 9) = Int32.toInt (q.1 1 9)) ∧ (Int32.toInt (o.1 49 9) = Int32.toInt (q.1 49 9)) ∧ (Int32.toInt (o.1 56 9) = Int32.toInt (q.1 56 9)) ∧ (Int32.toInt (o.1 0 13) = Int32.toInt (q.1 0 13)) ∧ (o.1 46 = q.1 46) := by
  obtain ⟨⟨r, o⟩, e, h⟩ := ok_X9_few_s0 q a1 a2 hT
  have h1 : TC o := h.1
  have h2 : cFr [] [] q o := h.2
  exact ⟨r, o, e, lx_fr h1 h2 rfl, ⟨congrArg Int32.toInt (h2.1 0 12 (by decide) (by decide)), congrArg Int32.toInt (h2.1 9 0 (by decide) (by decide)), congrArg Int32.toInt (h2.1 9 1 (by decide) (by decide)), congrArg Int32.toInt (h2.1 1 8 (by decide) (by decide)), congrArg Int32.toInt (h2.1 49 8 (by decide) (by decide)), congrArg Int32.toInt (h2.1 56 8 (by decide) (by decide)), congrArg Int32.toInt (h2.1 1 9 (by decide) (by decide)), congrArg Int32.toInt (h2.1 49 9 (by decide) (by decide)), congrArg Int32.toInt (h2.1 56 9 (by decide) (by decide)), congrArg Int32.toInt (h2.1 0 13 (by decide) (by decide)), (h2.row 46 (by decide) (by decide))⟩⟩

theorem lx_compare (q : dK) (a1 : Int32) (hT : TC q) : ∃ (nc ns : Nat) (r : Int32) (o : dK), zX9_compare_s0 nc ns q a1 = some (r, o) ∧ lw_X q o nc ns ∧ (Int32.toInt (o.1 0 12) = Int32.toInt (q.1 0 12)) ∧ (Int32.toInt (o.1 9 0) = Int32.toInt (q.1 9 0)) ∧ (Int32.toInt (o.1 9 1) = Int32.toInt (q.1 9 1)) ∧ (Int32.toInt (o.1 1 8) = Int32.toInt (q.1 1 8)) ∧ (Int32.toInt (o.1 49 8) = Int32.toInt (q.1 49 8)) ∧ (Int32.toInt (o.1 56 8) = Int32.toInt (q.1 56 8)) ∧ (Int32.toInt (o.1 1 9) = Int32.toInt (q.1 1 9)) ∧ (Int32.toInt (o.1 49 9) = Int32.toInt (q.1 49 9)) ∧ (Int32.toInt (o.1 56 9) = Int32.toInt (q.1 56 9)) ∧ (Int32.toInt (o.1 0 13) = Int32.toInt (q.1 0 13)) ∧ (o.1 46 = q.1 46) := by
  obtain ⟨nc, ns, ⟨r, o⟩, e, h⟩ := su_X9_compare q a1 hT
  have h2 : KP q o := h.2.1
  exact ⟨nc, ns, r, o, e, lx_ps hT h, ⟨congrArg Int32.toInt (h2 0 12 (by decide)), congrArg Int32.toInt (h2 9 0 (by decide)), congrArg Int32.toInt (h2 9 1 (by decide)), congrArg Int32.toInt (h2 1 8 (by decide)), congrArg Int32.toInt (h2 49 8 (by decide)), congrArg Int32.toInt (h2 56 8 (by decide)), congrArg Int32.toInt (h2 1 9 (by decide)), congrArg Int32.toInt (h2 49 9 (by decide)), congrArg Int32.toInt (h2 56 9 (by decide)), congrArg Int32.toInt (h2 0 13 (by decide)), (kpj_row h2)⟩⟩

theorem lx_years (q : dK) (a1 a2 : Int32) (hT : TC q) : ∃ (r : Int32) (o : dK), zX9_years_s0 q a1 a2 = some (r, o) ∧ lw_X q o 0 0 ∧ (Int32.toInt (o.1 0 12) = Int32.toInt (q.1 0 12)) ∧ (Int32.toInt (o.1 9 0) = Int32.toInt (q.1 9 0)) ∧ (Int32.toInt (o.1 9 1) = Int32.toInt (q.1 9 1)) ∧ (Int32.toInt (o.1 1 8) = Int32.toInt (q.1 1 8)) ∧ (Int32.toInt (o.1 49 8) = Int32.toInt (q.1 49 8)) ∧ (Int32.toInt (o.1 56 8) = Int32.toInt (q.1 56 8)) ∧ (Int32.toInt (o.1 1 9) = Int32.toInt (q.1 1 9)) ∧ (Int32.toInt (o.1 49 9) = Int32.toInt (q.1 49 9)) ∧ (Int32.toInt (o.1 56 9) = Int32.toInt (q.1 56 9)) ∧ (Int32.toInt (o.1 0 13) = Int32.toInt (q.1 0 13)) ∧ (o.1 46 = q.1 46) := by
  obtain ⟨⟨r, o⟩, e, h⟩ := ok_X9_years_s0 q a1 a2 hT
  have h1 : TC o := h.1
  have h2 : cFr [16, 17, 19, 21, 48] [(0, 18), (15, 2), (15, 3), (15, 4), (18, 1), (20, 2)] q o := h.2
  exact ⟨r, o, e, lx_fr h1 h2 rfl, ⟨congrArg Int32.toInt (h2.1 0 12 (by decide) (by decide)), congrArg Int32.toInt (h2.1 9 0 (by decide) (by decide)), congrArg Int32.toInt (h2.1 9 1 (by decide) (by decide)), congrArg Int32.toInt (h2.1 1 8 (by decide) (by decide)), congrArg Int32.toInt (h2.1 49 8 (by decide) (by decide)), congrArg Int32.toInt (h2.1 56 8 (by decide) (by decide)), congrArg Int32.toInt (h2.1 1 9 (by decide) (by decide)), congrArg Int32.toInt (h2.1 49 9 (by decide) (by decide)), congrArg Int32.toInt (h2.1 56 9 (by decide) (by decide)), congrArg Int32.toInt (h2.1 0 13 (by decide) (by decide)), (h2.row 46 (by decide) (by decide))⟩⟩

theorem lx_drawn (q : dK) (a1 a2 : Int32) (hT : TC q) : ∃ (r : Int32) (o : dK), zX9_drawn_s0 q a1 a2 = some (r, o) ∧ lw_X q o 0 0 ∧ (Int32.toInt (o.1 0 12) = Int32.toInt (q.1 0 12)) ∧ (Int32.toInt (o.1 9 0) = Int32.toInt (q.1 9 0)) ∧ (Int32.toInt (o.1 9 1) = Int32.toInt (q.1 9 1)) ∧ (Int32.toInt (o.1 1 8) = Int32.toInt (q.1 1 8)) ∧ (Int32.toInt (o.1 49 8) = Int32.toInt (q.1 49 8)) ∧ (Int32.toInt (o.1 56 8) = Int32.toInt (q.1 56 8)) ∧ (Int32.toInt (o.1 1 9) = Int32.toInt (q.1 1 9)) ∧ (Int32.toInt (o.1 49 9) = Int32.toInt (q.1 49 9)) ∧ (Int32.toInt (o.1 56 9) = Int32.toInt (q.1 56 9)) ∧ (Int32.toInt (o.1 0 13) = Int32.toInt (q.1 0 13)) ∧ (o.1 46 = q.1 46) := by
  obtain ⟨⟨r, o⟩, e, h⟩ := ok_X9_drawn_s0 q a1 a2 hT
  have h1 : o = q := h
  subst h1
  exact ⟨r, o, e, lx_rf hT, ⟨rfl, rfl, rfl, rfl, rfl, rfl, rfl, rfl, rfl, rfl, rfl⟩⟩

theorem lx_image (q : dK) (a1 : Int32) (hT : TC q) : ∃ (r : Int32) (o : dK), zX9_image_s0 q a1 = some (r, o) ∧ lw_X q o 0 0 ∧ (Int32.toInt (o.1 0 12) = Int32.toInt (q.1 0 12)) ∧ (PIm a1 r (Int32.toInt (q.1 9 0)) (Int32.toInt (q.1 9 1)) (Int32.toInt (o.1 9 0)) (Int32.toInt (o.1 9 1)) ∧ PIs a1 (Int32.toInt (q.1 1 8)) (Int32.toInt (q.1 49 8)) (Int32.toInt (q.1 56 8)) (Int32.toInt (o.1 49 8)) (Int32.toInt (o.1 56 8)) ∧ PIs a1 (Int32.toInt (q.1 1 9)) (Int32.toInt (q.1 49 9)) (Int32.toInt (q.1 56 9)) (Int32.toInt (o.1 49 9)) (Int32.toInt (o.1 56 9))) ∧ (Int32.toInt (o.1 1 8) = Int32.toInt (q.1 1 8)) ∧ (Int32.toInt (o.1 1 9) = Int32.toInt (q.1 1 9)) ∧ (Int32.toInt (o.1 0 13) = Int32.toInt (q.1 0 13)) ∧ (o.1 46 = q.1 46) := by
  obtain ⟨⟨r, o⟩, e, h⟩ := ok_X9_image_s0 q a1 hT
  have h1 : TC o := h.1
  have h2 : cFr [9, 48, 51, 52, 53, 54, 55, 58, 59, 60, 61, 62] [(0, 18), (49, 1), (49, 2), (49, 3), (49, 6), (49, 8), (49, 9), (50, 2), (50, 3), (50, 4), (56, 1), (56, 2), (56, 3), (56, 6), (56, 8), (56, 9), (57, 2), (57, 3), (57, 4)] q o := h.2
  exact ⟨r, o, e, lx_fr h1 h2 rfl, ⟨congrArg Int32.toInt (h2.1 0 12 (by decide) (by decide)), (by have z9 := dOk_get (ok2_X9_image q a1 hT) e; exact z9), congrArg Int32.toInt (h2.1 1 8 (by decide) (by decide)), congrArg Int32.toInt (h2.1 1 9 (by decide) (by decide)), congrArg Int32.toInt (h2.1 0 13 (by decide) (by decide)), (h2.row 46 (by decide) (by decide))⟩⟩

theorem lx_back (q : dK) (a1 : Int32) (hT : TC q) : ∃ (r : Int32) (o : dK), zX9_back_s0 q a1 = some (r, o) ∧ lw_X q o 0 0 ∧ (Int32.toInt (o.1 0 12) = Int32.toInt (q.1 0 12)) ∧ (PBk a1 r (Int32.toInt (q.1 9 0)) (Int32.toInt (q.1 9 1)) ∧ PBs a1 (Int32.toInt (q.1 9 0)) (Int32.toInt (q.1 9 1)) (Int32.toInt (q.1 1 8)) (Int32.toInt (q.1 49 8)) (Int32.toInt (q.1 56 8)) (Int32.toInt (o.1 1 8)) ∧ PBs a1 (Int32.toInt (q.1 9 0)) (Int32.toInt (q.1 9 1)) (Int32.toInt (q.1 1 9)) (Int32.toInt (q.1 49 9)) (Int32.toInt (q.1 56 9)) (Int32.toInt (o.1 1 9))) ∧ (Int32.toInt (o.1 9 0) = Int32.toInt (q.1 9 0)) ∧ (Int32.toInt (o.1 9 1) = Int32.toInt (q.1 9 1)) ∧ (Int32.toInt (o.1 49 8) = Int32.toInt (q.1 49 8)) ∧ (Int32.toInt (o.1 56 8) = Int32.toInt (q.1 56 8)) ∧ (Int32.toInt (o.1 49 9) = Int32.toInt (q.1 49 9)) ∧ (Int32.toInt (o.1 56 9) = Int32.toInt (q.1 56 9)) ∧ (Int32.toInt (o.1 0 13) = Int32.toInt (q.1 0 13)) ∧ (o.1 46 = q.1 46) := by
  obtain ⟨⟨r, o⟩, e, h⟩ := ok_X9_back_s0 q a1 hT
  have h1 : TC o := h.1
  have h2 : cFr [3, 4, 5, 6, 7, 48] [(0, 18), (1, 1), (1, 2), (1, 3), (1, 6), (1, 8), (1, 9), (2, 2), (2, 3), (2, 4), (10, 2)] q o := h.2
  exact ⟨r, o, e, lx_fr h1 h2 rfl, ⟨congrArg Int32.toInt (h2.1 0 12 (by decide) (by decide)), (by have z9 := dOk_get (ok2_X9_back q a1 hT) e; exact z9), congrArg Int32.toInt (h2.1 9 0 (by decide) (by decide)), congrArg Int32.toInt (h2.1 9 1 (by decide) (by decide)), congrArg Int32.toInt (h2.1 49 8 (by decide) (by decide)), congrArg Int32.toInt (h2.1 56 8 (by decide) (by decide)), congrArg Int32.toInt (h2.1 49 9 (by decide) (by decide)), congrArg Int32.toInt (h2.1 56 9 (by decide) (by decide)), congrArg Int32.toInt (h2.1 0 13 (by decide) (by decide)), (h2.row 46 (by decide) (by decide))⟩⟩

theorem lx_count (q : dK) (a1 : Int32) (hT : TC q) : ∃ (r : Int32) (o : dK), zX9_count_s0 q a1 = some (r, o) ∧ lw_X q o 0 0 ∧ (Int32.toInt (o.1 0 12) = Int32.toInt (q.1 0 12)) ∧ (Int32.toInt (o.1 9 0) = Int32.toInt (q.1 9 0)) ∧ (Int32.toInt (o.1 9 1) = Int32.toInt (q.1 9 1)) ∧ (Int32.toInt (o.1 1 8) = Int32.toInt (q.1 1 8)) ∧ (Int32.toInt (o.1 49 8) = Int32.toInt (q.1 49 8)) ∧ (Int32.toInt (o.1 56 8) = Int32.toInt (q.1 56 8)) ∧ (Int32.toInt (o.1 1 9) = Int32.toInt (q.1 1 9)) ∧ (Int32.toInt (o.1 49 9) = Int32.toInt (q.1 49 9)) ∧ (Int32.toInt (o.1 56 9) = Int32.toInt (q.1 56 9)) ∧ (Int32.toInt (o.1 0 13) = Int32.toInt (q.1 0 13)) ∧ (o.1 46 = q.1 46) := by
  obtain ⟨⟨r, o⟩, e, h⟩ := ok_X9_count_s0 q a1 hT
  have h1 : o = q := h
  subst h1
  exact ⟨r, o, e, lx_rf hT, ⟨rfl, rfl, rfl, rfl, rfl, rfl, rfl, rfl, rfl, rfl, rfl⟩⟩

theorem lx_status (q : dK) (hT : TC q) : ∃ (r : Int32) (o : dK), zX9_status_s0 q = some (r, o) ∧ lw_X q o 0 0 ∧ (Int32.toInt (o.1 0 12) = Int32.toInt (q.1 0 12)) ∧ (Int32.toInt (o.1 9 0) = Int32.toInt (q.1 9 0)) ∧ (Int32.toInt (o.1 9 1) = Int32.toInt (q.1 9 1)) ∧ (Int32.toInt (o.1 1 8) = Int32.toInt (q.1 1 8)) ∧ (Int32.toInt (o.1 49 8) = Int32.toInt (q.1 49 8)) ∧ (Int32.toInt (o.1 56 8) = Int32.toInt (q.1 56 8)) ∧ (Int32.toInt (o.1 1 9) = Int32.toInt (q.1 1 9)) ∧ (Int32.toInt (o.1 49 9) = Int32.toInt (q.1 49 9)) ∧ (Int32.toInt (o.1 56 9) = Int32.toInt (q.1 56 9)) ∧ (Int32.toInt (o.1 0 13) = Int32.toInt (q.1 0 13)) ∧ (o.1 46 = q.1 46) := by
  obtain ⟨⟨r, o⟩, e, h⟩ := ok_X9_status_s0 q hT
  have h1 : o = q := h
  subst h1
  exact ⟨r, o, e, lx_rf hT, ⟨rfl, rfl, rfl, rfl, rfl, rfl, rfl, rfl, rfl, rfl, rfl⟩⟩

theorem lm_floor (q : dS) (a1 a2 : Int32) (hT : TS q) : ∃ (r : Int32) (o : dS), zX10_floor q a1 a2 = some (r, o) ∧ TS o ∧ (Int32.toInt (o.1 0 13) = Int32.toInt (q.1 0 13)) ∧ (Int32.toInt (o.1 4 0) = Int32.toInt (q.1 4 0)) ∧ (Int32.toInt (o.1 4 1) = Int32.toInt (q.1 4 1)) ∧ (Int32.toInt (o.1 2 31) = Int32.toInt (q.1 2 31)) ∧ (Int32.toInt (o.1 3 31) = Int32.toInt (q.1 3 31)) ∧ (Int32.toInt (o.1 3 5671) = Int32.toInt (q.1 3 5671)) ∧ (Int32.toInt (o.1 2 32) = Int32.toInt (q.1 2 32)) ∧ (Int32.toInt (o.1 3 32) = Int32.toInt (q.1 3 32)) ∧ (Int32.toInt (o.1 3 5672) = Int32.toInt (q.1 3 5672)) ∧ (Int32.toInt (o.1 0 14) = Int32.toInt (q.1 0 14)) ∧ (o.1 7 = q.1 7) := by
  obtain ⟨⟨r, o⟩, e, h⟩ := ok_floor q a1 a2 hT
  have h2 : dFr [1, 2] [0, 32] q o := h.2.1
  exact ⟨r, o, e, h.1, ⟨congrArg Int32.toInt (h2.2 13 (by decide)), congrArg (fun f : Nat → Int32 => Int32.toInt (f 0)) (h2.1 4 (by decide) (by decide)), congrArg (fun f : Nat → Int32 => Int32.toInt (f 1)) (h2.1 4 (by decide) (by decide)), h.2.2.1, congrArg (fun f : Nat → Int32 => Int32.toInt (f 31)) (h2.1 3 (by decide) (by decide)), congrArg (fun f : Nat → Int32 => Int32.toInt (f 5671)) (h2.1 3 (by decide) (by decide)), h.2.2.2, congrArg (fun f : Nat → Int32 => Int32.toInt (f 32)) (h2.1 3 (by decide) (by decide)), congrArg (fun f : Nat → Int32 => Int32.toInt (f 5672)) (h2.1 3 (by decide) (by decide)), congrArg Int32.toInt (h2.2 14 (by decide)), (h2.1 7 (by decide) (by decide))⟩⟩

theorem lm_at (q : dS) (a1 a2 : Int32) (hT : TS q) : ∃ (r : Int32) (o : dS), zX10_at q a1 a2 = some (r, o) ∧ TS o ∧ (Int32.toInt (o.1 0 13) = Int32.toInt (q.1 0 13)) ∧ (Int32.toInt (o.1 4 0) = Int32.toInt (q.1 4 0)) ∧ (Int32.toInt (o.1 4 1) = Int32.toInt (q.1 4 1)) ∧ (Int32.toInt (o.1 2 31) = Int32.toInt (q.1 2 31)) ∧ (Int32.toInt (o.1 3 31) = Int32.toInt (q.1 3 31)) ∧ (Int32.toInt (o.1 3 5671) = Int32.toInt (q.1 3 5671)) ∧ (Int32.toInt (o.1 2 32) = Int32.toInt (q.1 2 32)) ∧ (Int32.toInt (o.1 3 32) = Int32.toInt (q.1 3 32)) ∧ (Int32.toInt (o.1 3 5672) = Int32.toInt (q.1 3 5672)) ∧ (Int32.toInt (o.1 0 14) = Int32.toInt (q.1 0 14)) ∧ (o.1 7 = q.1 7) := by
  obtain ⟨⟨r, o⟩, e, h⟩ := ok_at q a1 a2 hT
  have h2 : dFr [12] [22, 23, 24, 25] q o := h.2
  exact ⟨r, o, e, h.1, ⟨congrArg Int32.toInt (h2.2 13 (by decide)), congrArg (fun f : Nat → Int32 => Int32.toInt (f 0)) (h2.1 4 (by decide) (by decide)), congrArg (fun f : Nat → Int32 => Int32.toInt (f 1)) (h2.1 4 (by decide) (by decide)), congrArg (fun f : Nat → Int32 => Int32.toInt (f 31)) (h2.1 2 (by decide) (by decide)), congrArg (fun f : Nat → Int32 => Int32.toInt (f 31)) (h2.1 3 (by decide) (by decide)), congrArg (fun f : Nat → Int32 => Int32.toInt (f 5671)) (h2.1 3 (by decide) (by decide)), congrArg (fun f : Nat → Int32 => Int32.toInt (f 32)) (h2.1 2 (by decide) (by decide)), congrArg (fun f : Nat → Int32 => Int32.toInt (f 32)) (h2.1 3 (by decide) (by decide)), congrArg (fun f : Nat → Int32 => Int32.toInt (f 5672)) (h2.1 3 (by decide) (by decide)), congrArg Int32.toInt (h2.2 14 (by decide)), (h2.1 7 (by decide) (by decide))⟩⟩

theorem lm_asks (q : dS) (a1 a2 : Int32) (hT : TS q) : ∃ (r : Int32) (o : dS), zX10_asks q a1 a2 = some (r, o) ∧ TS o ∧ (Int32.toInt (o.1 0 13) = Int32.toInt (q.1 0 13)) ∧ (Int32.toInt (o.1 4 0) = Int32.toInt (q.1 4 0)) ∧ (Int32.toInt (o.1 4 1) = Int32.toInt (q.1 4 1)) ∧ (Int32.toInt (o.1 2 31) = Int32.toInt (q.1 2 31)) ∧ (Int32.toInt (o.1 3 31) = Int32.toInt (q.1 3 31)) ∧ (Int32.toInt (o.1 3 5671) = Int32.toInt (q.1 3 5671)) ∧ (Int32.toInt (o.1 2 32) = Int32.toInt (q.1 2 32)) ∧ (Int32.toInt (o.1 3 32) = Int32.toInt (q.1 3 32)) ∧ (Int32.toInt (o.1 3 5672) = Int32.toInt (q.1 3 5672)) ∧ (Int32.toInt (o.1 0 14) = Int32.toInt (q.1 0 14)) ∧ (o.1 7 = q.1 7) := by
  obtain ⟨⟨r, o⟩, e, h⟩ := ok_asks q a1 a2 hT
  have h2 : dFr [12] [22, 23, 24, 25] q o := h.2
  exact ⟨r, o, e, h.1, ⟨congrArg Int32.toInt (h2.2 13 (by decide)), congrArg (fun f : Nat → Int32 => Int32.toInt (f 0)) (h2.1 4 (by decide) (by decide)), congrArg (fun f : Nat → Int32 => Int32.toInt (f 1)) (h2.1 4 (by decide) (by decide)), congrArg (fun f : Nat → Int32 => Int32.toInt (f 31)) (h2.1 2 (by decide) (by decide)), congrArg (fun f : Nat → Int32 => Int32.toInt (f 31)) (h2.1 3 (by decide) (by decide)), congrArg (fun f : Nat → Int32 => Int32.toInt (f 5671)) (h2.1 3 (by decide) (by decide)), congrArg (fun f : Nat → Int32 => Int32.toInt (f 32)) (h2.1 2 (by decide) (by decide)), congrArg (fun f : Nat → Int32 => Int32.toInt (f 32)) (h2.1 3 (by decide) (by decide)), congrArg (fun f : Nat → Int32 => Int32.toInt (f 5672)) (h2.1 3 (by decide) (by decide)), congrArg Int32.toInt (h2.2 14 (by decide)), (h2.1 7 (by decide) (by decide))⟩⟩

theorem lm_terms (q : dS) (a1 a2 : Int32) (hT : TS q) : ∃ (r : Int32) (o : dS), zX10_terms q a1 a2 = some (r, o) ∧ TS o ∧ (Int32.toInt (o.1 0 13) = Int32.toInt (q.1 0 13)) ∧ (Int32.toInt (o.1 4 0) = Int32.toInt (q.1 4 0)) ∧ (Int32.toInt (o.1 4 1) = Int32.toInt (q.1 4 1)) ∧ (Int32.toInt (o.1 2 31) = Int32.toInt (q.1 2 31)) ∧ (Int32.toInt (o.1 3 31) = Int32.toInt (q.1 3 31)) ∧ (Int32.toInt (o.1 3 5671) = Int32.toInt (q.1 3 5671)) ∧ (Int32.toInt (o.1 2 32) = Int32.toInt (q.1 2 32)) ∧ (Int32.toInt (o.1 3 32) = Int32.toInt (q.1 3 32)) ∧ (Int32.toInt (o.1 3 5672) = Int32.toInt (q.1 3 5672)) ∧ (Int32.toInt (o.1 0 14) = Int32.toInt (q.1 0 14)) ∧ (o.1 7 = q.1 7) := by
  obtain ⟨⟨r, o⟩, e, h⟩ := ok_terms q a1 a2 hT
  have h2 : dFr [1, 2] [0, 32] q o := h.2.1
  exact ⟨r, o, e, h.1, ⟨congrArg Int32.toInt (h2.2 13 (by decide)), congrArg (fun f : Nat → Int32 => Int32.toInt (f 0)) (h2.1 4 (by decide) (by decide)), congrArg (fun f : Nat → Int32 => Int32.toInt (f 1)) (h2.1 4 (by decide) (by decide)), h.2.2.1, congrArg (fun f : Nat → Int32 => Int32.toInt (f 31)) (h2.1 3 (by decide) (by decide)), congrArg (fun f : Nat → Int32 => Int32.toInt (f 5671)) (h2.1 3 (by decide) (by decide)), h.2.2.2, congrArg (fun f : Nat → Int32 => Int32.toInt (f 32)) (h2.1 3 (by decide) (by decide)), congrArg (fun f : Nat → Int32 => Int32.toInt (f 5672)) (h2.1 3 (by decide) (by decide)), congrArg Int32.toInt (h2.2 14 (by decide)), (h2.1 7 (by decide) (by decide))⟩⟩

theorem lm_feed (q : dS) (a1 a2 a3 a4 a5 : Int32) (hT : TS q) : ∃ (r : Int32) (o : dS), zX10_feed q a1 a2 a3 a4 a5 = some (r, o) ∧ TS o ∧ ((Int32.toInt (q.1 0 13) ≤ 380 ∧ Int32.toInt (o.1 0 13) = Int32.toInt (q.1 0 13) + 20) ∨ (380 < Int32.toInt (q.1 0 13) ∧ Int32.toInt (o.1 0 13) = Int32.toInt (q.1 0 13))) ∧ (Int32.toInt (o.1 4 0) = Int32.toInt (q.1 4 0)) ∧ (Int32.toInt (o.1 4 1) = Int32.toInt (q.1 4 1)) ∧ (Int32.toInt (o.1 2 31) = Int32.toInt (q.1 2 31)) ∧ (Int32.toInt (o.1 3 31) = Int32.toInt (q.1 3 31)) ∧ (Int32.toInt (o.1 3 5671) = Int32.toInt (q.1 3 5671)) ∧ (Int32.toInt (o.1 2 32) = Int32.toInt (q.1 2 32)) ∧ (Int32.toInt (o.1 3 32) = Int32.toInt (q.1 3 32)) ∧ (Int32.toInt (o.1 3 5672) = Int32.toInt (q.1 3 5672)) ∧ (Int32.toInt (o.1 0 14) = Int32.toInt (q.1 0 14)) := by
  obtain ⟨⟨r, o⟩, e, h⟩ := ok_feed q a1 a2 a3 a4 a5 hT
  have h2 : dFr [7, 8] [13] q o := h.2.1
  exact ⟨r, o, e, h.1, ⟨h.2.2, congrArg (fun f : Nat → Int32 => Int32.toInt (f 0)) (h2.1 4 (by decide) (by decide)), congrArg (fun f : Nat → Int32 => Int32.toInt (f 1)) (h2.1 4 (by decide) (by decide)), congrArg (fun f : Nat → Int32 => Int32.toInt (f 31)) (h2.1 2 (by decide) (by decide)), congrArg (fun f : Nat → Int32 => Int32.toInt (f 31)) (h2.1 3 (by decide) (by decide)), congrArg (fun f : Nat → Int32 => Int32.toInt (f 5671)) (h2.1 3 (by decide) (by decide)), congrArg (fun f : Nat → Int32 => Int32.toInt (f 32)) (h2.1 2 (by decide) (by decide)), congrArg (fun f : Nat → Int32 => Int32.toInt (f 32)) (h2.1 3 (by decide) (by decide)), congrArg (fun f : Nat → Int32 => Int32.toInt (f 5672)) (h2.1 3 (by decide) (by decide)), congrArg Int32.toInt (h2.2 14 (by decide))⟩⟩

theorem lm_end (q : dS) (a1 : Int32) (hT : TS q) : ∃ (r : Int32) (o : dS), zX10_end q a1 = some (r, o) ∧ TS o ∧ ((0 ≤ Int32.toInt a1 ∧ Int32.toInt a1 ≤ Int32.toInt (q.1 0 13) ∧ Int32.toInt (o.1 0 13) = Int32.toInt a1 ∧ Int32.toInt r = Int32.toInt a1) ∨ ((Int32.toInt a1 < 0 ∨ Int32.toInt (q.1 0 13) < Int32.toInt a1) ∧ Int32.toInt (o.1 0 13) = Int32.toInt (q.1 0 13) ∧ Int32.toInt r = -1)) ∧ (Int32.toInt (o.1 4 0) = Int32.toInt (q.1 4 0)) ∧ (Int32.toInt (o.1 4 1) = Int32.toInt (q.1 4 1)) ∧ (Int32.toInt (o.1 2 31) = Int32.toInt (q.1 2 31)) ∧ (Int32.toInt (o.1 3 31) = Int32.toInt (q.1 3 31)) ∧ (Int32.toInt (o.1 3 5671) = Int32.toInt (q.1 3 5671)) ∧ (Int32.toInt (o.1 2 32) = Int32.toInt (q.1 2 32)) ∧ (Int32.toInt (o.1 3 32) = Int32.toInt (q.1 3 32)) ∧ (Int32.toInt (o.1 3 5672) = Int32.toInt (q.1 3 5672)) ∧ (Int32.toInt (o.1 0 14) = Int32.toInt (q.1 0 14)) ∧ (o.1 7 = q.1 7) := by
  obtain ⟨⟨r, o⟩, e, h⟩ := ok_end q a1 hT
  have h2 : dFr [] [13] q o := h.2.1
  exact ⟨r, o, e, h.1, ⟨h.2.2, congrArg (fun f : Nat → Int32 => Int32.toInt (f 0)) (h2.1 4 (by decide) (by decide)), congrArg (fun f : Nat → Int32 => Int32.toInt (f 1)) (h2.1 4 (by decide) (by decide)), congrArg (fun f : Nat → Int32 => Int32.toInt (f 31)) (h2.1 2 (by decide) (by decide)), congrArg (fun f : Nat → Int32 => Int32.toInt (f 31)) (h2.1 3 (by decide) (by decide)), congrArg (fun f : Nat → Int32 => Int32.toInt (f 5671)) (h2.1 3 (by decide) (by decide)), congrArg (fun f : Nat → Int32 => Int32.toInt (f 32)) (h2.1 2 (by decide) (by decide)), congrArg (fun f : Nat → Int32 => Int32.toInt (f 32)) (h2.1 3 (by decide) (by decide)), congrArg (fun f : Nat → Int32 => Int32.toInt (f 5672)) (h2.1 3 (by decide) (by decide)), congrArg Int32.toInt (h2.2 14 (by decide)), (h2.1 7 (by decide) (by decide))⟩⟩

theorem lm_row (q : dS) (hT : TS q) : ∃ (r : Int32) (o : dS), zX10_row q = some (r, o) ∧ TS o ∧ (Int32.toInt (o.1 0 13) = 0) ∧ (Int32.toInt (o.1 4 0) = Int32.toInt (q.1 4 0)) ∧ (Int32.toInt (o.1 4 1) = Int32.toInt (q.1 4 1)) ∧ (Int32.toInt (o.1 2 31) = Int32.toInt (q.1 2 31)) ∧ (Int32.toInt (o.1 3 31) = Int32.toInt (q.1 3 31)) ∧ (Int32.toInt (o.1 3 5671) = Int32.toInt (q.1 3 5671)) ∧ (Int32.toInt (o.1 2 32) = Int32.toInt (q.1 2 32)) ∧ (Int32.toInt (o.1 3 32) = Int32.toInt (q.1 3 32)) ∧ (Int32.toInt (o.1 3 5672) = Int32.toInt (q.1 3 5672)) ∧ (Int32.toInt (o.1 0 14) = Int32.toInt (q.1 0 14)) := by
  obtain ⟨⟨r, o⟩, e, h⟩ := ok_row q hT
  have h2 : dFr [1, 2] [0, 6, 13, 32] q o := h.2.1
  exact ⟨r, o, e, h.1, ⟨h.2.2.1, congrArg (fun f : Nat → Int32 => Int32.toInt (f 0)) (h2.1 4 (by decide) (by decide)), congrArg (fun f : Nat → Int32 => Int32.toInt (f 1)) (h2.1 4 (by decide) (by decide)), h.2.2.2.1, congrArg (fun f : Nat → Int32 => Int32.toInt (f 31)) (h2.1 3 (by decide) (by decide)), congrArg (fun f : Nat → Int32 => Int32.toInt (f 5671)) (h2.1 3 (by decide) (by decide)), h.2.2.2.2, congrArg (fun f : Nat → Int32 => Int32.toInt (f 32)) (h2.1 3 (by decide) (by decide)), congrArg (fun f : Nat → Int32 => Int32.toInt (f 5672)) (h2.1 3 (by decide) (by decide)), congrArg Int32.toInt (h2.2 14 (by decide))⟩⟩

theorem lm_bricks (q : dS) (hT : TS q) : ∃ (r : Int32) (o : dS), zX10_bricks q = some (r, o) ∧ TS o ∧ (Int32.toInt (o.1 0 13) = Int32.toInt (q.1 0 13)) ∧ (Int32.toInt (o.1 4 0) = Int32.toInt (q.1 4 0)) ∧ (Int32.toInt (o.1 4 1) = Int32.toInt (q.1 4 1)) ∧ (Int32.toInt (o.1 2 31) = Int32.toInt (q.1 2 31)) ∧ (Int32.toInt (o.1 3 31) = Int32.toInt (q.1 3 31)) ∧ (Int32.toInt (o.1 3 5671) = Int32.toInt (q.1 3 5671)) ∧ (Int32.toInt (o.1 2 32) = Int32.toInt (q.1 2 32)) ∧ (Int32.toInt (o.1 3 32) = Int32.toInt (q.1 3 32)) ∧ (Int32.toInt (o.1 3 5672) = Int32.toInt (q.1 3 5672)) ∧ (Int32.toInt (o.1 0 14) = Int32.toInt (q.1 0 14)) ∧ (o.1 7 = q.1 7) := by
  obtain ⟨⟨r, o⟩, e, h⟩ := ok_bricks q hT
  have h1 : o = q := h
  subst h1
  exact ⟨r, o, e, hT, ⟨rfl, rfl, rfl, rfl, rfl, rfl, rfl, rfl, rfl, rfl, rfl⟩⟩

theorem lm_law (q : dS) (hT : TS q) : ∃ (r : Int32) (o : dS), zX10_law q = some (r, o) ∧ TS o ∧ (Int32.toInt (o.1 0 13) = 0) ∧ (Int32.toInt (o.1 4 0) = Int32.toInt (q.1 4 0)) ∧ (Int32.toInt (o.1 4 1) = Int32.toInt (q.1 4 1)) ∧ (Int32.toInt (o.1 3 31) = Int32.toInt (q.1 3 31)) ∧ (Int32.toInt (o.1 3 5671) = Int32.toInt (q.1 3 5671)) ∧ (Int32.toInt (o.1 3 32) = Int32.toInt (q.1 3 32)) ∧ (Int32.toInt (o.1 3 5672) = Int32.toInt (q.1 3 5672)) := by
  obtain ⟨⟨r, o⟩, e, h⟩ := ok_law q hT
  have h3 : o.1 0 13 = 0 := h.2.2.1
  have h2 : dFr [1, 2, 9, 10, 11] [0, 8, 9, 10, 13, 14, 18, 19, 20, 21] q o := h.2.1
  exact ⟨r, o, e, h.1, ⟨by rw [h3]; decide, congrArg (fun f : Nat → Int32 => Int32.toInt (f 0)) (h2.1 4 (by decide) (by decide)), congrArg (fun f : Nat → Int32 => Int32.toInt (f 1)) (h2.1 4 (by decide) (by decide)), congrArg (fun f : Nat → Int32 => Int32.toInt (f 31)) (h2.1 3 (by decide) (by decide)), congrArg (fun f : Nat → Int32 => Int32.toInt (f 5671)) (h2.1 3 (by decide) (by decide)), congrArg (fun f : Nat → Int32 => Int32.toInt (f 32)) (h2.1 3 (by decide) (by decide)), congrArg (fun f : Nat → Int32 => Int32.toInt (f 5672)) (h2.1 3 (by decide) (by decide))⟩⟩

theorem lm_orders (q : dS) (hT : TS q) : ∃ (r : Int32) (o : dS), zX10_orders q = some (r, o) ∧ TS o ∧ (Int32.toInt (o.1 0 13) = 0) ∧ (Int32.toInt (o.1 4 0) = Int32.toInt (q.1 4 0)) ∧ (Int32.toInt (o.1 4 1) = Int32.toInt (q.1 4 1)) ∧ (Int32.toInt (o.1 2 31) = Int32.toInt (q.1 2 31)) ∧ (Int32.toInt (o.1 3 31) = Int32.toInt (q.1 3 31)) ∧ (Int32.toInt (o.1 3 5671) = Int32.toInt (q.1 3 5671)) ∧ (Int32.toInt (o.1 2 32) = Int32.toInt (q.1 2 32)) ∧ (Int32.toInt (o.1 3 32) = Int32.toInt (q.1 3 32)) ∧ (Int32.toInt (o.1 3 5672) = Int32.toInt (q.1 3 5672)) := by
  obtain ⟨⟨r, o⟩, e, h⟩ := ok_orders q hT
  have h3 : o.1 0 13 = 0 := h.2.2.1
  have h2 : dFr oR oF q o := h.2.1
  exact ⟨r, o, e, h.1, ⟨by rw [h3]; decide, congrArg (fun f : Nat → Int32 => Int32.toInt (f 0)) (h2.1 4 (by decide) (by decide)), congrArg (fun f : Nat → Int32 => Int32.toInt (f 1)) (h2.1 4 (by decide) (by decide)), congrArg Int32.toInt h.2.2.2.1.1, congrArg (fun f : Nat → Int32 => Int32.toInt (f 31)) (h2.1 3 (by decide) (by decide)), congrArg (fun f : Nat → Int32 => Int32.toInt (f 5671)) (h2.1 3 (by decide) (by decide)), congrArg Int32.toInt h.2.2.2.1.2, congrArg (fun f : Nat → Int32 => Int32.toInt (f 32)) (h2.1 3 (by decide) (by decide)), congrArg (fun f : Nat → Int32 => Int32.toInt (f 5672)) (h2.1 3 (by decide) (by decide))⟩⟩

theorem lm_fault (q : dS) (hT : TS q) : ∃ (r : Int32) (o : dS), zX10_fault q = some (r, o) ∧ TS o ∧ (Int32.toInt (o.1 0 13) = Int32.toInt (q.1 0 13)) ∧ (Int32.toInt r = Int32.toInt (q.1 0 14)) ∧ (Int32.toInt (o.1 4 0) = Int32.toInt (q.1 4 0)) ∧ (Int32.toInt (o.1 4 1) = Int32.toInt (q.1 4 1)) ∧ (Int32.toInt (o.1 2 31) = Int32.toInt (q.1 2 31)) ∧ (Int32.toInt (o.1 3 31) = Int32.toInt (q.1 3 31)) ∧ (Int32.toInt (o.1 3 5671) = Int32.toInt (q.1 3 5671)) ∧ (Int32.toInt (o.1 2 32) = Int32.toInt (q.1 2 32)) ∧ (Int32.toInt (o.1 3 32) = Int32.toInt (q.1 3 32)) ∧ (Int32.toInt (o.1 3 5672) = Int32.toInt (q.1 3 5672)) ∧ (Int32.toInt (o.1 0 14) = Int32.toInt (q.1 0 14)) ∧ (o.1 7 = q.1 7) := by
  obtain ⟨⟨r, o⟩, e, h⟩ := ok_fault q hT
  have h1 : o = q := h
  subst h1
  exact ⟨r, o, e, hT, ⟨rfl, (dA_some (o := (o.1 0 14, o)) (P := fun (a : Int32 × dS) => Int32.toInt a.1 = Int32.toInt (o.1 0 14)) rfl (r, o) e), rfl, rfl, rfl, rfl, rfl, rfl, rfl, rfl, rfl, rfl⟩⟩

theorem lm_stopped (q : dS) (hT : TS q) : ∃ (r : Int32) (o : dS), zX10_stopped q = some (r, o) ∧ TS o ∧ (Int32.toInt (o.1 0 13) = Int32.toInt (q.1 0 13)) ∧ (Int32.toInt (o.1 4 0) = Int32.toInt (q.1 4 0)) ∧ (Int32.toInt (o.1 4 1) = Int32.toInt (q.1 4 1)) ∧ (Int32.toInt (o.1 2 31) = Int32.toInt (q.1 2 31)) ∧ (Int32.toInt (o.1 3 31) = Int32.toInt (q.1 3 31)) ∧ (Int32.toInt (o.1 3 5671) = Int32.toInt (q.1 3 5671)) ∧ (Int32.toInt (o.1 2 32) = Int32.toInt (q.1 2 32)) ∧ (Int32.toInt (o.1 3 32) = Int32.toInt (q.1 3 32)) ∧ (Int32.toInt (o.1 3 5672) = Int32.toInt (q.1 3 5672)) ∧ (Int32.toInt (o.1 0 14) = Int32.toInt (q.1 0 14)) ∧ (o.1 7 = q.1 7) := by
  obtain ⟨⟨r, o⟩, e, h⟩ := ok_stopped q hT
  have h1 : o = q := h
  subst h1
  exact ⟨r, o, e, hT, ⟨rfl, rfl, rfl, rfl, rfl, rfl, rfl, rfl, rfl, rfl, rfl⟩⟩

theorem lm_force (q : dS) (a1 : Int32) (hT : TS q) : ∃ (r : Int32) (o : dS), zX10_force q a1 = some (r, o) ∧ TS o ∧ (Int32.toInt (o.1 0 13) = Int32.toInt (q.1 0 13)) ∧ (((-1 ≤ Int32.toInt a1 ∧ Int32.toInt a1 < Int32.toInt (q.1 2 31) ∨ Int32.toInt a1 = -1) ∧ Int32.toInt r = Int32.toInt (q.1 2 32) ∧ Int32.toInt (o.1 2 32) = Int32.toInt a1 ∨ ¬ (-1 ≤ Int32.toInt a1 ∧ Int32.toInt a1 < Int32.toInt (q.1 2 31) ∨ Int32.toInt a1 = -1) ∧ Int32.toInt r = -2 ∧ Int32.toInt (o.1 2 32) = Int32.toInt (q.1 2 32))) ∧ (Int32.toInt (o.1 4 0) = Int32.toInt (q.1 4 0)) ∧ (Int32.toInt (o.1 4 1) = Int32.toInt (q.1 4 1)) ∧ (Int32.toInt (o.1 2 31) = Int32.toInt (q.1 2 31)) ∧ (Int32.toInt (o.1 3 31) = Int32.toInt (q.1 3 31)) ∧ (Int32.toInt (o.1 3 5671) = Int32.toInt (q.1 3 5671)) ∧ (Int32.toInt (o.1 3 32) = Int32.toInt (q.1 3 32)) ∧ (Int32.toInt (o.1 3 5672) = Int32.toInt (q.1 3 5672)) ∧ (Int32.toInt (o.1 0 14) = Int32.toInt (q.1 0 14)) ∧ (o.1 7 = q.1 7) := by
  obtain ⟨⟨r, o⟩, e, h⟩ := ok_force q a1 hT
  have h2 : dFr [1, 2] [0] q o := h.2.1
  exact ⟨r, o, e, h.1, ⟨congrArg Int32.toInt (h2.2 13 (by decide)), (ok2_X10_force q a1 (hT.1 2 31).1 (r, o) e), congrArg (fun f : Nat → Int32 => Int32.toInt (f 0)) (h2.1 4 (by decide) (by decide)), congrArg (fun f : Nat → Int32 => Int32.toInt (f 1)) (h2.1 4 (by decide) (by decide)), h.2.2, congrArg (fun f : Nat → Int32 => Int32.toInt (f 31)) (h2.1 3 (by decide) (by decide)), congrArg (fun f : Nat → Int32 => Int32.toInt (f 5671)) (h2.1 3 (by decide) (by decide)), congrArg (fun f : Nat → Int32 => Int32.toInt (f 32)) (h2.1 3 (by decide) (by decide)), congrArg (fun f : Nat → Int32 => Int32.toInt (f 5672)) (h2.1 3 (by decide) (by decide)), congrArg Int32.toInt (h2.2 14 (by decide)), (h2.1 7 (by decide) (by decide))⟩⟩

theorem lm_turn (q : dS) (a1 : Int32) (hT : TS q) : ∃ (r : Int32) (o : dS), zX10_turn q a1 = some (r, o) ∧ TS o ∧ (Int32.toInt (o.1 0 13) = Int32.toInt (q.1 0 13)) ∧ (Int32.toInt (o.1 4 0) = Int32.toInt (q.1 4 0)) ∧ (Int32.toInt (o.1 4 1) = Int32.toInt (q.1 4 1)) ∧ (Int32.toInt (o.1 2 31) = Int32.toInt (q.1 2 31)) ∧ (Int32.toInt (o.1 3 31) = Int32.toInt (q.1 3 31)) ∧ (Int32.toInt (o.1 3 5671) = Int32.toInt (q.1 3 5671)) ∧ (Int32.toInt (o.1 2 32) = Int32.toInt (q.1 2 32)) ∧ (Int32.toInt (o.1 3 32) = Int32.toInt (q.1 3 32)) ∧ (Int32.toInt (o.1 3 5672) = Int32.toInt (q.1 3 5672)) ∧ (Int32.toInt (o.1 0 14) = Int32.toInt (q.1 0 14)) ∧ (o.1 7 = q.1 7) := by
  obtain ⟨⟨r, o⟩, e, h⟩ := ok_turn q a1 hT
  have h2 : dFk [1, 2, 12, 14] [0, 22, 23, 24, 25, 32] q o := h.2
  exact ⟨r, o, e, h.1, ⟨congrArg Int32.toInt (h2.1.2 13 (by decide)), congrArg (fun f : Nat → Int32 => Int32.toInt (f 0)) (h2.1.1 4 (by decide) (by decide)), congrArg (fun f : Nat → Int32 => Int32.toInt (f 1)) (h2.1.1 4 (by decide) (by decide)), congrArg Int32.toInt (h2.2 31 (by decide)), congrArg (fun f : Nat → Int32 => Int32.toInt (f 31)) (h2.1.1 3 (by decide) (by decide)), congrArg (fun f : Nat → Int32 => Int32.toInt (f 5671)) (h2.1.1 3 (by decide) (by decide)), congrArg Int32.toInt (h2.2 32 (by decide)), congrArg (fun f : Nat → Int32 => Int32.toInt (f 32)) (h2.1.1 3 (by decide) (by decide)), congrArg (fun f : Nat → Int32 => Int32.toInt (f 5672)) (h2.1.1 3 (by decide) (by decide)), congrArg Int32.toInt (h2.1.2 14 (by decide)), (h2.1.1 7 (by decide) (by decide))⟩⟩

theorem lm_right (q : dS) (a1 : Int32) (hT : TS q) : ∃ (r : Int32) (o : dS), zX10_right q a1 = some (r, o) ∧ TS o ∧ (Int32.toInt (o.1 0 13) = Int32.toInt (q.1 0 13)) ∧ (Int32.toInt (o.1 4 0) = Int32.toInt (q.1 4 0)) ∧ (Int32.toInt (o.1 4 1) = Int32.toInt (q.1 4 1)) ∧ (Int32.toInt (o.1 2 31) = Int32.toInt (q.1 2 31)) ∧ (Int32.toInt (o.1 3 31) = Int32.toInt (q.1 3 31)) ∧ (Int32.toInt (o.1 3 5671) = Int32.toInt (q.1 3 5671)) ∧ (Int32.toInt (o.1 2 32) = Int32.toInt (q.1 2 32)) ∧ (Int32.toInt (o.1 3 32) = Int32.toInt (q.1 3 32)) ∧ (Int32.toInt (o.1 3 5672) = Int32.toInt (q.1 3 5672)) ∧ (Int32.toInt (o.1 0 14) = Int32.toInt (q.1 0 14)) ∧ (o.1 7 = q.1 7) := by
  obtain ⟨⟨r, o⟩, e, h⟩ := ok_right q a1 hT
  have h2 : dFk [1, 2, 14] [0, 32] q o := h.2
  exact ⟨r, o, e, h.1, ⟨congrArg Int32.toInt (h2.1.2 13 (by decide)), congrArg (fun f : Nat → Int32 => Int32.toInt (f 0)) (h2.1.1 4 (by decide) (by decide)), congrArg (fun f : Nat → Int32 => Int32.toInt (f 1)) (h2.1.1 4 (by decide) (by decide)), congrArg Int32.toInt (h2.2 31 (by decide)), congrArg (fun f : Nat → Int32 => Int32.toInt (f 31)) (h2.1.1 3 (by decide) (by decide)), congrArg (fun f : Nat → Int32 => Int32.toInt (f 5671)) (h2.1.1 3 (by decide) (by decide)), congrArg Int32.toInt (h2.2 32 (by decide)), congrArg (fun f : Nat → Int32 => Int32.toInt (f 32)) (h2.1.1 3 (by decide) (by decide)), congrArg (fun f : Nat → Int32 => Int32.toInt (f 5672)) (h2.1.1 3 (by decide) (by decide)), congrArg Int32.toInt (h2.1.2 14 (by decide)), (h2.1.1 7 (by decide) (by decide))⟩⟩

theorem lm_swap (q : dS) (a1 : Int32) (hT : TS q) : ∃ (r : Int32) (o : dS), zX10_swap q a1 = some (r, o) ∧ TS o ∧ (Int32.toInt (o.1 0 13) = Int32.toInt (q.1 0 13)) ∧ (Int32.toInt (o.1 4 0) = Int32.toInt (q.1 4 0)) ∧ (Int32.toInt (o.1 4 1) = Int32.toInt (q.1 4 1)) ∧ (Int32.toInt (o.1 2 31) = Int32.toInt (q.1 2 31)) ∧ (Int32.toInt (o.1 3 31) = Int32.toInt (q.1 3 31)) ∧ (Int32.toInt (o.1 3 5671) = Int32.toInt (q.1 3 5671)) ∧ (Int32.toInt (o.1 2 32) = Int32.toInt (q.1 2 32)) ∧ (Int32.toInt (o.1 3 32) = Int32.toInt (q.1 3 32)) ∧ (Int32.toInt (o.1 3 5672) = Int32.toInt (q.1 3 5672)) ∧ (Int32.toInt (o.1 0 14) = Int32.toInt (q.1 0 14)) ∧ (o.1 7 = q.1 7) := by
  obtain ⟨⟨r, o⟩, e, h⟩ := ok_swap q a1 hT
  have h2 : dFk [1, 2, 14] [0, 32] q o := h.2
  exact ⟨r, o, e, h.1, ⟨congrArg Int32.toInt (h2.1.2 13 (by decide)), congrArg (fun f : Nat → Int32 => Int32.toInt (f 0)) (h2.1.1 4 (by decide) (by decide)), congrArg (fun f : Nat → Int32 => Int32.toInt (f 1)) (h2.1.1 4 (by decide) (by decide)), congrArg Int32.toInt (h2.2 31 (by decide)), congrArg (fun f : Nat → Int32 => Int32.toInt (f 31)) (h2.1.1 3 (by decide) (by decide)), congrArg (fun f : Nat → Int32 => Int32.toInt (f 5671)) (h2.1.1 3 (by decide) (by decide)), congrArg Int32.toInt (h2.2 32 (by decide)), congrArg (fun f : Nat → Int32 => Int32.toInt (f 32)) (h2.1.1 3 (by decide) (by decide)), congrArg (fun f : Nat → Int32 => Int32.toInt (f 5672)) (h2.1.1 3 (by decide) (by decide)), congrArg Int32.toInt (h2.1.2 14 (by decide)), (h2.1.1 7 (by decide) (by decide))⟩⟩

theorem lm_pass (q : dS) (hT : TS q) : ∃ (r : Int32) (o : dS), zX10_pass q = some (r, o) ∧ TS o ∧ (Int32.toInt (o.1 0 13) = Int32.toInt (q.1 0 13)) ∧ (Int32.toInt (o.1 4 0) = Int32.toInt (q.1 4 0)) ∧ (Int32.toInt (o.1 4 1) = Int32.toInt (q.1 4 1)) ∧ (Int32.toInt (o.1 2 31) = Int32.toInt (q.1 2 31)) ∧ (Int32.toInt (o.1 3 31) = Int32.toInt (q.1 3 31)) ∧ (Int32.toInt (o.1 3 5671) = Int32.toInt (q.1 3 5671)) ∧ (Int32.toInt (o.1 2 32) = Int32.toInt (q.1 2 32)) ∧ (Int32.toInt (o.1 3 32) = Int32.toInt (q.1 3 32)) ∧ (Int32.toInt (o.1 3 5672) = Int32.toInt (q.1 3 5672)) ∧ (Int32.toInt (o.1 0 14) = Int32.toInt (q.1 0 14)) ∧ (o.1 7 = q.1 7) := by
  obtain ⟨⟨r, o⟩, e, h⟩ := ok_pass q hT
  have h2 : dFk [1, 2, 12, 13, 14] [0, 22, 23, 24, 25, 32] q o := h.2
  exact ⟨r, o, e, h.1, ⟨congrArg Int32.toInt (h2.1.2 13 (by decide)), congrArg (fun f : Nat → Int32 => Int32.toInt (f 0)) (h2.1.1 4 (by decide) (by decide)), congrArg (fun f : Nat → Int32 => Int32.toInt (f 1)) (h2.1.1 4 (by decide) (by decide)), congrArg Int32.toInt (h2.2 31 (by decide)), congrArg (fun f : Nat → Int32 => Int32.toInt (f 31)) (h2.1.1 3 (by decide) (by decide)), congrArg (fun f : Nat → Int32 => Int32.toInt (f 5671)) (h2.1.1 3 (by decide) (by decide)), congrArg Int32.toInt (h2.2 32 (by decide)), congrArg (fun f : Nat → Int32 => Int32.toInt (f 32)) (h2.1.1 3 (by decide) (by decide)), congrArg (fun f : Nat → Int32 => Int32.toInt (f 5672)) (h2.1.1 3 (by decide) (by decide)), congrArg Int32.toInt (h2.1.2 14 (by decide)), (h2.1.1 7 (by decide) (by decide))⟩⟩

theorem lm_undo (q : dS) (hT : TS q) : ∃ (r : Int32) (o : dS), zX10_undo q = some (r, o) ∧ TS o ∧ (Int32.toInt (o.1 0 13) = Int32.toInt (q.1 0 13)) ∧ (Int32.toInt (o.1 4 0) = Int32.toInt (q.1 4 0)) ∧ (Int32.toInt (o.1 4 1) = Int32.toInt (q.1 4 1)) ∧ (Int32.toInt (o.1 2 31) = Int32.toInt (q.1 2 31)) ∧ (Int32.toInt (o.1 3 31) = Int32.toInt (q.1 3 31)) ∧ (Int32.toInt (o.1 3 5671) = Int32.toInt (q.1 3 5671)) ∧ (Int32.toInt (o.1 2 32) = Int32.toInt (q.1 2 32)) ∧ (Int32.toInt (o.1 3 32) = Int32.toInt (q.1 3 32)) ∧ (Int32.toInt (o.1 3 5672) = Int32.toInt (q.1 3 5672)) ∧ (Int32.toInt (o.1 0 14) = Int32.toInt (q.1 0 14)) ∧ (o.1 7 = q.1 7) := by
  obtain ⟨⟨r, o⟩, e, h⟩ := ok_undo q hT
  have h2 : dFk [1, 2] [0, 32] q o := h.2
  exact ⟨r, o, e, h.1, ⟨congrArg Int32.toInt (h2.1.2 13 (by decide)), congrArg (fun f : Nat → Int32 => Int32.toInt (f 0)) (h2.1.1 4 (by decide) (by decide)), congrArg (fun f : Nat → Int32 => Int32.toInt (f 1)) (h2.1.1 4 (by decide) (by decide)), congrArg Int32.toInt (h2.2 31 (by decide)), congrArg (fun f : Nat → Int32 => Int32.toInt (f 31)) (h2.1.1 3 (by decide) (by decide)), congrArg (fun f : Nat → Int32 => Int32.toInt (f 5671)) (h2.1.1 3 (by decide) (by decide)), congrArg Int32.toInt (h2.2 32 (by decide)), congrArg (fun f : Nat → Int32 => Int32.toInt (f 32)) (h2.1.1 3 (by decide) (by decide)), congrArg (fun f : Nat → Int32 => Int32.toInt (f 5672)) (h2.1.1 3 (by decide) (by decide)), congrArg Int32.toInt (h2.1.2 14 (by decide)), (h2.1.1 7 (by decide) (by decide))⟩⟩

theorem lm_fewest (q : dS) (a1 : Int32) (hT : TS q) : ∃ (r : Int32) (o : dS), zX10_fewest q a1 = some (r, o) ∧ TS o ∧ (Int32.toInt (o.1 0 13) = Int32.toInt (q.1 0 13)) ∧ (Int32.toInt (o.1 4 0) = Int32.toInt (q.1 4 0)) ∧ (Int32.toInt (o.1 4 1) = Int32.toInt (q.1 4 1)) ∧ (Int32.toInt (o.1 2 31) = Int32.toInt (q.1 2 31)) ∧ (Int32.toInt (o.1 3 31) = Int32.toInt (q.1 3 31)) ∧ (Int32.toInt (o.1 3 5671) = Int32.toInt (q.1 3 5671)) ∧ (Int32.toInt (o.1 2 32) = Int32.toInt (q.1 2 32)) ∧ (Int32.toInt (o.1 3 32) = Int32.toInt (q.1 3 32)) ∧ (Int32.toInt (o.1 3 5672) = Int32.toInt (q.1 3 5672)) ∧ (Int32.toInt (o.1 0 14) = Int32.toInt (q.1 0 14)) ∧ (o.1 7 = q.1 7) := by
  obtain ⟨⟨r, o⟩, e, h⟩ := ok_fewest q a1 hT
  have h2 : dFr [12, 16, 17, 18, 19, 20, 21, 22, 23] [22, 23, 24, 25, 37, 38] q o := h.2
  exact ⟨r, o, e, h.1, ⟨congrArg Int32.toInt (h2.2 13 (by decide)), congrArg (fun f : Nat → Int32 => Int32.toInt (f 0)) (h2.1 4 (by decide) (by decide)), congrArg (fun f : Nat → Int32 => Int32.toInt (f 1)) (h2.1 4 (by decide) (by decide)), congrArg (fun f : Nat → Int32 => Int32.toInt (f 31)) (h2.1 2 (by decide) (by decide)), congrArg (fun f : Nat → Int32 => Int32.toInt (f 31)) (h2.1 3 (by decide) (by decide)), congrArg (fun f : Nat → Int32 => Int32.toInt (f 5671)) (h2.1 3 (by decide) (by decide)), congrArg (fun f : Nat → Int32 => Int32.toInt (f 32)) (h2.1 2 (by decide) (by decide)), congrArg (fun f : Nat → Int32 => Int32.toInt (f 32)) (h2.1 3 (by decide) (by decide)), congrArg (fun f : Nat → Int32 => Int32.toInt (f 5672)) (h2.1 3 (by decide) (by decide)), congrArg Int32.toInt (h2.2 14 (by decide)), (h2.1 7 (by decide) (by decide))⟩⟩

theorem lm_many (q : dS) (hT : TS q) : ∃ (r : Int32) (o : dS), zX10_many q = some (r, o) ∧ TS o ∧ (Int32.toInt (o.1 0 13) = Int32.toInt (q.1 0 13)) ∧ (Int32.toInt (o.1 4 0) = Int32.toInt (q.1 4 0)) ∧ (Int32.toInt (o.1 4 1) = Int32.toInt (q.1 4 1)) ∧ (Int32.toInt (o.1 2 31) = Int32.toInt (q.1 2 31)) ∧ (Int32.toInt (o.1 3 31) = Int32.toInt (q.1 3 31)) ∧ (Int32.toInt (o.1 3 5671) = Int32.toInt (q.1 3 5671)) ∧ (Int32.toInt (o.1 2 32) = Int32.toInt (q.1 2 32)) ∧ (Int32.toInt (o.1 3 32) = Int32.toInt (q.1 3 32)) ∧ (Int32.toInt (o.1 3 5672) = Int32.toInt (q.1 3 5672)) ∧ (Int32.toInt (o.1 0 14) = Int32.toInt (q.1 0 14)) ∧ (o.1 7 = q.1 7) := by
  obtain ⟨⟨r, o⟩, e, h⟩ := ok_many q hT
  have h2 : dFr [12, 16, 17, 18, 19, 20, 21, 22, 23] [22, 23, 24, 25, 37, 38] q o := h.2
  exact ⟨r, o, e, h.1, ⟨congrArg Int32.toInt (h2.2 13 (by decide)), congrArg (fun f : Nat → Int32 => Int32.toInt (f 0)) (h2.1 4 (by decide) (by decide)), congrArg (fun f : Nat → Int32 => Int32.toInt (f 1)) (h2.1 4 (by decide) (by decide)), congrArg (fun f : Nat → Int32 => Int32.toInt (f 31)) (h2.1 2 (by decide) (by decide)), congrArg (fun f : Nat → Int32 => Int32.toInt (f 31)) (h2.1 3 (by decide) (by decide)), congrArg (fun f : Nat → Int32 => Int32.toInt (f 5671)) (h2.1 3 (by decide) (by decide)), congrArg (fun f : Nat → Int32 => Int32.toInt (f 32)) (h2.1 2 (by decide) (by decide)), congrArg (fun f : Nat → Int32 => Int32.toInt (f 32)) (h2.1 3 (by decide) (by decide)), congrArg (fun f : Nat → Int32 => Int32.toInt (f 5672)) (h2.1 3 (by decide) (by decide)), congrArg Int32.toInt (h2.2 14 (by decide)), (h2.1 7 (by decide) (by decide))⟩⟩

theorem lm_cheapest (q : dS) (hT : TS q) : ∃ (r : Int32) (o : dS), zX10_cheapest q = some (r, o) ∧ TS o ∧ (Int32.toInt (o.1 0 13) = Int32.toInt (q.1 0 13)) ∧ (Int32.toInt (o.1 4 0) = Int32.toInt (q.1 4 0)) ∧ (Int32.toInt (o.1 4 1) = Int32.toInt (q.1 4 1)) ∧ (Int32.toInt (o.1 2 31) = Int32.toInt (q.1 2 31)) ∧ (Int32.toInt (o.1 3 31) = Int32.toInt (q.1 3 31)) ∧ (Int32.toInt (o.1 3 5671) = Int32.toInt (q.1 3 5671)) ∧ (Int32.toInt (o.1 2 32) = Int32.toInt (q.1 2 32)) ∧ (Int32.toInt (o.1 3 32) = Int32.toInt (q.1 3 32)) ∧ (Int32.toInt (o.1 3 5672) = Int32.toInt (q.1 3 5672)) ∧ (Int32.toInt (o.1 0 14) = Int32.toInt (q.1 0 14)) ∧ (o.1 7 = q.1 7) := by
  obtain ⟨⟨r, o⟩, e, h⟩ := ok_cheapest q hT
  have h2 : dFr [12, 16, 17, 18, 19, 20, 21, 23, 24] [22, 23, 24, 25, 37, 38] q o := h.2
  exact ⟨r, o, e, h.1, ⟨congrArg Int32.toInt (h2.2 13 (by decide)), congrArg (fun f : Nat → Int32 => Int32.toInt (f 0)) (h2.1 4 (by decide) (by decide)), congrArg (fun f : Nat → Int32 => Int32.toInt (f 1)) (h2.1 4 (by decide) (by decide)), congrArg (fun f : Nat → Int32 => Int32.toInt (f 31)) (h2.1 2 (by decide) (by decide)), congrArg (fun f : Nat → Int32 => Int32.toInt (f 31)) (h2.1 3 (by decide) (by decide)), congrArg (fun f : Nat → Int32 => Int32.toInt (f 5671)) (h2.1 3 (by decide) (by decide)), congrArg (fun f : Nat → Int32 => Int32.toInt (f 32)) (h2.1 2 (by decide) (by decide)), congrArg (fun f : Nat → Int32 => Int32.toInt (f 32)) (h2.1 3 (by decide) (by decide)), congrArg (fun f : Nat → Int32 => Int32.toInt (f 5672)) (h2.1 3 (by decide) (by decide)), congrArg Int32.toInt (h2.2 14 (by decide)), (h2.1 7 (by decide) (by decide))⟩⟩

theorem lm_worst (q : dS) (a1 : Int32) (hT : TS q) : ∃ (r : Int32) (o : dS), zX10_worst q a1 = some (r, o) ∧ TS o ∧ (Int32.toInt (o.1 0 13) = Int32.toInt (q.1 0 13)) ∧ (Int32.toInt (o.1 4 0) = Int32.toInt (q.1 4 0)) ∧ (Int32.toInt (o.1 4 1) = Int32.toInt (q.1 4 1)) ∧ (Int32.toInt (o.1 2 31) = Int32.toInt (q.1 2 31)) ∧ (Int32.toInt (o.1 3 31) = Int32.toInt (q.1 3 31)) ∧ (Int32.toInt (o.1 3 5671) = Int32.toInt (q.1 3 5671)) ∧ (Int32.toInt (o.1 2 32) = Int32.toInt (q.1 2 32)) ∧ (Int32.toInt (o.1 3 32) = Int32.toInt (q.1 3 32)) ∧ (Int32.toInt (o.1 3 5672) = Int32.toInt (q.1 3 5672)) ∧ (Int32.toInt (o.1 0 14) = Int32.toInt (q.1 0 14)) ∧ (o.1 7 = q.1 7) := by
  obtain ⟨⟨r, o⟩, e, h⟩ := ok_worst q a1 hT
  have h2 : dFr [12, 16, 17, 18, 19, 20, 21, 22, 23] [22, 23, 24, 25, 37, 38] q o := h.2
  exact ⟨r, o, e, h.1, ⟨congrArg Int32.toInt (h2.2 13 (by decide)), congrArg (fun f : Nat → Int32 => Int32.toInt (f 0)) (h2.1 4 (by decide) (by decide)), congrArg (fun f : Nat → Int32 => Int32.toInt (f 1)) (h2.1 4 (by decide) (by decide)), congrArg (fun f : Nat → Int32 => Int32.toInt (f 31)) (h2.1 2 (by decide) (by decide)), congrArg (fun f : Nat → Int32 => Int32.toInt (f 31)) (h2.1 3 (by decide) (by decide)), congrArg (fun f : Nat → Int32 => Int32.toInt (f 5671)) (h2.1 3 (by decide) (by decide)), congrArg (fun f : Nat → Int32 => Int32.toInt (f 32)) (h2.1 2 (by decide) (by decide)), congrArg (fun f : Nat → Int32 => Int32.toInt (f 32)) (h2.1 3 (by decide) (by decide)), congrArg (fun f : Nat → Int32 => Int32.toInt (f 5672)) (h2.1 3 (by decide) (by decide)), congrArg Int32.toInt (h2.2 14 (by decide)), (h2.1 7 (by decide) (by decide))⟩⟩

theorem lm_reach (q : dS) (hT : TS q) : ∃ (r : Int32) (o : dS), zX10_reach q = some (r, o) ∧ TS o ∧ (Int32.toInt (o.1 0 13) = Int32.toInt (q.1 0 13)) ∧ (Int32.toInt (o.1 4 0) = Int32.toInt (q.1 4 0)) ∧ (Int32.toInt (o.1 4 1) = Int32.toInt (q.1 4 1)) ∧ (Int32.toInt (o.1 2 31) = Int32.toInt (q.1 2 31)) ∧ (Int32.toInt (o.1 3 31) = Int32.toInt (q.1 3 31)) ∧ (Int32.toInt (o.1 3 5671) = Int32.toInt (q.1 3 5671)) ∧ (Int32.toInt (o.1 2 32) = Int32.toInt (q.1 2 32)) ∧ (Int32.toInt (o.1 3 32) = Int32.toInt (q.1 3 32)) ∧ (Int32.toInt (o.1 3 5672) = Int32.toInt (q.1 3 5672)) ∧ (Int32.toInt (o.1 0 14) = Int32.toInt (q.1 0 14)) ∧ (o.1 7 = q.1 7) := by
  obtain ⟨⟨r, o⟩, e, h⟩ := ok_reach q hT
  have h2 : dFr [12, 16, 17, 18, 19, 20, 21, 23] [22, 23, 24, 25, 37, 38] q o := h.2
  exact ⟨r, o, e, h.1, ⟨congrArg Int32.toInt (h2.2 13 (by decide)), congrArg (fun f : Nat → Int32 => Int32.toInt (f 0)) (h2.1 4 (by decide) (by decide)), congrArg (fun f : Nat → Int32 => Int32.toInt (f 1)) (h2.1 4 (by decide) (by decide)), congrArg (fun f : Nat → Int32 => Int32.toInt (f 31)) (h2.1 2 (by decide) (by decide)), congrArg (fun f : Nat → Int32 => Int32.toInt (f 31)) (h2.1 3 (by decide) (by decide)), congrArg (fun f : Nat → Int32 => Int32.toInt (f 5671)) (h2.1 3 (by decide) (by decide)), congrArg (fun f : Nat → Int32 => Int32.toInt (f 32)) (h2.1 2 (by decide) (by decide)), congrArg (fun f : Nat → Int32 => Int32.toInt (f 32)) (h2.1 3 (by decide) (by decide)), congrArg (fun f : Nat → Int32 => Int32.toInt (f 5672)) (h2.1 3 (by decide) (by decide)), congrArg Int32.toInt (h2.2 14 (by decide)), (h2.1 7 (by decide) (by decide))⟩⟩

theorem lm_gaps (q : dS) (hT : TS q) : ∃ (r : Int32) (o : dS), zX10_gaps q = some (r, o) ∧ TS o ∧ (Int32.toInt (o.1 0 13) = Int32.toInt (q.1 0 13)) ∧ (Int32.toInt (o.1 4 0) = Int32.toInt (q.1 4 0)) ∧ (Int32.toInt (o.1 4 1) = Int32.toInt (q.1 4 1)) ∧ (Int32.toInt (o.1 2 31) = Int32.toInt (q.1 2 31)) ∧ (Int32.toInt (o.1 3 31) = Int32.toInt (q.1 3 31)) ∧ (Int32.toInt (o.1 3 5671) = Int32.toInt (q.1 3 5671)) ∧ (Int32.toInt (o.1 2 32) = Int32.toInt (q.1 2 32)) ∧ (Int32.toInt (o.1 3 32) = Int32.toInt (q.1 3 32)) ∧ (Int32.toInt (o.1 3 5672) = Int32.toInt (q.1 3 5672)) ∧ (Int32.toInt (o.1 0 14) = Int32.toInt (q.1 0 14)) ∧ (o.1 7 = q.1 7) := by
  obtain ⟨⟨r, o⟩, e, h⟩ := ok_gaps q hT
  have h1 : o = q := h
  subst h1
  exact ⟨r, o, e, hT, ⟨rfl, rfl, rfl, rfl, rfl, rfl, rfl, rfl, rfl, rfl, rfl⟩⟩

theorem lm_comes (q : dS) (a1 : Int32) (hT : TS q) : ∃ (r : Int32) (o : dS), zX10_comes q a1 = some (r, o) ∧ TS o ∧ (Int32.toInt (o.1 0 13) = Int32.toInt (q.1 0 13)) ∧ (Int32.toInt (o.1 4 0) = Int32.toInt (q.1 4 0)) ∧ (Int32.toInt (o.1 4 1) = Int32.toInt (q.1 4 1)) ∧ (Int32.toInt (o.1 2 31) = Int32.toInt (q.1 2 31)) ∧ (Int32.toInt (o.1 3 31) = Int32.toInt (q.1 3 31)) ∧ (Int32.toInt (o.1 3 5671) = Int32.toInt (q.1 3 5671)) ∧ (Int32.toInt (o.1 2 32) = Int32.toInt (q.1 2 32)) ∧ (Int32.toInt (o.1 3 32) = Int32.toInt (q.1 3 32)) ∧ (Int32.toInt (o.1 3 5672) = Int32.toInt (q.1 3 5672)) ∧ (Int32.toInt (o.1 0 14) = Int32.toInt (q.1 0 14)) ∧ (o.1 7 = q.1 7) := by
  obtain ⟨⟨r, o⟩, e, h⟩ := ok_comes q a1 hT
  have h2 : dFr [12, 16, 17, 18, 19, 20, 21, 23] [22, 23, 24, 25, 37, 38] q o := h.2
  exact ⟨r, o, e, h.1, ⟨congrArg Int32.toInt (h2.2 13 (by decide)), congrArg (fun f : Nat → Int32 => Int32.toInt (f 0)) (h2.1 4 (by decide) (by decide)), congrArg (fun f : Nat → Int32 => Int32.toInt (f 1)) (h2.1 4 (by decide) (by decide)), congrArg (fun f : Nat → Int32 => Int32.toInt (f 31)) (h2.1 2 (by decide) (by decide)), congrArg (fun f : Nat → Int32 => Int32.toInt (f 31)) (h2.1 3 (by decide) (by decide)), congrArg (fun f : Nat → Int32 => Int32.toInt (f 5671)) (h2.1 3 (by decide) (by decide)), congrArg (fun f : Nat → Int32 => Int32.toInt (f 32)) (h2.1 2 (by decide) (by decide)), congrArg (fun f : Nat → Int32 => Int32.toInt (f 32)) (h2.1 3 (by decide) (by decide)), congrArg (fun f : Nat → Int32 => Int32.toInt (f 5672)) (h2.1 3 (by decide) (by decide)), congrArg Int32.toInt (h2.2 14 (by decide)), (h2.1 7 (by decide) (by decide))⟩⟩

theorem lm_view (q : dS) (a1 : Int32) (hT : TS q) : ∃ (r : Int32) (o : dS), zX10_view q a1 = some (r, o) ∧ TS o ∧ (Int32.toInt (o.1 0 13) = Int32.toInt (q.1 0 13)) ∧ (Int32.toInt (o.1 4 0) = Int32.toInt (q.1 4 0)) ∧ (Int32.toInt (o.1 4 1) = Int32.toInt (q.1 4 1)) ∧ (Int32.toInt (o.1 2 31) = Int32.toInt (q.1 2 31)) ∧ (Int32.toInt (o.1 3 31) = Int32.toInt (q.1 3 31)) ∧ (Int32.toInt (o.1 3 5671) = Int32.toInt (q.1 3 5671)) ∧ (Int32.toInt (o.1 2 32) = Int32.toInt (q.1 2 32)) ∧ (Int32.toInt (o.1 3 32) = Int32.toInt (q.1 3 32)) ∧ (Int32.toInt (o.1 3 5672) = Int32.toInt (q.1 3 5672)) ∧ (Int32.toInt (o.1 0 14) = Int32.toInt (q.1 0 14)) ∧ (o.1 7 = q.1 7) := by
  obtain ⟨⟨r, o⟩, e, h⟩ := ok_view q a1 hT
  have h2 : dFr [12, 16, 17, 18, 19, 20, 21, 23] [22, 23, 24, 25, 37, 38] q o := h.2
  exact ⟨r, o, e, h.1, ⟨congrArg Int32.toInt (h2.2 13 (by decide)), congrArg (fun f : Nat → Int32 => Int32.toInt (f 0)) (h2.1 4 (by decide) (by decide)), congrArg (fun f : Nat → Int32 => Int32.toInt (f 1)) (h2.1 4 (by decide) (by decide)), congrArg (fun f : Nat → Int32 => Int32.toInt (f 31)) (h2.1 2 (by decide) (by decide)), congrArg (fun f : Nat → Int32 => Int32.toInt (f 31)) (h2.1 3 (by decide) (by decide)), congrArg (fun f : Nat → Int32 => Int32.toInt (f 5671)) (h2.1 3 (by decide) (by decide)), congrArg (fun f : Nat → Int32 => Int32.toInt (f 32)) (h2.1 2 (by decide) (by decide)), congrArg (fun f : Nat → Int32 => Int32.toInt (f 32)) (h2.1 3 (by decide) (by decide)), congrArg (fun f : Nat → Int32 => Int32.toInt (f 5672)) (h2.1 3 (by decide) (by decide)), congrArg Int32.toInt (h2.2 14 (by decide)), (h2.1 7 (by decide) (by decide))⟩⟩

theorem lm_stays (q : dS) (a1 : Int32) (hT : TS q) : ∃ (r : Int32) (o : dS), zX10_stays q a1 = some (r, o) ∧ TS o ∧ (Int32.toInt (o.1 0 13) = Int32.toInt (q.1 0 13)) ∧ (Int32.toInt (o.1 4 0) = Int32.toInt (q.1 4 0)) ∧ (Int32.toInt (o.1 4 1) = Int32.toInt (q.1 4 1)) ∧ (Int32.toInt (o.1 2 31) = Int32.toInt (q.1 2 31)) ∧ (Int32.toInt (o.1 3 31) = Int32.toInt (q.1 3 31)) ∧ (Int32.toInt (o.1 3 5671) = Int32.toInt (q.1 3 5671)) ∧ (Int32.toInt (o.1 2 32) = Int32.toInt (q.1 2 32)) ∧ (Int32.toInt (o.1 3 32) = Int32.toInt (q.1 3 32)) ∧ (Int32.toInt (o.1 3 5672) = Int32.toInt (q.1 3 5672)) ∧ (Int32.toInt (o.1 0 14) = Int32.toInt (q.1 0 14)) ∧ (o.1 7 = q.1 7) := by
  obtain ⟨⟨r, o⟩, e, h⟩ := ok_stays q a1 hT
  have h1 : o = q := h
  subst h1
  exact ⟨r, o, e, hT, ⟨rfl, rfl, rfl, rfl, rfl, rfl, rfl, rfl, rfl, rfl, rfl⟩⟩

theorem lm_seen (q : dS) (a1 a2 : Int32) (hT : TS q) : ∃ (r : Int32) (o : dS), zX10_seen q a1 a2 = some (r, o) ∧ TS o ∧ (Int32.toInt (o.1 0 13) = Int32.toInt (q.1 0 13)) ∧ (Int32.toInt (o.1 4 0) = Int32.toInt (q.1 4 0)) ∧ (Int32.toInt (o.1 4 1) = Int32.toInt (q.1 4 1)) ∧ (Int32.toInt (o.1 2 31) = Int32.toInt (q.1 2 31)) ∧ (Int32.toInt (o.1 3 31) = Int32.toInt (q.1 3 31)) ∧ (Int32.toInt (o.1 3 5671) = Int32.toInt (q.1 3 5671)) ∧ (Int32.toInt (o.1 2 32) = Int32.toInt (q.1 2 32)) ∧ (Int32.toInt (o.1 3 32) = Int32.toInt (q.1 3 32)) ∧ (Int32.toInt (o.1 3 5672) = Int32.toInt (q.1 3 5672)) ∧ (Int32.toInt (o.1 0 14) = Int32.toInt (q.1 0 14)) ∧ (o.1 7 = q.1 7) := by
  obtain ⟨⟨r, o⟩, e, h⟩ := ok_seen q a1 a2 hT
  have h2 : dFr [1, 2] [0] q o := h.2.1
  exact ⟨r, o, e, h.1, ⟨congrArg Int32.toInt (h2.2 13 (by decide)), congrArg (fun f : Nat → Int32 => Int32.toInt (f 0)) (h2.1 4 (by decide) (by decide)), congrArg (fun f : Nat → Int32 => Int32.toInt (f 1)) (h2.1 4 (by decide) (by decide)), h.2.2.1, congrArg (fun f : Nat → Int32 => Int32.toInt (f 31)) (h2.1 3 (by decide) (by decide)), congrArg (fun f : Nat → Int32 => Int32.toInt (f 5671)) (h2.1 3 (by decide) (by decide)), h.2.2.2, congrArg (fun f : Nat → Int32 => Int32.toInt (f 32)) (h2.1 3 (by decide) (by decide)), congrArg (fun f : Nat → Int32 => Int32.toInt (f 5672)) (h2.1 3 (by decide) (by decide)), congrArg Int32.toInt (h2.2 14 (by decide)), (h2.1 7 (by decide) (by decide))⟩⟩

theorem lm_forget (q : dS) (hT : TS q) : ∃ (r : Int32) (o : dS), zX10_forget q = some (r, o) ∧ TS o ∧ (Int32.toInt (o.1 0 13) = Int32.toInt (q.1 0 13)) ∧ (Int32.toInt (o.1 4 0) = Int32.toInt (q.1 4 0)) ∧ (Int32.toInt (o.1 4 1) = Int32.toInt (q.1 4 1)) ∧ (Int32.toInt (o.1 2 31) = Int32.toInt (q.1 2 31)) ∧ (Int32.toInt (o.1 3 31) = Int32.toInt (q.1 3 31)) ∧ (Int32.toInt (o.1 3 5671) = Int32.toInt (q.1 3 5671)) ∧ (Int32.toInt (o.1 2 32) = Int32.toInt (q.1 2 32)) ∧ (Int32.toInt (o.1 3 32) = Int32.toInt (q.1 3 32)) ∧ (Int32.toInt (o.1 3 5672) = Int32.toInt (q.1 3 5672)) ∧ (Int32.toInt (o.1 0 14) = Int32.toInt (q.1 0 14)) ∧ (o.1 7 = q.1 7) := by
  obtain ⟨⟨r, o⟩, e, h⟩ := ok_forget q hT
  have h2 : dFr [2] [] q o := h.2.1
  exact ⟨r, o, e, h.1, ⟨congrArg Int32.toInt (h2.2 13 (by decide)), congrArg (fun f : Nat → Int32 => Int32.toInt (f 0)) (h2.1 4 (by decide) (by decide)), congrArg (fun f : Nat → Int32 => Int32.toInt (f 1)) (h2.1 4 (by decide) (by decide)), h.2.2.1, congrArg (fun f : Nat → Int32 => Int32.toInt (f 31)) (h2.1 3 (by decide) (by decide)), congrArg (fun f : Nat → Int32 => Int32.toInt (f 5671)) (h2.1 3 (by decide) (by decide)), h.2.2.2, congrArg (fun f : Nat → Int32 => Int32.toInt (f 32)) (h2.1 3 (by decide) (by decide)), congrArg (fun f : Nat → Int32 => Int32.toInt (f 5672)) (h2.1 3 (by decide) (by decide)), congrArg Int32.toInt (h2.2 14 (by decide)), (h2.1 7 (by decide) (by decide))⟩⟩

theorem lm_was (q : dS) (hT : TS q) : ∃ (r : Int32) (o : dS), zX10_was q = some (r, o) ∧ TS o ∧ (Int32.toInt (o.1 0 13) = Int32.toInt (q.1 0 13)) ∧ (Int32.toInt (o.1 4 0) = Int32.toInt (q.1 4 0)) ∧ (Int32.toInt (o.1 4 1) = Int32.toInt (q.1 4 1)) ∧ (Int32.toInt (o.1 2 31) = Int32.toInt (q.1 2 31)) ∧ (Int32.toInt (o.1 3 31) = Int32.toInt (q.1 3 31)) ∧ (Int32.toInt (o.1 3 5671) = Int32.toInt (q.1 3 5671)) ∧ (Int32.toInt (o.1 2 32) = Int32.toInt (q.1 2 32)) ∧ (Int32.toInt (o.1 3 32) = Int32.toInt (q.1 3 32)) ∧ (Int32.toInt (o.1 3 5672) = Int32.toInt (q.1 3 5672)) ∧ (Int32.toInt (o.1 0 14) = Int32.toInt (q.1 0 14)) ∧ (o.1 7 = q.1 7) := by
  obtain ⟨⟨r, o⟩, e, h⟩ := ok_was q hT
  have h2 : dFr [12] [22, 23, 24, 25] q o := h.2
  exact ⟨r, o, e, h.1, ⟨congrArg Int32.toInt (h2.2 13 (by decide)), congrArg (fun f : Nat → Int32 => Int32.toInt (f 0)) (h2.1 4 (by decide) (by decide)), congrArg (fun f : Nat → Int32 => Int32.toInt (f 1)) (h2.1 4 (by decide) (by decide)), congrArg (fun f : Nat → Int32 => Int32.toInt (f 31)) (h2.1 2 (by decide) (by decide)), congrArg (fun f : Nat → Int32 => Int32.toInt (f 31)) (h2.1 3 (by decide) (by decide)), congrArg (fun f : Nat → Int32 => Int32.toInt (f 5671)) (h2.1 3 (by decide) (by decide)), congrArg (fun f : Nat → Int32 => Int32.toInt (f 32)) (h2.1 2 (by decide) (by decide)), congrArg (fun f : Nat → Int32 => Int32.toInt (f 32)) (h2.1 3 (by decide) (by decide)), congrArg (fun f : Nat → Int32 => Int32.toInt (f 5672)) (h2.1 3 (by decide) (by decide)), congrArg Int32.toInt (h2.2 14 (by decide)), (h2.1 7 (by decide) (by decide))⟩⟩

theorem lm_look (q : dS) (a1 : Int32) (hT : TS q) : ∃ (r : Int32) (o : dS), zX10_look q a1 = some (r, o) ∧ TS o ∧ (Int32.toInt (o.1 0 13) = Int32.toInt (q.1 0 13)) ∧ (Int32.toInt (o.1 4 0) = Int32.toInt (q.1 4 0)) ∧ (Int32.toInt (o.1 4 1) = Int32.toInt (q.1 4 1)) ∧ (Int32.toInt (o.1 2 31) = Int32.toInt (q.1 2 31)) ∧ (Int32.toInt (o.1 3 31) = Int32.toInt (q.1 3 31)) ∧ (Int32.toInt (o.1 3 5671) = Int32.toInt (q.1 3 5671)) ∧ (Int32.toInt (o.1 2 32) = Int32.toInt (q.1 2 32)) ∧ (Int32.toInt (o.1 3 32) = Int32.toInt (q.1 3 32)) ∧ (Int32.toInt (o.1 3 5672) = Int32.toInt (q.1 3 5672)) ∧ (Int32.toInt (o.1 0 14) = Int32.toInt (q.1 0 14)) ∧ (o.1 7 = q.1 7) := by
  obtain ⟨⟨r, o⟩, e, h⟩ := ok_look q a1 hT
  have h2 : dFr [12, 25] [22, 23, 24, 25] q o := h.2
  exact ⟨r, o, e, h.1, ⟨congrArg Int32.toInt (h2.2 13 (by decide)), congrArg (fun f : Nat → Int32 => Int32.toInt (f 0)) (h2.1 4 (by decide) (by decide)), congrArg (fun f : Nat → Int32 => Int32.toInt (f 1)) (h2.1 4 (by decide) (by decide)), congrArg (fun f : Nat → Int32 => Int32.toInt (f 31)) (h2.1 2 (by decide) (by decide)), congrArg (fun f : Nat → Int32 => Int32.toInt (f 31)) (h2.1 3 (by decide) (by decide)), congrArg (fun f : Nat → Int32 => Int32.toInt (f 5671)) (h2.1 3 (by decide) (by decide)), congrArg (fun f : Nat → Int32 => Int32.toInt (f 32)) (h2.1 2 (by decide) (by decide)), congrArg (fun f : Nat → Int32 => Int32.toInt (f 32)) (h2.1 3 (by decide) (by decide)), congrArg (fun f : Nat → Int32 => Int32.toInt (f 5672)) (h2.1 3 (by decide) (by decide)), congrArg Int32.toInt (h2.2 14 (by decide)), (h2.1 7 (by decide) (by decide))⟩⟩

theorem lm_few (q : dS) (a1 a2 : Int32) (hT : TS q) : ∃ (r : Int64) (o : dS), zX10_few q a1 a2 = some (r, o) ∧ TS o ∧ (Int32.toInt (o.1 0 13) = Int32.toInt (q.1 0 13)) ∧ (Int32.toInt (o.1 4 0) = Int32.toInt (q.1 4 0)) ∧ (Int32.toInt (o.1 4 1) = Int32.toInt (q.1 4 1)) ∧ (Int32.toInt (o.1 2 31) = Int32.toInt (q.1 2 31)) ∧ (Int32.toInt (o.1 3 31) = Int32.toInt (q.1 3 31)) ∧ (Int32.toInt (o.1 3 5671) = Int32.toInt (q.1 3 5671)) ∧ (Int32.toInt (o.1 2 32) = Int32.toInt (q.1 2 32)) ∧ (Int32.toInt (o.1 3 32) = Int32.toInt (q.1 3 32)) ∧ (Int32.toInt (o.1 3 5672) = Int32.toInt (q.1 3 5672)) ∧ (Int32.toInt (o.1 0 14) = Int32.toInt (q.1 0 14)) ∧ (o.1 7 = q.1 7) := by
  obtain ⟨⟨r, o⟩, e, h⟩ := ok_few q a1 a2 hT
  have h2 : dFr [] [] q o := h.2
  exact ⟨r, o, e, h.1, ⟨congrArg Int32.toInt (h2.2 13 (by decide)), congrArg (fun f : Nat → Int32 => Int32.toInt (f 0)) (h2.1 4 (by decide) (by decide)), congrArg (fun f : Nat → Int32 => Int32.toInt (f 1)) (h2.1 4 (by decide) (by decide)), congrArg (fun f : Nat → Int32 => Int32.toInt (f 31)) (h2.1 2 (by decide) (by decide)), congrArg (fun f : Nat → Int32 => Int32.toInt (f 31)) (h2.1 3 (by decide) (by decide)), congrArg (fun f : Nat → Int32 => Int32.toInt (f 5671)) (h2.1 3 (by decide) (by decide)), congrArg (fun f : Nat → Int32 => Int32.toInt (f 32)) (h2.1 2 (by decide) (by decide)), congrArg (fun f : Nat → Int32 => Int32.toInt (f 32)) (h2.1 3 (by decide) (by decide)), congrArg (fun f : Nat → Int32 => Int32.toInt (f 5672)) (h2.1 3 (by decide) (by decide)), congrArg Int32.toInt (h2.2 14 (by decide)), (h2.1 7 (by decide) (by decide))⟩⟩

theorem lm_compare (q : dS) (a1 : Int32) (hT : TS q) : ∃ (r : Int32) (o : dS), zX10_compare q a1 = some (r, o) ∧ TS o ∧ (Int32.toInt (o.1 0 13) = Int32.toInt (q.1 0 13)) ∧ (Int32.toInt (o.1 4 0) = Int32.toInt (q.1 4 0)) ∧ (Int32.toInt (o.1 4 1) = Int32.toInt (q.1 4 1)) ∧ (Int32.toInt (o.1 2 31) = Int32.toInt (q.1 2 31)) ∧ (Int32.toInt (o.1 3 31) = Int32.toInt (q.1 3 31)) ∧ (Int32.toInt (o.1 3 5671) = Int32.toInt (q.1 3 5671)) ∧ (Int32.toInt (o.1 2 32) = Int32.toInt (q.1 2 32)) ∧ (Int32.toInt (o.1 3 32) = Int32.toInt (q.1 3 32)) ∧ (Int32.toInt (o.1 3 5672) = Int32.toInt (q.1 3 5672)) ∧ (Int32.toInt (o.1 0 14) = Int32.toInt (q.1 0 14)) ∧ (o.1 7 = q.1 7) := by
  obtain ⟨⟨r, o⟩, e, h⟩ := ok_compare q a1 hT
  have h2 : dFr [12, 16, 17, 18, 19, 20, 21, 22, 23] [22, 23, 24, 25, 37, 38] q o := h.2
  exact ⟨r, o, e, h.1, ⟨congrArg Int32.toInt (h2.2 13 (by decide)), congrArg (fun f : Nat → Int32 => Int32.toInt (f 0)) (h2.1 4 (by decide) (by decide)), congrArg (fun f : Nat → Int32 => Int32.toInt (f 1)) (h2.1 4 (by decide) (by decide)), congrArg (fun f : Nat → Int32 => Int32.toInt (f 31)) (h2.1 2 (by decide) (by decide)), congrArg (fun f : Nat → Int32 => Int32.toInt (f 31)) (h2.1 3 (by decide) (by decide)), congrArg (fun f : Nat → Int32 => Int32.toInt (f 5671)) (h2.1 3 (by decide) (by decide)), congrArg (fun f : Nat → Int32 => Int32.toInt (f 32)) (h2.1 2 (by decide) (by decide)), congrArg (fun f : Nat → Int32 => Int32.toInt (f 32)) (h2.1 3 (by decide) (by decide)), congrArg (fun f : Nat → Int32 => Int32.toInt (f 5672)) (h2.1 3 (by decide) (by decide)), congrArg Int32.toInt (h2.2 14 (by decide)), (h2.1 7 (by decide) (by decide))⟩⟩

theorem lm_years (q : dS) (a1 a2 : Int32) (hT : TS q) : ∃ (r : Int32) (o : dS), zX10_years q a1 a2 = some (r, o) ∧ TS o ∧ (Int32.toInt (o.1 0 13) = Int32.toInt (q.1 0 13)) ∧ (Int32.toInt (o.1 4 0) = Int32.toInt (q.1 4 0)) ∧ (Int32.toInt (o.1 4 1) = Int32.toInt (q.1 4 1)) ∧ (Int32.toInt (o.1 2 31) = Int32.toInt (q.1 2 31)) ∧ (Int32.toInt (o.1 3 31) = Int32.toInt (q.1 3 31)) ∧ (Int32.toInt (o.1 3 5671) = Int32.toInt (q.1 3 5671)) ∧ (Int32.toInt (o.1 2 32) = Int32.toInt (q.1 2 32)) ∧ (Int32.toInt (o.1 3 32) = Int32.toInt (q.1 3 32)) ∧ (Int32.toInt (o.1 3 5672) = Int32.toInt (q.1 3 5672)) ∧ (Int32.toInt (o.1 0 14) = Int32.toInt (q.1 0 14)) ∧ (o.1 7 = q.1 7) := by
  obtain ⟨⟨r, o⟩, e, h⟩ := ok_years q a1 a2 hT
  have h2 : dFk [1, 2, 5, 12, 13, 27] [0, 22, 23, 24, 25, 54, 55] q o := h.2
  exact ⟨r, o, e, h.1, ⟨congrArg Int32.toInt (h2.1.2 13 (by decide)), congrArg (fun f : Nat → Int32 => Int32.toInt (f 0)) (h2.1.1 4 (by decide) (by decide)), congrArg (fun f : Nat → Int32 => Int32.toInt (f 1)) (h2.1.1 4 (by decide) (by decide)), congrArg Int32.toInt (h2.2 31 (by decide)), congrArg (fun f : Nat → Int32 => Int32.toInt (f 31)) (h2.1.1 3 (by decide) (by decide)), congrArg (fun f : Nat → Int32 => Int32.toInt (f 5671)) (h2.1.1 3 (by decide) (by decide)), congrArg Int32.toInt (h2.2 32 (by decide)), congrArg (fun f : Nat → Int32 => Int32.toInt (f 32)) (h2.1.1 3 (by decide) (by decide)), congrArg (fun f : Nat → Int32 => Int32.toInt (f 5672)) (h2.1.1 3 (by decide) (by decide)), congrArg Int32.toInt (h2.1.2 14 (by decide)), (h2.1.1 7 (by decide) (by decide))⟩⟩

theorem lm_drawn (q : dS) (a1 a2 : Int32) (hT : TS q) : ∃ (r : Int32) (o : dS), zX10_drawn q a1 a2 = some (r, o) ∧ TS o ∧ (Int32.toInt (o.1 0 13) = Int32.toInt (q.1 0 13)) ∧ (Int32.toInt (o.1 4 0) = Int32.toInt (q.1 4 0)) ∧ (Int32.toInt (o.1 4 1) = Int32.toInt (q.1 4 1)) ∧ (Int32.toInt (o.1 2 31) = Int32.toInt (q.1 2 31)) ∧ (Int32.toInt (o.1 3 31) = Int32.toInt (q.1 3 31)) ∧ (Int32.toInt (o.1 3 5671) = Int32.toInt (q.1 3 5671)) ∧ (Int32.toInt (o.1 2 32) = Int32.toInt (q.1 2 32)) ∧ (Int32.toInt (o.1 3 32) = Int32.toInt (q.1 3 32)) ∧ (Int32.toInt (o.1 3 5672) = Int32.toInt (q.1 3 5672)) ∧ (Int32.toInt (o.1 0 14) = Int32.toInt (q.1 0 14)) ∧ (o.1 7 = q.1 7) := by
  obtain ⟨⟨r, o⟩, e, h⟩ := ok_drawn q a1 a2 hT
  have h1 : o = q := h
  subst h1
  exact ⟨r, o, e, hT, ⟨rfl, rfl, rfl, rfl, rfl, rfl, rfl, rfl, rfl, rfl, rfl⟩⟩

theorem lm_image (q : dS) (a1 : Int32) (hT : TS q) : ∃ (r : Int32) (o : dS), zX10_image q a1 = some (r, o) ∧ TS o ∧ (Int32.toInt (o.1 0 13) = Int32.toInt (q.1 0 13)) ∧ (PIm a1 r (Int32.toInt (q.1 4 0)) (Int32.toInt (q.1 4 1)) (Int32.toInt (o.1 4 0)) (Int32.toInt (o.1 4 1)) ∧ PIs a1 (Int32.toInt (q.1 2 31)) (Int32.toInt (q.1 3 31)) (Int32.toInt (q.1 3 5671)) (Int32.toInt (o.1 3 31)) (Int32.toInt (o.1 3 5671)) ∧ PIs a1 (Int32.toInt (q.1 2 32)) (Int32.toInt (q.1 3 32)) (Int32.toInt (q.1 3 5672)) (Int32.toInt (o.1 3 32)) (Int32.toInt (o.1 3 5672))) ∧ (Int32.toInt (o.1 2 31) = Int32.toInt (q.1 2 31)) ∧ (Int32.toInt (o.1 2 32) = Int32.toInt (q.1 2 32)) ∧ (Int32.toInt (o.1 0 14) = Int32.toInt (q.1 0 14)) ∧ (o.1 7 = q.1 7) := by
  obtain ⟨⟨r, o⟩, e, h⟩ := ok_image q a1 hT
  have h2 : dFr [1, 3, 4] [0] q o := h.2
  exact ⟨r, o, e, h.1, ⟨congrArg Int32.toInt (h2.2 13 (by decide)), (by have z9 := dOk_get (ok2_X10_image q a1 hT) e; exact z9), congrArg (fun f : Nat → Int32 => Int32.toInt (f 31)) (h2.1 2 (by decide) (by decide)), congrArg (fun f : Nat → Int32 => Int32.toInt (f 32)) (h2.1 2 (by decide) (by decide)), congrArg Int32.toInt (h2.2 14 (by decide)), (h2.1 7 (by decide) (by decide))⟩⟩

theorem lm_back (q : dS) (a1 : Int32) (hT : TS q) : ∃ (r : Int32) (o : dS), zX10_back q a1 = some (r, o) ∧ TS o ∧ (Int32.toInt (o.1 0 13) = Int32.toInt (q.1 0 13)) ∧ (PBk a1 r (Int32.toInt (q.1 4 0)) (Int32.toInt (q.1 4 1)) ∧ PBs a1 (Int32.toInt (q.1 4 0)) (Int32.toInt (q.1 4 1)) (Int32.toInt (q.1 2 31)) (Int32.toInt (q.1 3 31)) (Int32.toInt (q.1 3 5671)) (Int32.toInt (o.1 2 31)) ∧ PBs a1 (Int32.toInt (q.1 4 0)) (Int32.toInt (q.1 4 1)) (Int32.toInt (q.1 2 32)) (Int32.toInt (q.1 3 32)) (Int32.toInt (q.1 3 5672)) (Int32.toInt (o.1 2 32))) ∧ (Int32.toInt (o.1 4 0) = Int32.toInt (q.1 4 0)) ∧ (Int32.toInt (o.1 4 1) = Int32.toInt (q.1 4 1)) ∧ (Int32.toInt (o.1 3 31) = Int32.toInt (q.1 3 31)) ∧ (Int32.toInt (o.1 3 5671) = Int32.toInt (q.1 3 5671)) ∧ (Int32.toInt (o.1 3 32) = Int32.toInt (q.1 3 32)) ∧ (Int32.toInt (o.1 3 5672) = Int32.toInt (q.1 3 5672)) ∧ (Int32.toInt (o.1 0 14) = Int32.toInt (q.1 0 14)) ∧ (o.1 7 = q.1 7) := by
  obtain ⟨⟨r, o⟩, e, h⟩ := ok_back q a1 hT
  have h2 : dFr [1, 2] [0, 32] q o := h.2
  exact ⟨r, o, e, h.1, ⟨congrArg Int32.toInt (h2.2 13 (by decide)), (by have z9 := dOk_get (ok2_X10_back q a1 hT) e; exact z9), congrArg (fun f : Nat → Int32 => Int32.toInt (f 0)) (h2.1 4 (by decide) (by decide)), congrArg (fun f : Nat → Int32 => Int32.toInt (f 1)) (h2.1 4 (by decide) (by decide)), congrArg (fun f : Nat → Int32 => Int32.toInt (f 31)) (h2.1 3 (by decide) (by decide)), congrArg (fun f : Nat → Int32 => Int32.toInt (f 5671)) (h2.1 3 (by decide) (by decide)), congrArg (fun f : Nat → Int32 => Int32.toInt (f 32)) (h2.1 3 (by decide) (by decide)), congrArg (fun f : Nat → Int32 => Int32.toInt (f 5672)) (h2.1 3 (by decide) (by decide)), congrArg Int32.toInt (h2.2 14 (by decide)), (h2.1 7 (by decide) (by decide))⟩⟩

theorem lm_count (q : dS) (a1 : Int32) (hT : TS q) : ∃ (r : Int32) (o : dS), zX10_count q a1 = some (r, o) ∧ TS o ∧ (Int32.toInt (o.1 0 13) = Int32.toInt (q.1 0 13)) ∧ (Int32.toInt (o.1 4 0) = Int32.toInt (q.1 4 0)) ∧ (Int32.toInt (o.1 4 1) = Int32.toInt (q.1 4 1)) ∧ (Int32.toInt (o.1 2 31) = Int32.toInt (q.1 2 31)) ∧ (Int32.toInt (o.1 3 31) = Int32.toInt (q.1 3 31)) ∧ (Int32.toInt (o.1 3 5671) = Int32.toInt (q.1 3 5671)) ∧ (Int32.toInt (o.1 2 32) = Int32.toInt (q.1 2 32)) ∧ (Int32.toInt (o.1 3 32) = Int32.toInt (q.1 3 32)) ∧ (Int32.toInt (o.1 3 5672) = Int32.toInt (q.1 3 5672)) ∧ (Int32.toInt (o.1 0 14) = Int32.toInt (q.1 0 14)) ∧ (o.1 7 = q.1 7) := by
  obtain ⟨⟨r, o⟩, e, h⟩ := ok_count q a1 hT
  have h1 : o = q := h
  subst h1
  exact ⟨r, o, e, hT, ⟨rfl, rfl, rfl, rfl, rfl, rfl, rfl, rfl, rfl, rfl, rfl⟩⟩

theorem lm_status (q : dS) (hT : TS q) : ∃ (r : Int32) (o : dS), zX10_status q = some (r, o) ∧ TS o ∧ (Int32.toInt (o.1 0 13) = Int32.toInt (q.1 0 13)) ∧ (Int32.toInt (o.1 4 0) = Int32.toInt (q.1 4 0)) ∧ (Int32.toInt (o.1 4 1) = Int32.toInt (q.1 4 1)) ∧ (Int32.toInt (o.1 2 31) = Int32.toInt (q.1 2 31)) ∧ (Int32.toInt (o.1 3 31) = Int32.toInt (q.1 3 31)) ∧ (Int32.toInt (o.1 3 5671) = Int32.toInt (q.1 3 5671)) ∧ (Int32.toInt (o.1 2 32) = Int32.toInt (q.1 2 32)) ∧ (Int32.toInt (o.1 3 32) = Int32.toInt (q.1 3 32)) ∧ (Int32.toInt (o.1 3 5672) = Int32.toInt (q.1 3 5672)) ∧ (Int32.toInt (o.1 0 14) = Int32.toInt (q.1 0 14)) ∧ (o.1 7 = q.1 7) := by
  obtain ⟨⟨r, o⟩, e, h⟩ := ok_status q hT
  have h1 : o = q := h
  subst h1
  exact ⟨r, o, e, hT, ⟨rfl, rfl, rfl, rfl, rfl, rfl, rfl, rfl, rfl, rfl, rfl⟩⟩
