/-! calls over the first part of a world in two parts -/
theorem sp_C (wc wr : va_W) : (List.range wc.length).map (fun i => (wc ++ wr)[i]?) = wc.map some := by
  rw [← dw_rng wc]
  apply List.map_congr_left
  intro i hi
  exact List.getElem?_append_left (List.mem_range.mp hi)
theorem sp_R (wc wr : va_W) : ((List.range wr.length).map (fun i => wc.length + i)).map (fun i => (wc ++ wr)[i]?) = wr.map some := by
  rw [List.map_map, ← dw_rng wr]
  apply List.map_congr_left
  intro i _
  show (wc ++ wr)[wc.length + i]? = wr[i]?
  rw [List.getElem?_append_right (Nat.le_add_right _ _), Nat.add_sub_cancel_left]
theorem sp_n (n k : Nat) : va_nd ((List.range k).map (fun i => n + i)) = true := by
  apply dw_nd_of
  rw [List.pairwise_map]
  exact List.pairwise_lt_range.imp (fun h => Nat.add_lt_add_left h n)
theorem sp_d (n k : Nat) : ∀ i ∈ (List.range k).map (fun i => n + i), i ∉ List.range n := by
  intro i hi
  obtain ⟨j, _, rfl⟩ := List.mem_map.mp hi
  intro h
  exact absurd (List.mem_range.mp h) (by omega)
section SP
variable {p : Program} {l : Launch} {e : Env} {R : Room} {s : State} {m : MethodId} {args : Array Value} {below : List Frame} {meth : Method} {c : Code} {H : Heap} {locs : List Loc} {cells slots : Nat} {Q : State → Prop}
variable {pc : Nat} {ls : Array Slot} {rest st0 : List Value} {a : Array Value} {A0 : Nat → Prop} {H0 : Heap} {mc ms : Nat} {D : va_G} {ty : Nat → ClassId} {wc wr : va_W}
theorem sp_ki {post : Int32 → va_W → Prop} (hr : va_Run p l e R s m args below meth c H locs cells slots mc ms (F0 m pc ls st0) rest (va_Qi post (kz_B D ty (va_A wc H.size)) (va_A wc H.size) a) (va_A wc H.size)) (hP : va_P D vwCl (wc ++ wr) H) (hD : va_D A0 (wc ++ wr)) (hS : va_S A0 H0 H locs) (hA : ∀ q, H0.size ≤ q → A0 q)
    (kk : ∀ (r : Int32) (u : va_W) (H1 : Heap) (locs1 : List Loc), post r u → va_P D vwCl (wr ++ u) H1 → va_D A0 (wr ++ u) → va_S A0 H0 H1 locs1 → W p l e R s m args below meth c H1 locs1 (cells + mc) (slots + ms) Q (F0 m (pc + 3) ls (.int r :: rest))) : W p l e R s m args below meth c H locs cells slots Q (F0 m pc ls st0) :=
  kz_ki hr hP hD hS hA _ _ (sp_C wc wr) (sp_R wc wr) (sp_n _ _) (sp_d _ _) kk
theorem sp_kl {post : Int64 → va_W → Prop} (hr : va_Run p l e R s m args below meth c H locs cells slots mc ms (F0 m pc ls st0) rest (va_Ql post (kz_B D ty (va_A wc H.size)) (va_A wc H.size) a) (va_A wc H.size)) (hP : va_P D vwCl (wc ++ wr) H) (hD : va_D A0 (wc ++ wr)) (hS : va_S A0 H0 H locs) (hA : ∀ q, H0.size ≤ q → A0 q)
    (kk : ∀ (r : Int64) (u : va_W) (H1 : Heap) (locs1 : List Loc), post r u → va_P D vwCl (wr ++ u) H1 → va_D A0 (wr ++ u) → va_S A0 H0 H1 locs1 → W p l e R s m args below meth c H1 locs1 (cells + mc) (slots + ms) Q (F0 m (pc + 3) ls (.long r :: rest))) : W p l e R s m args below meth c H locs cells slots Q (F0 m pc ls st0) :=
  kz_kl hr hP hD hS hA _ _ (sp_C wc wr) (sp_R wc wr) (sp_n _ _) (sp_d _ _) kk
theorem sp_pv {A : Nat → Prop} {eo : Nat → Nat} {b ci : Nat} {fs As : List Value} {r : vw_C} (hK : va_K D vwCl (kzT ty) s) (hN : kz_N s) (hE : kz_E eo A s s.heap) (hP : va_P D vwCl (wc ++ wr) H) (hD : va_D A (wc ++ wr)) (hS : va_S A s.heap H locs) (hA : ∀ q, s.heap.size ≤ q → A q) (hc : vwCl[ci]? = some r) (he : wc[0]? = some (b, .inr (ci, fs))) : PreV s H r.1 b (va_Pc (.ref b :: As) (kz_pre D ty eo wc H.size)) As := by
  have hl : 0 < wc.length := (List.getElem?_eq_some_iff.mp he).1
  exact kz_preV (q0 := 0) hK hN hE hP hD hS hA hc (by rw [List.getElem?_append_left hl]; exact he) _ (dw_nd _) (sp_C wc wr)
end SP
/-! the law's invariant -/
/-- how often the paper's room can still grow -/
def lw_lv (x : Int) : Nat := (if x < 1 then 1 else 0) + (if x < 2 then 1 else 0) + (if x < 8 then 1 else 0) + (if x < 48 then 1 else 0) + (if x < 384 then 1 else 0) + (if x < 3840 then 1 else 0) + (if x < 46080 then 1 else 0)
theorem lw_ln {q : dK} (h : TC q) : Int32.toInt (q.1 32 103) = 0 ∨ Int32.toInt (q.1 32 103) = 1 ∨ Int32.toInt (q.1 32 103) = 2 ∨ Int32.toInt (q.1 32 103) = 8 ∨ Int32.toInt (q.1 32 103) = 48 ∨ Int32.toInt (q.1 32 103) = 384 ∨ Int32.toInt (q.1 32 103) = 3840 ∨ Int32.toInt (q.1 32 103) = 46080 := by
  rcases h.2.2.1 with hz | ⟨f, hf, _, _, _, k3, _, _, _⟩
  · left
    rw [hz.1]; decide
  · rw [k3]
    have hv : ∀ f : Nat, f < 7 → facI f * powI f = 0 ∨ facI f * powI f = 1 ∨ facI f * powI f = 2 ∨ facI f * powI f = 8 ∨ facI f * powI f = 48 ∨ facI f * powI f = 384 ∨ facI f * powI f = 3840 ∨ facI f * powI f = 46080 := by decide +kernel
    exact hv f (by omega)
theorem lw_dec {q o : dK} (h : TC q) (h2 : TC o) (hlt : Int32.toInt (q.1 32 103) < Int32.toInt (o.1 32 103)) : lw_lv (Int32.toInt (o.1 32 103)) + 1 ≤ lw_lv (Int32.toInt (q.1 32 103)) := by
  have a := lw_ln h
  have b := lw_ln h2
  generalize Int32.toInt (q.1 32 103) = x at a hlt ⊢
  generalize Int32.toInt (o.1 32 103) = y at b hlt ⊢
  rcases a with e | e | e | e | e | e | e | e <;> subst e <;> rcases b with e | e | e | e | e | e | e | e <;> subst e <;> first | (exfalso; omega) | decide
/-- what a call of the class leaves, and pays -/
def lw_X (q o : dK) (mc ms : Nat) : Prop := TC o ∧ o.2.2.length ≤ q.2.2.length + 1 ∧ mc ≤ 7 ∧ ms + 189744 * lw_lv (Int32.toInt (o.1 32 103)) ≤ 476 + 189744 * lw_lv (Int32.toInt (q.1 32 103))
theorem lx_rf {q : dK} (hT : TC q) : lw_X q q 0 0 := ⟨hT, Nat.le_succ _, Nat.zero_le _, by omega⟩
theorem lx_fr {S : List Nat} {F : List (Nat × Nat)} {q o : dK} (hT : TC o) (hF : cFr S F q o) (hd : (!S.contains 32 && !F.contains (32, 103)) = true) : lw_X q o 0 0 := by
  simp only [Bool.and_eq_true, Bool.not_eq_true', List.contains_eq_mem, decide_eq_false_iff_not] at hd
  refine ⟨hT, by rw [hF.2]; exact Nat.le_succ _, Nat.zero_le _, ?_⟩
  rw [hF.1 32 103 hd.1 hd.2]; omega
theorem lx_ps {nc ns : Nat} {q o : dK} (hT : TC q) (h : PS nc ns q o) : lw_X q o nc ns := by
  obtain ⟨h1, h2, h3, h4⟩ := h
  refine ⟨h1, by rw [h3]; exact Nat.le_succ _, ?_, ?_⟩
  · rcases h4 with ⟨rfl, _, _⟩ | ⟨rfl, _, _⟩ <;> omega
  · rcases h4 with ⟨_, rfl, e⟩ | ⟨_, rfl, e⟩
    · rw [e]; omega
    · have := lw_dec hT h1 e
      omega
/-- how the two sides stand to each other -/
def lw_R (q : dK) (q2 : dS) : Prop := ltY q q2 ∧ Int32.toInt (q.1 0 12) = Int32.toInt (q2.1 0 13) ∧ RG q q2
/-- i calls are done -/
def lw_J (q : dK) (q2 : dS) (i cells slots : Nat) : Prop := TC q ∧ TS q2 ∧ lw_R q q2 ∧ q.2.2.length ≤ i ∧ cells ≤ 91 + 7 * i ∧ slots + 189744 * lw_lv (Int32.toInt (q.1 32 103)) ≤ 1545109 + 476 * i
theorem lw_step {q o : dK} {q2 o2 : dS} {i cells slots mc ms : Nat} (J : lw_J q q2 i cells slots) (X : lw_X q o mc ms) (h2 : TS o2) (h : lw_R o o2) : lw_J o o2 (i + 1) (cells + mc + 0) (slots + ms + 0) := by
  obtain ⟨_, _, _, j4, j5, j6⟩ := J
  obtain ⟨x1, x2, x3, x4⟩ := X
  exact ⟨x1, h2, h, by omega, by omega, by omega⟩
theorem lw_room {q o : dK} {q2 : dS} {i cells slots mc ms : Nat} (J : lw_J q q2 i cells slots) (X : lw_X q o mc ms) (hi : i ≤ 63) : cells + mc ≤ 600000 ∧ slots + ms ≤ 7302250 := by
  obtain ⟨_, _, _, j4, j5, j6⟩ := J
  obtain ⟨x1, x2, x3, x4⟩ := X
  exact ⟨by omega, by omega⟩

theorem lx_floor (q : dK) (a1 a2 : Int32) (hT : TC q) : ∃ (r : Int32) (o : dK), zX9_floor_s0 q a1 a2 = some (r, o) ∧ lw_X q o 0 0 ∧ (Int32.toInt (o.1 0 12) = Int32.toInt (q.1 0 12)) ∧ (o.1 46 = q.1 46) := by
  obtain ⟨⟨r, o⟩, e, h⟩ := ok_X9_floor_s0 q a1 a2 hT
  have h1 : TC o := h.1
  have h2 : cFr [3, 4, 48] [(0, 18), (2, 2), (10, 2)] q o := h.2
  exact ⟨r, o, e, lx_fr h1 h2 rfl, ⟨congrArg Int32.toInt (h2.1 0 12 (by decide) (by decide)), (h2.row 46 (by decide) (by decide))⟩⟩

theorem lx_at (q : dK) (a1 a2 : Int32) (hT : TC q) : ∃ (r : Int32) (o : dK), zX9_at_s0 q a1 a2 = some (r, o) ∧ lw_X q o 0 0 ∧ (Int32.toInt (o.1 0 12) = Int32.toInt (q.1 0 12)) ∧ (o.1 46 = q.1 46) := by
  obtain ⟨⟨r, o⟩, e, h⟩ := ok_X9_at_s0 q a1 a2 hT
  have h1 : TC o := h.1
  have h2 : cFr [19, 21] [(18, 1), (20, 2)] q o := h.2
  exact ⟨r, o, e, lx_fr h1 h2 rfl, ⟨congrArg Int32.toInt (h2.1 0 12 (by decide) (by decide)), (h2.row 46 (by decide) (by decide))⟩⟩

theorem lx_asks (q : dK) (a1 a2 : Int32) (hT : TC q) : ∃ (r : Int32) (o : dK), zX9_asks_s0 q a1 a2 = some (r, o) ∧ lw_X q o 0 0 ∧ (Int32.toInt (o.1 0 12) = Int32.toInt (q.1 0 12)) ∧ (o.1 46 = q.1 46) := by
  obtain ⟨⟨r, o⟩, e, h⟩ := ok_X9_asks_s0 q a1 a2 hT
  have h1 : TC o := h.1
  have h2 : cFr [19, 21] [(18, 1), (20, 2)] q o := h.2
  exact ⟨r, o, e, lx_fr h1 h2 rfl, ⟨congrArg Int32.toInt (h2.1 0 12 (by decide) (by decide)), (h2.row 46 (by decide) (by decide))⟩⟩

theorem lx_terms (q : dK) (a1 a2 : Int32) (hT : TC q) : ∃ (r : Int32) (o : dK), zX9_terms_s0 q a1 a2 = some (r, o) ∧ lw_X q o 0 0 ∧ (Int32.toInt (o.1 0 12) = Int32.toInt (q.1 0 12)) ∧ (o.1 46 = q.1 46) := by
  obtain ⟨⟨r, o⟩, e, h⟩ := ok_X9_terms_s0 q a1 a2 hT
  have h1 : TC o := h.1
  have h2 : cFr [48] [(0, 18), (1, 1), (1, 2), (1, 3), (2, 4), (10, 2)] q o := h.2.1
  exact ⟨r, o, e, lx_fr h1 h2 rfl, ⟨congrArg Int32.toInt (h2.1 0 12 (by decide) (by decide)), (h2.row 46 (by decide) (by decide))⟩⟩

theorem lx_feed (q : dK) (a1 a2 a3 a4 a5 : Int32) (hT : TC q) : ∃ (r : Int32) (o : dK), zX9_feed_s0 q a1 a2 a3 a4 a5 = some (r, o) ∧ lw_X q o 0 0 ∧ ((Int32.toInt (q.1 0 12) ≤ 380 ∧ Int32.toInt (o.1 0 12) = Int32.toInt (q.1 0 12) + 20) ∨ (380 < Int32.toInt (q.1 0 12) ∧ Int32.toInt (o.1 0 12) = Int32.toInt (q.1 0 12))) := by
  obtain ⟨⟨r, o⟩, e, h⟩ := ok_X9_feed_s0 q a1 a2 a3 a4 a5 hT
  have h1 : TC o := h.1
  have h2 : cFr [46] [(0, 12)] q o := h.2.1
  have h3 := h.2.2
  replace h3 : (Int32.toInt (q.1 0 12) ≤ 380 ∧ Int32.toInt (o.1 0 12) = Int32.toInt (q.1 0 12) + 20 ∧ Int32.toInt r = Int32.toInt (o.1 0 12)) ∨ (380 < Int32.toInt (q.1 0 12) ∧ Int32.toInt (o.1 0 12) = Int32.toInt (q.1 0 12) ∧ Int32.toInt r = -1) := h3
  exact ⟨r, o, e, lx_fr h1 h2 rfl, by rcases h3 with h3 | h3 <;> omega⟩

theorem lx_end (q : dK) (a1 : Int32) (hT : TC q) : ∃ (r : Int32) (o : dK), zX9_end_s0 q a1 = some (r, o) ∧ lw_X q o 0 0 ∧ ((0 ≤ Int32.toInt a1 ∧ Int32.toInt a1 ≤ Int32.toInt (q.1 0 12) ∧ Int32.toInt (o.1 0 12) = Int32.toInt a1 ∧ Int32.toInt r = Int32.toInt a1) ∨ ((Int32.toInt a1 < 0 ∨ Int32.toInt (q.1 0 12) < Int32.toInt a1) ∧ Int32.toInt (o.1 0 12) = Int32.toInt (q.1 0 12) ∧ Int32.toInt r = -1)) ∧ (o.1 46 = q.1 46) := by
  obtain ⟨⟨r, o⟩, e, h⟩ := ok_X9_end_s0 q a1 hT
  have h1 : TC o := h.1
  have h2 : cFr [] [(0, 12)] q o := h.2.1
  have h3 := h.2.2
  replace h3 : (0 ≤ Int32.toInt a1 ∧ Int32.toInt a1 ≤ Int32.toInt (q.1 0 12) ∧ Int32.toInt (o.1 0 12) = Int32.toInt a1 ∧ Int32.toInt r = Int32.toInt a1) ∨ ((Int32.toInt a1 < 0 ∨ Int32.toInt (q.1 0 12) < Int32.toInt a1) ∧ Int32.toInt (o.1 0 12) = Int32.toInt (q.1 0 12) ∧ Int32.toInt r = -1) := h3
  exact ⟨r, o, e, lx_fr h1 h2 rfl, ⟨h3, (h2.row 46 (by decide) (by decide))⟩⟩

theorem lx_row (q : dK) (hT : TC q) : ∃ (r : Int32) (o : dK), zX9_row_s0 q = some (r, o) ∧ lw_X q o 0 0 ∧ (Int32.toInt (o.1 0 12) = 0) := by
  obtain ⟨⟨r, o⟩, e, h⟩ := ok_X9_row_s0 q hT
  have h1 : TC o := h.1
  have h2 : cFr [3, 4, 48] [(0, 12), (0, 14), (0, 18), (2, 2), (10, 2)] q o := h.2.1
  have h3 := h.2.2
  replace h3 : Int32.toInt (o.1 0 12) = 0 := h3
  exact ⟨r, o, e, lx_fr h1 h2 rfl, h3⟩

theorem lx_bricks (q : dK) (hT : TC q) : ∃ (r : Int32) (o : dK), zX9_bricks_s0 q = some (r, o) ∧ lw_X q o 0 0 ∧ (Int32.toInt (o.1 0 12) = Int32.toInt (q.1 0 12)) ∧ (o.1 46 = q.1 46) := by
  obtain ⟨⟨r, o⟩, e, h⟩ := ok_X9_bricks_s0 q hT
  have h1 : o = q := h
  subst h1
  exact ⟨r, o, e, lx_rf hT, ⟨rfl, rfl⟩⟩

theorem lx_law (q : dK) (hT : TC q) (hL : q.2.2.length < 1000) : ∃ (r : Int32) (o : dK), zX9_law_s0 468 q = some (r, o) ∧ lw_X q o 7 468 ∧ (Int32.toInt (o.1 0 12) = 0) := by
  obtain ⟨⟨r, o⟩, e, h1, h2, h3, h4, h5⟩ := ok_X9_law_s0 468 q hT (Nat.le_refl _) hL
  replace h1 : TC o := h1
  replace h2 : o.1 0 12 = 0 := h2
  replace h3 : o.1 32 103 = q.1 32 103 := h3
  replace h5 : KL q o := h5
  exact ⟨r, o, e, ⟨h1, h4, Nat.le_refl _, by rw [h3]; omega⟩, by rw [h2]; decide⟩

theorem lx_orders (q : dK) (hT : TC q) : ∃ (r : Int32) (o : dK), zX9_orders_s0 q = some (r, o) ∧ lw_X q o 0 0 ∧ (Int32.toInt (o.1 0 12) = 0) := by
  obtain ⟨⟨r, o⟩, e, h⟩ := ok_X9_orders_s0 q hT
  have h1 : TC o := h.1
  have h2 : cFr [3, 4, 12, 14, 19, 21, 23, 26, 27, 28, 29, 30, 31, 48] [(0, 12), (0, 13), (0, 15), (0, 18), (2, 2), (2, 3), (2, 4), (10, 2), (10, 5), (18, 1), (20, 2), (22, 2), (22, 3), (24, 0), (24, 1), (24, 2), (24, 3), (24, 4), (24, 5), (24, 6), (24, 7), (24, 8), (24, 9), (24, 10), (25, 6), (25, 7)] q o := h.2.1
  have h3 := h.2.2
  replace h3 : Int32.toInt (o.1 0 12) = 0 := h3
  exact ⟨r, o, e, lx_fr h1 h2 rfl, h3⟩

theorem lx_fault (q : dK) (hT : TC q) : ∃ (r : Int32) (o : dK), zX9_fault_s0 q = some (r, o) ∧ lw_X q o 0 0 ∧ (Int32.toInt (o.1 0 12) = Int32.toInt (q.1 0 12)) ∧ (o.1 46 = q.1 46) := by
  obtain ⟨⟨r, o⟩, e, h⟩ := ok_X9_fault_s0 q hT
  have h1 : o = q := h
  subst h1
  exact ⟨r, o, e, lx_rf hT, ⟨rfl, rfl⟩⟩

theorem lx_stopped (q : dK) (hT : TC q) : ∃ (r : Int32) (o : dK), zX9_stopped_s0 q = some (r, o) ∧ lw_X q o 0 0 ∧ (Int32.toInt (o.1 0 12) = Int32.toInt (q.1 0 12)) ∧ (o.1 46 = q.1 46) := by
  obtain ⟨⟨r, o⟩, e, h⟩ := ok_X9_stopped_s0 q hT
  have h1 : o = q := h
  subst h1
  exact ⟨r, o, e, lx_rf hT, ⟨rfl, rfl⟩⟩

theorem lx_force (q : dK) (a1 : Int32) (hT : TC q) : ∃ (r : Int32) (o : dK), zX9_force_s0 q a1 = some (r, o) ∧ lw_X q o 0 0 ∧ (Int32.toInt (o.1 0 12) = Int32.toInt (q.1 0 12)) ∧ (o.1 46 = q.1 46) := by
  obtain ⟨⟨r, o⟩, e, h⟩ := ok_X9_force_s0 q a1 hT
  have h1 : TC o := h.1
  have h2 : cFr [48] [(0, 18), (1, 9)] q o := h.2
  exact ⟨r, o, e, lx_fr h1 h2 rfl, ⟨congrArg Int32.toInt (h2.1 0 12 (by decide) (by decide)), (h2.row 46 (by decide) (by decide))⟩⟩

theorem lx_turn (q : dK) (a1 : Int32) (hT : TC q) : ∃ (r : Int32) (o : dK), zX9_turn_s0 q a1 = some (r, o) ∧ lw_X q o 0 0 ∧ (Int32.toInt (o.1 0 12) = Int32.toInt (q.1 0 12)) ∧ (o.1 46 = q.1 46) := by
  obtain ⟨⟨r, o⟩, e, h⟩ := ok_X9_turn_s0 q a1 hT
  have h1 : TC o := h.1
  have h2 : cFr [3, 4, 12, 19, 21, 48] [(0, 18), (2, 3), (2, 4), (10, 2), (18, 1), (20, 2)] q o := h.2
  exact ⟨r, o, e, lx_fr h1 h2 rfl, ⟨congrArg Int32.toInt (h2.1 0 12 (by decide) (by decide)), (h2.row 46 (by decide) (by decide))⟩⟩

theorem lx_right (q : dK) (a1 : Int32) (hT : TC q) : ∃ (r : Int32) (o : dK), zX9_right_s0 q a1 = some (r, o) ∧ lw_X q o 0 0 ∧ (Int32.toInt (o.1 0 12) = Int32.toInt (q.1 0 12)) ∧ (o.1 46 = q.1 46) := by
  obtain ⟨⟨r, o⟩, e, h⟩ := ok_X9_right_s0 q a1 hT
  have h1 : TC o := h.1
  have h2 : cFr [3, 4, 12, 19, 21, 48] [(0, 18), (2, 3), (2, 4), (10, 2), (18, 1), (20, 2)] q o := h.2
  exact ⟨r, o, e, lx_fr h1 h2 rfl, ⟨congrArg Int32.toInt (h2.1 0 12 (by decide) (by decide)), (h2.row 46 (by decide) (by decide))⟩⟩

theorem lx_swap (q : dK) (a1 : Int32) (hT : TC q) : ∃ (r : Int32) (o : dK), zX9_swap_s0 q a1 = some (r, o) ∧ lw_X q o 0 0 ∧ (Int32.toInt (o.1 0 12) = Int32.toInt (q.1 0 12)) ∧ (o.1 46 = q.1 46) := by
  obtain ⟨⟨r, o⟩, e, h⟩ := ok_X9_swap_s0 q a1 hT
  have h1 : TC o := h.1
  have h2 : cFr [3, 4, 12, 19, 21, 48] [(0, 18), (2, 3), (2, 4), (10, 2), (18, 1), (20, 2)] q o := h.2
  exact ⟨r, o, e, lx_fr h1 h2 rfl, ⟨congrArg Int32.toInt (h2.1 0 12 (by decide) (by decide)), (h2.row 46 (by decide) (by decide))⟩⟩

theorem lx_pass (q : dK) (hT : TC q) : ∃ (r : Int32) (o : dK), zX9_pass_s0 q = some (r, o) ∧ lw_X q o 0 0 ∧ (Int32.toInt (o.1 0 12) = Int32.toInt (q.1 0 12)) ∧ (o.1 46 = q.1 46) := by
  obtain ⟨⟨r, o⟩, e, h⟩ := ok_X9_pass_s0 q hT
  have h1 : TC o := h.1
  have h2 : cFr [3, 4, 12, 19, 21, 48] [(0, 18), (2, 3), (2, 4), (10, 2), (18, 1), (20, 2)] q o := h.2
  exact ⟨r, o, e, lx_fr h1 h2 rfl, ⟨congrArg Int32.toInt (h2.1 0 12 (by decide) (by decide)), (h2.row 46 (by decide) (by decide))⟩⟩

theorem lx_undo (q : dK) (hT : TC q) : ∃ (r : Int32) (o : dK), zX9_undo_s0 q = some (r, o) ∧ lw_X q o 0 0 ∧ (Int32.toInt (o.1 0 12) = Int32.toInt (q.1 0 12)) ∧ (o.1 46 = q.1 46) := by
  obtain ⟨⟨r, o⟩, e, h⟩ := ok_X9_undo_s0 q hT
  have h1 : TC o := h.1
  have h2 : cFr [3, 4, 48] [(0, 18), (2, 2), (2, 3), (2, 4), (10, 2)] q o := h.2
  exact ⟨r, o, e, lx_fr h1 h2 rfl, ⟨congrArg Int32.toInt (h2.1 0 12 (by decide) (by decide)), (h2.row 46 (by decide) (by decide))⟩⟩

theorem lx_fewest (q : dK) (a1 : Int32) (hT : TC q) : ∃ (nc ns : Nat) (r : Int32) (o : dK), zX9_fewest_s0 nc ns q a1 = some (r, o) ∧ lw_X q o nc ns ∧ (Int32.toInt (o.1 0 12) = Int32.toInt (q.1 0 12)) ∧ (FRc q o) ∧ (o.1 46 = q.1 46) := by
  obtain ⟨nc, ns, ⟨r, o⟩, e, h⟩ := su_X9_fewest q a1 hT
  have h2 : KP q o := h.2.1
  exact ⟨nc, ns, r, o, e, lx_ps hT h, ⟨congrArg Int32.toInt (h2 0 12 (by decide)), (FRc.kp h2 h.2.2.1 (lo_zX9_fewest_s0 _ _ nc ns q a1 ⟨rfl, rfl⟩ (r, o) e)), (kpj_row h2)⟩⟩

theorem lx_many (q : dK) (hT : TC q) : ∃ (nc ns : Nat) (r : Int32) (o : dK), zX9_many_s0 nc ns q = some (r, o) ∧ lw_X q o nc ns ∧ (Int32.toInt (o.1 0 12) = Int32.toInt (q.1 0 12)) ∧ (FRc q o) ∧ (o.1 46 = q.1 46) := by
  obtain ⟨nc, ns, ⟨r, o⟩, e, h⟩ := su_X9_many q hT
  have h2 : KP q o := h.2.1
  exact ⟨nc, ns, r, o, e, lx_ps hT h, ⟨congrArg Int32.toInt (h2 0 12 (by decide)), (FRc.kp h2 h.2.2.1 (lo_zX9_many_s0 _ _ nc ns q ⟨rfl, rfl⟩ (r, o) e)), (kpj_row h2)⟩⟩

theorem lx_cheapest (q : dK) (hT : TC q) : ∃ (nc ns : Nat) (r : Int32) (o : dK), zX9_cheapest_s0 nc ns q = some (r, o) ∧ lw_X q o nc ns ∧ (Int32.toInt (o.1 0 12) = Int32.toInt (q.1 0 12)) ∧ (FRc q o) ∧ (o.1 46 = q.1 46) := by
  obtain ⟨nc, ns, ⟨r, o⟩, e, h⟩ := su_X9_cheapest q hT
  have h2 : KP q o := h.2.1
  exact ⟨nc, ns, r, o, e, lx_ps hT h, ⟨congrArg Int32.toInt (h2 0 12 (by decide)), (FRc.kp h2 h.2.2.1 (lo_zX9_cheapest_s0 _ _ nc ns q ⟨rfl, rfl⟩ (r, o) e)), (kpj_row h2)⟩⟩

theorem lx_worst (q : dK) (a1 : Int32) (hT : TC q) : ∃ (nc ns : Nat) (r : Int32) (o : dK), zX9_worst_s0 nc ns q a1 = some (r, o) ∧ lw_X q o nc ns ∧ (Int32.toInt (o.1 0 12) = Int32.toInt (q.1 0 12)) ∧ (FRc q o) ∧ (o.1 46 = q.1 46) := by
  obtain ⟨nc, ns, ⟨r, o⟩, e, h⟩ := su_X9_worst q a1 hT
  have h2 : KP q o := h.2.1
  exact ⟨nc, ns, r, o, e, lx_ps hT h, ⟨congrArg Int32.toInt (h2 0 12 (by decide)), (FRc.kp h2 h.2.2.1 (lo_zX9_worst_s0 _ _ nc ns q a1 ⟨rfl, rfl⟩ (r, o) e)), (kpj_row h2)⟩⟩

theorem lx_reach (q : dK) (hT : TC q) : ∃ (nc ns : Nat) (r : Int32) (o : dK), zX9_reach_s0 nc ns q = some (r, o) ∧ lw_X q o nc ns ∧ (Int32.toInt (o.1 0 12) = Int32.toInt (q.1 0 12)) ∧ (FRc q o) ∧ (o.1 46 = q.1 46) := by
  obtain ⟨nc, ns, ⟨r, o⟩, e, h⟩ := su_X9_reach q hT
  have h2 : KP q o := h.2.1
  exact ⟨nc, ns, r, o, e, lx_ps hT h, ⟨congrArg Int32.toInt (h2 0 12 (by decide)), (FRc.kp h2 h.2.2.1 (lo_zX9_reach_s0 _ _ nc ns q ⟨rfl, rfl⟩ (r, o) e)), (kpj_row h2)⟩⟩

theorem lx_gaps (q : dK) (hT : TC q) : ∃ (r : Int32) (o : dK), zX9_gaps_s0 q = some (r, o) ∧ lw_X q o 0 0 ∧ (Int32.toInt (o.1 0 12) = Int32.toInt (q.1 0 12)) ∧ (o.1 46 = q.1 46) := by
  obtain ⟨⟨r, o⟩, e, h⟩ := ok_X9_gaps_s0 q hT
  have h1 : o = q := h
  subst h1
  exact ⟨r, o, e, lx_rf hT, ⟨rfl, rfl⟩⟩

theorem lx_comes (q : dK) (a1 : Int32) (hT : TC q) : ∃ (nc ns : Nat) (r : Int32) (o : dK), zX9_comes_s0 nc ns q a1 = some (r, o) ∧ lw_X q o nc ns ∧ (Int32.toInt (o.1 0 12) = Int32.toInt (q.1 0 12)) ∧ (FRc q o) ∧ (o.1 46 = q.1 46) := by
  obtain ⟨nc, ns, ⟨r, o⟩, e, h⟩ := su_X9_comes q a1 hT
  have h2 : KP q o := h.2.1
  exact ⟨nc, ns, r, o, e, lx_ps hT h, ⟨congrArg Int32.toInt (h2 0 12 (by decide)), (FRc.kp h2 h.2.2.1 (lo_zX9_comes_s0 _ _ nc ns q a1 ⟨rfl, rfl⟩ (r, o) e)), (kpj_row h2)⟩⟩

theorem lx_view (q : dK) (a1 : Int32) (hT : TC q) : ∃ (nc ns : Nat) (r : Int32) (o : dK), zX9_view_s0 nc ns q a1 = some (r, o) ∧ lw_X q o nc ns ∧ (Int32.toInt (o.1 0 12) = Int32.toInt (q.1 0 12)) ∧ (FRc q o) ∧ (o.1 46 = q.1 46) := by
  obtain ⟨nc, ns, ⟨r, o⟩, e, h⟩ := su_X9_view q a1 hT
  have h2 : KP q o := h.2.1
  exact ⟨nc, ns, r, o, e, lx_ps hT h, ⟨congrArg Int32.toInt (h2 0 12 (by decide)), (FRc.kp h2 h.2.2.1 (lo_zX9_view_s0 _ _ nc ns q a1 ⟨rfl, rfl⟩ (r, o) e)), (kpj_row h2)⟩⟩

theorem lx_stays (q : dK) (a1 : Int32) (hT : TC q) : ∃ (r : Int32) (o : dK), zX9_stays_s0 q a1 = some (r, o) ∧ lw_X q o 0 0 ∧ (Int32.toInt (o.1 0 12) = Int32.toInt (q.1 0 12)) ∧ (o.1 46 = q.1 46) := by
  obtain ⟨⟨r, o⟩, e, h⟩ := ok_X9_stays_s0 q a1 hT
  have h1 : o = q := h
  subst h1
  exact ⟨r, o, e, lx_rf hT, ⟨rfl, rfl⟩⟩

theorem lx_seen (q : dK) (a1 a2 : Int32) (hT : TC q) : ∃ (r : Int32) (o : dK), zX9_seen_s0 q a1 a2 = some (r, o) ∧ lw_X q o 0 0 ∧ (Int32.toInt (o.1 0 12) = Int32.toInt (q.1 0 12)) ∧ (o.1 46 = q.1 46) := by
  obtain ⟨⟨r, o⟩, e, h⟩ := ok_X9_seen_s0 q a1 a2 hT
  have h1 : TC o := h.1
  have h2 : cFr [5, 6, 48] [(0, 18), (1, 6)] q o := h.2.1
  exact ⟨r, o, e, lx_fr h1 h2 rfl, ⟨congrArg Int32.toInt (h2.1 0 12 (by decide) (by decide)), (h2.row 46 (by decide) (by decide))⟩⟩

theorem lx_forget (q : dK) (hT : TC q) : ∃ (r : Int32) (o : dK), zX9_forget_s0 q = some (r, o) ∧ lw_X q o 0 0 ∧ (Int32.toInt (o.1 0 12) = Int32.toInt (q.1 0 12)) ∧ (o.1 46 = q.1 46) := by
  obtain ⟨⟨r, o⟩, e, h⟩ := ok_X9_forget_s0 q hT
  have h1 : TC o := h.1
  have h2 : cFr [] [(1, 6)] q o := h.2.1
  exact ⟨r, o, e, lx_fr h1 h2 rfl, ⟨congrArg Int32.toInt (h2.1 0 12 (by decide) (by decide)), (h2.row 46 (by decide) (by decide))⟩⟩

theorem lx_was (q : dK) (hT : TC q) : ∃ (r : Int32) (o : dK), zX9_was_s0 q = some (r, o) ∧ lw_X q o 0 0 ∧ (Int32.toInt (o.1 0 12) = Int32.toInt (q.1 0 12)) ∧ (o.1 46 = q.1 46) := by
  obtain ⟨⟨r, o⟩, e, h⟩ := ok_X9_was_s0 q hT
  have h1 : TC o := h.1
  have h2 : cFr [19, 21] [(18, 1), (20, 2)] q o := h.2
  exact ⟨r, o, e, lx_fr h1 h2 rfl, ⟨congrArg Int32.toInt (h2.1 0 12 (by decide) (by decide)), (h2.row 46 (by decide) (by decide))⟩⟩

theorem lx_look (q : dK) (a1 : Int32) (hT : TC q) : ∃ (r : Int32) (o : dK), zX9_look_s0 q a1 = some (r, o) ∧ lw_X q o 0 0 ∧ (Int32.toInt (o.1 0 12) = Int32.toInt (q.1 0 12)) ∧ (o.1 46 = q.1 46) := by
  obtain ⟨⟨r, o⟩, e, h⟩ := ok_X9_look_s0 q a1 hT
  have h1 : TC o := h.1
  have h2 : cFr [19, 21] [(18, 1), (20, 2)] q o := h.2
  exact ⟨r, o, e, lx_fr h1 h2 rfl, ⟨congrArg Int32.toInt (h2.1 0 12 (by decide) (by decide)), (h2.row 46 (by decide) (by decide))⟩⟩

theorem lx_few (q : dK) (a1 a2 : Int32) (hT : TC q) : ∃ (r : Int64) (o : dK), zX9_few_s0 q a1 a2 = some (r, o) ∧ lw_X q o 0 0 ∧ (Int32.toInt (o.1 0 12) = Int32.toInt (q.1 0 12)) ∧ (o.1 46 = q.1 46) := by
  obtain ⟨⟨r, o⟩, e, h⟩ := ok_X9_few_s0 q a1 a2 hT
  have h1 : TC o := h.1
  have h2 : cFr [] [] q o := h.2
  exact ⟨r, o, e, lx_fr h1 h2 rfl, ⟨congrArg Int32.toInt (h2.1 0 12 (by decide) (by decide)), (h2.row 46 (by decide) (by decide))⟩⟩

theorem lx_compare (q : dK) (a1 : Int32) (hT : TC q) : ∃ (nc ns : Nat) (r : Int32) (o : dK), zX9_compare_s0 nc ns q a1 = some (r, o) ∧ lw_X q o nc ns ∧ (Int32.toInt (o.1 0 12) = Int32.toInt (q.1 0 12)) ∧ (FRc q o) ∧ (o.1 46 = q.1 46) := by
  obtain ⟨nc, ns, ⟨r, o⟩, e, h⟩ := su_X9_compare q a1 hT
  have h2 : KP q o := h.2.1
  exact ⟨nc, ns, r, o, e, lx_ps hT h, ⟨congrArg Int32.toInt (h2 0 12 (by decide)), (FRc.kp h2 h.2.2.1 (lo_zX9_compare_s0 _ _ nc ns q a1 ⟨rfl, rfl⟩ (r, o) e)), (kpj_row h2)⟩⟩

theorem lx_years (q : dK) (a1 a2 : Int32) (hT : TC q) : ∃ (r : Int32) (o : dK), zX9_years_s0 q a1 a2 = some (r, o) ∧ lw_X q o 0 0 ∧ (Int32.toInt (o.1 0 12) = Int32.toInt (q.1 0 12)) ∧ (o.1 46 = q.1 46) := by
  obtain ⟨⟨r, o⟩, e, h⟩ := ok_X9_years_s0 q a1 a2 hT
  have h1 : TC o := h.1
  have h2 : cFr [16, 17, 19, 21, 48] [(0, 18), (15, 2), (15, 3), (15, 4), (18, 1), (20, 2)] q o := h.2
  exact ⟨r, o, e, lx_fr h1 h2 rfl, ⟨congrArg Int32.toInt (h2.1 0 12 (by decide) (by decide)), (h2.row 46 (by decide) (by decide))⟩⟩

theorem lx_drawn (q : dK) (a1 a2 : Int32) (hT : TC q) : ∃ (r : Int32) (o : dK), zX9_drawn_s0 q a1 a2 = some (r, o) ∧ lw_X q o 0 0 ∧ (Int32.toInt (o.1 0 12) = Int32.toInt (q.1 0 12)) ∧ (o.1 46 = q.1 46) := by
  obtain ⟨⟨r, o⟩, e, h⟩ := ok_X9_drawn_s0 q a1 a2 hT
  have h1 : o = q := h
  subst h1
  exact ⟨r, o, e, lx_rf hT, ⟨rfl, rfl⟩⟩

theorem lx_image (q : dK) (a1 : Int32) (hT : TC q) : ∃ (r : Int32) (o : dK), zX9_image_s0 q a1 = some (r, o) ∧ lw_X q o 0 0 ∧ (Int32.toInt (o.1 0 12) = Int32.toInt (q.1 0 12)) ∧ (o.1 46 = q.1 46) := by
  obtain ⟨⟨r, o⟩, e, h⟩ := ok_X9_image_s0 q a1 hT
  have h1 : TC o := h.1
  have h2 : cFr [9, 48, 51, 52, 53, 54, 55, 58, 59, 60, 61, 62] [(0, 18), (49, 1), (49, 2), (49, 3), (49, 6), (49, 8), (49, 9), (50, 2), (50, 3), (50, 4), (56, 1), (56, 2), (56, 3), (56, 6), (56, 8), (56, 9), (57, 2), (57, 3), (57, 4)] q o := h.2
  exact ⟨r, o, e, lx_fr h1 h2 rfl, ⟨congrArg Int32.toInt (h2.1 0 12 (by decide) (by decide)), (h2.row 46 (by decide) (by decide))⟩⟩

theorem lx_back (q : dK) (a1 : Int32) (hT : TC q) : ∃ (r : Int32) (o : dK), zX9_back_s0 q a1 = some (r, o) ∧ lw_X q o 0 0 ∧ (Int32.toInt (o.1 0 12) = Int32.toInt (q.1 0 12)) ∧ (o.1 46 = q.1 46) := by
  obtain ⟨⟨r, o⟩, e, h⟩ := ok_X9_back_s0 q a1 hT
  have h1 : TC o := h.1
  have h2 : cFr [3, 4, 5, 6, 7, 48] [(0, 18), (1, 1), (1, 2), (1, 3), (1, 6), (1, 8), (1, 9), (2, 2), (2, 3), (2, 4), (10, 2)] q o := h.2
  exact ⟨r, o, e, lx_fr h1 h2 rfl, ⟨congrArg Int32.toInt (h2.1 0 12 (by decide) (by decide)), (h2.row 46 (by decide) (by decide))⟩⟩

theorem lx_count (q : dK) (a1 : Int32) (hT : TC q) : ∃ (r : Int32) (o : dK), zX9_count_s0 q a1 = some (r, o) ∧ lw_X q o 0 0 ∧ (Int32.toInt (o.1 0 12) = Int32.toInt (q.1 0 12)) ∧ (o.1 46 = q.1 46) := by
  obtain ⟨⟨r, o⟩, e, h⟩ := ok_X9_count_s0 q a1 hT
  have h1 : o = q := h
  subst h1
  exact ⟨r, o, e, lx_rf hT, ⟨rfl, rfl⟩⟩

theorem lx_status (q : dK) (hT : TC q) : ∃ (r : Int32) (o : dK), zX9_status_s0 q = some (r, o) ∧ lw_X q o 0 0 ∧ (Int32.toInt (o.1 0 12) = Int32.toInt (q.1 0 12)) ∧ (o.1 46 = q.1 46) := by
  obtain ⟨⟨r, o⟩, e, h⟩ := ok_X9_status_s0 q hT
  have h1 : o = q := h
  subst h1
  exact ⟨r, o, e, lx_rf hT, ⟨rfl, rfl⟩⟩

theorem lm_floor (q : dS) (a1 a2 : Int32) (hT : TS q) : ∃ (r : Int32) (o : dS), zX10_floor q a1 a2 = some (r, o) ∧ TS o ∧ (Int32.toInt (o.1 0 13) = Int32.toInt (q.1 0 13)) ∧ (o.1 7 = q.1 7) := by
  obtain ⟨⟨r, o⟩, e, h⟩ := ok_floor q a1 a2 hT
  have h2 : dFr [1, 2] [0, 32] q o := h.2.1
  exact ⟨r, o, e, h.1, ⟨congrArg Int32.toInt (h2.2 13 (by decide)), (h2.1 7 (by decide) (by decide))⟩⟩

theorem lm_at (q : dS) (a1 a2 : Int32) (hT : TS q) : ∃ (r : Int32) (o : dS), zX10_at q a1 a2 = some (r, o) ∧ TS o ∧ (Int32.toInt (o.1 0 13) = Int32.toInt (q.1 0 13)) ∧ (o.1 7 = q.1 7) := by
  obtain ⟨⟨r, o⟩, e, h⟩ := ok_at q a1 a2 hT
  have h2 : dFr [12] [22, 23, 24, 25] q o := h.2
  exact ⟨r, o, e, h.1, ⟨congrArg Int32.toInt (h2.2 13 (by decide)), (h2.1 7 (by decide) (by decide))⟩⟩

theorem lm_asks (q : dS) (a1 a2 : Int32) (hT : TS q) : ∃ (r : Int32) (o : dS), zX10_asks q a1 a2 = some (r, o) ∧ TS o ∧ (Int32.toInt (o.1 0 13) = Int32.toInt (q.1 0 13)) ∧ (o.1 7 = q.1 7) := by
  obtain ⟨⟨r, o⟩, e, h⟩ := ok_asks q a1 a2 hT
  have h2 : dFr [12] [22, 23, 24, 25] q o := h.2
  exact ⟨r, o, e, h.1, ⟨congrArg Int32.toInt (h2.2 13 (by decide)), (h2.1 7 (by decide) (by decide))⟩⟩

theorem lm_terms (q : dS) (a1 a2 : Int32) (hT : TS q) : ∃ (r : Int32) (o : dS), zX10_terms q a1 a2 = some (r, o) ∧ TS o ∧ (Int32.toInt (o.1 0 13) = Int32.toInt (q.1 0 13)) ∧ (o.1 7 = q.1 7) := by
  obtain ⟨⟨r, o⟩, e, h⟩ := ok_terms q a1 a2 hT
  have h2 : dFr [1, 2] [0, 32] q o := h.2.1
  exact ⟨r, o, e, h.1, ⟨congrArg Int32.toInt (h2.2 13 (by decide)), (h2.1 7 (by decide) (by decide))⟩⟩

theorem lm_feed (q : dS) (a1 a2 a3 a4 a5 : Int32) (hT : TS q) : ∃ (r : Int32) (o : dS), zX10_feed q a1 a2 a3 a4 a5 = some (r, o) ∧ TS o ∧ ((Int32.toInt (q.1 0 13) ≤ 380 ∧ Int32.toInt (o.1 0 13) = Int32.toInt (q.1 0 13) + 20) ∨ (380 < Int32.toInt (q.1 0 13) ∧ Int32.toInt (o.1 0 13) = Int32.toInt (q.1 0 13))) := by
  obtain ⟨⟨r, o⟩, e, h⟩ := ok_feed q a1 a2 a3 a4 a5 hT
  have h2 : dFr [7, 8] [13] q o := h.2.1
  exact ⟨r, o, e, h.1, h.2.2⟩

theorem lm_end (q : dS) (a1 : Int32) (hT : TS q) : ∃ (r : Int32) (o : dS), zX10_end q a1 = some (r, o) ∧ TS o ∧ ((0 ≤ Int32.toInt a1 ∧ Int32.toInt a1 ≤ Int32.toInt (q.1 0 13) ∧ Int32.toInt (o.1 0 13) = Int32.toInt a1 ∧ Int32.toInt r = Int32.toInt a1) ∨ ((Int32.toInt a1 < 0 ∨ Int32.toInt (q.1 0 13) < Int32.toInt a1) ∧ Int32.toInt (o.1 0 13) = Int32.toInt (q.1 0 13) ∧ Int32.toInt r = -1)) ∧ (o.1 7 = q.1 7) := by
  obtain ⟨⟨r, o⟩, e, h⟩ := ok_end q a1 hT
  have h2 : dFr [] [13] q o := h.2.1
  exact ⟨r, o, e, h.1, ⟨h.2.2, (h2.1 7 (by decide) (by decide))⟩⟩

theorem lm_row (q : dS) (hT : TS q) : ∃ (r : Int32) (o : dS), zX10_row q = some (r, o) ∧ TS o ∧ (Int32.toInt (o.1 0 13) = 0) := by
  obtain ⟨⟨r, o⟩, e, h⟩ := ok_row q hT
  have h2 : dFr [1, 2] [0, 6, 13, 32] q o := h.2.1
  exact ⟨r, o, e, h.1, h.2.2.1⟩

theorem lm_bricks (q : dS) (hT : TS q) : ∃ (r : Int32) (o : dS), zX10_bricks q = some (r, o) ∧ TS o ∧ (Int32.toInt (o.1 0 13) = Int32.toInt (q.1 0 13)) ∧ (o.1 7 = q.1 7) := by
  obtain ⟨⟨r, o⟩, e, h⟩ := ok_bricks q hT
  have h1 : o = q := h
  subst h1
  exact ⟨r, o, e, hT, ⟨rfl, rfl⟩⟩

theorem lm_law (q : dS) (hT : TS q) : ∃ (r : Int32) (o : dS), zX10_law q = some (r, o) ∧ TS o ∧ (Int32.toInt (o.1 0 13) = 0) := by
  obtain ⟨⟨r, o⟩, e, h⟩ := ok_law q hT
  have h3 : o.1 0 13 = 0 := h.2.2.1
  have h2 : dFr [1, 2, 9, 10, 11] [0, 8, 9, 10, 13, 14, 18, 19, 20, 21] q o := h.2.1
  exact ⟨r, o, e, h.1, by rw [h3]; decide⟩

theorem lm_orders (q : dS) (hT : TS q) : ∃ (r : Int32) (o : dS), zX10_orders q = some (r, o) ∧ TS o ∧ (Int32.toInt (o.1 0 13) = 0) := by
  obtain ⟨⟨r, o⟩, e, h⟩ := ok_orders q hT
  have h3 : o.1 0 13 = 0 := h.2.2.1
  have h2 : dFr oR oF q o := h.2.1
  exact ⟨r, o, e, h.1, by rw [h3]; decide⟩

theorem lm_fault (q : dS) (hT : TS q) : ∃ (r : Int32) (o : dS), zX10_fault q = some (r, o) ∧ TS o ∧ (Int32.toInt (o.1 0 13) = Int32.toInt (q.1 0 13)) ∧ (o.1 7 = q.1 7) := by
  obtain ⟨⟨r, o⟩, e, h⟩ := ok_fault q hT
  have h1 : o = q := h
  subst h1
  exact ⟨r, o, e, hT, ⟨rfl, rfl⟩⟩

theorem lm_stopped (q : dS) (hT : TS q) : ∃ (r : Int32) (o : dS), zX10_stopped q = some (r, o) ∧ TS o ∧ (Int32.toInt (o.1 0 13) = Int32.toInt (q.1 0 13)) ∧ (o.1 7 = q.1 7) := by
  obtain ⟨⟨r, o⟩, e, h⟩ := ok_stopped q hT
  have h1 : o = q := h
  subst h1
  exact ⟨r, o, e, hT, ⟨rfl, rfl⟩⟩

theorem lm_force (q : dS) (a1 : Int32) (hT : TS q) : ∃ (r : Int32) (o : dS), zX10_force q a1 = some (r, o) ∧ TS o ∧ (Int32.toInt (o.1 0 13) = Int32.toInt (q.1 0 13)) ∧ (o.1 7 = q.1 7) := by
  obtain ⟨⟨r, o⟩, e, h⟩ := ok_force q a1 hT
  have h2 : dFr [1, 2] [0] q o := h.2.1
  exact ⟨r, o, e, h.1, ⟨congrArg Int32.toInt (h2.2 13 (by decide)), (h2.1 7 (by decide) (by decide))⟩⟩

theorem lm_turn (q : dS) (a1 : Int32) (hT : TS q) : ∃ (r : Int32) (o : dS), zX10_turn q a1 = some (r, o) ∧ TS o ∧ (Int32.toInt (o.1 0 13) = Int32.toInt (q.1 0 13)) ∧ (o.1 7 = q.1 7) := by
  obtain ⟨⟨r, o⟩, e, h⟩ := ok_turn q a1 hT
  have h2 : dFk [1, 2, 12, 14] [0, 22, 23, 24, 25, 32] q o := h.2
  exact ⟨r, o, e, h.1, ⟨congrArg Int32.toInt (h2.1.2 13 (by decide)), (h2.1.1 7 (by decide) (by decide))⟩⟩

theorem lm_right (q : dS) (a1 : Int32) (hT : TS q) : ∃ (r : Int32) (o : dS), zX10_right q a1 = some (r, o) ∧ TS o ∧ (Int32.toInt (o.1 0 13) = Int32.toInt (q.1 0 13)) ∧ (o.1 7 = q.1 7) := by
  obtain ⟨⟨r, o⟩, e, h⟩ := ok_right q a1 hT
  have h2 : dFk [1, 2, 14] [0, 32] q o := h.2
  exact ⟨r, o, e, h.1, ⟨congrArg Int32.toInt (h2.1.2 13 (by decide)), (h2.1.1 7 (by decide) (by decide))⟩⟩

theorem lm_swap (q : dS) (a1 : Int32) (hT : TS q) : ∃ (r : Int32) (o : dS), zX10_swap q a1 = some (r, o) ∧ TS o ∧ (Int32.toInt (o.1 0 13) = Int32.toInt (q.1 0 13)) ∧ (o.1 7 = q.1 7) := by
  obtain ⟨⟨r, o⟩, e, h⟩ := ok_swap q a1 hT
  have h2 : dFk [1, 2, 14] [0, 32] q o := h.2
  exact ⟨r, o, e, h.1, ⟨congrArg Int32.toInt (h2.1.2 13 (by decide)), (h2.1.1 7 (by decide) (by decide))⟩⟩

theorem lm_pass (q : dS) (hT : TS q) : ∃ (r : Int32) (o : dS), zX10_pass q = some (r, o) ∧ TS o ∧ (Int32.toInt (o.1 0 13) = Int32.toInt (q.1 0 13)) ∧ (o.1 7 = q.1 7) := by
  obtain ⟨⟨r, o⟩, e, h⟩ := ok_pass q hT
  have h2 : dFk [1, 2, 12, 13, 14] [0, 22, 23, 24, 25, 32] q o := h.2
  exact ⟨r, o, e, h.1, ⟨congrArg Int32.toInt (h2.1.2 13 (by decide)), (h2.1.1 7 (by decide) (by decide))⟩⟩

theorem lm_undo (q : dS) (hT : TS q) : ∃ (r : Int32) (o : dS), zX10_undo q = some (r, o) ∧ TS o ∧ (Int32.toInt (o.1 0 13) = Int32.toInt (q.1 0 13)) ∧ (o.1 7 = q.1 7) := by
  obtain ⟨⟨r, o⟩, e, h⟩ := ok_undo q hT
  have h2 : dFk [1, 2] [0, 32] q o := h.2
  exact ⟨r, o, e, h.1, ⟨congrArg Int32.toInt (h2.1.2 13 (by decide)), (h2.1.1 7 (by decide) (by decide))⟩⟩

theorem lm_fewest (q : dS) (a1 : Int32) (hT : TS q) : ∃ (r : Int32) (o : dS), zX10_fewest q a1 = some (r, o) ∧ TS o ∧ (Int32.toInt (o.1 0 13) = Int32.toInt (q.1 0 13)) ∧ (o.1 7 = q.1 7) := by
  obtain ⟨⟨r, o⟩, e, h⟩ := ok_fewest q a1 hT
  have h2 : dFr [12, 16, 17, 18, 19, 20, 21, 22, 23] [22, 23, 24, 25, 37, 38] q o := h.2
  exact ⟨r, o, e, h.1, ⟨congrArg Int32.toInt (h2.2 13 (by decide)), (h2.1 7 (by decide) (by decide))⟩⟩

theorem lm_many (q : dS) (hT : TS q) : ∃ (r : Int32) (o : dS), zX10_many q = some (r, o) ∧ TS o ∧ (Int32.toInt (o.1 0 13) = Int32.toInt (q.1 0 13)) ∧ (o.1 7 = q.1 7) := by
  obtain ⟨⟨r, o⟩, e, h⟩ := ok_many q hT
  have h2 : dFr [12, 16, 17, 18, 19, 20, 21, 22, 23] [22, 23, 24, 25, 37, 38] q o := h.2
  exact ⟨r, o, e, h.1, ⟨congrArg Int32.toInt (h2.2 13 (by decide)), (h2.1 7 (by decide) (by decide))⟩⟩

theorem lm_cheapest (q : dS) (hT : TS q) : ∃ (r : Int32) (o : dS), zX10_cheapest q = some (r, o) ∧ TS o ∧ (Int32.toInt (o.1 0 13) = Int32.toInt (q.1 0 13)) ∧ (o.1 7 = q.1 7) := by
  obtain ⟨⟨r, o⟩, e, h⟩ := ok_cheapest q hT
  have h2 : dFr [12, 16, 17, 18, 19, 20, 21, 23, 24] [22, 23, 24, 25, 37, 38] q o := h.2
  exact ⟨r, o, e, h.1, ⟨congrArg Int32.toInt (h2.2 13 (by decide)), (h2.1 7 (by decide) (by decide))⟩⟩

theorem lm_worst (q : dS) (a1 : Int32) (hT : TS q) : ∃ (r : Int32) (o : dS), zX10_worst q a1 = some (r, o) ∧ TS o ∧ (Int32.toInt (o.1 0 13) = Int32.toInt (q.1 0 13)) ∧ (o.1 7 = q.1 7) := by
  obtain ⟨⟨r, o⟩, e, h⟩ := ok_worst q a1 hT
  have h2 : dFr [12, 16, 17, 18, 19, 20, 21, 22, 23] [22, 23, 24, 25, 37, 38] q o := h.2
  exact ⟨r, o, e, h.1, ⟨congrArg Int32.toInt (h2.2 13 (by decide)), (h2.1 7 (by decide) (by decide))⟩⟩

theorem lm_reach (q : dS) (hT : TS q) : ∃ (r : Int32) (o : dS), zX10_reach q = some (r, o) ∧ TS o ∧ (Int32.toInt (o.1 0 13) = Int32.toInt (q.1 0 13)) ∧ (o.1 7 = q.1 7) := by
  obtain ⟨⟨r, o⟩, e, h⟩ := ok_reach q hT
  have h2 : dFr [12, 16, 17, 18, 19, 20, 21, 23] [22, 23, 24, 25, 37, 38] q o := h.2
  exact ⟨r, o, e, h.1, ⟨congrArg Int32.toInt (h2.2 13 (by decide)), (h2.1 7 (by decide) (by decide))⟩⟩

theorem lm_gaps (q : dS) (hT : TS q) : ∃ (r : Int32) (o : dS), zX10_gaps q = some (r, o) ∧ TS o ∧ (Int32.toInt (o.1 0 13) = Int32.toInt (q.1 0 13)) ∧ (o.1 7 = q.1 7) := by
  obtain ⟨⟨r, o⟩, e, h⟩ := ok_gaps q hT
  have h1 : o = q := h
  subst h1
  exact ⟨r, o, e, hT, ⟨rfl, rfl⟩⟩

theorem lm_comes (q : dS) (a1 : Int32) (hT : TS q) : ∃ (r : Int32) (o : dS), zX10_comes q a1 = some (r, o) ∧ TS o ∧ (Int32.toInt (o.1 0 13) = Int32.toInt (q.1 0 13)) ∧ (o.1 7 = q.1 7) := by
  obtain ⟨⟨r, o⟩, e, h⟩ := ok_comes q a1 hT
  have h2 : dFr [12, 16, 17, 18, 19, 20, 21, 23] [22, 23, 24, 25, 37, 38] q o := h.2
  exact ⟨r, o, e, h.1, ⟨congrArg Int32.toInt (h2.2 13 (by decide)), (h2.1 7 (by decide) (by decide))⟩⟩

theorem lm_view (q : dS) (a1 : Int32) (hT : TS q) : ∃ (r : Int32) (o : dS), zX10_view q a1 = some (r, o) ∧ TS o ∧ (Int32.toInt (o.1 0 13) = Int32.toInt (q.1 0 13)) ∧ (o.1 7 = q.1 7) := by
  obtain ⟨⟨r, o⟩, e, h⟩ := ok_view q a1 hT
  have h2 : dFr [12, 16, 17, 18, 19, 20, 21, 23] [22, 23, 24, 25, 37, 38] q o := h.2
  exact ⟨r, o, e, h.1, ⟨congrArg Int32.toInt (h2.2 13 (by decide)), (h2.1 7 (by decide) (by decide))⟩⟩

theorem lm_stays (q : dS) (a1 : Int32) (hT : TS q) : ∃ (r : Int32) (o : dS), zX10_stays q a1 = some (r, o) ∧ TS o ∧ (Int32.toInt (o.1 0 13) = Int32.toInt (q.1 0 13)) ∧ (o.1 7 = q.1 7) := by
  obtain ⟨⟨r, o⟩, e, h⟩ := ok_stays q a1 hT
  have h1 : o = q := h
  subst h1
  exact ⟨r, o, e, hT, ⟨rfl, rfl⟩⟩

theorem lm_seen (q : dS) (a1 a2 : Int32) (hT : TS q) : ∃ (r : Int32) (o : dS), zX10_seen q a1 a2 = some (r, o) ∧ TS o ∧ (Int32.toInt (o.1 0 13) = Int32.toInt (q.1 0 13)) ∧ (o.1 7 = q.1 7) := by
  obtain ⟨⟨r, o⟩, e, h⟩ := ok_seen q a1 a2 hT
  have h2 : dFr [1, 2] [0] q o := h.2.1
  exact ⟨r, o, e, h.1, ⟨congrArg Int32.toInt (h2.2 13 (by decide)), (h2.1 7 (by decide) (by decide))⟩⟩

theorem lm_forget (q : dS) (hT : TS q) : ∃ (r : Int32) (o : dS), zX10_forget q = some (r, o) ∧ TS o ∧ (Int32.toInt (o.1 0 13) = Int32.toInt (q.1 0 13)) ∧ (o.1 7 = q.1 7) := by
  obtain ⟨⟨r, o⟩, e, h⟩ := ok_forget q hT
  have h2 : dFr [2] [] q o := h.2.1
  exact ⟨r, o, e, h.1, ⟨congrArg Int32.toInt (h2.2 13 (by decide)), (h2.1 7 (by decide) (by decide))⟩⟩

theorem lm_was (q : dS) (hT : TS q) : ∃ (r : Int32) (o : dS), zX10_was q = some (r, o) ∧ TS o ∧ (Int32.toInt (o.1 0 13) = Int32.toInt (q.1 0 13)) ∧ (o.1 7 = q.1 7) := by
  obtain ⟨⟨r, o⟩, e, h⟩ := ok_was q hT
  have h2 : dFr [12] [22, 23, 24, 25] q o := h.2
  exact ⟨r, o, e, h.1, ⟨congrArg Int32.toInt (h2.2 13 (by decide)), (h2.1 7 (by decide) (by decide))⟩⟩

theorem lm_look (q : dS) (a1 : Int32) (hT : TS q) : ∃ (r : Int32) (o : dS), zX10_look q a1 = some (r, o) ∧ TS o ∧ (Int32.toInt (o.1 0 13) = Int32.toInt (q.1 0 13)) ∧ (o.1 7 = q.1 7) := by
  obtain ⟨⟨r, o⟩, e, h⟩ := ok_look q a1 hT
  have h2 : dFr [12, 25] [22, 23, 24, 25] q o := h.2
  exact ⟨r, o, e, h.1, ⟨congrArg Int32.toInt (h2.2 13 (by decide)), (h2.1 7 (by decide) (by decide))⟩⟩

theorem lm_few (q : dS) (a1 a2 : Int32) (hT : TS q) : ∃ (r : Int64) (o : dS), zX10_few q a1 a2 = some (r, o) ∧ TS o ∧ (Int32.toInt (o.1 0 13) = Int32.toInt (q.1 0 13)) ∧ (o.1 7 = q.1 7) := by
  obtain ⟨⟨r, o⟩, e, h⟩ := ok_few q a1 a2 hT
  have h2 : dFr [] [] q o := h.2
  exact ⟨r, o, e, h.1, ⟨congrArg Int32.toInt (h2.2 13 (by decide)), (h2.1 7 (by decide) (by decide))⟩⟩

theorem lm_compare (q : dS) (a1 : Int32) (hT : TS q) : ∃ (r : Int32) (o : dS), zX10_compare q a1 = some (r, o) ∧ TS o ∧ (Int32.toInt (o.1 0 13) = Int32.toInt (q.1 0 13)) ∧ (o.1 7 = q.1 7) := by
  obtain ⟨⟨r, o⟩, e, h⟩ := ok_compare q a1 hT
  have h2 : dFr [12, 16, 17, 18, 19, 20, 21, 22, 23] [22, 23, 24, 25, 37, 38] q o := h.2
  exact ⟨r, o, e, h.1, ⟨congrArg Int32.toInt (h2.2 13 (by decide)), (h2.1 7 (by decide) (by decide))⟩⟩

theorem lm_years (q : dS) (a1 a2 : Int32) (hT : TS q) : ∃ (r : Int32) (o : dS), zX10_years q a1 a2 = some (r, o) ∧ TS o ∧ (Int32.toInt (o.1 0 13) = Int32.toInt (q.1 0 13)) ∧ (o.1 7 = q.1 7) := by
  obtain ⟨⟨r, o⟩, e, h⟩ := ok_years q a1 a2 hT
  have h2 : dFk [1, 2, 5, 12, 13, 27] [0, 22, 23, 24, 25, 54, 55] q o := h.2
  exact ⟨r, o, e, h.1, ⟨congrArg Int32.toInt (h2.1.2 13 (by decide)), (h2.1.1 7 (by decide) (by decide))⟩⟩

theorem lm_drawn (q : dS) (a1 a2 : Int32) (hT : TS q) : ∃ (r : Int32) (o : dS), zX10_drawn q a1 a2 = some (r, o) ∧ TS o ∧ (Int32.toInt (o.1 0 13) = Int32.toInt (q.1 0 13)) ∧ (o.1 7 = q.1 7) := by
  obtain ⟨⟨r, o⟩, e, h⟩ := ok_drawn q a1 a2 hT
  have h1 : o = q := h
  subst h1
  exact ⟨r, o, e, hT, ⟨rfl, rfl⟩⟩

theorem lm_image (q : dS) (a1 : Int32) (hT : TS q) : ∃ (r : Int32) (o : dS), zX10_image q a1 = some (r, o) ∧ TS o ∧ (Int32.toInt (o.1 0 13) = Int32.toInt (q.1 0 13)) ∧ (o.1 7 = q.1 7) := by
  obtain ⟨⟨r, o⟩, e, h⟩ := ok_image q a1 hT
  have h2 : dFr [1, 3, 4] [0] q o := h.2
  exact ⟨r, o, e, h.1, ⟨congrArg Int32.toInt (h2.2 13 (by decide)), (h2.1 7 (by decide) (by decide))⟩⟩

theorem lm_back (q : dS) (a1 : Int32) (hT : TS q) : ∃ (r : Int32) (o : dS), zX10_back q a1 = some (r, o) ∧ TS o ∧ (Int32.toInt (o.1 0 13) = Int32.toInt (q.1 0 13)) ∧ (o.1 7 = q.1 7) := by
  obtain ⟨⟨r, o⟩, e, h⟩ := ok_back q a1 hT
  have h2 : dFr [1, 2] [0, 32] q o := h.2
  exact ⟨r, o, e, h.1, ⟨congrArg Int32.toInt (h2.2 13 (by decide)), (h2.1 7 (by decide) (by decide))⟩⟩

theorem lm_count (q : dS) (a1 : Int32) (hT : TS q) : ∃ (r : Int32) (o : dS), zX10_count q a1 = some (r, o) ∧ TS o ∧ (Int32.toInt (o.1 0 13) = Int32.toInt (q.1 0 13)) ∧ (o.1 7 = q.1 7) := by
  obtain ⟨⟨r, o⟩, e, h⟩ := ok_count q a1 hT
  have h1 : o = q := h
  subst h1
  exact ⟨r, o, e, hT, ⟨rfl, rfl⟩⟩

theorem lm_status (q : dS) (hT : TS q) : ∃ (r : Int32) (o : dS), zX10_status q = some (r, o) ∧ TS o ∧ (Int32.toInt (o.1 0 13) = Int32.toInt (q.1 0 13)) ∧ (o.1 7 = q.1 7) := by
  obtain ⟨⟨r, o⟩, e, h⟩ := ok_status q hT
  have h1 : o = q := h
  subst h1
  exact ⟨r, o, e, hT, ⟨rfl, rfl⟩⟩
