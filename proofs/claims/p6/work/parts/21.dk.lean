/-! the decompiler's words: a state of numbers (row 0: the fields, row j: array j), guards, binds, loops with fuel -/
abbrev dS : Type := (Nat → Nat → Int32) × (Nat → Nat → Int64)
def dui (q : dS) (j k : Nat) (v : Int32) : dS := (fun i => if i = j then upd (q.1 j) k v else q.1 i, q.2)
def dul (q : dS) (j k : Nat) (v : Int64) : dS := (q.1, fun i => if i = j then vp_updL (q.2 j) k v else q.2 i)
def dg (i : Int32) (n : Nat) : Bool := decide (¬ (i < 0 ∨ n ≤ i.toNatClampNeg))
def dbl (v : Int32) : Bool := decide (v = 0 ∨ v = 1)
def dnz (v : Int32) : Bool := decide (¬ v = 0)
def dnl (v : Int64) : Bool := decide (¬ v = 0)
def dG {α : Type} (b : Bool) (x : Option α) : Option α := match b with
  | true => x
  | false => none
def dL {α β : Type} (x : α) (k : α → Option β) : Option β := k x
def dB {α β γ : Type} (x : Option (α × β)) (k : α → β → Option γ) : Option γ := match x with
  | some o => k o.1 o.2
  | none => none
def dV {α β : Type} (x : Option α) (k : α → Option β) : Option β := match x with
  | some o => k o
  | none => none
def dFix {α β : Type} (F : (α → Option β) → α → Option β) : Nat → α → Option β
  | 0, _ => none
  | n + 1, a => F (dFix F n) a
/-- fuel: more than any loop here takes -/
noncomputable def dF : Nat := Classical.choose (⟨1000000000000, Nat.le_refl _⟩ : ∃ n : Nat, 1000000000000 ≤ n)
theorem dF_ge : 1000000000000 ≤ dF := Classical.choose_spec (⟨1000000000000, Nat.le_refl _⟩ : ∃ n : Nat, 1000000000000 ≤ n)
theorem dG_some {α : Type} {b : Bool} {x : Option α} {o : α} (h : dG b x = some o) : b = true ∧ x = some o := by
  cases b with
  | true => exact ⟨rfl, h⟩
  | false => cases h
theorem dL_some {α β : Type} {x : α} {k : α → Option β} {o : β} (h : dL x k = some o) : ∃ v : α, x = v ∧ k v = some o := ⟨x, rfl, h⟩
theorem dB_some {α β γ : Type} {x : Option (α × β)} {k : α → β → Option γ} {o : γ} (h : dB x k = some o) : ∃ (a : α) (b : β), x = some (a, b) ∧ k a b = some o := by
  cases x with
  | none => cases h
  | some y => exact ⟨y.1, y.2, rfl, h⟩
theorem dV_some {α β : Type} {x : Option α} {k : α → Option β} {o : β} (h : dV x k = some o) : ∃ a : α, x = some a ∧ k a = some o := by
  cases x with
  | none => cases h
  | some y => exact ⟨y, rfl, h⟩
theorem dg_in {i : Int32} {n : Nat} (h : dg i n = true) : vp_in i n := by
  have h2 : ¬ (i < 0 ∨ n ≤ i.toNatClampNeg) := of_decide_eq_true h
  exact h2
theorem dbl_or {v : Int32} (h : dbl v = true) : v = 0 ∨ v = 1 := of_decide_eq_true h
theorem dbl_nar {v : Int32} (h : dbl v = true) : narrow .boolean (.int v) = .int v := by
  rcases dbl_or h with h | h <;> subst h <;> rfl
theorem dbl_fit {v : Int32} (h : dbl v = true) : fits .boolean (.int v) = true := by
  rcases dbl_or h with h | h <;> subst h <;> rfl
theorem dnz_ne {v : Int32} (h : dnz v = true) : ¬ v = 0 := of_decide_eq_true h
theorem dnl_ne {v : Int64} (h : dnl v = true) : ¬ v = 0 := of_decide_eq_true h
theorem dFix_W {α β : Type} {F : (α → Option β) → α → Option β} {P : α → Heap → List Loc → Array Slot → Prop} {G : Heap → List Loc → Array Slot → Prop} {o : β}
    (step : ∀ k : α → Option β, (∀ (a : α) (H : Heap) (locs : List Loc) (ls : Array Slot), k a = some o → P a H locs ls → G H locs ls) → ∀ (a : α) (H : Heap) (locs : List Loc) (ls : Array Slot), F k a = some o → P a H locs ls → G H locs ls) :
    ∀ (n : Nat) (a : α) (H : Heap) (locs : List Loc) (ls : Array Slot), dFix F n a = some o → P a H locs ls → G H locs ls := by
  intro n
  induction n with
  | zero => intro a H locs ls h; cases h
  | succ n ih => intro a H locs ls h hp; exact step _ ih a H locs ls h hp
/-! what holds in a method's body, in one word -/
def dc_C (p : Program) (s : State) (m : MethodId) (args : Array Value) (meth : Method) (c : Code) (cc : ByteArray) (ret : Option FieldType) (mL : Nat) (own : String) (ws : List Cond) (D : va_G) (ty : Nat → ClassId) (eo : Nat → Nat) (A : Nat → Prop) : Prop :=
  p.tables.exec = Jvm.exec ∧ c.code = cc ∧ meth.sig.returnType = ret ∧ (∀ w ∈ ws, w.before args s = true) ∧ s.vm.findClass own = some m.cls ∧ meth.locks = false ∧ c.maxLocals = mL ∧ va_K D vwCl (kzT ty) s ∧ kz_N s ∧ kz_E eo A s s.heap ∧ ∀ q : Nat, s.heap.size ≤ q → A q
/-! calls over the whole world, and over none of it -/
theorem dw_free {A0 : Nat → Prop} {ws : va_W} {H0 H : Heap} {locs : List Loc} (hD : va_D A0 ws) (hS : va_S A0 H0 H locs) (hA : ∀ q, H0.size ≤ q → A0 q) : ∀ q, va_A ws H.size q → A0 q := by
  intro q h
  rcases h with ⟨k, e, h⟩ | h
  · exact hD.2 k _ h
  · exact hA q (Nat.le_trans hS.1 h)
theorem dw_preS {s : State} {H : Heap} {D : va_G} {ty : Nat → ClassId} {eo : Nat → Nat} {A : Nat → Prop} {ws : va_W} {av : List Value} {locs : List Loc} (hK : va_K D vwCl (kzT ty) s) (hN : kz_N s) (hE : kz_E eo A s s.heap) (hP : va_P D vwCl ws H) (hD : va_D A ws) (hS : va_S A s.heap H locs) (hA : ∀ q, s.heap.size ≤ q → A q) : PreS s H (va_Pc av (kz_pre D ty eo ws H.size)) av :=
  ⟨kz_blind, fun U hU hW => ⟨rfl, by rw [hU], by rw [hU]; exact hP, va_K.moved hW.alike hK, hD.weaken (fun _ _ _ _ => trivial), hN.warm hW, hE.call hS (dw_free hD hS hA) hU hW⟩⟩
theorem dw_preV {s : State} {H : Heap} {D : va_G} {ty : Nat → ClassId} {eo : Nat → Nat} {A : Nat → Prop} {ws : va_W} {b ci q0 : Nat} {fs As : List Value} {r : vw_C} {locs : List Loc} (hK : va_K D vwCl (kzT ty) s) (hN : kz_N s) (hE : kz_E eo A s s.heap) (hP : va_P D vwCl ws H) (hD : va_D A ws) (hS : va_S A s.heap H locs) (hA : ∀ q, s.heap.size ≤ q → A q) (hc : vwCl[ci]? = some r) (he : ws[q0]? = some (b, .inr (ci, fs))) : PreV s H r.1 b (va_Pc (.ref b :: As) (kz_pre D ty eo ws H.size)) As :=
  ⟨kz_blind, va_recv hK hP hc he, (dw_preS hK hN hE hP hD hS hA).2⟩
section DW
variable {p : Program} {l : Launch} {e : Env} {R : Room} {s : State} {m : MethodId} {args : Array Value} {below : List Frame} {meth : Method} {c : Code} {H : Heap} {locs : List Loc} {cells slots : Nat} {Q : State → Prop}
variable {pc : Nat} {ls : Array Slot} {rest st0 : List Value} {a : Array Value} {A0 : Nat → Prop} {H0 : Heap} {mc ms : Nat} {D : va_G} {ty : Nat → ClassId} {ws : va_W}
theorem dw_D {u : va_W} (hF : ∀ q, va_A ws H.size q → A0 q) (h : va_D (va_A ws H.size) u) : va_D A0 u := h.weaken (fun _ _ _ h1 => hF _ h1)
theorem dw_ki {post : Int32 → va_W → Prop} (hr : va_Run p l e R s m args below meth c H locs cells slots mc ms (F0 m pc ls st0) rest (va_Qi post (kz_B D ty (va_A ws H.size)) (va_A ws H.size) a) (va_A ws H.size)) (hD : va_D A0 ws) (hS : va_S A0 H0 H locs) (hA : ∀ q, H0.size ≤ q → A0 q)
    (kk : ∀ (r : Int32) (u : va_W) (H1 : Heap) (locs1 : List Loc), post r u → va_P D vwCl u H1 → va_D A0 u → va_S A0 H0 H1 locs1 → W p l e R s m args below meth c H1 locs1 (cells + mc) (slots + ms) Q (F0 m (pc + 3) ls (.int r :: rest))) : W p l e R s m args below meth c H locs cells slots Q (F0 m pc ls st0) := by
  have hF := dw_free hD hS hA
  refine va_calli hr hS (fun q _ h => hF q h) hF (fun r u t H1 locs1 ht hvm hw hB hz1 hk1 hS1 => ?_)
  obtain ⟨hP1, hK1, hD1⟩ := hB
  rw [ht] at hP1
  exact kk r u H1 locs1 hw hP1 (dw_D hF hD1) hS1
theorem dw_kl {post : Int64 → va_W → Prop} (hr : va_Run p l e R s m args below meth c H locs cells slots mc ms (F0 m pc ls st0) rest (va_Ql post (kz_B D ty (va_A ws H.size)) (va_A ws H.size) a) (va_A ws H.size)) (hD : va_D A0 ws) (hS : va_S A0 H0 H locs) (hA : ∀ q, H0.size ≤ q → A0 q)
    (kk : ∀ (r : Int64) (u : va_W) (H1 : Heap) (locs1 : List Loc), post r u → va_P D vwCl u H1 → va_D A0 u → va_S A0 H0 H1 locs1 → W p l e R s m args below meth c H1 locs1 (cells + mc) (slots + ms) Q (F0 m (pc + 3) ls (.long r :: rest))) : W p l e R s m args below meth c H locs cells slots Q (F0 m pc ls st0) := by
  have hF := dw_free hD hS hA
  refine va_calll hr hS (fun q _ h => hF q h) hF (fun r u t H1 locs1 ht hvm hw hB hz1 hk1 hS1 => ?_)
  obtain ⟨hP1, hK1, hD1⟩ := hB
  rw [ht] at hP1
  exact kk r u H1 locs1 hw hP1 (dw_D hF hD1) hS1
theorem dw_kv {post : va_W → Prop} (hr : va_Run p l e R s m args below meth c H locs cells slots mc ms (F0 m pc ls st0) rest (va_Qv post (kz_B D ty (va_A ws H.size)) (va_A ws H.size) a) (va_A ws H.size)) (hD : va_D A0 ws) (hS : va_S A0 H0 H locs) (hA : ∀ q, H0.size ≤ q → A0 q)
    (kk : ∀ (u : va_W) (H1 : Heap) (locs1 : List Loc), post u → va_P D vwCl u H1 → va_D A0 u → va_S A0 H0 H1 locs1 → W p l e R s m args below meth c H1 locs1 (cells + mc) (slots + ms) Q (F0 m (pc + 3) ls rest)) : W p l e R s m args below meth c H locs cells slots Q (F0 m pc ls st0) := by
  have hF := dw_free hD hS hA
  refine va_callv hr hS (fun q _ h => hF q h) hF (fun u t H1 locs1 ht hvm hw hB hz1 hk1 hS1 => ?_)
  obtain ⟨hP1, hK1, hD1⟩ := hB
  rw [ht] at hP1
  exact kk u H1 locs1 hw hP1 (dw_D hF hD1) hS1
theorem dw_rng (ws : va_W) : (List.range ws.length).map (fun i => ws[i]?) = ws.map some := by
  apply List.ext_getElem?
  intro i
  rw [List.getElem?_map, List.getElem?_map]
  rcases Nat.lt_or_ge i ws.length with h | h
  · rw [List.getElem?_range h, List.getElem?_eq_getElem h]; simp [List.getElem?_eq_getElem h]
  · rw [List.getElem?_eq_none (by simpa using h), List.getElem?_eq_none h]; rfl
theorem dw_nd_of : ∀ l : List Nat, l.Pairwise (· < ·) → va_nd l = true
  | [], _ => rfl
  | a :: l, h => by
    rw [List.pairwise_cons] at h
    simp only [va_nd, Bool.and_eq_true, decide_eq_true_eq]
    exact ⟨fun hm => Nat.lt_irrefl a (h.1 a hm), dw_nd_of l h.2⟩
theorem dw_nd (n : Nat) : va_nd (List.range n) = true := dw_nd_of _ List.pairwise_lt_range
/-- a method without a world: what there is stays -/
theorem dw_ks {post : Int32 → va_W → Prop} (hr : va_Run p l e R s m args below meth c H locs cells slots mc ms (F0 m pc ls st0) rest (va_Qi post (kz_B D ty (va_A [] H.size)) (va_A [] H.size) a) (va_A [] H.size)) (hP : va_P D vwCl ws H) (hD : va_D A0 ws) (hS : va_S A0 H0 H locs) (hA : ∀ q, H0.size ≤ q → A0 q)
    (hpost : ∀ (r : Int32) (u : va_W), post r u → u = [])
    (kk : ∀ (r : Int32) (u : va_W) (H1 : Heap) (locs1 : List Loc), post r u → va_P D vwCl ws H1 → va_D A0 ws → va_S A0 H0 H1 locs1 → W p l e R s m args below meth c H1 locs1 (cells + mc) (slots + ms) Q (F0 m (pc + 3) ls (.int r :: rest))) : W p l e R s m args below meth c H locs cells slots Q (F0 m pc ls st0) := by
  refine kz_ki (wc := []) (wr := ws) hr hP hD hS hA [] (List.range ws.length) rfl (dw_rng ws) (dw_nd _) (fun _ _ h => absurd h List.not_mem_nil) (fun r u H1 locs1 hw hP1 hD1 hS1 => ?_)
  have hu := hpost r u hw
  subst hu
  rw [List.append_nil] at hP1 hD1
  exact kk r [] H1 locs1 hw hP1 hD1 hS1
end DW
