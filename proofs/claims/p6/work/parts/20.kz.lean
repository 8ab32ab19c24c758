/-! the classes of arrays by one function: 0 int, 1 long, 2 boolean, 3 byte, 4 State, 5 Text -/
abbrev kzT (ty : Nat → ClassId) : List (ClassId × FieldType) := [(ty 0, .int), (ty 1, .long), (ty 2, .boolean), (ty 3, .byte), (ty 4, .object "TurnedFloors$State"), (ty 5, .object "TurnedFloors$Text")]
/-! the words of a nest mate's members, which ride along in the start of a contract -/
def kzN1 : List Cond := [.methodLinkNest "TurnedFloors" 9 ({ cls := "TurnedFloors$State", name := "<init>", desc := "()V" } : MethodName) "TurnedFloors", .methodLinkNest "TurnedFloors$State" 11 ({ cls := "TurnedFloors$Tower", name := "<init>", desc := "()V" } : MethodName) "TurnedFloors", .fieldLinkNest "TurnedFloors$Paper" 86 "TurnedFloors$Tower" "rank" "[I" "TurnedFloors", .fieldLinkNest "TurnedFloors$Judge" 54 "TurnedFloors$Tower" "rank" "[I" "TurnedFloors", .fieldLinkNest "TurnedFloors$Paper" 93 "TurnedFloors$Tower" "head" "[I" "TurnedFloors", .fieldLinkNest "TurnedFloors$Judge" 51 "TurnedFloors$Tower" "head" "[I" "TurnedFloors", .fieldLinkNest "TurnedFloors$Paper" 73 "TurnedFloors$Tower" "floors" "I" "TurnedFloors", .fieldLinkNest "TurnedFloors" 135 "TurnedFloors$Tower" "floors" "I" "TurnedFloors", .fieldLinkNest "TurnedFloors$Judge" 40 "TurnedFloors$Tower" "floors" "I" "TurnedFloors", .fieldLinkNest "TurnedFloors$Runner" 89 "TurnedFloors$Tower" "paid" "I" "TurnedFloors", .fieldLinkNest "TurnedFloors" 329 "TurnedFloors$Tower" "paid" "I" "TurnedFloors", .fieldLinkNest "TurnedFloors$Paper" 106 "TurnedFloors$Tower" "year" "I" "TurnedFloors", .fieldLinkNest "TurnedFloors$Runner" 86 "TurnedFloors$Tower" "year" "I" "TurnedFloors", .fieldLinkNest "TurnedFloors$State" 58 "TurnedFloors$Tower" "year" "I" "TurnedFloors", .fieldLinkNest "TurnedFloors$Judge" 44 "TurnedFloors$Tower" "year" "I" "TurnedFloors", .fieldLinkNest "TurnedFloors" 240 "TurnedFloors$Tower" "year" "I" "TurnedFloors", .fieldLinkNest "TurnedFloors" 122 "TurnedFloors$State" "tower" "LTurnedFloors$Tower;" "TurnedFloors", .fieldLinkNest "TurnedFloors" 301 "TurnedFloors$State" "slips" "I" "TurnedFloors", .fieldLinkNest "TurnedFloors" 310 "TurnedFloors$State" "mood" "I" "TurnedFloors", .fieldLinkNest "TurnedFloors" 267 "TurnedFloors$State" "headsMatter" "I" "TurnedFloors", .fieldLinkNest "TurnedFloors" 276 "TurnedFloors$State" "seenPlace" "[I" "TurnedFloors", .fieldLinkNest "TurnedFloors" 279 "TurnedFloors$State" "seenRank" "[I" "TurnedFloors", .fieldLinkNest "TurnedFloors" 273 "TurnedFloors$State" "seenCount" "I" "TurnedFloors", .fieldLinkNest "TurnedFloors" 190 "TurnedFloors$State" "laws" "[LTurnedFloors$Text;" "TurnedFloors", .fieldLinkNest "TurnedFloors" 183 "TurnedFloors$State" "lawCount" "I" "TurnedFloors", .fieldLinkNest "TurnedFloors" 208 "TurnedFloors$State" "inForce" "I" "TurnedFloors", .methodLinkNest "TurnedFloors" 26 ({ cls := "TurnedFloors$History", name := "<init>", desc := "()V" } : MethodName) "TurnedFloors", .fieldLinkNest "TurnedFloors" 216 "TurnedFloors$History" "towers" "[J" "TurnedFloors", .fieldLinkNest "TurnedFloors" 223 "TurnedFloors$History" "kinds" "[I" "TurnedFloors", .fieldLinkNest "TurnedFloors" 214 "TurnedFloors$History" "kept" "I" "TurnedFloors", .methodLinkNest "TurnedFloors" 33 ({ cls := "TurnedFloors$Tower", name := "<init>", desc := "()V" } : MethodName) "TurnedFloors", .methodLinkNest "TurnedFloors" 40 ({ cls := "TurnedFloors$Machine", name := "<init>", desc := "()V" } : MethodName) "TurnedFloors", .fieldLinkNest "TurnedFloors$Runner" 67 "TurnedFloors$Machine" "broken" "Z" "TurnedFloors", .fieldLinkNest "TurnedFloors$Judge" 88 "TurnedFloors$Machine" "broken" "Z" "TurnedFloors", .fieldLinkNest "TurnedFloors" 202 "TurnedFloors$Runner" "done" "I" "TurnedFloors", .methodLinkNest "TurnedFloors" 63 ({ cls := "TurnedFloors$Reader", name := "<init>", desc := "()V" } : MethodName) "TurnedFloors", .fieldLinkNest "TurnedFloors$Runner" 61 "TurnedFloors$Text" "kind" "[I" "TurnedFloors", .fieldLinkNest "TurnedFloors$Judge" 70 "TurnedFloors$Text" "kind" "[I" "TurnedFloors", .fieldLinkNest "TurnedFloors$Runner" 42 "TurnedFloors$Text" "times" "[I" "TurnedFloors", .fieldLinkNest "TurnedFloors$Runner" 64 "TurnedFloors$Text" "sumFrom" "[I" "TurnedFloors", .fieldLinkNest "TurnedFloors$Judge" 85 "TurnedFloors$Text" "sumFrom" "[I" "TurnedFloors", .fieldLinkNest "TurnedFloors$Runner" 49 "TurnedFloors$Text" "testFrom" "[I" "TurnedFloors", .fieldLinkNest "TurnedFloors$Judge" 73 "TurnedFloors$Text" "testFrom" "[I" "TurnedFloors", .fieldLinkNest "TurnedFloors$Runner" 52 "TurnedFloors$Text" "testTo" "[I" "TurnedFloors", .fieldLinkNest "TurnedFloors$Judge" 76 "TurnedFloors$Text" "testTo" "[I" "TurnedFloors", .fieldLinkNest "TurnedFloors$Machine" 17 "TurnedFloors$Text" "code" "[I" "TurnedFloors", .fieldLinkNest "TurnedFloors$Runner" 37 "TurnedFloors$Text" "clauses" "I" "TurnedFloors", .fieldLinkNest "TurnedFloors$Judge" 65 "TurnedFloors$Text" "clauses" "I" "TurnedFloors", .fieldLinkNest "TurnedFloors$Reader" 115 "TurnedFloors$Text" "length" "I" "TurnedFloors", .methodLinkNest "TurnedFloors" 79 ({ cls := "TurnedFloors$Paper", name := "<init>", desc := "()V" } : MethodName) "TurnedFloors", .methodLinkNest "TurnedFloors$Tower" 32 ({ cls := "TurnedFloors", name := "isBit", desc := "(I)Z" } : MethodName) "TurnedFloors", .methodLinkNest "TurnedFloors$Tower" 79 ({ cls := "TurnedFloors", name := "bit", desc := "(Z)I" } : MethodName) "TurnedFloors", .methodLinkNest "TurnedFloors$Paper" 133 ({ cls := "TurnedFloors", name := "bit", desc := "(Z)I" } : MethodName) "TurnedFloors"]
def kz_isN : Cond → Bool
  | .fieldLinkNest _ _ _ _ _ _ => true
  | .methodLinkNest _ _ _ _ => true
  | _ => false
theorem kzN1_is : ∀ w ∈ kzN1, kz_isN w = true ∧ w.onTables = true := by decide +kernel
def kz_N (U : State) : Prop := (∀ w ∈ kzN1, va_Nw w U) ∧ va_AO "TurnedFloors$State" U ∧ va_AO "TurnedFloors$Text" U
theorem kz_N.warm {s U : State} (hW : s.WarmedH U.vm) (h : kz_N s) : kz_N U := by
  refine ⟨fun w hw => ?_, va_AO.moved hW.alike h.2.1, va_AO.moved hW.alike h.2.2⟩
  have h1 := (kzN1_is w hw).1
  have h2 := h.1 w hw
  cases w <;> first | exact va_Nw.warmF hW h2 | exact va_Nw.warmM hW h2 | exact absurd h1 (by simp [kz_isN])
theorem kz_N.same {s U : State} (hv : s.vm = U.vm) (h : kz_N s) : kz_N U := by
  have ha : s.vm.Alike U.vm := by rw [hv]; exact Vm.Alike.refl U.vm
  exact ⟨fun w hw => va_Nw.same (kzN1_is w hw).2 hv (h.1 w hw), va_AO.moved ha h.2.1, va_AO.moved ha h.2.2⟩
theorem kz_N.use {U : State} (h : kz_N U) {A : Array Value} (w : Cond) (hw : w ∈ kzN1) : w.before A U = true := va_Nw.use (kzN1_is w hw).2 (h.1 w hw)
/-! what stood there at the start and nobody writes: the table of factorials, the texts -/
abbrev kzIdx : List Nat := [72, 74, 154, 156, 152, 147, 90, 99, 128, 138, 126, 113]
abbrev kzTxt : List String := ["turn right swap pass ", "pays bars tips ", "year done latest paid gaps at head ", "grip top next head floors rank place year mood ", "*/%", "+-", "times", "if", "not", "<>=", "and", "or"]
abbrev kzLen : List Nat := [21, 15, 35, 47, 3, 2, 5, 2, 3, 3, 3, 2]
abbrev kzByt : List (List Int32) := [[116, 117, 114, 110, 32, 114, 105, 103, 104, 116, 32, 115, 119, 97, 112, 32, 112, 97, 115, 115, 32], [112, 97, 121, 115, 32, 98, 97, 114, 115, 32, 116, 105, 112, 115, 32], [121, 101, 97, 114, 32, 100, 111, 110, 101, 32, 108, 97, 116, 101, 115, 116, 32, 112, 97, 105, 100, 32, 103, 97, 112, 115, 32, 97, 116, 32, 104, 101, 97, 100, 32], [103, 114, 105, 112, 32, 116, 111, 112, 32, 110, 101, 120, 116, 32, 104, 101, 97, 100, 32, 102, 108, 111, 111, 114, 115, 32, 114, 97, 110, 107, 32, 112, 108, 97, 99, 101, 32, 121, 101, 97, 114, 32, 109, 111, 111, 100, 32], [42, 47, 37], [43, 45], [116, 105, 109, 101, 115], [105, 102], [110, 111, 116], [60, 62, 61], [97, 110, 100], [111, 114]]
def kz_F (A : Nat → Prop) (U : State) (H : Heap) : Prop := ∃ fv : Value, (fv = .null ∨ ∃ a : Nat, fv = .ref a) ∧ va_Z "jdk/internal/util/Preconditions" "SIOOBE_FORMATTER" "Ljava/util/function/BiFunction;" fv A U H
def kz_E (eo : Nat → Nat) (A : Nat → Prop) (U : State) (H : Heap) : Prop :=
  va_Z "TurnedFloors$Paper" "FACTORIALS" "[I" (.ref (eo 0)) A U H ∧ va_T .int (eo 0) 7 (fun j => .int (([1, 1, 2, 6, 24, 120, 720] : List Int32).getD j 0)) A U H ∧
  va_Z "java/lang/String" "COMPACT_STRINGS" "Z" (.int 1) A U H ∧ vk_S 12 kzLen kzByt (fun i => eo (1 + i)) (fun i => eo (20 + i)) A U H ∧
  (∀ i : Nat, i < 12 → vk_R "TurnedFloors$Reader" (kzIdx.getD i 0) (kzTxt.getD i "") (eo (1 + i)) U) ∧ kz_F A U H
theorem kz_E.call {eo : Nat → Nat} {A B : Nat → Prop} {s U : State} {H : Heap} {locs : List Loc} (h : kz_E eo A s s.heap) (hS : va_S A s.heap H locs) (hF : ∀ q, B q → A q) (hU : U.heap = H) (hW : s.WarmedH U.vm) : kz_E eo B U U.heap := by
  rw [hU]
  obtain ⟨h1, h2, h3, h4, h5, fv, h6, h7⟩ := h
  exact ⟨va_Z.moved hW.alike ((va_Z.kept h1 hS.2.1).narrow hF), va_T.moved hW.alike ((va_T.kept h2 hS.2.1).narrow hF), va_Z.moved hW.alike ((va_Z.kept h3 hS.2.1).narrow hF), vk_S.moved hW.alike ((vk_S.kept h4 hS.2.1).narrow hF), fun i hi => vk_R.warm hW (h5 i hi), fv, h6, va_Z.moved hW.alike ((va_Z.kept h7 hS.2.1).narrow hF)⟩
theorem kz_E.same {eo : Nat → Nat} {A : Nat → Prop} {u U : State} {H : Heap} (hv : U.vm = u.vm) (h : kz_E eo A u H) : kz_E eo A U H := by
  have ha : u.vm.Alike U.vm := by rw [hv]; exact Vm.Alike.refl u.vm
  obtain ⟨h1, h2, h3, h4, h5, fv, h6, h7⟩ := h
  exact ⟨va_Z.moved ha h1, va_T.moved ha h2, va_Z.moved ha h3, vk_S.moved ha h4, fun i hi => vk_R.same hv (h5 i hi), fv, h6, va_Z.moved ha h7⟩
/-! a contract's start and end, one form for all: the world is the list of cells itself -/
def kz_pre (D : va_G) (ty : Nat → ClassId) (eo : Nat → Nat) (W : va_W) (sz : Nat) (U : State) : Prop := U.heap.size = sz ∧ va_P D vwCl W U.heap ∧ va_K D vwCl (kzT ty) U ∧ va_D (fun _ => True) W ∧ kz_N U ∧ kz_E eo (va_A W sz) U U.heap
def kz_B (D : va_G) (ty : Nat → ClassId) (A : Nat → Prop) (u : va_W) (t : State) : Prop := va_P D vwCl u t.heap ∧ va_K D vwCl (kzT ty) t ∧ va_D A u
theorem kz_blind {av : List Value} {D : va_G} {ty : Nat → ClassId} {eo : Nat → Nat} {W : va_W} {sz : Nat} : FrameBlind (va_Pc av (kz_pre D ty eo W sz)) := by
  intro a U g mk q
  obtain ⟨q0, q1, qP, qK, qD, qN, qE⟩ := q
  exact ⟨q0, q1, qP, va_K.moved (u := U) (U := U.calling g mk a) (Vm.Alike.refl U.vm) qK, qD, kz_N.same (s := U) (U := U.calling g mk a) rfl qN, kz_E.same (u := U) (U := U.calling g mk a) rfl qE⟩
theorem kz_Psub {D : va_G} {cl : List vw_C} {ws ws' : va_W} {H : Heap} (h : va_P D cl ws H) (is : List Nat) (hs : is.map (fun i => ws[i]?) = ws'.map some) : va_P D cl ws' H := by
  intro k q hk
  have h1 : (is.map (fun i => ws[i]?))[k]? = some (some q) := by rw [hs, List.getElem?_map, hk]; rfl
  rw [List.getElem?_map] at h1
  cases hi : is[k]? with
  | none => rw [hi] at h1; cases h1
  | some i => rw [hi] at h1; exact h i q (Option.some.inj h1)
theorem kz_preS {s : State} {H : Heap} {D : va_G} {ty : Nat → ClassId} {eo : Nat → Nat} {A : Nat → Prop} {ws wc : va_W} {av : List Value} {locs : List Loc} (hK : va_K D vwCl (kzT ty) s) (hN : kz_N s) (hE : kz_E eo A s s.heap) (hP : va_P D vwCl ws H) (hD : va_D A ws) (hS : va_S A s.heap H locs) (hA : ∀ q, s.heap.size ≤ q → A q) (isC : List Nat) (hn : va_nd isC = true) (hC : isC.map (fun i => ws[i]?) = wc.map some) : PreS s H (va_Pc av (kz_pre D ty eo wc H.size)) av :=
  ⟨kz_blind, fun U hU hW => ⟨rfl, by rw [hU], by rw [hU]; exact kz_Psub hP isC hC, va_K.moved hW.alike hK, (hD.sub isC hn hC).weaken (fun _ _ _ _ => trivial), hN.warm hW, hE.call hS (va_free (wc := wc) hD hS hA isC hC) hU hW⟩⟩
theorem kz_preV {s : State} {H : Heap} {D : va_G} {ty : Nat → ClassId} {eo : Nat → Nat} {A : Nat → Prop} {ws wc : va_W} {b ci q0 : Nat} {fs As : List Value} {r : vw_C} {locs : List Loc} (hK : va_K D vwCl (kzT ty) s) (hN : kz_N s) (hE : kz_E eo A s s.heap) (hP : va_P D vwCl ws H) (hD : va_D A ws) (hS : va_S A s.heap H locs) (hA : ∀ q, s.heap.size ≤ q → A q) (hc : vwCl[ci]? = some r) (he : ws[q0]? = some (b, .inr (ci, fs))) (isC : List Nat) (hn : va_nd isC = true) (hC : isC.map (fun i => ws[i]?) = wc.map some) : PreV s H r.1 b (va_Pc (.ref b :: As) (kz_pre D ty eo wc H.size)) As :=
  ⟨kz_blind, va_recv hK hP hc he, (kz_preS hK hN hE hP hD hS hA isC hn hC).2⟩
/-- the receiver is one of the texts -/
theorem kz_preT {s : State} {H : Heap} {D : va_G} {ty : Nat → ClassId} {eo : Nat → Nat} {A : Nat → Prop} {ws wc : va_W} {As : List Value} {locs : List Loc} (hK : va_K D vwCl (kzT ty) s) (hN : kz_N s) (hE : kz_E eo A s s.heap) (hP : va_P D vwCl ws H) (hD : va_D A ws) (hS : va_S A s.heap H locs) (hA : ∀ q, s.heap.size ≤ q → A q) (i : Nat) (hi : i < 12) (isC : List Nat) (hn : va_nd isC = true) (hC : isC.map (fun i => ws[i]?) = wc.map some) : PreV s H "java/lang/String" (eo (1 + i)) (va_Pc (.ref (eo (1 + i)) :: As) (kz_pre D ty eo wc H.size)) As :=
  ⟨kz_blind, vk_recv (adK := fun i => eo (1 + i)) hE.2.2.2.1 hi hS, (kz_preS hK hN hE hP hD hS hA isC hn hC).2⟩
section KZ
variable {p : Program} {l : Launch} {e : Env} {R : Room} {s : State} {m : MethodId} {args : Array Value} {below : List Frame} {meth : Method} {c : Code} {H : Heap} {locs : List Loc} {cells slots : Nat} {Q : State → Prop}
variable {pc : Nat} {ls : Array Slot} {rest st0 : List Value} {a : Array Value} {A0 : Nat → Prop} {H0 : Heap} {mc ms : Nat} {D : va_G} {ty : Nat → ClassId} {ws wc wr : va_W}
theorem kz_ki {post : Int32 → va_W → Prop} (hr : va_Run p l e R s m args below meth c H locs cells slots mc ms (F0 m pc ls st0) rest (va_Qi post (kz_B D ty (va_A wc H.size)) (va_A wc H.size) a) (va_A wc H.size)) (hP : va_P D vwCl ws H) (hD : va_D A0 ws) (hS : va_S A0 H0 H locs) (hA : ∀ q, H0.size ≤ q → A0 q) (isC isR : List Nat) (hC : isC.map (fun i => ws[i]?) = wc.map some) (hR : isR.map (fun i => ws[i]?) = wr.map some) (hn : va_nd isR = true) (hdis : ∀ i ∈ isR, i ∉ isC)
    (kk : ∀ (r : Int32) (u : va_W) (H1 : Heap) (locs1 : List Loc), post r u → va_P D vwCl (wr ++ u) H1 → va_D A0 (wr ++ u) → va_S A0 H0 H1 locs1 → W p l e R s m args below meth c H1 locs1 (cells + mc) (slots + ms) Q (F0 m (pc + 3) ls (.int r :: rest))) : W p l e R s m args below meth c H locs cells slots Q (F0 m pc ls st0) := by
  have hF := va_free (wc := wc) hD hS hA isC hC
  refine va_calli hr hS (fun q _ h => hF q h) hF (fun r u t H1 locs1 ht hvm hw hB hz1 hk1 hS1 => ?_)
  obtain ⟨hP1, hK1, hD1⟩ := hB
  rw [ht] at hP1
  obtain ⟨hP2, hD2⟩ := va_join (wr := wr) (w1 := u) hP hD isC isR hC hR hn hdis hk1 hF hP1 hD1
  exact kk r u H1 locs1 hw hP2 hD2 hS1
theorem kz_kl {post : Int64 → va_W → Prop} (hr : va_Run p l e R s m args below meth c H locs cells slots mc ms (F0 m pc ls st0) rest (va_Ql post (kz_B D ty (va_A wc H.size)) (va_A wc H.size) a) (va_A wc H.size)) (hP : va_P D vwCl ws H) (hD : va_D A0 ws) (hS : va_S A0 H0 H locs) (hA : ∀ q, H0.size ≤ q → A0 q) (isC isR : List Nat) (hC : isC.map (fun i => ws[i]?) = wc.map some) (hR : isR.map (fun i => ws[i]?) = wr.map some) (hn : va_nd isR = true) (hdis : ∀ i ∈ isR, i ∉ isC)
    (kk : ∀ (r : Int64) (u : va_W) (H1 : Heap) (locs1 : List Loc), post r u → va_P D vwCl (wr ++ u) H1 → va_D A0 (wr ++ u) → va_S A0 H0 H1 locs1 → W p l e R s m args below meth c H1 locs1 (cells + mc) (slots + ms) Q (F0 m (pc + 3) ls (.long r :: rest))) : W p l e R s m args below meth c H locs cells slots Q (F0 m pc ls st0) := by
  have hF := va_free (wc := wc) hD hS hA isC hC
  refine va_calll hr hS (fun q _ h => hF q h) hF (fun r u t H1 locs1 ht hvm hw hB hz1 hk1 hS1 => ?_)
  obtain ⟨hP1, hK1, hD1⟩ := hB
  rw [ht] at hP1
  obtain ⟨hP2, hD2⟩ := va_join (wr := wr) (w1 := u) hP hD isC isR hC hR hn hdis hk1 hF hP1 hD1
  exact kk r u H1 locs1 hw hP2 hD2 hS1
theorem kz_kv {post : va_W → Prop} (hr : va_Run p l e R s m args below meth c H locs cells slots mc ms (F0 m pc ls st0) rest (va_Qv post (kz_B D ty (va_A wc H.size)) (va_A wc H.size) a) (va_A wc H.size)) (hP : va_P D vwCl ws H) (hD : va_D A0 ws) (hS : va_S A0 H0 H locs) (hA : ∀ q, H0.size ≤ q → A0 q) (isC isR : List Nat) (hC : isC.map (fun i => ws[i]?) = wc.map some) (hR : isR.map (fun i => ws[i]?) = wr.map some) (hn : va_nd isR = true) (hdis : ∀ i ∈ isR, i ∉ isC)
    (kk : ∀ (u : va_W) (H1 : Heap) (locs1 : List Loc), post u → va_P D vwCl (wr ++ u) H1 → va_D A0 (wr ++ u) → va_S A0 H0 H1 locs1 → W p l e R s m args below meth c H1 locs1 (cells + mc) (slots + ms) Q (F0 m (pc + 3) ls rest)) : W p l e R s m args below meth c H locs cells slots Q (F0 m pc ls st0) := by
  have hF := va_free (wc := wc) hD hS hA isC hC
  refine va_callv hr hS (fun q _ h => hF q h) hF (fun u t H1 locs1 ht hvm hw hB hz1 hk1 hS1 => ?_)
  obtain ⟨hP1, hK1, hD1⟩ := hB
  rw [ht] at hP1
  obtain ⟨hP2, hD2⟩ := va_join (wr := wr) (w1 := u) hP hD isC isR hC hR hn hdis hk1 hF hP1 hD1
  exact kk u H1 locs1 hw hP2 hD2 hS1
theorem kz_kr {post : Nat → va_W → Prop} (hr : va_Run p l e R s m args below meth c H locs cells slots mc ms (F0 m pc ls st0) rest (va_Qr (fun _ : va_W => True) (fun u r t => post r u ∧ kz_B D ty (va_A wc H.size) u t) (va_A wc H.size) a) (va_A wc H.size)) (hP : va_P D vwCl ws H) (hD : va_D A0 ws) (hS : va_S A0 H0 H locs) (hA : ∀ q, H0.size ≤ q → A0 q) (isC isR : List Nat) (hC : isC.map (fun i => ws[i]?) = wc.map some) (hR : isR.map (fun i => ws[i]?) = wr.map some) (hn : va_nd isR = true) (hdis : ∀ i ∈ isR, i ∉ isC)
    (kk : ∀ (r : Nat) (u : va_W) (H1 : Heap) (locs1 : List Loc), post r u → va_P D vwCl (wr ++ u) H1 → va_D A0 (wr ++ u) → va_S A0 H0 H1 locs1 → W p l e R s m args below meth c H1 locs1 (cells + mc) (slots + ms) Q (F0 m (pc + 3) ls (.ref r :: rest))) : W p l e R s m args below meth c H locs cells slots Q (F0 m pc ls st0) := by
  have hF := va_free (wc := wc) hD hS hA isC hC
  refine va_callr hr hS (fun q _ h => hF q h) hF (fun u r t H1 locs1 ht hvm hw hB hz1 hk1 hS1 => ?_)
  obtain ⟨hw, hP1, hK1, hD1⟩ := hB
  rw [ht] at hP1
  obtain ⟨hP2, hD2⟩ := va_join (wr := wr) (w1 := u) hP hD isC isR hC hR hn hdis hk1 hF hP1 hD1
  exact kk r u H1 locs1 hw hP2 hD2 hS1
end KZ
/-! one array class a type: the class of a new array is the known one -/
theorem kz_cA {D : va_G} {cl : List vw_C} {tys : List (ClassId × FieldType)} {U : State} {t0 t1 : Nat} {c0 c1 : ClassId} {t : FieldType} (h : va_K D cl tys U) (h0 : tys[t0]? = some (c0, t)) (h1 : tys[t1]? = some (c1, t)) (hp : refKind t = false) : c1 = c0 := by
  have e0 := (h.2 t0 _ h0).2
  have e1 := (h.2 t1 _ h1).2
  cases t <;> first | exact Option.some.inj (Eq.trans (Eq.symm (show U.vm.findClass _ = some c1 from e1)) (show U.vm.findClass _ = some c0 from e0)) | exact absurd hp (by simp [refKind])
theorem kz_cAo {D : va_G} {cl : List vw_C} {tys : List (ClassId × FieldType)} {U : State} {t0 t1 : Nat} {c0 c1 : ClassId} {C : String} (h : va_K D cl tys U) (h0 : tys[t0]? = some (c0, .object C)) (h1 : tys[t1]? = some (c1, .object C)) : c1 = c0 := by
  obtain ⟨_, _, _, _, _, e0⟩ := (h.2 t0 _ h0).2
  obtain ⟨_, _, _, _, _, e1⟩ := (h.2 t1 _ h1).2
  exact Option.some.inj (e1.symm.trans e0)
/-! numbers: an Int32 as an integer -/
def kz_rg (x : Int32) (n : Int) : Prop := 0 ≤ x.toInt ∧ x.toInt < n
theorem kz_end {D : va_G} {ty : Nat → ClassId} {A : Nat → Prop} {u : va_W} {s t : State} {H : Heap} (hP : va_P D vwCl u H) (hK : va_K D vwCl (kzT ty) s) (hD : va_D A u) (ht : t.heap = H) (hW : s.WarmedH t.vm) : kz_B D ty A u t := ⟨by rw [ht]; exact hP, va_K.moved hW.alike hK, hD⟩
theorem kz_false {P : Prop} (h : False) : P := h.elim
/-- an answer that is a reference or null -/
def kz_Q (post : Value → va_W → Prop) (B : va_W → State → Prop) (A : Nat → Prop) : Array Value → State → Outcome → State → Prop := fun _ st oc t => (∃ (r : Value) (u : va_W), oc = .returned (some r) ∧ post r u ∧ B u t) ∧ va_F A st t
section KQ
variable {p : Program} {l : Launch} {e : Env} {R : Room} {s : State} {m : MethodId} {args : Array Value} {below : List Frame} {meth : Method} {c : Code} {H : Heap} {locs : List Loc} {cells slots : Nat} {Q : State → Prop}
variable {pc : Nat} {ls : Array Slot} {rest st0 : List Value} {a : Array Value} {A0 : Nat → Prop} {H0 : Heap} {mc ms : Nat} {D : va_G} {ty : Nat → ClassId} {ws wc wr : va_W}
theorem kz_kq {post : Value → va_W → Prop} (hr : va_Run p l e R s m args below meth c H locs cells slots mc ms (F0 m pc ls st0) rest (kz_Q post (kz_B D ty (va_A wc H.size)) (va_A wc H.size) a) (va_A wc H.size)) (hP : va_P D vwCl ws H) (hD : va_D A0 ws) (hS : va_S A0 H0 H locs) (hA : ∀ q, H0.size ≤ q → A0 q) (isC isR : List Nat) (hC : isC.map (fun i => ws[i]?) = wc.map some) (hR : isR.map (fun i => ws[i]?) = wr.map some) (hn : va_nd isR = true) (hdis : ∀ i ∈ isR, i ∉ isC)
    (kk : ∀ (r : Value) (u : va_W) (H1 : Heap) (locs1 : List Loc), post r u → va_P D vwCl (wr ++ u) H1 → va_D A0 (wr ++ u) → va_S A0 H0 H1 locs1 → W p l e R s m args below meth c H1 locs1 (cells + mc) (slots + ms) Q (F0 m (pc + 3) ls (r :: rest))) : W p l e R s m args below meth c H locs cells slots Q (F0 m pc ls st0) := by
  have hF := va_free (wc := wc) hD hS hA isC hC
  intro T hT X
  obtain ⟨v, st₀, t, T', L, h0, X', hL, e1, e2, ⟨⟨r, u, hv, hp, hb⟩, hz, hk⟩, st⟩ := hr T hT X
  cases hv
  rw [h0] at hz hk
  obtain ⟨hP1, hK1, hD1⟩ := hb
  rw [← e1] at hP1
  obtain ⟨hP2, hD2⟩ := va_join (wr := wr) (w1 := u) hP hD isC isR hC hR hn hdis (fun q h1 h2 => by rw [e1]; exact hk q h1 h2) hF hP1 hD1
  obtain ⟨t2, a1, b1⟩ := kk r u T'.heap (locs ++ L) hp hP2 hD2
    ⟨Nat.le_trans hS.1 (by rw [e1]; exact hz), fun q h1 h2 => by rw [e1, hk q (Nat.lt_of_lt_of_le h1 hS.1) (fun z => h2 (hF q z))]; exact hS.2.1 q h1 h2, fun q hq => by
      rcases List.mem_append.mp hq with h | h
      · exact hS.2.2 q h
      · exact hF _ (hL q h)⟩ T' rfl X'
  exact ⟨t2, st t2 a1, b1⟩
end KQ
section KR
variable {p : Program} {l : Launch} {e : Env} {R : Room} {s : State} {m : MethodId} {args : Array Value} {below : List Frame} {meth : Method} {c : Code} {H : Heap} {locs : List Loc} {cells slots : Nat}
variable {pc : Nat} {ls : Array Slot} {A : Nat → Prop} {D : va_G} {ty : Nat → ClassId} {ws : va_W} {cc : ByteArray}
theorem kz_iret {post : Int32 → va_W → Prop} {v : Int32} (hx : p.tables.exec = Jvm.exec) (hb : c.code = cc) (hr : meth.sig.returnType = some .int) (hlocks : meth.locks = false) (hP : va_P D vwCl ws H) (hK : va_K D vwCl (kzT ty) s) (hD : va_D A ws) (hS : va_S A s.heap H locs) (hdg : decode cc pc = .ok (.ireturn, 1)) (hpost : post v ws) : W p l e R s m args below meth c H locs cells slots (MQ below (va_Qi post (kz_B D ty A) A) args s cells slots A) (F0 m pc ls [.int v]) :=
  W.iret hx hb hr (fun t ht hW => ⟨⟨v, ws, rfl, hpost, kz_end hP hK hD ht hW⟩, hS.F ht⟩) hS.2.2 hdg hlocks
theorem kz_zret {post : Int32 → va_W → Prop} {v : Int32} {t0 : FieldType} (hx : p.tables.exec = Jvm.exec) (hb : c.code = cc) (hr : meth.sig.returnType = some t0) (hlocks : meth.locks = false) (hn : narrow t0 (.int v) = .int v) (hP : va_P D vwCl ws H) (hK : va_K D vwCl (kzT ty) s) (hD : va_D A ws) (hS : va_S A s.heap H locs) (hdg : decode cc pc = .ok (.ireturn, 1)) (hpost : post v ws) : W p l e R s m args below meth c H locs cells slots (MQ below (va_Qi post (kz_B D ty A) A) args s cells slots A) (F0 m pc ls [.int v]) :=
  W.zret hx hb hr hn (fun t ht hW => ⟨⟨v, ws, rfl, hpost, kz_end hP hK hD ht hW⟩, hS.F ht⟩) hS.2.2 hdg hlocks
theorem kz_lret {post : Int64 → va_W → Prop} {v : Int64} (hx : p.tables.exec = Jvm.exec) (hb : c.code = cc) (hr : meth.sig.returnType = some .long) (hlocks : meth.locks = false) (hP : va_P D vwCl ws H) (hK : va_K D vwCl (kzT ty) s) (hD : va_D A ws) (hS : va_S A s.heap H locs) (hdg : decode cc pc = .ok (.lreturn, 1)) (hpost : post v ws) : W p l e R s m args below meth c H locs cells slots (MQ below (va_Ql post (kz_B D ty A) A) args s cells slots A) (F0 m pc ls [.long v]) :=
  W.lret hx hb hr (fun t ht hW => ⟨⟨v, ws, rfl, hpost, kz_end hP hK hD ht hW⟩, hS.F ht⟩) hS.2.2 hdg hlocks
theorem kz_vret {post : va_W → Prop} (hx : p.tables.exec = Jvm.exec) (hb : c.code = cc) (hr : meth.sig.returnType = none) (hlocks : meth.locks = false) (hP : va_P D vwCl ws H) (hK : va_K D vwCl (kzT ty) s) (hD : va_D A ws) (hS : va_S A s.heap H locs) (hdg : decode cc pc = .ok (.return_, 1)) (hpost : post ws) : W p l e R s m args below meth c H locs cells slots (MQ below (va_Qv post (kz_B D ty A) A) args s cells slots A) (F0 m pc ls []) :=
  W.vret hx hb hr (fun t ht hW => ⟨⟨ws, rfl, hpost, kz_end hP hK hD ht hW⟩, hS.F ht⟩) hS.2.2 hdg hlocks
theorem kz_aret {post : Value → va_W → Prop} {v : Value} {rt : FieldType} (hx : p.tables.exec = Jvm.exec) (hb : c.code = cc) (hr : meth.sig.returnType = some rt) (hrt : (∃ n, rt = .object n) ∨ ∃ t, rt = .array t) (hv : v = .null ∨ ∃ a, v = .ref a) (hlocks : meth.locks = false) (hP : va_P D vwCl ws H) (hK : va_K D vwCl (kzT ty) s) (hD : va_D A ws) (hS : va_S A s.heap H locs) (hdg : decode cc pc = .ok (.areturn, 1)) (hpost : post v ws) : W p l e R s m args below meth c H locs cells slots (MQ below (kz_Q post (kz_B D ty A) A) args s cells slots A) (F0 m pc ls [v]) :=
  W.aret hx hb hr hrt hv (fun t ht hW => ⟨⟨v, ws, rfl, hpost, kz_end hP hK hD ht hW⟩, hS.F ht⟩) hS.2.2 hdg hlocks
end KR
/-! a counted loop: what holds at its head at the i-th time -/
theorem kz_loop {p : Program} {l : Launch} {e : Env} {R : Room} {s : State} {m : MethodId} {args : Array Value} {below : List Frame} {meth : Method} {c : Code} {cells slots : Nat} {Q : State → Prop} {pc : Nat} {st : List Value} (N : Nat) (I : Nat → Heap → List Loc → Array Slot → Prop)
    (step : ∀ (i : Nat) (H : Heap) (locs : List Loc) (ls : Array Slot), i ≤ N → I i H locs ls → (∀ (H' : Heap) (locs' : List Loc) (ls' : Array Slot), i < N → I (i + 1) H' locs' ls' → W p l e R s m args below meth c H' locs' cells slots Q (F0 m pc ls' st)) → W p l e R s m args below meth c H locs cells slots Q (F0 m pc ls st))
    (H : Heap) (locs : List Loc) (ls : Array Slot) (h0 : I 0 H locs ls) : W p l e R s m args below meth c H locs cells slots Q (F0 m pc ls st) := by
  have key : ∀ (n i : Nat) (H : Heap) (locs : List Loc) (ls : Array Slot), i ≤ N → N - i < n → I i H locs ls → W p l e R s m args below meth c H locs cells slots Q (F0 m pc ls st) := by
    intro n
    induction n with
    | zero => intro i H locs ls h1 h2; omega
    | succ n ih => intro i H locs ls h1 h2 h3; exact step i H locs ls h1 h3 (fun H' locs' ls' h4 h5 => ih (i + 1) H' locs' ls' (by omega) (by omega) h5)
  exact key (N + 1) 0 H locs ls (Nat.zero_le N) (by omega) h0
def kz_fl (f : Nat → Int32) (n : Nat) (v : Int32) : Nat → Int32 := fun j => if j < n then v else f j
def kz_flL (f : Nat → Int64) (n : Nat) (v : Int64) : Nat → Int64 := fun j => if j < n then v else f j
theorem kz_fl_0 (f : Nat → Int32) (v : Int32) : kz_fl f 0 v = f := by funext j; simp [kz_fl]
theorem kz_flL_0 (f : Nat → Int64) (v : Int64) : kz_flL f 0 v = f := by funext j; simp [kz_flL]
theorem kz_fl_s (f : Nat → Int32) (i : Nat) (v : Int32) : upd (kz_fl f i v) i v = kz_fl f (i + 1) v := by
  funext j
  simp only [upd, kz_fl]
  by_cases h : j = i
  · simp [h]
  · by_cases h2 : j < i
    · simp [h, h2, Nat.lt_succ_of_lt h2]
    · have h3 : ¬ j < i + 1 := by omega
      simp [h, h2, h3]
theorem kz_flL_s (f : Nat → Int64) (i : Nat) (v : Int64) : vp_updL (kz_flL f i v) i v = kz_flL f (i + 1) v := by
  funext j
  simp only [vp_updL, kz_flL]
  by_cases h : j = i
  · simp [h]
  · by_cases h2 : j < i
    · simp [h, h2, Nat.lt_succ_of_lt h2]
    · have h3 : ¬ j < i + 1 := by omega
      simp [h, h2, h3]
/-! the cells told anew; the number on top told anew -/
theorem kz_re {D : va_G} {cl : List vw_C} {A : Nat → Prop} {w w2 : va_W} {H0 H : Heap} {locs : List Loc} {G : Prop} (hP : va_P D cl w H) (hD : va_D A w) (hS : va_S A H0 H locs) (e : w = w2) (k : va_P D cl w2 H → va_D A w2 → va_S A H0 H locs → G) : G := by
  subst e
  exact k hP hD hS
section KX
variable {p : Program} {l : Launch} {e : Env} {R : Room} {s : State} {m : MethodId} {args : Array Value} {below : List Frame} {meth : Method} {c : Code} {H : Heap} {locs : List Loc} {cells slots : Nat} {Q : State → Prop}
variable {pc : Nat} {ls : Array Slot} {rest : List Value}
theorem kz_topi {x : Int32} (y : Int32) (h : x = y) (k : W p l e R s m args below meth c H locs cells slots Q (F0 m pc ls (.int y :: rest))) : W p l e R s m args below meth c H locs cells slots Q (F0 m pc ls (.int x :: rest)) := by
  subst h
  exact k
theorem kz_topl {x : Int64} (y : Int64) (h : x = y) (k : W p l e R s m args below meth c H locs cells slots Q (F0 m pc ls (.long y :: rest))) : W p l e R s m args below meth c H locs cells slots Q (F0 m pc ls (.long x :: rest)) := by
  subst h
  exact k
end KX
