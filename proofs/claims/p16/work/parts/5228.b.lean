section
theorem u9_wsX9_back_X9 : ∀ w ∈ u_ws RX9 TX9 19, w ∈ wsX9_back := fun w h => List.mem_cons_of_mem _ (vW9_wsX90 w h)
theorem f9_wsX9_back_959 : (Cond.fieldLink RX9 20 "TurnedFloors" "kept" "[Z") ∈ wsX9_back := List.mem_cons_of_mem _ mvW9_649
theorem f9_wsX9_back_960 : (Cond.fieldLink RX9 10 "TurnedFloors" "state" "LTurnedFloors$State;") ∈ wsX9_back := List.mem_cons_of_mem _ mvW9_0
theorem f9_wsX9_back_961 : (Cond.fieldLink RX9 16 "TurnedFloors" "images" "[LTurnedFloors$State;") ∈ wsX9_back := List.mem_cons_of_mem _ mvW9_648
theorem f9_wsX9_back_962 : (Cond.fieldLink RX9 27 "TurnedFloors" "history" "LTurnedFloors$History;") ∈ wsX9_back := List.mem_cons_of_mem _ mvW9_1
theorem u9_wsX8_onHeads_X8 : ∀ w ∈ u_ws RX8 TX8 5, w ∈ wsX8_onHeads := fun w h => List.mem_cons_of_mem _ (vW9_wsX80 w h)
theorem f9_wsX8_onHeads_964 : (Cond.fieldLink RX8 18 "TurnedFloors$Tower" "floors" "I") ∈ wsX8_onHeads := List.mem_cons_of_mem _ mvW9_20
theorem f9_wsX8_onHeads_965 : (Cond.fieldLink RX8 15 "TurnedFloors$Tower" "head" "[I") ∈ wsX8_onHeads := List.mem_cons_of_mem _ mvW9_26
set_option maxHeartbeats 4000000 in
set_option maxRecDepth 100000 in
theorem WX6_copyFrom_s1_s49_94b {p : Program} {l : Launch} {e : Env} {s : State} {m : MethodId} {args : Array Value} {below : List Frame} {meth : Method} {c : Code} {D : va_G} {ty : Nat → ClassId} {eo : Nat → Nat} {A : Nat → Prop} {ad : Nat → Nat} {o2 : dK} (C : dc_C p s m args meth c cX6_copyFrom none 3 RX6 wsX6_copyFrom D ty eo A) {k94 : dK → Int32 → Option (dK)} (hk94 : ∀ (q : dK) (x2 : Int32) (H : Heap) (locs : List Loc) (ls : Array Slot), k94 q x2 = some o2 → va_P D vwCl (wF ty ad q) H → va_D A (wF ty ad q) → va_S A s.heap H locs → lv_has ls 3 [(0, .ref (ad 1)), (1, .ref (ad 49)), (2, .int x2)] → W p l e ({ frames := 2, cells := 0, slots := 0, locals := 46 } : Room) s m args below meth c H locs 0 0 (MQ below (va_Qv (fun (u : va_W) => wF ty ad o2 = u) (kz_B D ty A) A) args s 0 0 A) (F0 m 94 ls [])) (q : dK) (x2 : Int32) (H : Heap) (locs : List Loc) (ls : Array Slot) (h : zX6_copyFrom_s1_s49_94b k94 q x2 = some o2) (hP : va_P D vwCl (wF ty ad q) H) (hD : va_D A (wF ty ad q)) (hS : va_S A s.heap H locs) (hl : lv_has ls 3 [(0, .ref (ad 1)), (1, .ref (ad 49)), (2, .int x2)]) : W p l e ({ frames := 2, cells := 0, slots := 0, locals := 46 } : Room) s m args below meth c H locs 0 0 (MQ below (va_Qv (fun (u : va_W) => wF ty ad o2 = u) (kz_B D ty A) A) args s 0 0 A) (F0 m 94 ls []) := by
  have C0 := C
  obtain ⟨hx, hb, hr, hts, hown, hlocks, hml, hK, hN, hE, hA⟩ := C
  unfold zX6_copyFrom_s1_s49_94b at h
  refine lv_iload_n hx hb dX6_copyFrom_94 rfl (lv_at hl 2 rfl) ?_
  refine lv_bipush (v := 6) hx hb dX6_copyFrom_95 (by decide) ?_
  refine lv_icmp_ge (tgt := 118) hx hb dX6_copyFrom_97 (by decide) (fun c9 => ?_) (fun c9 => ?_)
  · rw [if_pos c9] at h
    refine lv_aload_n hx hb dX6_copyFrom_118 rfl (lv_at hl 0 rfl) ?_
    refine lv_aload_n hx hb dX6_copyFrom_119 rfl (lv_at hl 1 rfl) ?_
    refine va_get (D := D) (ci := 6) (v := .int (q.1 49 9)) (C := RX6) (T := TX6) (N := 10) hx hb hts u9_wsX6_copyFrom_X6 hown hK hP 49 rfl rfl 9 (by decide) (hts (.fieldLink RX6 47 "TurnedFloors$State" "inForce" "I") f9_wsX6_copyFrom_944) (fun _ h9 => h9) rfl dX6_copyFrom_120 ?_
    refine va_put (D := D) (ci := 6) (v := .int (q.1 49 9)) (ty := .int) (C := RX6) (T := TX6) (N := 10) hx hb hts u9_wsX6_copyFrom_X6 tyX6 tyX6_ok nmX6 hown hK hP hD hS 1 rfl rfl 9 (by decide) (hts (.fieldLink RX6 47 "TurnedFloors$State" "inForce" "I") f9_wsX6_copyFrom_944) (fun _ h9 => h9) rfl (by decide +kernel) rfl rfl (Nat.le_of_ble_eq_true rfl) dX6_copyFrom_123 (fun H locs hp hd hs => ?_)
    obtain ⟨q1, eq1, h⟩ := dL_some h
    refine kz_re (w2 := wF ty ad q1) hp hd hs (by rw [← eq1]; exact wF_f1_9 ty ad q (q.1 49 9)) ?_
    clear hp hd hs hP hD hS
    intro hP hD hS
    cases h
    exact kz_vret hx hb hr hlocks hP hK hD hS dX6_copyFrom_126 rfl
  · rw [if_neg c9] at h
    refine lv_aload_n hx hb dX6_copyFrom_100 rfl (lv_at hl 0 rfl) ?_
    refine va_get (D := D) (ci := 6) (v := .ref (ad 7)) (C := RX6) (T := TX6) (N := 10) hx hb hts u9_wsX6_copyFrom_X6 hown hK hP 1 rfl rfl 7 (by decide) (hts (.fieldLink RX6 40 "TurnedFloors$State" "laws" "[LTurnedFloors$Text;") f9_wsX6_copyFrom_945) (fun _ h9 => h9) rfl dX6_copyFrom_101 ?_
    refine lv_iload_n hx hb dX6_copyFrom_104 rfl (lv_at hl 2 rfl) ?_
    refine lv_aload_n hx hb dX6_copyFrom_105 rfl (lv_at hl 1 rfl) ?_
    refine va_get (D := D) (ci := 6) (v := .ref (ad 55)) (C := RX6) (T := TX6) (N := 10) hx hb hts u9_wsX6_copyFrom_X6 hown hK hP 49 rfl rfl 7 (by decide) (hts (.fieldLink RX6 40 "TurnedFloors$State" "laws" "[LTurnedFloors$Text;") f9_wsX6_copyFrom_945) (fun _ h9 => h9) rfl dX6_copyFrom_106 ?_
    refine lv_iload_n hx hb dX6_copyFrom_109 rfl (lv_at hl 2 rfl) ?_
    obtain ⟨g2, h⟩ := dG_some h
    refine va_aldq hx hb hK hP 55 5 rfl rfl (dg_in g2) dX6_copyFrom_110 ?_
    obtain ⟨v3, ev3, h⟩ := dL_some h
    refine kz_topv (y := dLw ad v3) (by rw [dLs_rf (dg_lt g2), ev3]) ?_
    obtain ⟨g4, h⟩ := dG_some h
    by_cases c5 : v3 = 0
    · rw [if_pos c5] at h
      refine kz_topv (if_pos c5) ?_
      refine va_astqN hx hb hK hP hD hS 7 5 rfl rfl (dg_in g4) dX6_copyFrom_111 (fun H locs hp hd hs => ?_)
      rw [dLs_up0 (dg_lt g4)] at hp hd
      obtain ⟨q6, eq6, h⟩ := dL_some h
      refine kz_re (w2 := wF ty ad q6) hp hd hs (by rw [← eq6]; exact wF_t7 ty ad q (Int32.toNatClampNeg x2) 0) ?_
      clear hp hd hs hP hD hS
      intro hP hD hS
      refine lv_iinc (v := x2 + 1) (lv' := [(2, .int (x2 + 1)), (0, .ref (ad 1)), (1, .ref (ad 49))]) hx hb dX6_copyFrom_112 hl (k := 2) rfl rfl (by decide) rfl (fun ls hl => ?_)
      refine lv_goto (tgt := 94) hx hb dX6_copyFrom_115 (by decide) ?_
      exact hk94 _ _ _ _ _ h hP hD hS (lv_sub hl [1, 2, 0] rfl)
    · rw [if_neg c5] at h
      refine kz_topv (if_neg c5) ?_
      obtain ⟨g7, h⟩ := dG_some h
      refine va_astq hx hb hK hP hD hS 7 5 _ 7 rfl rfl (lw_o g7) rfl (dg_in g4) dX6_copyFrom_111 (fun H locs hp hd hs => ?_)
      rw [dLs_up (dg_lt g4) c5] at hp hd
      obtain ⟨q8, eq8, h⟩ := dL_some h
      refine kz_re (w2 := wF ty ad q8) hp hd hs (by rw [← eq8]; exact wF_t7 ty ad q (Int32.toNatClampNeg x2) v3) ?_
      clear hp hd hs hP hD hS
      intro hP hD hS
      refine lv_iinc (v := x2 + 1) (lv' := [(2, .int (x2 + 1)), (0, .ref (ad 1)), (1, .ref (ad 49))]) hx hb dX6_copyFrom_112 hl (k := 2) rfl rfl (by decide) rfl (fun ls hl => ?_)
      refine lv_goto (tgt := 94) hx hb dX6_copyFrom_115 (by decide) ?_
      exact hk94 _ _ _ _ _ h hP hD hS (lv_sub hl [1, 2, 0] rfl)
set_option maxHeartbeats 4000000 in
set_option maxRecDepth 100000 in
theorem WX6_copyFrom_s1_s49_94 {p : Program} {l : Launch} {e : Env} {s : State} {m : MethodId} {args : Array Value} {below : List Frame} {meth : Method} {c : Code} {D : va_G} {ty : Nat → ClassId} {eo : Nat → Nat} {A : Nat → Prop} {ad : Nat → Nat} {o2 : dK} (C : dc_C p s m args meth c cX6_copyFrom none 3 RX6 wsX6_copyFrom D ty eo A)   (n : Nat) (q : dK) (x2 : Int32) (H : Heap) (locs : List Loc) (ls : Array Slot) (h : zX6_copyFrom_s1_s49_94  n q x2 = some o2) (hP : va_P D vwCl (wF ty ad q) H) (hD : va_D A (wF ty ad q)) (hS : va_S A s.heap H locs) (hl : lv_has ls 3 [(0, .ref (ad 1)), (1, .ref (ad 49)), (2, .int x2)]) : W p l e ({ frames := 2, cells := 0, slots := 0, locals := 46 } : Room) s m args below meth c H locs 0 0 (MQ below (va_Qv (fun (u : va_W) => wF ty ad o2 = u) (kz_B D ty A) A) args s 0 0 A) (F0 m 94 ls []) := by
  exact dFix_W (F := fun k (a : dK × Int32) => zX6_copyFrom_s1_s49_94b  (fun q x2 => k (q, x2)) a.1 a.2) (o := o2) (P := fun (a : dK × Int32) H locs ls => va_P D vwCl (wF ty ad a.1) H ∧ va_D A (wF ty ad a.1) ∧ va_S A s.heap H locs ∧ lv_has ls 3 [(0, .ref (ad 1)), (1, .ref (ad 49)), (2, .int a.2)]) (G := fun H locs ls => W p l e ({ frames := 2, cells := 0, slots := 0, locals := 46 } : Room) s m args below meth c H locs 0 0 (MQ below (va_Qv (fun (u : va_W) => wF ty ad o2 = u) (kz_B D ty A) A) args s 0 0 A) (F0 m 94 ls []))
    (fun k hk a H locs ls h hp => WX6_copyFrom_s1_s49_94b C  (fun q x2 H locs ls h h1 h2 h3 h4 => hk (q, x2) H locs ls h ⟨h1, h2, h3, h4⟩) a.1 a.2 H locs ls h hp.1 hp.2.1 hp.2.2.1 hp.2.2.2) n (q, x2) H locs ls h ⟨hP, hD, hS, hl⟩
set_option maxHeartbeats 4000000 in
set_option maxRecDepth 100000 in
theorem WX6_copyFrom_s1_s49_48b {p : Program} {l : Launch} {e : Env} {s : State} {m : MethodId} {args : Array Value} {below : List Frame} {meth : Method} {c : Code} {D : va_G} {ty : Nat → ClassId} {eo : Nat → Nat} {A : Nat → Prop} {ad : Nat → Nat} {o2 : dK} (C : dc_C p s m args meth c cX6_copyFrom none 3 RX6 wsX6_copyFrom D ty eo A) {k48 : dK → Int32 → Option (dK)} (hk48 : ∀ (q : dK) (x2 : Int32) (H : Heap) (locs : List Loc) (ls : Array Slot), k48 q x2 = some o2 → va_P D vwCl (wF ty ad q) H → va_D A (wF ty ad q) → va_S A s.heap H locs → lv_has ls 3 [(0, .ref (ad 1)), (1, .ref (ad 49)), (2, .int x2)] → W p l e ({ frames := 2, cells := 0, slots := 0, locals := 46 } : Room) s m args below meth c H locs 0 0 (MQ below (va_Qv (fun (u : va_W) => wF ty ad o2 = u) (kz_B D ty A) A) args s 0 0 A) (F0 m 48 ls [])) (q : dK) (x2 : Int32) (H : Heap) (locs : List Loc) (ls : Array Slot) (h : zX6_copyFrom_s1_s49_48b k48 q x2 = some o2) (hP : va_P D vwCl (wF ty ad q) H) (hD : va_D A (wF ty ad q)) (hS : va_S A s.heap H locs) (hl : lv_has ls 3 [(0, .ref (ad 1)), (1, .ref (ad 49)), (2, .int x2)]) : W p l e ({ frames := 2, cells := 0, slots := 0, locals := 46 } : Room) s m args below meth c H locs 0 0 (MQ below (va_Qv (fun (u : va_W) => wF ty ad o2 = u) (kz_B D ty A) A) args s 0 0 A) (F0 m 48 ls []) := by
  have C0 := C
  obtain ⟨hx, hb, hr, hts, hown, hlocks, hml, hK, hN, hE, hA⟩ := C
  unfold zX6_copyFrom_s1_s49_48b at h
  refine lv_iload_n hx hb dX6_copyFrom_48 rfl (lv_at hl 2 rfl) ?_
  refine lv_bipush (v := 6) hx hb dX6_copyFrom_49 (by decide) ?_
  refine lv_icmp_ge (tgt := 84) hx hb dX6_copyFrom_51 (by decide) (fun c9 => ?_) (fun c9 => ?_)
  · rw [if_pos c9] at h
    refine lv_aload_n hx hb dX6_copyFrom_84 rfl (lv_at hl 0 rfl) ?_
    refine lv_aload_n hx hb dX6_copyFrom_85 rfl (lv_at hl 1 rfl) ?_
    refine va_get (D := D) (ci := 6) (v := .int (q.1 49 8)) (C := RX6) (T := TX6) (N := 10) hx hb hts u9_wsX6_copyFrom_X6 hown hK hP 49 rfl rfl 8 (by decide) (hts (.fieldLink RX6 44 "TurnedFloors$State" "lawCount" "I") f9_wsX6_copyFrom_946) (fun _ h9 => h9) rfl dX6_copyFrom_86 ?_
    refine va_put (D := D) (ci := 6) (v := .int (q.1 49 8)) (ty := .int) (C := RX6) (T := TX6) (N := 10) hx hb hts u9_wsX6_copyFrom_X6 tyX6 tyX6_ok nmX6 hown hK hP hD hS 1 rfl rfl 8 (by decide) (hts (.fieldLink RX6 44 "TurnedFloors$State" "lawCount" "I") f9_wsX6_copyFrom_946) (fun _ h9 => h9) rfl (by decide +kernel) rfl rfl (Nat.le_of_ble_eq_true rfl) dX6_copyFrom_89 (fun H locs hp hd hs => ?_)
    obtain ⟨q1, eq1, h⟩ := dL_some h
    refine kz_re (w2 := wF ty ad q1) hp hd hs (by rw [← eq1]; exact wF_f1_8 ty ad q (q.1 49 8)) ?_
    clear hp hd hs hP hD hS
    intro hP hD hS
    refine lv_iconst (v := 0) hx hb dX6_copyFrom_92 (by decide) ?_
    refine lv_istore_n (lv' := [(2, .int 0), (0, .ref (ad 1)), (1, .ref (ad 49))]) hx hb dX6_copyFrom_93 rfl hl (by decide) rfl (fun ls hl => ?_)
    exact WX6_copyFrom_s1_s49_94 C0  _ _ _ _ _ _ h hP hD hS (lv_sub hl [1, 2, 0] rfl)
  · rw [if_neg c9] at h
    refine lv_aload_n hx hb dX6_copyFrom_54 rfl (lv_at hl 0 rfl) ?_
    refine va_get (D := D) (ci := 6) (v := .ref (ad 5)) (C := RX6) (T := TX6) (N := 10) hx hb hts u9_wsX6_copyFrom_X6 hown hK hP 1 rfl rfl 4 (by decide) (hts (.fieldLink RX6 28 "TurnedFloors$State" "seenPlace" "[I") f9_wsX6_copyFrom_947) (fun _ h9 => h9) rfl dX6_copyFrom_55 ?_
    refine lv_iload_n hx hb dX6_copyFrom_58 rfl (lv_at hl 2 rfl) ?_
    refine lv_aload_n hx hb dX6_copyFrom_59 rfl (lv_at hl 1 rfl) ?_
    refine va_get (D := D) (ci := 6) (v := .ref (ad 53)) (C := RX6) (T := TX6) (N := 10) hx hb hts u9_wsX6_copyFrom_X6 hown hK hP 49 rfl rfl 4 (by decide) (hts (.fieldLink RX6 28 "TurnedFloors$State" "seenPlace" "[I") f9_wsX6_copyFrom_947) (fun _ h9 => h9) rfl dX6_copyFrom_60 ?_
    refine lv_iload_n hx hb dX6_copyFrom_63 rfl (lv_at hl 2 rfl) ?_
    obtain ⟨g2, h⟩ := dG_some h
    refine va_iald hx hb hK hP 53 0 rfl rfl (dg_in g2) dX6_copyFrom_64 ?_
    obtain ⟨v3, ev3, h⟩ := dL_some h
    refine kz_topi v3 ev3 ?_
    obtain ⟨g4, h⟩ := dG_some h
    refine va_iast hx hb hK hP hD hS 5 0 rfl rfl (dg_in g4) dX6_copyFrom_65 (fun H locs hp hd hs => ?_)
    obtain ⟨q5, eq5, h⟩ := dL_some h
    refine kz_re (w2 := wF ty ad q5) hp hd hs (by rw [← eq5]; exact wF_a5 ty ad q (Int32.toNatClampNeg x2) v3) ?_
    clear hp hd hs hP hD hS
    intro hP hD hS
    refine lv_aload_n hx hb dX6_copyFrom_66 rfl (lv_at hl 0 rfl) ?_
    refine va_get (D := D) (ci := 6) (v := .ref (ad 6)) (C := RX6) (T := TX6) (N := 10) hx hb hts u9_wsX6_copyFrom_X6 hown hK hP 1 rfl rfl 5 (by decide) (hts (.fieldLink RX6 32 "TurnedFloors$State" "seenRank" "[I") f9_wsX6_copyFrom_948) (fun _ h9 => h9) rfl dX6_copyFrom_67 ?_
    refine lv_iload_n hx hb dX6_copyFrom_70 rfl (lv_at hl 2 rfl) ?_
    refine lv_aload_n hx hb dX6_copyFrom_71 rfl (lv_at hl 1 rfl) ?_
    refine va_get (D := D) (ci := 6) (v := .ref (ad 54)) (C := RX6) (T := TX6) (N := 10) hx hb hts u9_wsX6_copyFrom_X6 hown hK hP 49 rfl rfl 5 (by decide) (hts (.fieldLink RX6 32 "TurnedFloors$State" "seenRank" "[I") f9_wsX6_copyFrom_948) (fun _ h9 => h9) rfl dX6_copyFrom_72 ?_
    refine lv_iload_n hx hb dX6_copyFrom_75 rfl (lv_at hl 2 rfl) ?_
    obtain ⟨g6, h⟩ := dG_some h
    refine va_iald hx hb hK hP 54 0 rfl rfl (dg_in g6) dX6_copyFrom_76 ?_
    obtain ⟨v7, ev7, h⟩ := dL_some h
    refine kz_topi v7 ev7 ?_
    obtain ⟨g8, h⟩ := dG_some h
    refine va_iast hx hb hK hP hD hS 6 0 rfl rfl (dg_in g8) dX6_copyFrom_77 (fun H locs hp hd hs => ?_)
    obtain ⟨q9, eq9, h⟩ := dL_some h
    refine kz_re (w2 := wF ty ad q9) hp hd hs (by rw [← eq9]; exact wF_a6 ty ad q5 (Int32.toNatClampNeg x2) v7) ?_
    clear hp hd hs hP hD hS
    intro hP hD hS
    refine lv_iinc (v := x2 + 1) (lv' := [(2, .int (x2 + 1)), (0, .ref (ad 1)), (1, .ref (ad 49))]) hx hb dX6_copyFrom_78 hl (k := 2) rfl rfl (by decide) rfl (fun ls hl => ?_)
    refine lv_goto (tgt := 48) hx hb dX6_copyFrom_81 (by decide) ?_
    exact hk48 _ _ _ _ _ h hP hD hS (lv_sub hl [1, 2, 0] rfl)
set_option maxHeartbeats 4000000 in
set_option maxRecDepth 100000 in
theorem WX6_copyFrom_s1_s49_48 {p : Program} {l : Launch} {e : Env} {s : State} {m : MethodId} {args : Array Value} {below : List Frame} {meth : Method} {c : Code} {D : va_G} {ty : Nat → ClassId} {eo : Nat → Nat} {A : Nat → Prop} {ad : Nat → Nat} {o2 : dK} (C : dc_C p s m args meth c cX6_copyFrom none 3 RX6 wsX6_copyFrom D ty eo A)   (n : Nat) (q : dK) (x2 : Int32) (H : Heap) (locs : List Loc) (ls : Array Slot) (h : zX6_copyFrom_s1_s49_48  n q x2 = some o2) (hP : va_P D vwCl (wF ty ad q) H) (hD : va_D A (wF ty ad q)) (hS : va_S A s.heap H locs) (hl : lv_has ls 3 [(0, .ref (ad 1)), (1, .ref (ad 49)), (2, .int x2)]) : W p l e ({ frames := 2, cells := 0, slots := 0, locals := 46 } : Room) s m args below meth c H locs 0 0 (MQ below (va_Qv (fun (u : va_W) => wF ty ad o2 = u) (kz_B D ty A) A) args s 0 0 A) (F0 m 48 ls []) := by
  exact dFix_W (F := fun k (a : dK × Int32) => zX6_copyFrom_s1_s49_48b  (fun q x2 => k (q, x2)) a.1 a.2) (o := o2) (P := fun (a : dK × Int32) H locs ls => va_P D vwCl (wF ty ad a.1) H ∧ va_D A (wF ty ad a.1) ∧ va_S A s.heap H locs ∧ lv_has ls 3 [(0, .ref (ad 1)), (1, .ref (ad 49)), (2, .int a.2)]) (G := fun H locs ls => W p l e ({ frames := 2, cells := 0, slots := 0, locals := 46 } : Room) s m args below meth c H locs 0 0 (MQ below (va_Qv (fun (u : va_W) => wF ty ad o2 = u) (kz_B D ty A) A) args s 0 0 A) (F0 m 48 ls []))
    (fun k hk a H locs ls h hp => WX6_copyFrom_s1_s49_48b C  (fun q x2 H locs ls h h1 h2 h3 h4 => hk (q, x2) H locs ls h ⟨h1, h2, h3, h4⟩) a.1 a.2 H locs ls h hp.1 hp.2.1 hp.2.2.1 hp.2.2.2) n (q, x2) H locs ls h ⟨hP, hD, hS, hl⟩
set_option maxHeartbeats 4000000 in
set_option maxRecDepth 100000 in
theorem qX6_copyFrom_s1_s49 (l : Launch) (D : va_G) (ty : Nat → ClassId) (eo : Nat → Nat) (sz : Nat) (ad : Nat → Nat) (q : dK)  (o2 : dK) (h : zX6_copyFrom_s1_s49 q = some o2) : Met l yX6_copyFrom wsX6_copyFrom ({ frames := 2, cells := 0, slots := 0, locals := 46 } : Room) (va_Pc [.ref (ad 1), .ref (ad 49)] (kz_pre D ty eo (wF ty ad q) sz)) (va_Qv (fun (u : va_W) => wF ty ad o2 = u) (kz_B D ty (va_A (wF ty ad q) sz)) (va_A (wF ty ad q) sz)) 0 0 (va_A (wF ty ad q) sz) := by
  refine Met.ofW (cc := cX6_copyFrom) (maxL := 3) (ret := none) (by decide) rfl ?_
  intro p e s m args below meth c s₁ B hml hv
  obtain ⟨rfl, hsz, hP, hK, hD0, hN, hE⟩ := hv
  have hx := B.exec
  have hb := B.bytes
  have hr := B.returns
  have hts := atoms_spec (ws := wsX6_copyFrom) B.pre
  have hown : s.vm.findClass RX6 = some m.cls := findClass_of_methodNamed B.named
  have hlocks := B.notSynchronized
  subst hsz
  have hD := hD0.self (sz := s.heap.size)
  generalize hAe : va_A (wF ty ad q) s.heap.size = A at hD hE ⊢
  have hA : ∀ q : Nat, s.heap.size ≤ q → A q := fun q h => by rw [← hAe]; exact Or.inr h
  clear hAe
  have hS : va_S A s.heap s.heap [] := va_S.rf
  have hl := lv_entry ([.ref (ad 1), .ref (ad 49)]) (n := 3) (Nat.le_of_ble_eq_true rfl)
  rw [lg_entry_eq]
  generalize (lg_sl ([.ref (ad 1), .ref (ad 49)]) ++ List.replicate (3 - (lg_sl ([.ref (ad 1), .ref (ad 49)])).length) Slot.unset).toArray = ls at hl ⊢
  have hl : lv_has ls 3 [(0, .ref (ad 1)), (1, .ref (ad 49))] := hl
  have C : dc_C p s m _ meth c cX6_copyFrom none 3 RX6 wsX6_copyFrom D ty eo A := ⟨hx, hb, hr, hts, hown, hlocks, hml, hK, hN, hE, hA⟩
  unfold zX6_copyFrom_s1_s49 at h
  refine lv_aload_n hx hb dX6_copyFrom_0 rfl (lv_at hl 0 rfl) ?_
  refine va_get (D := D) (ci := 6) (v := .ref (ad 2)) (C := RX6) (T := TX6) (N := 10) hx hb hts u9_wsX6_copyFrom_X6 hown hK hP 1 rfl rfl 0 (by decide) (hts (.fieldLink RX6 12 "TurnedFloors$State" "tower" "LTurnedFloors$Tower;") f9_wsX6_copyFrom_949) (fun _ h9 => h9) rfl dX6_copyFrom_1 ?_
  refine lv_aload_n hx hb dX6_copyFrom_4 rfl (lv_at hl 1 rfl) ?_
  refine va_get (D := D) (ci := 6) (v := .ref (ad 50)) (C := RX6) (T := TX6) (N := 10) hx hb hts u9_wsX6_copyFrom_X6 hown hK hP 49 rfl rfl 0 (by decide) (hts (.fieldLink RX6 12 "TurnedFloors$State" "tower" "LTurnedFloors$Tower;") f9_wsX6_copyFrom_949) (fun _ h9 => h9) rfl dX6_copyFrom_5 ?_
  obtain ⟨r1, q3, h2, h⟩ := dB_some h
  refine dw_kl (va_runV (As := []) (rest := [.ref (ad 2)]) ⟨hx, hb, hml, hown, hts⟩ (qX8_pack_s50 l D ty eo _ ad q  r1 q3 h2) (cwV 0 hts gX6_copyFrom_X8_pack rfl rfl rfl hd_X8_pack_v ⟨Nat.le_of_ble_eq_true rfl, Nat.le_of_ble_eq_true rfl⟩) (pvF_8_50 hK hN hE hP hD hS hA) rfl rfl hl.1 rfl (lv_room (Nat.le_of_ble_eq_true rfl)) dX6_copyFrom_8 ⟨Nat.le_of_ble_eq_true rfl, Nat.le_of_ble_eq_true rfl⟩) hD hS hA (fun r9 u9 H locs hw hp hd hs => ?_)
  clear hP hD hS
  obtain ⟨rfl, rfl⟩ := hw
  have hP := hp; have hD := hd; have hS := hs; clear hp hd hs
  obtain ⟨q6, h5, h⟩ := dV_some h
  refine dw_kv (va_runV (As := [.long r1]) (rest := []) ⟨hx, hb, hml, hown, hts⟩ (qX8_unpack_s2 l D ty eo _ ad q3 r1 q6 h5) (cwV 1 hts gX6_copyFrom_X8_unpack rfl rfl rfl hd_X8_unpack_v ⟨Nat.le_of_ble_eq_true rfl, Nat.le_of_ble_eq_true rfl⟩) (pvF_8_2 hK hN hE hP hD hS hA) rfl rfl hl.1 rfl (lv_room (Nat.le_of_ble_eq_true rfl)) dX6_copyFrom_11 ⟨Nat.le_of_ble_eq_true rfl, Nat.le_of_ble_eq_true rfl⟩) hD hS hA (fun u9 H locs hw hp hd hs => ?_)
  clear hP hD hS
  obtain rfl := hw
  have hP := hp; have hD := hd; have hS := hs; clear hp hd hs
  refine lv_aload_n hx hb dX6_copyFrom_14 rfl (lv_at hl 0 rfl) ?_
  refine lv_aload_n hx hb dX6_copyFrom_15 rfl (lv_at hl 1 rfl) ?_
  refine va_get (D := D) (ci := 6) (v := .int (q6.1 49 1)) (C := RX6) (T := TX6) (N := 10) hx hb hts u9_wsX6_copyFrom_X6 hown hK hP 49 rfl rfl 1 (by decide) (hts (.fieldLink RX6 18 "TurnedFloors$State" "slips" "I") f9_wsX6_copyFrom_950) (fun _ h9 => h9) rfl dX6_copyFrom_16 ?_
  refine va_put (D := D) (ci := 6) (v := .int (q6.1 49 1)) (ty := .int) (C := RX6) (T := TX6) (N := 10) hx hb hts u9_wsX6_copyFrom_X6 tyX6 tyX6_ok nmX6 hown hK hP hD hS 1 rfl rfl 1 (by decide) (hts (.fieldLink RX6 18 "TurnedFloors$State" "slips" "I") f9_wsX6_copyFrom_950) (fun _ h9 => h9) rfl (by decide +kernel) rfl rfl (Nat.le_of_ble_eq_true rfl) dX6_copyFrom_19 (fun H locs hp hd hs => ?_)
  obtain ⟨q7, eq7, h⟩ := dL_some h
  refine kz_re (w2 := wF ty ad q7) hp hd hs (by rw [← eq7]; exact wF_f1_1 ty ad q6 (q6.1 49 1)) ?_
  clear hp hd hs hP hD hS
  intro hP hD hS
  refine lv_aload_n hx hb dX6_copyFrom_22 rfl (lv_at hl 0 rfl) ?_
  refine lv_aload_n hx hb dX6_copyFrom_23 rfl (lv_at hl 1 rfl) ?_
  refine va_get (D := D) (ci := 6) (v := .int (q7.1 49 2)) (C := RX6) (T := TX6) (N := 10) hx hb hts u9_wsX6_copyFrom_X6 hown hK hP 49 rfl rfl 2 (by decide) (hts (.fieldLink RX6 22 "TurnedFloors$State" "mood" "I") f9_wsX6_copyFrom_951) (fun _ h9 => h9) rfl dX6_copyFrom_24 ?_
  refine va_put (D := D) (ci := 6) (v := .int (q7.1 49 2)) (ty := .int) (C := RX6) (T := TX6) (N := 10) hx hb hts u9_wsX6_copyFrom_X6 tyX6 tyX6_ok nmX6 hown hK hP hD hS 1 rfl rfl 2 (by decide) (hts (.fieldLink RX6 22 "TurnedFloors$State" "mood" "I") f9_wsX6_copyFrom_951) (fun _ h9 => h9) rfl (by decide +kernel) rfl rfl (Nat.le_of_ble_eq_true rfl) dX6_copyFrom_27 (fun H locs hp hd hs => ?_)
  obtain ⟨q8, eq8, h⟩ := dL_some h
  refine kz_re (w2 := wF ty ad q8) hp hd hs (by rw [← eq8]; exact wF_f1_2 ty ad q7 (q7.1 49 2)) ?_
  clear hp hd hs hP hD hS
  intro hP hD hS
  refine lv_aload_n hx hb dX6_copyFrom_30 rfl (lv_at hl 0 rfl) ?_
  refine lv_aload_n hx hb dX6_copyFrom_31 rfl (lv_at hl 1 rfl) ?_
  refine va_get (D := D) (ci := 6) (v := .int (q8.1 49 3)) (C := RX6) (T := TX6) (N := 10) hx hb hts u9_wsX6_copyFrom_X6 hown hK hP 49 rfl rfl 3 (by decide) (hts (.fieldLink RX6 25 "TurnedFloors$State" "headsMatter" "I") f9_wsX6_copyFrom_952) (fun _ h9 => h9) rfl dX6_copyFrom_32 ?_
  refine va_put (D := D) (ci := 6) (v := .int (q8.1 49 3)) (ty := .int) (C := RX6) (T := TX6) (N := 10) hx hb hts u9_wsX6_copyFrom_X6 tyX6 tyX6_ok nmX6 hown hK hP hD hS 1 rfl rfl 3 (by decide) (hts (.fieldLink RX6 25 "TurnedFloors$State" "headsMatter" "I") f9_wsX6_copyFrom_952) (fun _ h9 => h9) rfl (by decide +kernel) rfl rfl (Nat.le_of_ble_eq_true rfl) dX6_copyFrom_35 (fun H locs hp hd hs => ?_)
  obtain ⟨q9, eq9, h⟩ := dL_some h
  refine kz_re (w2 := wF ty ad q9) hp hd hs (by rw [← eq9]; exact wF_f1_3 ty ad q8 (q8.1 49 3)) ?_
  clear hp hd hs hP hD hS
  intro hP hD hS
  refine lv_aload_n hx hb dX6_copyFrom_38 rfl (lv_at hl 0 rfl) ?_
  refine lv_aload_n hx hb dX6_copyFrom_39 rfl (lv_at hl 1 rfl) ?_
  refine va_get (D := D) (ci := 6) (v := .int (q9.1 49 6)) (C := RX6) (T := TX6) (N := 10) hx hb hts u9_wsX6_copyFrom_X6 hown hK hP 49 rfl rfl 6 (by decide) (hts (.fieldLink RX6 35 "TurnedFloors$State" "seenCount" "I") f9_wsX6_copyFrom_953) (fun _ h9 => h9) rfl dX6_copyFrom_40 ?_
  refine va_put (D := D) (ci := 6) (v := .int (q9.1 49 6)) (ty := .int) (C := RX6) (T := TX6) (N := 10) hx hb hts u9_wsX6_copyFrom_X6 tyX6 tyX6_ok nmX6 hown hK hP hD hS 1 rfl rfl 6 (by decide) (hts (.fieldLink RX6 35 "TurnedFloors$State" "seenCount" "I") f9_wsX6_copyFrom_953) (fun _ h9 => h9) rfl (by decide +kernel) rfl rfl (Nat.le_of_ble_eq_true rfl) dX6_copyFrom_43 (fun H locs hp hd hs => ?_)
  obtain ⟨q10, eq10, h⟩ := dL_some h
  refine kz_re (w2 := wF ty ad q10) hp hd hs (by rw [← eq10]; exact wF_f1_6 ty ad q9 (q9.1 49 6)) ?_
  clear hp hd hs hP hD hS
  intro hP hD hS
  refine lv_iconst (v := 0) hx hb dX6_copyFrom_46 (by decide) ?_
  refine lv_istore_n (lv' := [(2, .int 0), (0, .ref (ad 1)), (1, .ref (ad 49))]) hx hb dX6_copyFrom_47 rfl hl (by decide) rfl (fun ls hl => ?_)
  exact WX6_copyFrom_s1_s49_48 C  _ _ _ _ _ _ h hP hD hS (lv_sub hl [1, 2, 0] rfl)

set_option maxHeartbeats 4000000 in
set_option maxRecDepth 100000 in
theorem WX8_pack_s57_8b {p : Program} {l : Launch} {e : Env} {s : State} {m : MethodId} {args : Array Value} {below : List Frame} {meth : Method} {c : Code} {D : va_G} {ty : Nat → ClassId} {eo : Nat → Nat} {A : Nat → Prop} {ad : Nat → Nat} {o1 : Int64} {o2 : dK} (C : dc_C p s m args meth c cX8_pack (some .long) 4 RX8 wsX8_pack D ty eo A) {k8 : dK → Int64 → Int32 → Option (Int64 × dK)} (hk8 : ∀ (q : dK) (x1 : Int64) (x3 : Int32) (H : Heap) (locs : List Loc) (ls : Array Slot), k8 q x1 x3 = some (o1, o2) → va_P D vwCl (wF ty ad q) H → va_D A (wF ty ad q) → va_S A s.heap H locs → lv_has ls 4 [(0, .ref (ad 57)), (1, .long x1), (3, .int x3)] → W p l e ({ frames := 0, cells := 0, slots := 0, locals := 0 } : Room) s m args below meth c H locs 0 0 (MQ below (va_Ql (fun (r : Int64) (u : va_W) => o1 = r ∧ wF ty ad o2 = u) (kz_B D ty A) A) args s 0 0 A) (F0 m 8 ls [])) (q : dK) (x1 : Int64) (x3 : Int32) (H : Heap) (locs : List Loc) (ls : Array Slot) (h : zX8_pack_s57_8b k8 q x1 x3 = some (o1, o2)) (hP : va_P D vwCl (wF ty ad q) H) (hD : va_D A (wF ty ad q)) (hS : va_S A s.heap H locs) (hl : lv_has ls 4 [(0, .ref (ad 57)), (1, .long x1), (3, .int x3)]) : W p l e ({ frames := 0, cells := 0, slots := 0, locals := 0 } : Room) s m args below meth c H locs 0 0 (MQ below (va_Ql (fun (r : Int64) (u : va_W) => o1 = r ∧ wF ty ad o2 = u) (kz_B D ty A) A) args s 0 0 A) (F0 m 8 ls []) := by
  have C0 := C
  obtain ⟨hx, hb, hr, hts, hown, hlocks, hml, hK, hN, hE, hA⟩ := C
  unfold zX8_pack_s57_8b at h
  refine lv_iload_n hx hb dX8_pack_8 rfl (lv_at hl 2 rfl) ?_
  refine lv_bipush (v := 6) hx hb dX8_pack_9 (by decide) ?_
  refine lv_icmp_ge (tgt := 42) hx hb dX8_pack_11 (by decide) (fun c9 => ?_) (fun c9 => ?_)
  · rw [if_pos c9] at h
    refine lv_lload_n hx hb dX8_pack_42 rfl (lv_at hl 1 rfl) ?_
    refine lv_bipush (v := 14) hx hb dX8_pack_43 (by decide) ?_
    refine lv_lshl (v := x1 <<< (Int32.toInt64 (14 : Int32) &&& 63)) hx hb dX8_pack_45 rfl ?_
    refine lv_aload_n hx hb dX8_pack_46 rfl (lv_at hl 0 rfl) ?_
    refine va_get (D := D) (ci := 8) (v := .int (q.1 57 3)) (C := RX8) (T := TX8) (N := 5) hx hb hts u9_wsX8_pack_X8 hown hK hP 57 rfl rfl 3 (by decide) (hts (.fieldLink RX8 22 "TurnedFloors$Tower" "paid" "I") f9_wsX8_pack_589) (fun _ h9 => h9) rfl dX8_pack_47 ?_
    refine lv_i2l (v := Int32.toInt64 (q.1 57 3)) hx hb dX8_pack_50 rfl ?_
    refine lv_lor hx hb dX8_pack_51 ?_
    obtain ⟨v1, ev1, h⟩ := dL_some h
    refine kz_topl v1 ev1 ?_
    refine lv_bipush (v := 10) hx hb dX8_pack_52 (by decide) ?_
    refine lv_lshl (v := v1 <<< (Int32.toInt64 (10 : Int32) &&& 63)) hx hb dX8_pack_54 rfl ?_
    refine lv_aload_n hx hb dX8_pack_55 rfl (lv_at hl 0 rfl) ?_
    refine va_get (D := D) (ci := 8) (v := .int (q.1 57 4)) (C := RX8) (T := TX8) (N := 5) hx hb hts u9_wsX8_pack_X8 hown hK hP 57 rfl rfl 4 (by decide) (hts (.fieldLink RX8 25 "TurnedFloors$Tower" "year" "I") f9_wsX8_pack_590) (fun _ h9 => h9) rfl dX8_pack_56 ?_
    refine lv_i2l (v := Int32.toInt64 (q.1 57 4)) hx hb dX8_pack_59 rfl ?_
    refine lv_lor hx hb dX8_pack_60 ?_
    obtain ⟨v2, ev2, h⟩ := dL_some h
    refine kz_topl v2 ev2 ?_
    cases h
    exact kz_lret hx hb hr hlocks hP hK hD hS dX8_pack_61 ⟨rfl, rfl⟩
  · rw [if_neg c9] at h
    refine lv_lload_n hx hb dX8_pack_14 rfl (lv_at hl 1 rfl) ?_
    refine lv_iconst (v := 4) hx hb dX8_pack_15 (by decide) ?_
    refine lv_lshl (v := x1 <<< (Int32.toInt64 (4 : Int32) &&& 63)) hx hb dX8_pack_16 rfl ?_
    refine lv_aload_n hx hb dX8_pack_17 rfl (lv_at hl 0 rfl) ?_
    refine va_get (D := D) (ci := 8) (v := .ref (ad 58)) (C := RX8) (T := TX8) (N := 5) hx hb hts u9_wsX8_pack_X8 hown hK hP 57 rfl rfl 0 (by decide) (hts (.fieldLink RX8 9 "TurnedFloors$Tower" "rank" "[I") f9_wsX8_pack_591) (fun _ h9 => h9) rfl dX8_pack_18 ?_
    refine lv_iload_n hx hb dX8_pack_21 rfl (lv_at hl 2 rfl) ?_
    obtain ⟨g3, h⟩ := dG_some h
    refine va_iald hx hb hK hP 58 0 rfl rfl (dg_in g3) dX8_pack_22 ?_
    obtain ⟨v4, ev4, h⟩ := dL_some h
    refine kz_topi v4 ev4 ?_
    refine lv_iconst (v := 1) hx hb dX8_pack_23 (by decide) ?_
    refine lv_ishl hx hb dX8_pack_24 ?_
    refine lv_i2l (v := Int32.toInt64 (v4 <<< ((1 : Int32) &&& 31) : Int32)) hx hb dX8_pack_25 rfl ?_
    refine lv_lor hx hb dX8_pack_26 ?_
    obtain ⟨v5, ev5, h⟩ := dL_some h
    refine kz_topl v5 ev5 ?_
    refine lv_aload_n hx hb dX8_pack_27 rfl (lv_at hl 0 rfl) ?_
    refine va_get (D := D) (ci := 8) (v := .ref (ad 59)) (C := RX8) (T := TX8) (N := 5) hx hb hts u9_wsX8_pack_X8 hown hK hP 57 rfl rfl 1 (by decide) (hts (.fieldLink RX8 15 "TurnedFloors$Tower" "head" "[I") f9_wsX8_pack_592) (fun _ h9 => h9) rfl dX8_pack_28 ?_
    refine lv_iload_n hx hb dX8_pack_31 rfl (lv_at hl 2 rfl) ?_
    obtain ⟨g6, h⟩ := dG_some h
    refine va_iald hx hb hK hP 59 0 rfl rfl (dg_in g6) dX8_pack_32 ?_
    obtain ⟨v7, ev7, h⟩ := dL_some h
    refine kz_topi v7 ev7 ?_
    refine lv_i2l (v := Int32.toInt64 v7) hx hb dX8_pack_33 rfl ?_
    refine lv_lor hx hb dX8_pack_34 ?_
    refine lv_lstore_n (lv' := [(1, .long (v5 ||| (Int32.toInt64 v7) : Int64)), (0, .ref (ad 57)), (3, .int x3)]) hx hb dX8_pack_35 rfl hl (by decide) rfl (fun ls hl => ?_)
    refine lv_iinc (v := x3 + 1) (lv' := [(3, .int (x3 + 1)), (1, .long (v5 ||| (Int32.toInt64 v7) : Int64)), (0, .ref (ad 57))]) hx hb dX8_pack_36 hl (k := 2) rfl rfl (by decide) rfl (fun ls hl => ?_)
    refine lv_goto (tgt := 8) hx hb dX8_pack_39 (by decide) ?_
    exact hk8 _ _ _ _ _ _ h hP hD hS (lv_sub hl [2, 1, 0] rfl)
set_option maxHeartbeats 4000000 in
set_option maxRecDepth 100000 in
theorem WX8_pack_s57_8 {p : Program} {l : Launch} {e : Env} {s : State} {m : MethodId} {args : Array Value} {below : List Frame} {meth : Method} {c : Code} {D : va_G} {ty : Nat → ClassId} {eo : Nat → Nat} {A : Nat → Prop} {ad : Nat → Nat} {o1 : Int64} {o2 : dK} (C : dc_C p s m args meth c cX8_pack (some .long) 4 RX8 wsX8_pack D ty eo A)   (n : Nat) (q : dK) (x1 : Int64) (x3 : Int32) (H : Heap) (locs : List Loc) (ls : Array Slot) (h : zX8_pack_s57_8  n q x1 x3 = some (o1, o2)) (hP : va_P D vwCl (wF ty ad q) H) (hD : va_D A (wF ty ad q)) (hS : va_S A s.heap H locs) (hl : lv_has ls 4 [(0, .ref (ad 57)), (1, .long x1), (3, .int x3)]) : W p l e ({ frames := 0, cells := 0, slots := 0, locals := 0 } : Room) s m args below meth c H locs 0 0 (MQ below (va_Ql (fun (r : Int64) (u : va_W) => o1 = r ∧ wF ty ad o2 = u) (kz_B D ty A) A) args s 0 0 A) (F0 m 8 ls []) := by
  exact dFix_W (F := fun k (a : dK × Int64 × Int32) => zX8_pack_s57_8b  (fun q x1 x3 => k (q, x1, x3)) a.1 a.2.1 a.2.2) (o := (o1, o2)) (P := fun (a : dK × Int64 × Int32) H locs ls => va_P D vwCl (wF ty ad a.1) H ∧ va_D A (wF ty ad a.1) ∧ va_S A s.heap H locs ∧ lv_has ls 4 [(0, .ref (ad 57)), (1, .long a.2.1), (3, .int a.2.2)]) (G := fun H locs ls => W p l e ({ frames := 0, cells := 0, slots := 0, locals := 0 } : Room) s m args below meth c H locs 0 0 (MQ below (va_Ql (fun (r : Int64) (u : va_W) => o1 = r ∧ wF ty ad o2 = u) (kz_B D ty A) A) args s 0 0 A) (F0 m 8 ls []))
    (fun k hk a H locs ls h hp => WX8_pack_s57_8b C  (fun q x1 x3 H locs ls h h1 h2 h3 h4 => hk (q, x1, x3) H locs ls h ⟨h1, h2, h3, h4⟩) a.1 a.2.1 a.2.2 H locs ls h hp.1 hp.2.1 hp.2.2.1 hp.2.2.2) n (q, x1, x3) H locs ls h ⟨hP, hD, hS, hl⟩
set_option maxHeartbeats 4000000 in
set_option maxRecDepth 100000 in
theorem qX8_pack_s57 (l : Launch) (D : va_G) (ty : Nat → ClassId) (eo : Nat → Nat) (sz : Nat) (ad : Nat → Nat) (q : dK)  (o1 : Int64) (o2 : dK) (h : zX8_pack_s57 q = some (o1, o2)) : Met l yX8_pack wsX8_pack ({ frames := 0, cells := 0, slots := 0, locals := 0 } : Room) (va_Pc [.ref (ad 57)] (kz_pre D ty eo (wF ty ad q) sz)) (va_Ql (fun (r : Int64) (u : va_W) => o1 = r ∧ wF ty ad o2 = u) (kz_B D ty (va_A (wF ty ad q) sz)) (va_A (wF ty ad q) sz)) 0 0 (va_A (wF ty ad q) sz) := by
  refine Met.ofW (cc := cX8_pack) (maxL := 4) (ret := (some .long)) (by decide) rfl ?_
  intro p e s m args below meth c s₁ B hml hv
  obtain ⟨rfl, hsz, hP, hK, hD0, hN, hE⟩ := hv
  have hx := B.exec
  have hb := B.bytes
  have hr := B.returns
  have hts := atoms_spec (ws := wsX8_pack) B.pre
  have hown : s.vm.findClass RX8 = some m.cls := findClass_of_methodNamed B.named
  have hlocks := B.notSynchronized
  subst hsz
  have hD := hD0.self (sz := s.heap.size)
  generalize hAe : va_A (wF ty ad q) s.heap.size = A at hD hE ⊢
  have hA : ∀ q : Nat, s.heap.size ≤ q → A q := fun q h => by rw [← hAe]; exact Or.inr h
  clear hAe
  have hS : va_S A s.heap s.heap [] := va_S.rf
  have hl := lv_entry ([.ref (ad 57)]) (n := 4) (Nat.le_of_ble_eq_true rfl)
  rw [lg_entry_eq]
  generalize (lg_sl ([.ref (ad 57)]) ++ List.replicate (4 - (lg_sl ([.ref (ad 57)])).length) Slot.unset).toArray = ls at hl ⊢
  have hl : lv_has ls 4 [(0, .ref (ad 57))] := hl
  have C : dc_C p s m _ meth c cX8_pack (some .long) 4 RX8 wsX8_pack D ty eo A := ⟨hx, hb, hr, hts, hown, hlocks, hml, hK, hN, hE, hA⟩
  unfold zX8_pack_s57 at h
  refine lv_aload_n hx hb dX8_pack_0 rfl (lv_at hl 0 rfl) ?_
  refine va_get (D := D) (ci := 8) (v := .int (q.1 57 2)) (C := RX8) (T := TX8) (N := 5) hx hb hts u9_wsX8_pack_X8 hown hK hP 57 rfl rfl 2 (by decide) (hts (.fieldLink RX8 18 "TurnedFloors$Tower" "floors" "I") f9_wsX8_pack_593) (fun _ h9 => h9) rfl dX8_pack_1 ?_
  refine lv_i2l (v := Int32.toInt64 (q.1 57 2)) hx hb dX8_pack_4 rfl ?_
  refine lv_lstore_n (lv' := [(1, .long (Int32.toInt64 (q.1 57 2))), (0, .ref (ad 57))]) hx hb dX8_pack_5 rfl hl (by decide) rfl (fun ls hl => ?_)
  refine lv_iconst (v := 0) hx hb dX8_pack_6 (by decide) ?_
  refine lv_istore_n (lv' := [(3, .int 0), (1, .long (Int32.toInt64 (q.1 57 2))), (0, .ref (ad 57))]) hx hb dX8_pack_7 rfl hl (by decide) rfl (fun ls hl => ?_)
  exact WX8_pack_s57_8 C  _ _ _ _ _ _ _ h hP hD hS (lv_sub hl [2, 1, 0] rfl)

set_option maxHeartbeats 4000000 in
set_option maxRecDepth 100000 in
theorem WX6_copyFrom_s1_s56_94b {p : Program} {l : Launch} {e : Env} {s : State} {m : MethodId} {args : Array Value} {below : List Frame} {meth : Method} {c : Code} {D : va_G} {ty : Nat → ClassId} {eo : Nat → Nat} {A : Nat → Prop} {ad : Nat → Nat} {o2 : dK} (C : dc_C p s m args meth c cX6_copyFrom none 3 RX6 wsX6_copyFrom D ty eo A) {k94 : dK → Int32 → Option (dK)} (hk94 : ∀ (q : dK) (x2 : Int32) (H : Heap) (locs : List Loc) (ls : Array Slot), k94 q x2 = some o2 → va_P D vwCl (wF ty ad q) H → va_D A (wF ty ad q) → va_S A s.heap H locs → lv_has ls 3 [(0, .ref (ad 1)), (1, .ref (ad 56)), (2, .int x2)] → W p l e ({ frames := 2, cells := 0, slots := 0, locals := 46 } : Room) s m args below meth c H locs 0 0 (MQ below (va_Qv (fun (u : va_W) => wF ty ad o2 = u) (kz_B D ty A) A) args s 0 0 A) (F0 m 94 ls [])) (q : dK) (x2 : Int32) (H : Heap) (locs : List Loc) (ls : Array Slot) (h : zX6_copyFrom_s1_s56_94b k94 q x2 = some o2) (hP : va_P D vwCl (wF ty ad q) H) (hD : va_D A (wF ty ad q)) (hS : va_S A s.heap H locs) (hl : lv_has ls 3 [(0, .ref (ad 1)), (1, .ref (ad 56)), (2, .int x2)]) : W p l e ({ frames := 2, cells := 0, slots := 0, locals := 46 } : Room) s m args below meth c H locs 0 0 (MQ below (va_Qv (fun (u : va_W) => wF ty ad o2 = u) (kz_B D ty A) A) args s 0 0 A) (F0 m 94 ls []) := by
  have C0 := C
  obtain ⟨hx, hb, hr, hts, hown, hlocks, hml, hK, hN, hE, hA⟩ := C
  unfold zX6_copyFrom_s1_s56_94b at h
  refine lv_iload_n hx hb dX6_copyFrom_94 rfl (lv_at hl 2 rfl) ?_
  refine lv_bipush (v := 6) hx hb dX6_copyFrom_95 (by decide) ?_
  refine lv_icmp_ge (tgt := 118) hx hb dX6_copyFrom_97 (by decide) (fun c9 => ?_) (fun c9 => ?_)
  · rw [if_pos c9] at h
    refine lv_aload_n hx hb dX6_copyFrom_118 rfl (lv_at hl 0 rfl) ?_
    refine lv_aload_n hx hb dX6_copyFrom_119 rfl (lv_at hl 1 rfl) ?_
    refine va_get (D := D) (ci := 6) (v := .int (q.1 56 9)) (C := RX6) (T := TX6) (N := 10) hx hb hts u9_wsX6_copyFrom_X6 hown hK hP 56 rfl rfl 9 (by decide) (hts (.fieldLink RX6 47 "TurnedFloors$State" "inForce" "I") f9_wsX6_copyFrom_944) (fun _ h9 => h9) rfl dX6_copyFrom_120 ?_
    refine va_put (D := D) (ci := 6) (v := .int (q.1 56 9)) (ty := .int) (C := RX6) (T := TX6) (N := 10) hx hb hts u9_wsX6_copyFrom_X6 tyX6 tyX6_ok nmX6 hown hK hP hD hS 1 rfl rfl 9 (by decide) (hts (.fieldLink RX6 47 "TurnedFloors$State" "inForce" "I") f9_wsX6_copyFrom_944) (fun _ h9 => h9) rfl (by decide +kernel) rfl rfl (Nat.le_of_ble_eq_true rfl) dX6_copyFrom_123 (fun H locs hp hd hs => ?_)
    obtain ⟨q1, eq1, h⟩ := dL_some h
    refine kz_re (w2 := wF ty ad q1) hp hd hs (by rw [← eq1]; exact wF_f1_9 ty ad q (q.1 56 9)) ?_
    clear hp hd hs hP hD hS
    intro hP hD hS
    cases h
    exact kz_vret hx hb hr hlocks hP hK hD hS dX6_copyFrom_126 rfl
  · rw [if_neg c9] at h
    refine lv_aload_n hx hb dX6_copyFrom_100 rfl (lv_at hl 0 rfl) ?_
    refine va_get (D := D) (ci := 6) (v := .ref (ad 7)) (C := RX6) (T := TX6) (N := 10) hx hb hts u9_wsX6_copyFrom_X6 hown hK hP 1 rfl rfl 7 (by decide) (hts (.fieldLink RX6 40 "TurnedFloors$State" "laws" "[LTurnedFloors$Text;") f9_wsX6_copyFrom_945) (fun _ h9 => h9) rfl dX6_copyFrom_101 ?_
    refine lv_iload_n hx hb dX6_copyFrom_104 rfl (lv_at hl 2 rfl) ?_
    refine lv_aload_n hx hb dX6_copyFrom_105 rfl (lv_at hl 1 rfl) ?_
    refine va_get (D := D) (ci := 6) (v := .ref (ad 62)) (C := RX6) (T := TX6) (N := 10) hx hb hts u9_wsX6_copyFrom_X6 hown hK hP 56 rfl rfl 7 (by decide) (hts (.fieldLink RX6 40 "TurnedFloors$State" "laws" "[LTurnedFloors$Text;") f9_wsX6_copyFrom_945) (fun _ h9 => h9) rfl dX6_copyFrom_106 ?_
    refine lv_iload_n hx hb dX6_copyFrom_109 rfl (lv_at hl 2 rfl) ?_
    obtain ⟨g2, h⟩ := dG_some h
    refine va_aldq hx hb hK hP 62 5 rfl rfl (dg_in g2) dX6_copyFrom_110 ?_
    obtain ⟨v3, ev3, h⟩ := dL_some h
    refine kz_topv (y := dLw ad v3) (by rw [dLs_rf (dg_lt g2), ev3]) ?_
    obtain ⟨g4, h⟩ := dG_some h
    by_cases c5 : v3 = 0
    · rw [if_pos c5] at h
      refine kz_topv (if_pos c5) ?_
      refine va_astqN hx hb hK hP hD hS 7 5 rfl rfl (dg_in g4) dX6_copyFrom_111 (fun H locs hp hd hs => ?_)
      rw [dLs_up0 (dg_lt g4)] at hp hd
      obtain ⟨q6, eq6, h⟩ := dL_some h
      refine kz_re (w2 := wF ty ad q6) hp hd hs (by rw [← eq6]; exact wF_t7 ty ad q (Int32.toNatClampNeg x2) 0) ?_
      clear hp hd hs hP hD hS
      intro hP hD hS
      refine lv_iinc (v := x2 + 1) (lv' := [(2, .int (x2 + 1)), (0, .ref (ad 1)), (1, .ref (ad 56))]) hx hb dX6_copyFrom_112 hl (k := 2) rfl rfl (by decide) rfl (fun ls hl => ?_)
      refine lv_goto (tgt := 94) hx hb dX6_copyFrom_115 (by decide) ?_
      exact hk94 _ _ _ _ _ h hP hD hS (lv_sub hl [1, 2, 0] rfl)
    · rw [if_neg c5] at h
      refine kz_topv (if_neg c5) ?_
      obtain ⟨g7, h⟩ := dG_some h
      refine va_astq hx hb hK hP hD hS 7 5 _ 7 rfl rfl (lw_o g7) rfl (dg_in g4) dX6_copyFrom_111 (fun H locs hp hd hs => ?_)
      rw [dLs_up (dg_lt g4) c5] at hp hd
      obtain ⟨q8, eq8, h⟩ := dL_some h
      refine kz_re (w2 := wF ty ad q8) hp hd hs (by rw [← eq8]; exact wF_t7 ty ad q (Int32.toNatClampNeg x2) v3) ?_
      clear hp hd hs hP hD hS
      intro hP hD hS
      refine lv_iinc (v := x2 + 1) (lv' := [(2, .int (x2 + 1)), (0, .ref (ad 1)), (1, .ref (ad 56))]) hx hb dX6_copyFrom_112 hl (k := 2) rfl rfl (by decide) rfl (fun ls hl => ?_)
      refine lv_goto (tgt := 94) hx hb dX6_copyFrom_115 (by decide) ?_
      exact hk94 _ _ _ _ _ h hP hD hS (lv_sub hl [1, 2, 0] rfl)
set_option maxHeartbeats 4000000 in
set_option maxRecDepth 100000 in
theorem WX6_copyFrom_s1_s56_94 {p : Program} {l : Launch} {e : Env} {s : State} {m : MethodId} {args : Array Value} {below : List Frame} {meth : Method} {c : Code} {D : va_G} {ty : Nat → ClassId} {eo : Nat → Nat} {A : Nat → Prop} {ad : Nat → Nat} {o2 : dK} (C : dc_C p s m args meth c cX6_copyFrom none 3 RX6 wsX6_copyFrom D ty eo A)   (n : Nat) (q : dK) (x2 : Int32) (H : Heap) (locs : List Loc) (ls : Array Slot) (h : zX6_copyFrom_s1_s56_94  n q x2 = some o2) (hP : va_P D vwCl (wF ty ad q) H) (hD : va_D A (wF ty ad q)) (hS : va_S A s.heap H locs) (hl : lv_has ls 3 [(0, .ref (ad 1)), (1, .ref (ad 56)), (2, .int x2)]) : W p l e ({ frames := 2, cells := 0, slots := 0, locals := 46 } : Room) s m args below meth c H locs 0 0 (MQ below (va_Qv (fun (u : va_W) => wF ty ad o2 = u) (kz_B D ty A) A) args s 0 0 A) (F0 m 94 ls []) := by
  exact dFix_W (F := fun k (a : dK × Int32) => zX6_copyFrom_s1_s56_94b  (fun q x2 => k (q, x2)) a.1 a.2) (o := o2) (P := fun (a : dK × Int32) H locs ls => va_P D vwCl (wF ty ad a.1) H ∧ va_D A (wF ty ad a.1) ∧ va_S A s.heap H locs ∧ lv_has ls 3 [(0, .ref (ad 1)), (1, .ref (ad 56)), (2, .int a.2)]) (G := fun H locs ls => W p l e ({ frames := 2, cells := 0, slots := 0, locals := 46 } : Room) s m args below meth c H locs 0 0 (MQ below (va_Qv (fun (u : va_W) => wF ty ad o2 = u) (kz_B D ty A) A) args s 0 0 A) (F0 m 94 ls []))
    (fun k hk a H locs ls h hp => WX6_copyFrom_s1_s56_94b C  (fun q x2 H locs ls h h1 h2 h3 h4 => hk (q, x2) H locs ls h ⟨h1, h2, h3, h4⟩) a.1 a.2 H locs ls h hp.1 hp.2.1 hp.2.2.1 hp.2.2.2) n (q, x2) H locs ls h ⟨hP, hD, hS, hl⟩
set_option maxHeartbeats 4000000 in
set_option maxRecDepth 100000 in
theorem WX6_copyFrom_s1_s56_48b {p : Program} {l : Launch} {e : Env} {s : State} {m : MethodId} {args : Array Value} {below : List Frame} {meth : Method} {c : Code} {D : va_G} {ty : Nat → ClassId} {eo : Nat → Nat} {A : Nat → Prop} {ad : Nat → Nat} {o2 : dK} (C : dc_C p s m args meth c cX6_copyFrom none 3 RX6 wsX6_copyFrom D ty eo A) {k48 : dK → Int32 → Option (dK)} (hk48 : ∀ (q : dK) (x2 : Int32) (H : Heap) (locs : List Loc) (ls : Array Slot), k48 q x2 = some o2 → va_P D vwCl (wF ty ad q) H → va_D A (wF ty ad q) → va_S A s.heap H locs → lv_has ls 3 [(0, .ref (ad 1)), (1, .ref (ad 56)), (2, .int x2)] → W p l e ({ frames := 2, cells := 0, slots := 0, locals := 46 } : Room) s m args below meth c H locs 0 0 (MQ below (va_Qv (fun (u : va_W) => wF ty ad o2 = u) (kz_B D ty A) A) args s 0 0 A) (F0 m 48 ls [])) (q : dK) (x2 : Int32) (H : Heap) (locs : List Loc) (ls : Array Slot) (h : zX6_copyFrom_s1_s56_48b k48 q x2 = some o2) (hP : va_P D vwCl (wF ty ad q) H) (hD : va_D A (wF ty ad q)) (hS : va_S A s.heap H locs) (hl : lv_has ls 3 [(0, .ref (ad 1)), (1, .ref (ad 56)), (2, .int x2)]) : W p l e ({ frames := 2, cells := 0, slots := 0, locals := 46 } : Room) s m args below meth c H locs 0 0 (MQ below (va_Qv (fun (u : va_W) => wF ty ad o2 = u) (kz_B D ty A) A) args s 0 0 A) (F0 m 48 ls []) := by
  have C0 := C
  obtain ⟨hx, hb, hr, hts, hown, hlocks, hml, hK, hN, hE, hA⟩ := C
  unfold zX6_copyFrom_s1_s56_48b at h
  refine lv_iload_n hx hb dX6_copyFrom_48 rfl (lv_at hl 2 rfl) ?_
  refine lv_bipush (v := 6) hx hb dX6_copyFrom_49 (by decide) ?_
  refine lv_icmp_ge (tgt := 84) hx hb dX6_copyFrom_51 (by decide) (fun c9 => ?_) (fun c9 => ?_)
  · rw [if_pos c9] at h
    refine lv_aload_n hx hb dX6_copyFrom_84 rfl (lv_at hl 0 rfl) ?_
    refine lv_aload_n hx hb dX6_copyFrom_85 rfl (lv_at hl 1 rfl) ?_
    refine va_get (D := D) (ci := 6) (v := .int (q.1 56 8)) (C := RX6) (T := TX6) (N := 10) hx hb hts u9_wsX6_copyFrom_X6 hown hK hP 56 rfl rfl 8 (by decide) (hts (.fieldLink RX6 44 "TurnedFloors$State" "lawCount" "I") f9_wsX6_copyFrom_946) (fun _ h9 => h9) rfl dX6_copyFrom_86 ?_
    refine va_put (D := D) (ci := 6) (v := .int (q.1 56 8)) (ty := .int) (C := RX6) (T := TX6) (N := 10) hx hb hts u9_wsX6_copyFrom_X6 tyX6 tyX6_ok nmX6 hown hK hP hD hS 1 rfl rfl 8 (by decide) (hts (.fieldLink RX6 44 "TurnedFloors$State" "lawCount" "I") f9_wsX6_copyFrom_946) (fun _ h9 => h9) rfl (by decide +kernel) rfl rfl (Nat.le_of_ble_eq_true rfl) dX6_copyFrom_89 (fun H locs hp hd hs => ?_)
    obtain ⟨q1, eq1, h⟩ := dL_some h
    refine kz_re (w2 := wF ty ad q1) hp hd hs (by rw [← eq1]; exact wF_f1_8 ty ad q (q.1 56 8)) ?_
    clear hp hd hs hP hD hS
    intro hP hD hS
    refine lv_iconst (v := 0) hx hb dX6_copyFrom_92 (by decide) ?_
    refine lv_istore_n (lv' := [(2, .int 0), (0, .ref (ad 1)), (1, .ref (ad 56))]) hx hb dX6_copyFrom_93 rfl hl (by decide) rfl (fun ls hl => ?_)
    exact WX6_copyFrom_s1_s56_94 C0  _ _ _ _ _ _ h hP hD hS (lv_sub hl [1, 2, 0] rfl)
  · rw [if_neg c9] at h
    refine lv_aload_n hx hb dX6_copyFrom_54 rfl (lv_at hl 0 rfl) ?_
    refine va_get (D := D) (ci := 6) (v := .ref (ad 5)) (C := RX6) (T := TX6) (N := 10) hx hb hts u9_wsX6_copyFrom_X6 hown hK hP 1 rfl rfl 4 (by decide) (hts (.fieldLink RX6 28 "TurnedFloors$State" "seenPlace" "[I") f9_wsX6_copyFrom_947) (fun _ h9 => h9) rfl dX6_copyFrom_55 ?_
    refine lv_iload_n hx hb dX6_copyFrom_58 rfl (lv_at hl 2 rfl) ?_
    refine lv_aload_n hx hb dX6_copyFrom_59 rfl (lv_at hl 1 rfl) ?_
    refine va_get (D := D) (ci := 6) (v := .ref (ad 60)) (C := RX6) (T := TX6) (N := 10) hx hb hts u9_wsX6_copyFrom_X6 hown hK hP 56 rfl rfl 4 (by decide) (hts (.fieldLink RX6 28 "TurnedFloors$State" "seenPlace" "[I") f9_wsX6_copyFrom_947) (fun _ h9 => h9) rfl dX6_copyFrom_60 ?_
    refine lv_iload_n hx hb dX6_copyFrom_63 rfl (lv_at hl 2 rfl) ?_
    obtain ⟨g2, h⟩ := dG_some h
    refine va_iald hx hb hK hP 60 0 rfl rfl (dg_in g2) dX6_copyFrom_64 ?_
    obtain ⟨v3, ev3, h⟩ := dL_some h
    refine kz_topi v3 ev3 ?_
    obtain ⟨g4, h⟩ := dG_some h
    refine va_iast hx hb hK hP hD hS 5 0 rfl rfl (dg_in g4) dX6_copyFrom_65 (fun H locs hp hd hs => ?_)
    obtain ⟨q5, eq5, h⟩ := dL_some h
    refine kz_re (w2 := wF ty ad q5) hp hd hs (by rw [← eq5]; exact wF_a5 ty ad q (Int32.toNatClampNeg x2) v3) ?_
    clear hp hd hs hP hD hS
    intro hP hD hS
    refine lv_aload_n hx hb dX6_copyFrom_66 rfl (lv_at hl 0 rfl) ?_
    refine va_get (D := D) (ci := 6) (v := .ref (ad 6)) (C := RX6) (T := TX6) (N := 10) hx hb hts u9_wsX6_copyFrom_X6 hown hK hP 1 rfl rfl 5 (by decide) (hts (.fieldLink RX6 32 "TurnedFloors$State" "seenRank" "[I") f9_wsX6_copyFrom_948) (fun _ h9 => h9) rfl dX6_copyFrom_67 ?_
    refine lv_iload_n hx hb dX6_copyFrom_70 rfl (lv_at hl 2 rfl) ?_
    refine lv_aload_n hx hb dX6_copyFrom_71 rfl (lv_at hl 1 rfl) ?_
    refine va_get (D := D) (ci := 6) (v := .ref (ad 61)) (C := RX6) (T := TX6) (N := 10) hx hb hts u9_wsX6_copyFrom_X6 hown hK hP 56 rfl rfl 5 (by decide) (hts (.fieldLink RX6 32 "TurnedFloors$State" "seenRank" "[I") f9_wsX6_copyFrom_948) (fun _ h9 => h9) rfl dX6_copyFrom_72 ?_
    refine lv_iload_n hx hb dX6_copyFrom_75 rfl (lv_at hl 2 rfl) ?_
    obtain ⟨g6, h⟩ := dG_some h
    refine va_iald hx hb hK hP 61 0 rfl rfl (dg_in g6) dX6_copyFrom_76 ?_
    obtain ⟨v7, ev7, h⟩ := dL_some h
    refine kz_topi v7 ev7 ?_
    obtain ⟨g8, h⟩ := dG_some h
    refine va_iast hx hb hK hP hD hS 6 0 rfl rfl (dg_in g8) dX6_copyFrom_77 (fun H locs hp hd hs => ?_)
    obtain ⟨q9, eq9, h⟩ := dL_some h
    refine kz_re (w2 := wF ty ad q9) hp hd hs (by rw [← eq9]; exact wF_a6 ty ad q5 (Int32.toNatClampNeg x2) v7) ?_
    clear hp hd hs hP hD hS
    intro hP hD hS
    refine lv_iinc (v := x2 + 1) (lv' := [(2, .int (x2 + 1)), (0, .ref (ad 1)), (1, .ref (ad 56))]) hx hb dX6_copyFrom_78 hl (k := 2) rfl rfl (by decide) rfl (fun ls hl => ?_)
    refine lv_goto (tgt := 48) hx hb dX6_copyFrom_81 (by decide) ?_
    exact hk48 _ _ _ _ _ h hP hD hS (lv_sub hl [1, 2, 0] rfl)
set_option maxHeartbeats 4000000 in
set_option maxRecDepth 100000 in
theorem WX6_copyFrom_s1_s56_48 {p : Program} {l : Launch} {e : Env} {s : State} {m : MethodId} {args : Array Value} {below : List Frame} {meth : Method} {c : Code} {D : va_G} {ty : Nat → ClassId} {eo : Nat → Nat} {A : Nat → Prop} {ad : Nat → Nat} {o2 : dK} (C : dc_C p s m args meth c cX6_copyFrom none 3 RX6 wsX6_copyFrom D ty eo A)   (n : Nat) (q : dK) (x2 : Int32) (H : Heap) (locs : List Loc) (ls : Array Slot) (h : zX6_copyFrom_s1_s56_48  n q x2 = some o2) (hP : va_P D vwCl (wF ty ad q) H) (hD : va_D A (wF ty ad q)) (hS : va_S A s.heap H locs) (hl : lv_has ls 3 [(0, .ref (ad 1)), (1, .ref (ad 56)), (2, .int x2)]) : W p l e ({ frames := 2, cells := 0, slots := 0, locals := 46 } : Room) s m args below meth c H locs 0 0 (MQ below (va_Qv (fun (u : va_W) => wF ty ad o2 = u) (kz_B D ty A) A) args s 0 0 A) (F0 m 48 ls []) := by
  exact dFix_W (F := fun k (a : dK × Int32) => zX6_copyFrom_s1_s56_48b  (fun q x2 => k (q, x2)) a.1 a.2) (o := o2) (P := fun (a : dK × Int32) H locs ls => va_P D vwCl (wF ty ad a.1) H ∧ va_D A (wF ty ad a.1) ∧ va_S A s.heap H locs ∧ lv_has ls 3 [(0, .ref (ad 1)), (1, .ref (ad 56)), (2, .int a.2)]) (G := fun H locs ls => W p l e ({ frames := 2, cells := 0, slots := 0, locals := 46 } : Room) s m args below meth c H locs 0 0 (MQ below (va_Qv (fun (u : va_W) => wF ty ad o2 = u) (kz_B D ty A) A) args s 0 0 A) (F0 m 48 ls []))
    (fun k hk a H locs ls h hp => WX6_copyFrom_s1_s56_48b C  (fun q x2 H locs ls h h1 h2 h3 h4 => hk (q, x2) H locs ls h ⟨h1, h2, h3, h4⟩) a.1 a.2 H locs ls h hp.1 hp.2.1 hp.2.2.1 hp.2.2.2) n (q, x2) H locs ls h ⟨hP, hD, hS, hl⟩
set_option maxHeartbeats 4000000 in
set_option maxRecDepth 100000 in
theorem qX6_copyFrom_s1_s56 (l : Launch) (D : va_G) (ty : Nat → ClassId) (eo : Nat → Nat) (sz : Nat) (ad : Nat → Nat) (q : dK)  (o2 : dK) (h : zX6_copyFrom_s1_s56 q = some o2) : Met l yX6_copyFrom wsX6_copyFrom ({ frames := 2, cells := 0, slots := 0, locals := 46 } : Room) (va_Pc [.ref (ad 1), .ref (ad 56)] (kz_pre D ty eo (wF ty ad q) sz)) (va_Qv (fun (u : va_W) => wF ty ad o2 = u) (kz_B D ty (va_A (wF ty ad q) sz)) (va_A (wF ty ad q) sz)) 0 0 (va_A (wF ty ad q) sz) := by
  refine Met.ofW (cc := cX6_copyFrom) (maxL := 3) (ret := none) (by decide) rfl ?_
  intro p e s m args below meth c s₁ B hml hv
  obtain ⟨rfl, hsz, hP, hK, hD0, hN, hE⟩ := hv
  have hx := B.exec
  have hb := B.bytes
  have hr := B.returns
  have hts := atoms_spec (ws := wsX6_copyFrom) B.pre
  have hown : s.vm.findClass RX6 = some m.cls := findClass_of_methodNamed B.named
  have hlocks := B.notSynchronized
  subst hsz
  have hD := hD0.self (sz := s.heap.size)
  generalize hAe : va_A (wF ty ad q) s.heap.size = A at hD hE ⊢
  have hA : ∀ q : Nat, s.heap.size ≤ q → A q := fun q h => by rw [← hAe]; exact Or.inr h
  clear hAe
  have hS : va_S A s.heap s.heap [] := va_S.rf
  have hl := lv_entry ([.ref (ad 1), .ref (ad 56)]) (n := 3) (Nat.le_of_ble_eq_true rfl)
  rw [lg_entry_eq]
  generalize (lg_sl ([.ref (ad 1), .ref (ad 56)]) ++ List.replicate (3 - (lg_sl ([.ref (ad 1), .ref (ad 56)])).length) Slot.unset).toArray = ls at hl ⊢
  have hl : lv_has ls 3 [(0, .ref (ad 1)), (1, .ref (ad 56))] := hl
  have C : dc_C p s m _ meth c cX6_copyFrom none 3 RX6 wsX6_copyFrom D ty eo A := ⟨hx, hb, hr, hts, hown, hlocks, hml, hK, hN, hE, hA⟩
  unfold zX6_copyFrom_s1_s56 at h
  refine lv_aload_n hx hb dX6_copyFrom_0 rfl (lv_at hl 0 rfl) ?_
  refine va_get (D := D) (ci := 6) (v := .ref (ad 2)) (C := RX6) (T := TX6) (N := 10) hx hb hts u9_wsX6_copyFrom_X6 hown hK hP 1 rfl rfl 0 (by decide) (hts (.fieldLink RX6 12 "TurnedFloors$State" "tower" "LTurnedFloors$Tower;") f9_wsX6_copyFrom_949) (fun _ h9 => h9) rfl dX6_copyFrom_1 ?_
  refine lv_aload_n hx hb dX6_copyFrom_4 rfl (lv_at hl 1 rfl) ?_
  refine va_get (D := D) (ci := 6) (v := .ref (ad 57)) (C := RX6) (T := TX6) (N := 10) hx hb hts u9_wsX6_copyFrom_X6 hown hK hP 56 rfl rfl 0 (by decide) (hts (.fieldLink RX6 12 "TurnedFloors$State" "tower" "LTurnedFloors$Tower;") f9_wsX6_copyFrom_949) (fun _ h9 => h9) rfl dX6_copyFrom_5 ?_
  obtain ⟨r1, q3, h2, h⟩ := dB_some h
  refine dw_kl (va_runV (As := []) (rest := [.ref (ad 2)]) ⟨hx, hb, hml, hown, hts⟩ (qX8_pack_s57 l D ty eo _ ad q  r1 q3 h2) (cwV 0 hts gX6_copyFrom_X8_pack rfl rfl rfl hd_X8_pack_v ⟨Nat.le_of_ble_eq_true rfl, Nat.le_of_ble_eq_true rfl⟩) (pvF_8_57 hK hN hE hP hD hS hA) rfl rfl hl.1 rfl (lv_room (Nat.le_of_ble_eq_true rfl)) dX6_copyFrom_8 ⟨Nat.le_of_ble_eq_true rfl, Nat.le_of_ble_eq_true rfl⟩) hD hS hA (fun r9 u9 H locs hw hp hd hs => ?_)
  clear hP hD hS
  obtain ⟨rfl, rfl⟩ := hw
  have hP := hp; have hD := hd; have hS := hs; clear hp hd hs
  obtain ⟨q6, h5, h⟩ := dV_some h
  refine dw_kv (va_runV (As := [.long r1]) (rest := []) ⟨hx, hb, hml, hown, hts⟩ (qX8_unpack_s2 l D ty eo _ ad q3 r1 q6 h5) (cwV 1 hts gX6_copyFrom_X8_unpack rfl rfl rfl hd_X8_unpack_v ⟨Nat.le_of_ble_eq_true rfl, Nat.le_of_ble_eq_true rfl⟩) (pvF_8_2 hK hN hE hP hD hS hA) rfl rfl hl.1 rfl (lv_room (Nat.le_of_ble_eq_true rfl)) dX6_copyFrom_11 ⟨Nat.le_of_ble_eq_true rfl, Nat.le_of_ble_eq_true rfl⟩) hD hS hA (fun u9 H locs hw hp hd hs => ?_)
  clear hP hD hS
  obtain rfl := hw
  have hP := hp; have hD := hd; have hS := hs; clear hp hd hs
  refine lv_aload_n hx hb dX6_copyFrom_14 rfl (lv_at hl 0 rfl) ?_
  refine lv_aload_n hx hb dX6_copyFrom_15 rfl (lv_at hl 1 rfl) ?_
  refine va_get (D := D) (ci := 6) (v := .int (q6.1 56 1)) (C := RX6) (T := TX6) (N := 10) hx hb hts u9_wsX6_copyFrom_X6 hown hK hP 56 rfl rfl 1 (by decide) (hts (.fieldLink RX6 18 "TurnedFloors$State" "slips" "I") f9_wsX6_copyFrom_950) (fun _ h9 => h9) rfl dX6_copyFrom_16 ?_
  refine va_put (D := D) (ci := 6) (v := .int (q6.1 56 1)) (ty := .int) (C := RX6) (T := TX6) (N := 10) hx hb hts u9_wsX6_copyFrom_X6 tyX6 tyX6_ok nmX6 hown hK hP hD hS 1 rfl rfl 1 (by decide) (hts (.fieldLink RX6 18 "TurnedFloors$State" "slips" "I") f9_wsX6_copyFrom_950) (fun _ h9 => h9) rfl (by decide +kernel) rfl rfl (Nat.le_of_ble_eq_true rfl) dX6_copyFrom_19 (fun H locs hp hd hs => ?_)
  obtain ⟨q7, eq7, h⟩ := dL_some h
  refine kz_re (w2 := wF ty ad q7) hp hd hs (by rw [← eq7]; exact wF_f1_1 ty ad q6 (q6.1 56 1)) ?_
  clear hp hd hs hP hD hS
  intro hP hD hS
  refine lv_aload_n hx hb dX6_copyFrom_22 rfl (lv_at hl 0 rfl) ?_
  refine lv_aload_n hx hb dX6_copyFrom_23 rfl (lv_at hl 1 rfl) ?_
  refine va_get (D := D) (ci := 6) (v := .int (q7.1 56 2)) (C := RX6) (T := TX6) (N := 10) hx hb hts u9_wsX6_copyFrom_X6 hown hK hP 56 rfl rfl 2 (by decide) (hts (.fieldLink RX6 22 "TurnedFloors$State" "mood" "I") f9_wsX6_copyFrom_951) (fun _ h9 => h9) rfl dX6_copyFrom_24 ?_
  refine va_put (D := D) (ci := 6) (v := .int (q7.1 56 2)) (ty := .int) (C := RX6) (T := TX6) (N := 10) hx hb hts u9_wsX6_copyFrom_X6 tyX6 tyX6_ok nmX6 hown hK hP hD hS 1 rfl rfl 2 (by decide) (hts (.fieldLink RX6 22 "TurnedFloors$State" "mood" "I") f9_wsX6_copyFrom_951) (fun _ h9 => h9) rfl (by decide +kernel) rfl rfl (Nat.le_of_ble_eq_true rfl) dX6_copyFrom_27 (fun H locs hp hd hs => ?_)
  obtain ⟨q8, eq8, h⟩ := dL_some h
  refine kz_re (w2 := wF ty ad q8) hp hd hs (by rw [← eq8]; exact wF_f1_2 ty ad q7 (q7.1 56 2)) ?_
  clear hp hd hs hP hD hS
  intro hP hD hS
  refine lv_aload_n hx hb dX6_copyFrom_30 rfl (lv_at hl 0 rfl) ?_
  refine lv_aload_n hx hb dX6_copyFrom_31 rfl (lv_at hl 1 rfl) ?_
  refine va_get (D := D) (ci := 6) (v := .int (q8.1 56 3)) (C := RX6) (T := TX6) (N := 10) hx hb hts u9_wsX6_copyFrom_X6 hown hK hP 56 rfl rfl 3 (by decide) (hts (.fieldLink RX6 25 "TurnedFloors$State" "headsMatter" "I") f9_wsX6_copyFrom_952) (fun _ h9 => h9) rfl dX6_copyFrom_32 ?_
  refine va_put (D := D) (ci := 6) (v := .int (q8.1 56 3)) (ty := .int) (C := RX6) (T := TX6) (N := 10) hx hb hts u9_wsX6_copyFrom_X6 tyX6 tyX6_ok nmX6 hown hK hP hD hS 1 rfl rfl 3 (by decide) (hts (.fieldLink RX6 25 "TurnedFloors$State" "headsMatter" "I") f9_wsX6_copyFrom_952) (fun _ h9 => h9) rfl (by decide +kernel) rfl rfl (Nat.le_of_ble_eq_true rfl) dX6_copyFrom_35 (fun H locs hp hd hs => ?_)
  obtain ⟨q9, eq9, h⟩ := dL_some h
  refine kz_re (w2 := wF ty ad q9) hp hd hs (by rw [← eq9]; exact wF_f1_3 ty ad q8 (q8.1 56 3)) ?_
  clear hp hd hs hP hD hS
  intro hP hD hS
  refine lv_aload_n hx hb dX6_copyFrom_38 rfl (lv_at hl 0 rfl) ?_
  refine lv_aload_n hx hb dX6_copyFrom_39 rfl (lv_at hl 1 rfl) ?_
  refine va_get (D := D) (ci := 6) (v := .int (q9.1 56 6)) (C := RX6) (T := TX6) (N := 10) hx hb hts u9_wsX6_copyFrom_X6 hown hK hP 56 rfl rfl 6 (by decide) (hts (.fieldLink RX6 35 "TurnedFloors$State" "seenCount" "I") f9_wsX6_copyFrom_953) (fun _ h9 => h9) rfl dX6_copyFrom_40 ?_
  refine va_put (D := D) (ci := 6) (v := .int (q9.1 56 6)) (ty := .int) (C := RX6) (T := TX6) (N := 10) hx hb hts u9_wsX6_copyFrom_X6 tyX6 tyX6_ok nmX6 hown hK hP hD hS 1 rfl rfl 6 (by decide) (hts (.fieldLink RX6 35 "TurnedFloors$State" "seenCount" "I") f9_wsX6_copyFrom_953) (fun _ h9 => h9) rfl (by decide +kernel) rfl rfl (Nat.le_of_ble_eq_true rfl) dX6_copyFrom_43 (fun H locs hp hd hs => ?_)
  obtain ⟨q10, eq10, h⟩ := dL_some h
  refine kz_re (w2 := wF ty ad q10) hp hd hs (by rw [← eq10]; exact wF_f1_6 ty ad q9 (q9.1 56 6)) ?_
  clear hp hd hs hP hD hS
  intro hP hD hS
  refine lv_iconst (v := 0) hx hb dX6_copyFrom_46 (by decide) ?_
  refine lv_istore_n (lv' := [(2, .int 0), (0, .ref (ad 1)), (1, .ref (ad 56))]) hx hb dX6_copyFrom_47 rfl hl (by decide) rfl (fun ls hl => ?_)
  exact WX6_copyFrom_s1_s56_48 C  _ _ _ _ _ _ h hP hD hS (lv_sub hl [1, 2, 0] rfl)

set_option maxHeartbeats 4000000 in
set_option maxRecDepth 100000 in
theorem qX9_back_s0 (l : Launch) (D : va_G) (ty : Nat → ClassId) (eo : Nat → Nat) (sz : Nat) (ad : Nat → Nat) (q : dK) (p1 : Int32) (o1 : Int32) (o2 : dK) (h : zX9_back_s0 q p1 = some (o1, o2)) : Met l yX9_back wsX9_back ({ frames := 3, cells := 0, slots := 0, locals := 68 } : Room) (va_Pc [.ref (ad 0), .int p1] (kz_pre D ty eo (wF ty ad q) sz)) (va_Qi (fun (r : Int32) (u : va_W) => o1 = r ∧ wF ty ad o2 = u) (kz_B D ty (va_A (wF ty ad q) sz)) (va_A (wF ty ad q) sz)) 0 0 (va_A (wF ty ad q) sz) := by
  refine Met.ofW (cc := cX9_back) (maxL := 2) (ret := (some .int)) (by decide) rfl ?_
  intro p e s m args below meth c s₁ B hml hv
  obtain ⟨rfl, hsz, hP, hK, hD0, hN, hE⟩ := hv
  have hx := B.exec
  have hb := B.bytes
  have hr := B.returns
  have hts := atoms_spec (ws := wsX9_back) B.pre
  have hown : s.vm.findClass RX9 = some m.cls := findClass_of_methodNamed B.named
  have hlocks := B.notSynchronized
  subst hsz
  have hD := hD0.self (sz := s.heap.size)
  generalize hAe : va_A (wF ty ad q) s.heap.size = A at hD hE ⊢
  have hA : ∀ q : Nat, s.heap.size ≤ q → A q := fun q h => by rw [← hAe]; exact Or.inr h
  clear hAe
  have hS : va_S A s.heap s.heap [] := va_S.rf
  have hl := lv_entry ([.ref (ad 0), .int p1]) (n := 2) (Nat.le_of_ble_eq_true rfl)
  rw [lg_entry_eq]
  generalize (lg_sl ([.ref (ad 0), .int p1]) ++ List.replicate (2 - (lg_sl ([.ref (ad 0), .int p1])).length) Slot.unset).toArray = ls at hl ⊢
  have hl : lv_has ls 2 [(0, .ref (ad 0)), (1, .int p1)] := hl
  have C : dc_C p s m _ meth c cX9_back (some .int) 2 RX9 wsX9_back D ty eo A := ⟨hx, hb, hr, hts, hown, hlocks, hml, hK, hN, hE, hA⟩
  unfold zX9_back_s0 at h
  refine lv_iload_n hx hb dX9_back_0 rfl (lv_at hl 1 rfl) ?_
  obtain ⟨r1, h2, h⟩ := dV_some h
  refine dw_ks (va_runS (As := [.int p1]) (rest := []) ⟨hx, hb, hml, hown, hts⟩ (qX9_isImage l D ty eo _ p1 _ h2) (va_cwS 1 hts gX9_back_X9_isImage rfl rfl rfl hd_X9_isImage ⟨Nat.le_of_ble_eq_true rfl, Nat.le_of_ble_eq_true rfl⟩) (pvS_0 hK hN hE hP hD hS hA) rfl rfl hl.1 rfl (lv_room (Nat.le_of_ble_eq_true rfl)) dX9_back_1 ⟨Nat.le_of_ble_eq_true rfl, Nat.le_of_ble_eq_true rfl⟩) hP hD hS hA (fun _ _ h9 => h9.2.symm) (fun r9 u9 H locs hw hp hd hs => ?_)
  obtain ⟨rfl, -⟩ := hw
  clear hP hD hS
  have hP := hp; have hD := hd; have hS := hs; clear hp hd hs
  refine lv_if_ne (tgt := 13) hx hb dX9_back_4 (by decide) (fun c9 => ?_) (fun c9 => ?_)
  · rw [if_neg c9] at h
    refine lv_aload_n hx hb dX9_back_13 rfl (lv_at hl 0 rfl) ?_
    refine va_get (D := D) (ci := 9) (v := .ref (ad 9)) (C := RX9) (T := TX9) (N := 19) hx hb hts u9_wsX9_back_X9 hown hK hP 0 rfl rfl 2 (by decide) (hts (.fieldLink RX9 20 "TurnedFloors" "kept" "[Z") f9_wsX9_back_959) (fun _ h9 => h9) rfl dX9_back_14 ?_
    refine lv_iload_n hx hb dX9_back_17 rfl (lv_at hl 1 rfl) ?_
    obtain ⟨g3, h⟩ := dG_some h
    refine va_zald hx hb hK hP 9 2 rfl rfl (dg_in g3) dX9_back_18 ?_
    obtain ⟨v4, ev4, h⟩ := dL_some h
    refine kz_topi v4 ev4 ?_
    refine lv_if_ne (tgt := 29) hx hb dX9_back_19 (by decide) (fun c9 => ?_) (fun c9 => ?_)
    · rw [if_neg c9] at h
      refine lv_aload_n hx hb dX9_back_29 rfl (lv_at hl 0 rfl) ?_
      refine va_get (D := D) (ci := 9) (v := .ref (ad 1)) (C := RX9) (T := TX9) (N := 19) hx hb hts u9_wsX9_back_X9 hown hK hP 0 rfl rfl 0 (by decide) (hts (.fieldLink RX9 10 "TurnedFloors" "state" "LTurnedFloors$State;") f9_wsX9_back_960) (fun _ h9 => h9) rfl dX9_back_30 ?_
      refine lv_aload_n hx hb dX9_back_33 rfl (lv_at hl 0 rfl) ?_
      refine va_get (D := D) (ci := 9) (v := .ref (ad 8)) (C := RX9) (T := TX9) (N := 19) hx hb hts u9_wsX9_back_X9 hown hK hP 0 rfl rfl 1 (by decide) (hts (.fieldLink RX9 16 "TurnedFloors" "images" "[LTurnedFloors$State;") f9_wsX9_back_961) (fun _ h9 => h9) rfl dX9_back_34 ?_
      refine lv_iload_n hx hb dX9_back_37 rfl (lv_at hl 1 rfl) ?_
      obtain ⟨g5, h⟩ := dG_some h
      refine va_aldq hx hb hK hP 8 4 rfl rfl (dg_in g5) dX9_back_38 ?_
      by_cases c6 : p1 = 0
      · rw [if_pos c6] at h
        refine kz_topv (y := .ref (ad 49)) (by rw [c6]; rfl) ?_
        obtain ⟨q9, h8, h⟩ := dV_some h
        refine dw_kv (va_runV (As := [.ref (ad 49)]) (rest := []) ⟨hx, hb, hml, hown, hts⟩ (qX6_copyFrom_s1_s49 l D ty eo _ ad q  q9 h8) (cwV 1 hts gX9_back_X6_copyFrom rfl rfl rfl hd_X6_copyFrom_v ⟨Nat.le_of_ble_eq_true rfl, Nat.le_of_ble_eq_true rfl⟩) (pvF_6_1 hK hN hE hP hD hS hA) rfl rfl hl.1 rfl (lv_room (Nat.le_of_ble_eq_true rfl)) dX9_back_39 ⟨Nat.le_of_ble_eq_true rfl, Nat.le_of_ble_eq_true rfl⟩) hD hS hA (fun u9 H locs hw hp hd hs => ?_)
        clear hP hD hS
        obtain rfl := hw
        have hP := hp; have hD := hd; have hS := hs; clear hp hd hs
        refine lv_aload_n hx hb dX9_back_42 rfl (lv_at hl 0 rfl) ?_
        refine va_get (D := D) (ci := 9) (v := .ref (ad 10)) (C := RX9) (T := TX9) (N := 19) hx hb hts u9_wsX9_back_X9 hown hK hP 0 rfl rfl 3 (by decide) (hts (.fieldLink RX9 27 "TurnedFloors" "history" "LTurnedFloors$History;") f9_wsX9_back_962) (fun _ h9 => h9) rfl dX9_back_43 ?_
        obtain ⟨q12, h11, h⟩ := dV_some h
        refine dw_kv (va_runV (As := []) (rest := []) ⟨hx, hb, hml, hown, hts⟩ (qX0_clear_s10 l D ty eo _ ad q9  q12 h11) (cwV 0 hts gX9_back_X0_clear rfl rfl rfl hd_X0_clear_v ⟨Nat.le_of_ble_eq_true rfl, Nat.le_of_ble_eq_true rfl⟩) (pvF_0_10 hK hN hE hP hD hS hA) rfl rfl hl.1 rfl (lv_room (Nat.le_of_ble_eq_true rfl)) dX9_back_46 ⟨Nat.le_of_ble_eq_true rfl, Nat.le_of_ble_eq_true rfl⟩) hD hS hA (fun u9 H locs hw hp hd hs => ?_)
        clear hP hD hS
        obtain rfl := hw
        have hP := hp; have hD := hd; have hS := hs; clear hp hd hs
        refine lv_aload_n hx hb dX9_back_49 rfl (lv_at hl 0 rfl) ?_
        refine lv_iconst (v := 0) hx hb dX9_back_50 (by decide) ?_
        obtain ⟨r13, q15, h14, h⟩ := dB_some h
        refine dw_ki (va_runV (As := [.int 0]) (rest := []) ⟨hx, hb, hml, hown, hts⟩ (qX9_accept_s0 l D ty eo _ ad q12 0 r13 q15 h14) (cwV 1 hts gX9_back_X9_accept rfl rfl rfl hd_X9_accept_v ⟨Nat.le_of_ble_eq_true rfl, Nat.le_of_ble_eq_true rfl⟩) (pvF_9_0 hK hN hE hP hD hS hA) rfl rfl hl.1 rfl (lv_room (Nat.le_of_ble_eq_true rfl)) dX9_back_51 ⟨Nat.le_of_ble_eq_true rfl, Nat.le_of_ble_eq_true rfl⟩) hD hS hA (fun r9 u9 H locs hw hp hd hs => ?_)
        clear hP hD hS
        obtain ⟨rfl, rfl⟩ := hw
        have hP := hp; have hD := hd; have hS := hs; clear hp hd hs
        cases h
        exact kz_iret hx hb hr hlocks hP hK hD hS dX9_back_54 ⟨rfl, rfl⟩
      · rw [if_neg c6] at h
        obtain ⟨g16, h⟩ := dG_some h
        refine kz_topv (y := .ref (ad 56)) (by rw [of_decide_eq_true g16]; rfl) ?_
        obtain ⟨q19, h18, h⟩ := dV_some h
        refine dw_kv (va_runV (As := [.ref (ad 56)]) (rest := []) ⟨hx, hb, hml, hown, hts⟩ (qX6_copyFrom_s1_s56 l D ty eo _ ad q  q19 h18) (cwV 1 hts gX9_back_X6_copyFrom rfl rfl rfl hd_X6_copyFrom_v ⟨Nat.le_of_ble_eq_true rfl, Nat.le_of_ble_eq_true rfl⟩) (pvF_6_1 hK hN hE hP hD hS hA) rfl rfl hl.1 rfl (lv_room (Nat.le_of_ble_eq_true rfl)) dX9_back_39 ⟨Nat.le_of_ble_eq_true rfl, Nat.le_of_ble_eq_true rfl⟩) hD hS hA (fun u9 H locs hw hp hd hs => ?_)
        clear hP hD hS
        obtain rfl := hw
        have hP := hp; have hD := hd; have hS := hs; clear hp hd hs
        refine lv_aload_n hx hb dX9_back_42 rfl (lv_at hl 0 rfl) ?_
        refine va_get (D := D) (ci := 9) (v := .ref (ad 10)) (C := RX9) (T := TX9) (N := 19) hx hb hts u9_wsX9_back_X9 hown hK hP 0 rfl rfl 3 (by decide) (hts (.fieldLink RX9 27 "TurnedFloors" "history" "LTurnedFloors$History;") f9_wsX9_back_962) (fun _ h9 => h9) rfl dX9_back_43 ?_
        obtain ⟨q22, h21, h⟩ := dV_some h
        refine dw_kv (va_runV (As := []) (rest := []) ⟨hx, hb, hml, hown, hts⟩ (qX0_clear_s10 l D ty eo _ ad q19  q22 h21) (cwV 0 hts gX9_back_X0_clear rfl rfl rfl hd_X0_clear_v ⟨Nat.le_of_ble_eq_true rfl, Nat.le_of_ble_eq_true rfl⟩) (pvF_0_10 hK hN hE hP hD hS hA) rfl rfl hl.1 rfl (lv_room (Nat.le_of_ble_eq_true rfl)) dX9_back_46 ⟨Nat.le_of_ble_eq_true rfl, Nat.le_of_ble_eq_true rfl⟩) hD hS hA (fun u9 H locs hw hp hd hs => ?_)
        clear hP hD hS
        obtain rfl := hw
        have hP := hp; have hD := hd; have hS := hs; clear hp hd hs
        refine lv_aload_n hx hb dX9_back_49 rfl (lv_at hl 0 rfl) ?_
        refine lv_iconst (v := 0) hx hb dX9_back_50 (by decide) ?_
        obtain ⟨r23, q25, h24, h⟩ := dB_some h
        refine dw_ki (va_runV (As := [.int 0]) (rest := []) ⟨hx, hb, hml, hown, hts⟩ (qX9_accept_s0 l D ty eo _ ad q22 0 r23 q25 h24) (cwV 1 hts gX9_back_X9_accept rfl rfl rfl hd_X9_accept_v ⟨Nat.le_of_ble_eq_true rfl, Nat.le_of_ble_eq_true rfl⟩) (pvF_9_0 hK hN hE hP hD hS hA) rfl rfl hl.1 rfl (lv_room (Nat.le_of_ble_eq_true rfl)) dX9_back_51 ⟨Nat.le_of_ble_eq_true rfl, Nat.le_of_ble_eq_true rfl⟩) hD hS hA (fun r9 u9 H locs hw hp hd hs => ?_)
        clear hP hD hS
        obtain ⟨rfl, rfl⟩ := hw
        have hP := hp; have hD := hd; have hS := hs; clear hp hd hs
        cases h
        exact kz_iret hx hb hr hlocks hP hK hD hS dX9_back_54 ⟨rfl, rfl⟩
    · rw [if_pos c9] at h
      refine lv_aload_n hx hb dX9_back_22 rfl (lv_at hl 0 rfl) ?_
      refine lv_bipush (v := (-2)) hx hb dX9_back_23 (by decide) ?_
      obtain ⟨r26, q28, h27, h⟩ := dB_some h
      refine dw_ki (va_runV (As := [.int (-2)]) (rest := []) ⟨hx, hb, hml, hown, hts⟩ (qX9_refuse_s0 l D ty eo _ ad q (-2) r26 q28 h27) (cwV 1 hts gX9_back_X9_refuse rfl rfl rfl hd_X9_refuse_v ⟨Nat.le_of_ble_eq_true rfl, Nat.le_of_ble_eq_true rfl⟩) (pvF_9_0 hK hN hE hP hD hS hA) rfl rfl hl.1 rfl (lv_room (Nat.le_of_ble_eq_true rfl)) dX9_back_25 ⟨Nat.le_of_ble_eq_true rfl, Nat.le_of_ble_eq_true rfl⟩) hD hS hA (fun r9 u9 H locs hw hp hd hs => ?_)
      clear hP hD hS
      obtain ⟨rfl, rfl⟩ := hw
      have hP := hp; have hD := hd; have hS := hs; clear hp hd hs
      cases h
      exact kz_iret hx hb hr hlocks hP hK hD hS dX9_back_28 ⟨rfl, rfl⟩
  · rw [if_pos c9] at h
    refine lv_aload_n hx hb dX9_back_7 rfl (lv_at hl 0 rfl) ?_
    refine lv_iconst (v := (-1)) hx hb dX9_back_8 (by decide) ?_
    obtain ⟨r29, q31, h30, h⟩ := dB_some h
    refine dw_ki (va_runV (As := [.int (-1)]) (rest := []) ⟨hx, hb, hml, hown, hts⟩ (qX9_refuse_s0 l D ty eo _ ad q (-1) r29 q31 h30) (cwV 1 hts gX9_back_X9_refuse rfl rfl rfl hd_X9_refuse_v ⟨Nat.le_of_ble_eq_true rfl, Nat.le_of_ble_eq_true rfl⟩) (pvF_9_0 hK hN hE hP hD hS hA) rfl rfl hl.1 rfl (lv_room (Nat.le_of_ble_eq_true rfl)) dX9_back_9 ⟨Nat.le_of_ble_eq_true rfl, Nat.le_of_ble_eq_true rfl⟩) hD hS hA (fun r9 u9 H locs hw hp hd hs => ?_)
    clear hP hD hS
    obtain ⟨rfl, rfl⟩ := hw
    have hP := hp; have hD := hd; have hS := hs; clear hp hd hs
    cases h
    exact kz_iret hx hb hr hlocks hP hK hD hS dX9_back_12 ⟨rfl, rfl⟩

set_option maxHeartbeats 4000000 in
set_option maxRecDepth 100000 in
theorem WX8_onHeads_s2_4b {p : Program} {l : Launch} {e : Env} {s : State} {m : MethodId} {args : Array Value} {below : List Frame} {meth : Method} {c : Code} {D : va_G} {ty : Nat → ClassId} {eo : Nat → Nat} {A : Nat → Prop} {ad : Nat → Nat} {o1 : Int32} {o2 : dK} (C : dc_C p s m args meth c cX8_onHeads (some .int) 3 RX8 wsX8_onHeads D ty eo A) {k4 : dK → Int32 → Int32 → Option (Int32 × dK)} (hk4 : ∀ (q : dK) (x1 : Int32) (x2 : Int32) (H : Heap) (locs : List Loc) (ls : Array Slot), k4 q x1 x2 = some (o1, o2) → va_P D vwCl (wF ty ad q) H → va_D A (wF ty ad q) → va_S A s.heap H locs → lv_has ls 3 [(0, .ref (ad 2)), (1, .int x1), (2, .int x2)] → W p l e ({ frames := 0, cells := 0, slots := 0, locals := 0 } : Room) s m args below meth c H locs 0 0 (MQ below (va_Qi (fun (r : Int32) (u : va_W) => o1 = r ∧ wF ty ad o2 = u) (kz_B D ty A) A) args s 0 0 A) (F0 m 4 ls [])) (q : dK) (x1 : Int32) (x2 : Int32) (H : Heap) (locs : List Loc) (ls : Array Slot) (h : zX8_onHeads_s2_4b k4 q x1 x2 = some (o1, o2)) (hP : va_P D vwCl (wF ty ad q) H) (hD : va_D A (wF ty ad q)) (hS : va_S A s.heap H locs) (hl : lv_has ls 3 [(0, .ref (ad 2)), (1, .int x1), (2, .int x2)]) : W p l e ({ frames := 0, cells := 0, slots := 0, locals := 0 } : Room) s m args below meth c H locs 0 0 (MQ below (va_Qi (fun (r : Int32) (u : va_W) => o1 = r ∧ wF ty ad o2 = u) (kz_B D ty A) A) args s 0 0 A) (F0 m 4 ls []) := by
  have C0 := C
  obtain ⟨hx, hb, hr, hts, hown, hlocks, hml, hK, hN, hE, hA⟩ := C
  unfold zX8_onHeads_s2_4b at h
  refine lv_iload_n hx hb dX8_onHeads_4 rfl (lv_at hl 2 rfl) ?_
  refine lv_aload_n hx hb dX8_onHeads_5 rfl (lv_at hl 0 rfl) ?_
  refine va_get (D := D) (ci := 8) (v := .int (q.1 2 2)) (C := RX8) (T := TX8) (N := 5) hx hb hts u9_wsX8_onHeads_X8 hown hK hP 2 rfl rfl 2 (by decide) (hts (.fieldLink RX8 18 "TurnedFloors$Tower" "floors" "I") f9_wsX8_onHeads_964) (fun _ h9 => h9) rfl dX8_onHeads_6 ?_
  refine lv_icmp_ge (tgt := 27) hx hb dX8_onHeads_9 (by decide) (fun c9 => ?_) (fun c9 => ?_)
  · rw [if_pos c9] at h
    refine lv_iload_n hx hb dX8_onHeads_27 rfl (lv_at hl 1 rfl) ?_
    cases h
    exact kz_iret hx hb hr hlocks hP hK hD hS dX8_onHeads_28 ⟨rfl, rfl⟩
  · rw [if_neg c9] at h
    refine lv_iload_n hx hb dX8_onHeads_12 rfl (lv_at hl 1 rfl) ?_
    refine lv_aload_n hx hb dX8_onHeads_13 rfl (lv_at hl 0 rfl) ?_
    refine va_get (D := D) (ci := 8) (v := .ref (ad 4)) (C := RX8) (T := TX8) (N := 5) hx hb hts u9_wsX8_onHeads_X8 hown hK hP 2 rfl rfl 1 (by decide) (hts (.fieldLink RX8 15 "TurnedFloors$Tower" "head" "[I") f9_wsX8_onHeads_965) (fun _ h9 => h9) rfl dX8_onHeads_14 ?_
    refine lv_iload_n hx hb dX8_onHeads_17 rfl (lv_at hl 2 rfl) ?_
    obtain ⟨g1, h⟩ := dG_some h
    refine va_iald hx hb hK hP 4 0 rfl rfl (dg_in g1) dX8_onHeads_18 ?_
    obtain ⟨v2, ev2, h⟩ := dL_some h
    refine kz_topi v2 ev2 ?_
    refine lv_iadd hx hb dX8_onHeads_19 ?_
    refine lv_istore_n (lv' := [(1, .int (x1 + v2)), (0, .ref (ad 2)), (2, .int x2)]) hx hb dX8_onHeads_20 rfl hl (by decide) rfl (fun ls hl => ?_)
    refine lv_iinc (v := x2 + 1) (lv' := [(2, .int (x2 + 1)), (1, .int (x1 + v2)), (0, .ref (ad 2))]) hx hb dX8_onHeads_21 hl (k := 2) rfl rfl (by decide) rfl (fun ls hl => ?_)
    refine lv_goto (tgt := 4) hx hb dX8_onHeads_24 (by decide) ?_
    exact hk4 _ _ _ _ _ _ h hP hD hS (lv_sub hl [2, 1, 0] rfl)
set_option maxHeartbeats 4000000 in
set_option maxRecDepth 100000 in
theorem WX8_onHeads_s2_4 {p : Program} {l : Launch} {e : Env} {s : State} {m : MethodId} {args : Array Value} {below : List Frame} {meth : Method} {c : Code} {D : va_G} {ty : Nat → ClassId} {eo : Nat → Nat} {A : Nat → Prop} {ad : Nat → Nat} {o1 : Int32} {o2 : dK} (C : dc_C p s m args meth c cX8_onHeads (some .int) 3 RX8 wsX8_onHeads D ty eo A)   (n : Nat) (q : dK) (x1 : Int32) (x2 : Int32) (H : Heap) (locs : List Loc) (ls : Array Slot) (h : zX8_onHeads_s2_4  n q x1 x2 = some (o1, o2)) (hP : va_P D vwCl (wF ty ad q) H) (hD : va_D A (wF ty ad q)) (hS : va_S A s.heap H locs) (hl : lv_has ls 3 [(0, .ref (ad 2)), (1, .int x1), (2, .int x2)]) : W p l e ({ frames := 0, cells := 0, slots := 0, locals := 0 } : Room) s m args below meth c H locs 0 0 (MQ below (va_Qi (fun (r : Int32) (u : va_W) => o1 = r ∧ wF ty ad o2 = u) (kz_B D ty A) A) args s 0 0 A) (F0 m 4 ls []) := by
  exact dFix_W (F := fun k (a : dK × Int32 × Int32) => zX8_onHeads_s2_4b  (fun q x1 x2 => k (q, x1, x2)) a.1 a.2.1 a.2.2) (o := (o1, o2)) (P := fun (a : dK × Int32 × Int32) H locs ls => va_P D vwCl (wF ty ad a.1) H ∧ va_D A (wF ty ad a.1) ∧ va_S A s.heap H locs ∧ lv_has ls 3 [(0, .ref (ad 2)), (1, .int a.2.1), (2, .int a.2.2)]) (G := fun H locs ls => W p l e ({ frames := 0, cells := 0, slots := 0, locals := 0 } : Room) s m args below meth c H locs 0 0 (MQ below (va_Qi (fun (r : Int32) (u : va_W) => o1 = r ∧ wF ty ad o2 = u) (kz_B D ty A) A) args s 0 0 A) (F0 m 4 ls []))
    (fun k hk a H locs ls h hp => WX8_onHeads_s2_4b C  (fun q x1 x2 H locs ls h h1 h2 h3 h4 => hk (q, x1, x2) H locs ls h ⟨h1, h2, h3, h4⟩) a.1 a.2.1 a.2.2 H locs ls h hp.1 hp.2.1 hp.2.2.1 hp.2.2.2) n (q, x1, x2) H locs ls h ⟨hP, hD, hS, hl⟩
set_option maxHeartbeats 4000000 in
set_option maxRecDepth 100000 in
theorem qX8_onHeads_s2 (l : Launch) (D : va_G) (ty : Nat → ClassId) (eo : Nat → Nat) (sz : Nat) (ad : Nat → Nat) (q : dK)  (o1 : Int32) (o2 : dK) (h : zX8_onHeads_s2 q = some (o1, o2)) : Met l yX8_onHeads wsX8_onHeads ({ frames := 0, cells := 0, slots := 0, locals := 0 } : Room) (va_Pc [.ref (ad 2)] (kz_pre D ty eo (wF ty ad q) sz)) (va_Qi (fun (r : Int32) (u : va_W) => o1 = r ∧ wF ty ad o2 = u) (kz_B D ty (va_A (wF ty ad q) sz)) (va_A (wF ty ad q) sz)) 0 0 (va_A (wF ty ad q) sz) := by
  refine Met.ofW (cc := cX8_onHeads) (maxL := 3) (ret := (some .int)) (by decide) rfl ?_
  intro p e s m args below meth c s₁ B hml hv
  obtain ⟨rfl, hsz, hP, hK, hD0, hN, hE⟩ := hv
  have hx := B.exec
  have hb := B.bytes
  have hr := B.returns
  have hts := atoms_spec (ws := wsX8_onHeads) B.pre
  have hown : s.vm.findClass RX8 = some m.cls := findClass_of_methodNamed B.named
  have hlocks := B.notSynchronized
  subst hsz
  have hD := hD0.self (sz := s.heap.size)
  generalize hAe : va_A (wF ty ad q) s.heap.size = A at hD hE ⊢
  have hA : ∀ q : Nat, s.heap.size ≤ q → A q := fun q h => by rw [← hAe]; exact Or.inr h
  clear hAe
  have hS : va_S A s.heap s.heap [] := va_S.rf
  have hl := lv_entry ([.ref (ad 2)]) (n := 3) (Nat.le_of_ble_eq_true rfl)
  rw [lg_entry_eq]
  generalize (lg_sl ([.ref (ad 2)]) ++ List.replicate (3 - (lg_sl ([.ref (ad 2)])).length) Slot.unset).toArray = ls at hl ⊢
  have hl : lv_has ls 3 [(0, .ref (ad 2))] := hl
  have C : dc_C p s m _ meth c cX8_onHeads (some .int) 3 RX8 wsX8_onHeads D ty eo A := ⟨hx, hb, hr, hts, hown, hlocks, hml, hK, hN, hE, hA⟩
  unfold zX8_onHeads_s2 at h
  refine lv_iconst (v := 0) hx hb dX8_onHeads_0 (by decide) ?_
  refine lv_istore_n (lv' := [(1, .int 0), (0, .ref (ad 2))]) hx hb dX8_onHeads_1 rfl hl (by decide) rfl (fun ls hl => ?_)
  refine lv_iconst (v := 0) hx hb dX8_onHeads_2 (by decide) ?_
  refine lv_istore_n (lv' := [(2, .int 0), (1, .int 0), (0, .ref (ad 2))]) hx hb dX8_onHeads_3 rfl hl (by decide) rfl (fun ls hl => ?_)
  exact WX8_onHeads_s2_4 C  _ _ _ _ _ _ _ h hP hD hS (lv_sub hl [2, 1, 0] rfl)
end
section
set_option maxRecDepth 20000 in
theorem ggX9_count_X8_onHeads : GoodIn wsX9_count wsX8_onHeads := wd_c vW9_ok mvW9_663
set_option maxRecDepth 20000 in
theorem gX9_count_X8_onHeads : GoodIn wsX9_count (wsV RX9 339 RX8 yX8_onHeads wsX8_onHeads) := goodIn_app (wd_l vW9_ok _ pvW9_137) ggX9_count_X8_onHeads
set_option maxRecDepth 20000 in
theorem ggX9_count_X6_term : GoodIn wsX9_count wsX6_term := wd_c vW9_ok mvW9_134
set_option maxRecDepth 20000 in
theorem gX9_count_X6_term : GoodIn wsX9_count (wsV RX9 170 RX6 yX6_term wsX6_term) := goodIn_app (wd_l vW9_ok _ pvW9_104) ggX9_count_X6_term
set_option maxRecDepth 20000 in
theorem ggX9_count_X8_rises : GoodIn wsX9_count wsX8_rises := wd_c vW9_ok mvW9_612
set_option maxRecDepth 20000 in
theorem gX9_count_X8_rises : GoodIn wsX9_count (wsV RX9 270 RX8 yX8_rises wsX8_rises) := goodIn_app (wd_l vW9_ok _ pvW9_125) ggX9_count_X8_rises
set_option maxRecDepth 20000 in
theorem ggX9_count_X9_bit : GoodIn wsX9_count wsX9_bit := wd_c vW9_ok mvW9_97
set_option maxRecDepth 20000 in
theorem gX9_count_X9_bit : GoodIn wsX9_count (va_wsS RX9 152 yX9_bit wsX9_bit) := goodIn_app (wd_l vW9_ok _ pvW9_99) ggX9_count_X9_bit
theorem da9_dX9_count_0 : (decode cX9_count 0 = .ok (.iload_n 1, 1)) ∧ (decode cX9_count 1 = .ok (.tableswitch 240 0 17 #[87, 98, 109, 120, 128, 136, 144, 149, 156, 163, 170, 177, 185, 193, 193, 193, 193, 205], 87)) ∧ (decode cX9_count 88 = .ok (.aload_n 0, 1)) ∧ (decode cX9_count 89 = .ok (.getfield 10, 3)) ∧ (decode cX9_count 92 = .ok (.getfield 122, 3)) ∧ (decode cX9_count 95 = .ok (.getfield 135, 3)) ∧ (decode cX9_count 98 = .ok (.ireturn, 1)) ∧ (decode cX9_count 99 = .ok (.aload_n 0, 1)) ∧ (decode cX9_count 100 = .ok (.getfield 10, 3)) ∧ (decode cX9_count 103 = .ok (.getfield 122, 3)) ∧ (decode cX9_count 106 = .ok (.invokevirtual 339, 3)) ∧ (decode cX9_count 109 = .ok (.ireturn, 1)) ∧ (decode cX9_count 110 = .ok (.aload_n 0, 1)) ∧ (decode cX9_count 111 = .ok (.getfield 10, 3)) ∧ (decode cX9_count 114 = .ok (.getfield 122, 3)) ∧ (decode cX9_count 117 = .ok (.getfield 329, 3)) := by decide +kernel
theorem dX9_count_0 : decode cX9_count 0 = .ok (.iload_n 1, 1) := da9_dX9_count_0.1
theorem dX9_count_1 : decode cX9_count 1 = .ok (.tableswitch 240 0 17 #[87, 98, 109, 120, 128, 136, 144, 149, 156, 163, 170, 177, 185, 193, 193, 193, 193, 205], 87) := da9_dX9_count_0.2.1
theorem dX9_count_88 : decode cX9_count 88 = .ok (.aload_n 0, 1) := da9_dX9_count_0.2.2.1
theorem dX9_count_89 : decode cX9_count 89 = .ok (.getfield 10, 3) := da9_dX9_count_0.2.2.2.1
theorem dX9_count_92 : decode cX9_count 92 = .ok (.getfield 122, 3) := da9_dX9_count_0.2.2.2.2.1
theorem dX9_count_95 : decode cX9_count 95 = .ok (.getfield 135, 3) := da9_dX9_count_0.2.2.2.2.2.1
theorem dX9_count_98 : decode cX9_count 98 = .ok (.ireturn, 1) := da9_dX9_count_0.2.2.2.2.2.2.1
theorem dX9_count_99 : decode cX9_count 99 = .ok (.aload_n 0, 1) := da9_dX9_count_0.2.2.2.2.2.2.2.1
theorem dX9_count_100 : decode cX9_count 100 = .ok (.getfield 10, 3) := da9_dX9_count_0.2.2.2.2.2.2.2.2.1
theorem dX9_count_103 : decode cX9_count 103 = .ok (.getfield 122, 3) := da9_dX9_count_0.2.2.2.2.2.2.2.2.2.1
theorem dX9_count_106 : decode cX9_count 106 = .ok (.invokevirtual 339, 3) := da9_dX9_count_0.2.2.2.2.2.2.2.2.2.2.1
theorem dX9_count_109 : decode cX9_count 109 = .ok (.ireturn, 1) := da9_dX9_count_0.2.2.2.2.2.2.2.2.2.2.2.1
theorem dX9_count_110 : decode cX9_count 110 = .ok (.aload_n 0, 1) := da9_dX9_count_0.2.2.2.2.2.2.2.2.2.2.2.2.1
theorem dX9_count_111 : decode cX9_count 111 = .ok (.getfield 10, 3) := da9_dX9_count_0.2.2.2.2.2.2.2.2.2.2.2.2.2.1
theorem dX9_count_114 : decode cX9_count 114 = .ok (.getfield 122, 3) := da9_dX9_count_0.2.2.2.2.2.2.2.2.2.2.2.2.2.2.1
theorem dX9_count_117 : decode cX9_count 117 = .ok (.getfield 329, 3) := da9_dX9_count_0.2.2.2.2.2.2.2.2.2.2.2.2.2.2.2
theorem da9_dX9_count_120 : (decode cX9_count 120 = .ok (.ireturn, 1)) ∧ (decode cX9_count 121 = .ok (.aload_n 0, 1)) ∧ (decode cX9_count 122 = .ok (.getfield 10, 3)) ∧ (decode cX9_count 125 = .ok (.getfield 273, 3)) ∧ (decode cX9_count 128 = .ok (.ireturn, 1)) ∧ (decode cX9_count 129 = .ok (.aload_n 0, 1)) ∧ (decode cX9_count 130 = .ok (.getfield 10, 3)) ∧ (decode cX9_count 133 = .ok (.getfield 183, 3)) ∧ (decode cX9_count 136 = .ok (.ireturn, 1)) ∧ (decode cX9_count 137 = .ok (.aload_n 0, 1)) ∧ (decode cX9_count 138 = .ok (.getfield 27, 3)) ∧ (decode cX9_count 141 = .ok (.getfield 214, 3)) ∧ (decode cX9_count 144 = .ok (.ireturn, 1)) ∧ (decode cX9_count 145 = .ok (.aload_n 0, 1)) ∧ (decode cX9_count 146 = .ok (.getfield 88, 3)) ∧ (decode cX9_count 149 = .ok (.ireturn, 1)) := by decide +kernel
theorem dX9_count_120 : decode cX9_count 120 = .ok (.ireturn, 1) := da9_dX9_count_120.1
theorem dX9_count_121 : decode cX9_count 121 = .ok (.aload_n 0, 1) := da9_dX9_count_120.2.1
theorem dX9_count_122 : decode cX9_count 122 = .ok (.getfield 10, 3) := da9_dX9_count_120.2.2.1
theorem dX9_count_125 : decode cX9_count 125 = .ok (.getfield 273, 3) := da9_dX9_count_120.2.2.2.1
theorem dX9_count_128 : decode cX9_count 128 = .ok (.ireturn, 1) := da9_dX9_count_120.2.2.2.2.1
theorem dX9_count_129 : decode cX9_count 129 = .ok (.aload_n 0, 1) := da9_dX9_count_120.2.2.2.2.2.1
theorem dX9_count_130 : decode cX9_count 130 = .ok (.getfield 10, 3) := da9_dX9_count_120.2.2.2.2.2.2.1
theorem dX9_count_133 : decode cX9_count 133 = .ok (.getfield 183, 3) := da9_dX9_count_120.2.2.2.2.2.2.2.1
theorem dX9_count_136 : decode cX9_count 136 = .ok (.ireturn, 1) := da9_dX9_count_120.2.2.2.2.2.2.2.2.1
theorem dX9_count_137 : decode cX9_count 137 = .ok (.aload_n 0, 1) := da9_dX9_count_120.2.2.2.2.2.2.2.2.2.1
theorem dX9_count_138 : decode cX9_count 138 = .ok (.getfield 27, 3) := da9_dX9_count_120.2.2.2.2.2.2.2.2.2.2.1
theorem dX9_count_141 : decode cX9_count 141 = .ok (.getfield 214, 3) := da9_dX9_count_120.2.2.2.2.2.2.2.2.2.2.2.1
theorem dX9_count_144 : decode cX9_count 144 = .ok (.ireturn, 1) := da9_dX9_count_120.2.2.2.2.2.2.2.2.2.2.2.2.1
theorem dX9_count_145 : decode cX9_count 145 = .ok (.aload_n 0, 1) := da9_dX9_count_120.2.2.2.2.2.2.2.2.2.2.2.2.2.1
theorem dX9_count_146 : decode cX9_count 146 = .ok (.getfield 88, 3) := da9_dX9_count_120.2.2.2.2.2.2.2.2.2.2.2.2.2.2.1
theorem dX9_count_149 : decode cX9_count 149 = .ok (.ireturn, 1) := da9_dX9_count_120.2.2.2.2.2.2.2.2.2.2.2.2.2.2.2
theorem da9_dX9_count_150 : (decode cX9_count 150 = .ok (.aload_n 0, 1)) ∧ (decode cX9_count 151 = .ok (.getfield 105, 3)) ∧ (decode cX9_count 154 = .ok (.iconst 1, 1)) ∧ (decode cX9_count 155 = .ok (.iaload, 1)) ∧ (decode cX9_count 156 = .ok (.ireturn, 1)) ∧ (decode cX9_count 157 = .ok (.aload_n 0, 1)) ∧ (decode cX9_count 158 = .ok (.getfield 105, 3)) ∧ (decode cX9_count 161 = .ok (.iconst 2, 1)) ∧ (decode cX9_count 162 = .ok (.iaload, 1)) ∧ (decode cX9_count 163 = .ok (.ireturn, 1)) ∧ (decode cX9_count 164 = .ok (.aload_n 0, 1)) ∧ (decode cX9_count 165 = .ok (.getfield 105, 3)) ∧ (decode cX9_count 168 = .ok (.iconst 3, 1)) ∧ (decode cX9_count 169 = .ok (.iaload, 1)) ∧ (decode cX9_count 170 = .ok (.ireturn, 1)) ∧ (decode cX9_count 171 = .ok (.aload_n 0, 1)) := by decide +kernel
theorem dX9_count_150 : decode cX9_count 150 = .ok (.aload_n 0, 1) := da9_dX9_count_150.1
theorem dX9_count_151 : decode cX9_count 151 = .ok (.getfield 105, 3) := da9_dX9_count_150.2.1
theorem dX9_count_154 : decode cX9_count 154 = .ok (.iconst 1, 1) := da9_dX9_count_150.2.2.1
theorem dX9_count_155 : decode cX9_count 155 = .ok (.iaload, 1) := da9_dX9_count_150.2.2.2.1
theorem dX9_count_156 : decode cX9_count 156 = .ok (.ireturn, 1) := da9_dX9_count_150.2.2.2.2.1
theorem dX9_count_157 : decode cX9_count 157 = .ok (.aload_n 0, 1) := da9_dX9_count_150.2.2.2.2.2.1
theorem dX9_count_158 : decode cX9_count 158 = .ok (.getfield 105, 3) := da9_dX9_count_150.2.2.2.2.2.2.1
theorem dX9_count_161 : decode cX9_count 161 = .ok (.iconst 2, 1) := da9_dX9_count_150.2.2.2.2.2.2.2.1
theorem dX9_count_162 : decode cX9_count 162 = .ok (.iaload, 1) := da9_dX9_count_150.2.2.2.2.2.2.2.2.1
theorem dX9_count_163 : decode cX9_count 163 = .ok (.ireturn, 1) := da9_dX9_count_150.2.2.2.2.2.2.2.2.2.1
theorem dX9_count_164 : decode cX9_count 164 = .ok (.aload_n 0, 1) := da9_dX9_count_150.2.2.2.2.2.2.2.2.2.2.1
theorem dX9_count_165 : decode cX9_count 165 = .ok (.getfield 105, 3) := da9_dX9_count_150.2.2.2.2.2.2.2.2.2.2.2.1
theorem dX9_count_168 : decode cX9_count 168 = .ok (.iconst 3, 1) := da9_dX9_count_150.2.2.2.2.2.2.2.2.2.2.2.2.1
theorem dX9_count_169 : decode cX9_count 169 = .ok (.iaload, 1) := da9_dX9_count_150.2.2.2.2.2.2.2.2.2.2.2.2.2.1
theorem dX9_count_170 : decode cX9_count 170 = .ok (.ireturn, 1) := da9_dX9_count_150.2.2.2.2.2.2.2.2.2.2.2.2.2.2.1
theorem dX9_count_171 : decode cX9_count 171 = .ok (.aload_n 0, 1) := da9_dX9_count_150.2.2.2.2.2.2.2.2.2.2.2.2.2.2.2
theorem da9_dX9_count_172 : (decode cX9_count 172 = .ok (.getfield 105, 3)) ∧ (decode cX9_count 175 = .ok (.iconst 5, 1)) ∧ (decode cX9_count 176 = .ok (.iaload, 1)) ∧ (decode cX9_count 177 = .ok (.ireturn, 1)) ∧ (decode cX9_count 178 = .ok (.aload_n 0, 1)) ∧ (decode cX9_count 179 = .ok (.getfield 105, 3)) ∧ (decode cX9_count 182 = .ok (.bipush 6, 2)) ∧ (decode cX9_count 184 = .ok (.iaload, 1)) ∧ (decode cX9_count 185 = .ok (.ireturn, 1)) ∧ (decode cX9_count 186 = .ok (.aload_n 0, 1)) ∧ (decode cX9_count 187 = .ok (.getfield 10, 3)) ∧ (decode cX9_count 190 = .ok (.getfield 208, 3)) ∧ (decode cX9_count 193 = .ok (.ireturn, 1)) ∧ (decode cX9_count 194 = .ok (.aload_n 0, 1)) ∧ (decode cX9_count 195 = .ok (.getfield 10, 3)) ∧ (decode cX9_count 198 = .ok (.iload_n 1, 1)) := by decide +kernel
theorem dX9_count_172 : decode cX9_count 172 = .ok (.getfield 105, 3) := da9_dX9_count_172.1
theorem dX9_count_175 : decode cX9_count 175 = .ok (.iconst 5, 1) := da9_dX9_count_172.2.1
theorem dX9_count_176 : decode cX9_count 176 = .ok (.iaload, 1) := da9_dX9_count_172.2.2.1
theorem dX9_count_177 : decode cX9_count 177 = .ok (.ireturn, 1) := da9_dX9_count_172.2.2.2.1
theorem dX9_count_178 : decode cX9_count 178 = .ok (.aload_n 0, 1) := da9_dX9_count_172.2.2.2.2.1
theorem dX9_count_179 : decode cX9_count 179 = .ok (.getfield 105, 3) := da9_dX9_count_172.2.2.2.2.2.1
theorem dX9_count_182 : decode cX9_count 182 = .ok (.bipush 6, 2) := da9_dX9_count_172.2.2.2.2.2.2.1
theorem dX9_count_184 : decode cX9_count 184 = .ok (.iaload, 1) := da9_dX9_count_172.2.2.2.2.2.2.2.1
theorem dX9_count_185 : decode cX9_count 185 = .ok (.ireturn, 1) := da9_dX9_count_172.2.2.2.2.2.2.2.2.1
theorem dX9_count_186 : decode cX9_count 186 = .ok (.aload_n 0, 1) := da9_dX9_count_172.2.2.2.2.2.2.2.2.2.1
theorem dX9_count_187 : decode cX9_count 187 = .ok (.getfield 10, 3) := da9_dX9_count_172.2.2.2.2.2.2.2.2.2.2.1
theorem dX9_count_190 : decode cX9_count 190 = .ok (.getfield 208, 3) := da9_dX9_count_172.2.2.2.2.2.2.2.2.2.2.2.1
theorem dX9_count_193 : decode cX9_count 193 = .ok (.ireturn, 1) := da9_dX9_count_172.2.2.2.2.2.2.2.2.2.2.2.2.1
theorem dX9_count_194 : decode cX9_count 194 = .ok (.aload_n 0, 1) := da9_dX9_count_172.2.2.2.2.2.2.2.2.2.2.2.2.2.1
theorem dX9_count_195 : decode cX9_count 195 = .ok (.getfield 10, 3) := da9_dX9_count_172.2.2.2.2.2.2.2.2.2.2.2.2.2.2.1
theorem dX9_count_198 : decode cX9_count 198 = .ok (.iload_n 1, 1) := da9_dX9_count_172.2.2.2.2.2.2.2.2.2.2.2.2.2.2.2
theorem da9_dX9_count_199 : (decode cX9_count 199 = .ok (.bipush 13, 2)) ∧ (decode cX9_count 201 = .ok (.isub, 1)) ∧ (decode cX9_count 202 = .ok (.invokevirtual 170, 3)) ∧ (decode cX9_count 205 = .ok (.ireturn, 1)) ∧ (decode cX9_count 206 = .ok (.aload_n 0, 1)) ∧ (decode cX9_count 207 = .ok (.getfield 10, 3)) ∧ (decode cX9_count 210 = .ok (.getfield 122, 3)) ∧ (decode cX9_count 213 = .ok (.iconst 1, 1)) ∧ (decode cX9_count 214 = .ok (.aload_n 0, 1)) ∧ (decode cX9_count 215 = .ok (.getfield 10, 3)) ∧ (decode cX9_count 218 = .ok (.getfield 122, 3)) ∧ (decode cX9_count 221 = .ok (.getfield 135, 3)) ∧ (decode cX9_count 224 = .ok (.ishl, 1)) ∧ (decode cX9_count 225 = .ok (.iconst 1, 1)) ∧ (decode cX9_count 226 = .ok (.isub, 1)) ∧ (decode cX9_count 227 = .ok (.aload_n 0, 1)) := by decide +kernel
theorem dX9_count_199 : decode cX9_count 199 = .ok (.bipush 13, 2) := da9_dX9_count_199.1
theorem dX9_count_201 : decode cX9_count 201 = .ok (.isub, 1) := da9_dX9_count_199.2.1
theorem dX9_count_202 : decode cX9_count 202 = .ok (.invokevirtual 170, 3) := da9_dX9_count_199.2.2.1
theorem dX9_count_205 : decode cX9_count 205 = .ok (.ireturn, 1) := da9_dX9_count_199.2.2.2.1
theorem dX9_count_206 : decode cX9_count 206 = .ok (.aload_n 0, 1) := da9_dX9_count_199.2.2.2.2.1
theorem dX9_count_207 : decode cX9_count 207 = .ok (.getfield 10, 3) := da9_dX9_count_199.2.2.2.2.2.1
theorem dX9_count_210 : decode cX9_count 210 = .ok (.getfield 122, 3) := da9_dX9_count_199.2.2.2.2.2.2.1
theorem dX9_count_213 : decode cX9_count 213 = .ok (.iconst 1, 1) := da9_dX9_count_199.2.2.2.2.2.2.2.1
theorem dX9_count_214 : decode cX9_count 214 = .ok (.aload_n 0, 1) := da9_dX9_count_199.2.2.2.2.2.2.2.2.1
theorem dX9_count_215 : decode cX9_count 215 = .ok (.getfield 10, 3) := da9_dX9_count_199.2.2.2.2.2.2.2.2.2.1
theorem dX9_count_218 : decode cX9_count 218 = .ok (.getfield 122, 3) := da9_dX9_count_199.2.2.2.2.2.2.2.2.2.2.1
theorem dX9_count_221 : decode cX9_count 221 = .ok (.getfield 135, 3) := da9_dX9_count_199.2.2.2.2.2.2.2.2.2.2.2.1
theorem dX9_count_224 : decode cX9_count 224 = .ok (.ishl, 1) := da9_dX9_count_199.2.2.2.2.2.2.2.2.2.2.2.2.1
theorem dX9_count_225 : decode cX9_count 225 = .ok (.iconst 1, 1) := da9_dX9_count_199.2.2.2.2.2.2.2.2.2.2.2.2.2.1
theorem dX9_count_226 : decode cX9_count 226 = .ok (.isub, 1) := da9_dX9_count_199.2.2.2.2.2.2.2.2.2.2.2.2.2.2.1
theorem dX9_count_227 : decode cX9_count 227 = .ok (.aload_n 0, 1) := da9_dX9_count_199.2.2.2.2.2.2.2.2.2.2.2.2.2.2.2
theorem da9_dX9_count_228 : (decode cX9_count 228 = .ok (.getfield 10, 3)) ∧ (decode cX9_count 231 = .ok (.getfield 267, 3)) ∧ (decode cX9_count 234 = .ok (.invokevirtual 270, 3)) ∧ (decode cX9_count 237 = .ok (.invokestatic 152, 3)) ∧ (decode cX9_count 240 = .ok (.ireturn, 1)) ∧ (decode cX9_count 241 = .ok (.iconst (-1), 1)) ∧ (decode cX9_count 242 = .ok (.ireturn, 1)) := by decide +kernel
theorem dX9_count_228 : decode cX9_count 228 = .ok (.getfield 10, 3) := da9_dX9_count_228.1
theorem dX9_count_231 : decode cX9_count 231 = .ok (.getfield 267, 3) := da9_dX9_count_228.2.1
theorem dX9_count_234 : decode cX9_count 234 = .ok (.invokevirtual 270, 3) := da9_dX9_count_228.2.2.1
theorem dX9_count_237 : decode cX9_count 237 = .ok (.invokestatic 152, 3) := da9_dX9_count_228.2.2.2.1
theorem dX9_count_240 : decode cX9_count 240 = .ok (.ireturn, 1) := da9_dX9_count_228.2.2.2.2.1
theorem dX9_count_241 : decode cX9_count 241 = .ok (.iconst (-1), 1) := da9_dX9_count_228.2.2.2.2.2.1
theorem dX9_count_242 : decode cX9_count 242 = .ok (.ireturn, 1) := da9_dX9_count_228.2.2.2.2.2.2
theorem da9_dX9_status_0 : (decode cX9_status 0 = .ok (.aload_n 0, 1)) ∧ (decode cX9_status 1 = .ok (.getfield 108, 3)) ∧ (decode cX9_status 4 = .ok (.ireturn, 1)) := by decide +kernel
theorem dX9_status_0 : decode cX9_status 0 = .ok (.aload_n 0, 1) := da9_dX9_status_0.1
theorem dX9_status_1 : decode cX9_status 1 = .ok (.getfield 108, 3) := da9_dX9_status_0.2.1
theorem dX9_status_4 : decode cX9_status 4 = .ok (.ireturn, 1) := da9_dX9_status_0.2.2
end
section
theorem u9_wsX9_count_X9 : ∀ w ∈ u_ws RX9 TX9 19, w ∈ wsX9_count := fun w h => List.mem_cons_of_mem _ (vW9_wsX90 w h)
theorem u9_wsX9_count_X6 : ∀ w ∈ u_ws RX6 TX6 10, w ∈ wsX9_count := fun w h => List.mem_cons_of_mem _ (vW9_wsX60 w h)
theorem u9_wsX9_count_X8 : ∀ w ∈ u_ws RX8 TX8 5, w ∈ wsX9_count := fun w h => List.mem_cons_of_mem _ (vW9_wsX80 w h)
theorem u9_wsX9_count_X0 : ∀ w ∈ u_ws RX0 TX0 6, w ∈ wsX9_count := fun w h => List.mem_cons_of_mem _ (vW9_wsX00 w h)
theorem f9_wsX9_count_970 : (Cond.fieldLink RX9 10 "TurnedFloors" "state" "LTurnedFloors$State;") ∈ wsX9_count := List.mem_cons_of_mem _ mvW9_0
theorem f9_wsX9_count_971 : (Cond.fieldLink RX9 27 "TurnedFloors" "history" "LTurnedFloors$History;") ∈ wsX9_count := List.mem_cons_of_mem _ mvW9_1
theorem f9_wsX9_count_972 : (Cond.fieldLink RX9 88 "TurnedFloors" "tapeLength" "I") ∈ wsX9_count := List.mem_cons_of_mem _ mvW9_143
theorem f9_wsX9_count_973 : (Cond.fieldLink RX9 105 "TurnedFloors" "refusals" "[I") ∈ wsX9_count := List.mem_cons_of_mem _ mvW9_14
theorem u9_wsX9_status_X9 : ∀ w ∈ u_ws RX9 TX9 19, w ∈ wsX9_status := fun w h => List.mem_cons_of_mem _ (vW9_wsX90 w h)
theorem f9_wsX9_status_975 : (Cond.fieldLink RX9 108 "TurnedFloors" "latestStatus" "I") ∈ wsX9_status := List.mem_cons_of_mem _ mvW9_13
set_option maxHeartbeats 4000000 in
set_option maxRecDepth 100000 in
theorem qX9_count_s0 (l : Launch) (D : va_G) (ty : Nat → ClassId) (eo : Nat → Nat) (sz : Nat) (ad : Nat → Nat) (q : dK) (p1 : Int32) (o1 : Int32) (o2 : dK) (h : zX9_count_s0 q p1 = some (o1, o2)) : Met l yX9_count wsX9_count ({ frames := 1, cells := 0, slots := 0, locals := 24 } : Room) (va_Pc [.ref (ad 0), .int p1] (kz_pre D ty eo (wF ty ad q) sz)) (va_Qi (fun (r : Int32) (u : va_W) => o1 = r ∧ wF ty ad o2 = u) (kz_B D ty (va_A (wF ty ad q) sz)) (va_A (wF ty ad q) sz)) 0 0 (va_A (wF ty ad q) sz) := by
  refine Met.ofW (cc := cX9_count) (maxL := 2) (ret := (some .int)) (by decide) rfl ?_
  intro p e s m args below meth c s₁ B hml hv
  obtain ⟨rfl, hsz, hP, hK, hD0, hN, hE⟩ := hv
  have hx := B.exec
  have hb := B.bytes
  have hr := B.returns
  have hts := atoms_spec (ws := wsX9_count) B.pre
  have hown : s.vm.findClass RX9 = some m.cls := findClass_of_methodNamed B.named
  have hlocks := B.notSynchronized
  subst hsz
  have hD := hD0.self (sz := s.heap.size)
  generalize hAe : va_A (wF ty ad q) s.heap.size = A at hD hE ⊢
  have hA : ∀ q : Nat, s.heap.size ≤ q → A q := fun q h => by rw [← hAe]; exact Or.inr h
  clear hAe
  have hS : va_S A s.heap s.heap [] := va_S.rf
  have hl := lv_entry ([.ref (ad 0), .int p1]) (n := 2) (Nat.le_of_ble_eq_true rfl)
  rw [lg_entry_eq]
  generalize (lg_sl ([.ref (ad 0), .int p1]) ++ List.replicate (2 - (lg_sl ([.ref (ad 0), .int p1])).length) Slot.unset).toArray = ls at hl ⊢
  have hl : lv_has ls 2 [(0, .ref (ad 0)), (1, .int p1)] := hl
  have C : dc_C p s m _ meth c cX9_count (some .int) 2 RX9 wsX9_count D ty eo A := ⟨hx, hb, hr, hts, hown, hlocks, hml, hK, hN, hE, hA⟩
  unfold zX9_count_s0 at h
  refine lv_iload_n hx hb dX9_count_0 rfl (lv_at hl 1 rfl) ?_
  by_cases c1 : p1 = 0
  · rw [if_pos c1] at h
    refine lv_tableIn (off := 87) (tgt := 88) hx hb dX9_count_1 (by rw [c1]; decide) (by rw [c1]; decide) (by rw [c1]; decide) (by decide) ?_
    refine lv_aload_n hx hb dX9_count_88 rfl (lv_at hl 0 rfl) ?_
    refine va_get (D := D) (ci := 9) (v := .ref (ad 1)) (C := RX9) (T := TX9) (N := 19) hx hb hts u9_wsX9_count_X9 hown hK hP 0 rfl rfl 0 (by decide) (hts (.fieldLink RX9 10 "TurnedFloors" "state" "LTurnedFloors$State;") f9_wsX9_count_970) (fun _ h9 => h9) rfl dX9_count_89 ?_
    refine va_getN (D := D) (ci := 6) (v := .ref (ad 2)) (C := RX6) (T := TX6) (N := 10) hx hb hts u9_wsX9_count_X6 hown hK hP 1 rfl rfl 0 (by decide) (hN.use (.fieldLinkNest "TurnedFloors" 122 "TurnedFloors$State" "tower" "LTurnedFloors$Tower;" "TurnedFloors") nn9_0) (fun _ h9 => h9) rfl dX9_count_92 ?_
    refine va_getN (D := D) (ci := 8) (v := .int (q.1 2 2)) (C := RX8) (T := TX8) (N := 5) hx hb hts u9_wsX9_count_X8 hown hK hP 2 rfl rfl 2 (by decide) (hN.use (.fieldLinkNest "TurnedFloors" 135 "TurnedFloors$Tower" "floors" "I" "TurnedFloors") nn9_1) (fun _ h9 => h9) rfl dX9_count_95 ?_
    cases h
    exact kz_iret hx hb hr hlocks hP hK hD hS dX9_count_98 ⟨rfl, rfl⟩
  rw [if_neg c1] at h
  by_cases c2 : p1 = 1
  · rw [if_pos c2] at h
    refine lv_tableIn (off := 98) (tgt := 99) hx hb dX9_count_1 (by rw [c2]; decide) (by rw [c2]; decide) (by rw [c2]; decide) (by decide) ?_
    refine lv_aload_n hx hb dX9_count_99 rfl (lv_at hl 0 rfl) ?_
    refine va_get (D := D) (ci := 9) (v := .ref (ad 1)) (C := RX9) (T := TX9) (N := 19) hx hb hts u9_wsX9_count_X9 hown hK hP 0 rfl rfl 0 (by decide) (hts (.fieldLink RX9 10 "TurnedFloors" "state" "LTurnedFloors$State;") f9_wsX9_count_970) (fun _ h9 => h9) rfl dX9_count_100 ?_
    refine va_getN (D := D) (ci := 6) (v := .ref (ad 2)) (C := RX6) (T := TX6) (N := 10) hx hb hts u9_wsX9_count_X6 hown hK hP 1 rfl rfl 0 (by decide) (hN.use (.fieldLinkNest "TurnedFloors" 122 "TurnedFloors$State" "tower" "LTurnedFloors$Tower;" "TurnedFloors") nn9_0) (fun _ h9 => h9) rfl dX9_count_103 ?_
    obtain ⟨r3, q5, h4, h⟩ := dB_some h
    refine dw_ki (va_runV (As := []) (rest := []) ⟨hx, hb, hml, hown, hts⟩ (qX8_onHeads_s2 l D ty eo _ ad q  r3 q5 h4) (cwV 0 hts gX9_count_X8_onHeads rfl rfl rfl hd_X8_onHeads_v ⟨Nat.le_of_ble_eq_true rfl, Nat.le_of_ble_eq_true rfl⟩) (pvF_8_2 hK hN hE hP hD hS hA) rfl rfl hl.1 rfl (lv_room (Nat.le_of_ble_eq_true rfl)) dX9_count_106 ⟨Nat.le_of_ble_eq_true rfl, Nat.le_of_ble_eq_true rfl⟩) hD hS hA (fun r9 u9 H locs hw hp hd hs => ?_)
    clear hP hD hS
    obtain ⟨rfl, rfl⟩ := hw
    have hP := hp; have hD := hd; have hS := hs; clear hp hd hs
    cases h
    exact kz_iret hx hb hr hlocks hP hK hD hS dX9_count_109 ⟨rfl, rfl⟩
  rw [if_neg c2] at h
  by_cases c6 : p1 = 2
  · rw [if_pos c6] at h
    refine lv_tableIn (off := 109) (tgt := 110) hx hb dX9_count_1 (by rw [c6]; decide) (by rw [c6]; decide) (by rw [c6]; decide) (by decide) ?_
    refine lv_aload_n hx hb dX9_count_110 rfl (lv_at hl 0 rfl) ?_
    refine va_get (D := D) (ci := 9) (v := .ref (ad 1)) (C := RX9) (T := TX9) (N := 19) hx hb hts u9_wsX9_count_X9 hown hK hP 0 rfl rfl 0 (by decide) (hts (.fieldLink RX9 10 "TurnedFloors" "state" "LTurnedFloors$State;") f9_wsX9_count_970) (fun _ h9 => h9) rfl dX9_count_111 ?_
    refine va_getN (D := D) (ci := 6) (v := .ref (ad 2)) (C := RX6) (T := TX6) (N := 10) hx hb hts u9_wsX9_count_X6 hown hK hP 1 rfl rfl 0 (by decide) (hN.use (.fieldLinkNest "TurnedFloors" 122 "TurnedFloors$State" "tower" "LTurnedFloors$Tower;" "TurnedFloors") nn9_0) (fun _ h9 => h9) rfl dX9_count_114 ?_
    refine va_getN (D := D) (ci := 8) (v := .int (q.1 2 3)) (C := RX8) (T := TX8) (N := 5) hx hb hts u9_wsX9_count_X8 hown hK hP 2 rfl rfl 3 (by decide) (hN.use (.fieldLinkNest "TurnedFloors" 329 "TurnedFloors$Tower" "paid" "I" "TurnedFloors") nn9_42) (fun _ h9 => h9) rfl dX9_count_117 ?_
    cases h
    exact kz_iret hx hb hr hlocks hP hK hD hS dX9_count_120 ⟨rfl, rfl⟩
  rw [if_neg c6] at h
  by_cases c7 : p1 = 3
  · rw [if_pos c7] at h
    refine lv_tableIn (off := 120) (tgt := 121) hx hb dX9_count_1 (by rw [c7]; decide) (by rw [c7]; decide) (by rw [c7]; decide) (by decide) ?_
    refine lv_aload_n hx hb dX9_count_121 rfl (lv_at hl 0 rfl) ?_
    refine va_get (D := D) (ci := 9) (v := .ref (ad 1)) (C := RX9) (T := TX9) (N := 19) hx hb hts u9_wsX9_count_X9 hown hK hP 0 rfl rfl 0 (by decide) (hts (.fieldLink RX9 10 "TurnedFloors" "state" "LTurnedFloors$State;") f9_wsX9_count_970) (fun _ h9 => h9) rfl dX9_count_122 ?_
    refine va_getN (D := D) (ci := 6) (v := .int (q.1 1 6)) (C := RX6) (T := TX6) (N := 10) hx hb hts u9_wsX9_count_X6 hown hK hP 1 rfl rfl 6 (by decide) (hN.use (.fieldLinkNest "TurnedFloors" 273 "TurnedFloors$State" "seenCount" "I" "TurnedFloors") nn9_38) (fun _ h9 => h9) rfl dX9_count_125 ?_
    cases h
    exact kz_iret hx hb hr hlocks hP hK hD hS dX9_count_128 ⟨rfl, rfl⟩
  rw [if_neg c7] at h
  by_cases c8 : p1 = 4
  · rw [if_pos c8] at h
    refine lv_tableIn (off := 128) (tgt := 129) hx hb dX9_count_1 (by rw [c8]; decide) (by rw [c8]; decide) (by rw [c8]; decide) (by decide) ?_
    refine lv_aload_n hx hb dX9_count_129 rfl (lv_at hl 0 rfl) ?_
    refine va_get (D := D) (ci := 9) (v := .ref (ad 1)) (C := RX9) (T := TX9) (N := 19) hx hb hts u9_wsX9_count_X9 hown hK hP 0 rfl rfl 0 (by decide) (hts (.fieldLink RX9 10 "TurnedFloors" "state" "LTurnedFloors$State;") f9_wsX9_count_970) (fun _ h9 => h9) rfl dX9_count_130 ?_
    refine va_getN (D := D) (ci := 6) (v := .int (q.1 1 8)) (C := RX6) (T := TX6) (N := 10) hx hb hts u9_wsX9_count_X6 hown hK hP 1 rfl rfl 8 (by decide) (hN.use (.fieldLinkNest "TurnedFloors" 183 "TurnedFloors$State" "lawCount" "I" "TurnedFloors") nn9_17) (fun _ h9 => h9) rfl dX9_count_133 ?_
    cases h
    exact kz_iret hx hb hr hlocks hP hK hD hS dX9_count_136 ⟨rfl, rfl⟩
  rw [if_neg c8] at h
  by_cases c9 : p1 = 5
  · rw [if_pos c9] at h
    refine lv_tableIn (off := 136) (tgt := 137) hx hb dX9_count_1 (by rw [c9]; decide) (by rw [c9]; decide) (by rw [c9]; decide) (by decide) ?_
    refine lv_aload_n hx hb dX9_count_137 rfl (lv_at hl 0 rfl) ?_
    refine va_get (D := D) (ci := 9) (v := .ref (ad 10)) (C := RX9) (T := TX9) (N := 19) hx hb hts u9_wsX9_count_X9 hown hK hP 0 rfl rfl 3 (by decide) (hts (.fieldLink RX9 27 "TurnedFloors" "history" "LTurnedFloors$History;") f9_wsX9_count_971) (fun _ h9 => h9) rfl dX9_count_138 ?_
    refine va_getN (D := D) (ci := 0) (v := .int (q.1 10 2)) (C := RX0) (T := TX0) (N := 6) hx hb hts u9_wsX9_count_X0 hown hK hP 10 rfl rfl 2 (by decide) (hN.use (.fieldLinkNest "TurnedFloors" 214 "TurnedFloors$History" "kept" "I" "TurnedFloors") nn9_29) (fun _ h9 => h9) rfl dX9_count_141 ?_
    cases h
    exact kz_iret hx hb hr hlocks hP hK hD hS dX9_count_144 ⟨rfl, rfl⟩
  rw [if_neg c9] at h
  by_cases c10 : p1 = 6
  · rw [if_pos c10] at h
    refine lv_tableIn (off := 144) (tgt := 145) hx hb dX9_count_1 (by rw [c10]; decide) (by rw [c10]; decide) (by rw [c10]; decide) (by decide) ?_
    refine lv_aload_n hx hb dX9_count_145 rfl (lv_at hl 0 rfl) ?_
    refine va_get (D := D) (ci := 9) (v := .int (q.1 0 12)) (C := RX9) (T := TX9) (N := 19) hx hb hts u9_wsX9_count_X9 hown hK hP 0 rfl rfl 12 (by decide) (hts (.fieldLink RX9 88 "TurnedFloors" "tapeLength" "I") f9_wsX9_count_972) (fun _ h9 => h9) rfl dX9_count_146 ?_
    cases h
    exact kz_iret hx hb hr hlocks hP hK hD hS dX9_count_149 ⟨rfl, rfl⟩
  rw [if_neg c10] at h
  by_cases c11 : p1 = 7
  · rw [if_pos c11] at h
    refine lv_tableIn (off := 149) (tgt := 150) hx hb dX9_count_1 (by rw [c11]; decide) (by rw [c11]; decide) (by rw [c11]; decide) (by decide) ?_
    refine lv_aload_n hx hb dX9_count_150 rfl (lv_at hl 0 rfl) ?_
    refine va_get (D := D) (ci := 9) (v := .ref (ad 48)) (C := RX9) (T := TX9) (N := 19) hx hb hts u9_wsX9_count_X9 hown hK hP 0 rfl rfl 17 (by decide) (hts (.fieldLink RX9 105 "TurnedFloors" "refusals" "[I") f9_wsX9_count_973) (fun _ h9 => h9) rfl dX9_count_151 ?_
    refine lv_iconst (v := 1) hx hb dX9_count_154 (by decide) ?_
    refine va_iald hx hb hK hP 48 0 rfl rfl (by simp only [vp_in]; decide) dX9_count_155 ?_
    refine kz_topi (q.1 48 1) (congrArg (q.1 48) (by decide +kernel : Int32.toNatClampNeg 1 = 1)) ?_
    cases h
    exact kz_iret hx hb hr hlocks hP hK hD hS dX9_count_156 ⟨rfl, rfl⟩
  rw [if_neg c11] at h
  by_cases c12 : p1 = 8
  · rw [if_pos c12] at h
    refine lv_tableIn (off := 156) (tgt := 157) hx hb dX9_count_1 (by rw [c12]; decide) (by rw [c12]; decide) (by rw [c12]; decide) (by decide) ?_
    refine lv_aload_n hx hb dX9_count_157 rfl (lv_at hl 0 rfl) ?_
    refine va_get (D := D) (ci := 9) (v := .ref (ad 48)) (C := RX9) (T := TX9) (N := 19) hx hb hts u9_wsX9_count_X9 hown hK hP 0 rfl rfl 17 (by decide) (hts (.fieldLink RX9 105 "TurnedFloors" "refusals" "[I") f9_wsX9_count_973) (fun _ h9 => h9) rfl dX9_count_158 ?_
    refine lv_iconst (v := 2) hx hb dX9_count_161 (by decide) ?_
    refine va_iald hx hb hK hP 48 0 rfl rfl (by simp only [vp_in]; decide) dX9_count_162 ?_
    refine kz_topi (q.1 48 2) (congrArg (q.1 48) (by decide +kernel : Int32.toNatClampNeg 2 = 2)) ?_
    cases h
    exact kz_iret hx hb hr hlocks hP hK hD hS dX9_count_163 ⟨rfl, rfl⟩
  rw [if_neg c12] at h
  by_cases c13 : p1 = 9
  · rw [if_pos c13] at h
    refine lv_tableIn (off := 163) (tgt := 164) hx hb dX9_count_1 (by rw [c13]; decide) (by rw [c13]; decide) (by rw [c13]; decide) (by decide) ?_
    refine lv_aload_n hx hb dX9_count_164 rfl (lv_at hl 0 rfl) ?_
    refine va_get (D := D) (ci := 9) (v := .ref (ad 48)) (C := RX9) (T := TX9) (N := 19) hx hb hts u9_wsX9_count_X9 hown hK hP 0 rfl rfl 17 (by decide) (hts (.fieldLink RX9 105 "TurnedFloors" "refusals" "[I") f9_wsX9_count_973) (fun _ h9 => h9) rfl dX9_count_165 ?_
    refine lv_iconst (v := 3) hx hb dX9_count_168 (by decide) ?_
    refine va_iald hx hb hK hP 48 0 rfl rfl (by simp only [vp_in]; decide) dX9_count_169 ?_
    refine kz_topi (q.1 48 3) (congrArg (q.1 48) (by decide +kernel : Int32.toNatClampNeg 3 = 3)) ?_
    cases h
    exact kz_iret hx hb hr hlocks hP hK hD hS dX9_count_170 ⟨rfl, rfl⟩
  rw [if_neg c13] at h
  by_cases c14 : p1 = 10
  · rw [if_pos c14] at h
    refine lv_tableIn (off := 170) (tgt := 171) hx hb dX9_count_1 (by rw [c14]; decide) (by rw [c14]; decide) (by rw [c14]; decide) (by decide) ?_
    refine lv_aload_n hx hb dX9_count_171 rfl (lv_at hl 0 rfl) ?_
    refine va_get (D := D) (ci := 9) (v := .ref (ad 48)) (C := RX9) (T := TX9) (N := 19) hx hb hts u9_wsX9_count_X9 hown hK hP 0 rfl rfl 17 (by decide) (hts (.fieldLink RX9 105 "TurnedFloors" "refusals" "[I") f9_wsX9_count_973) (fun _ h9 => h9) rfl dX9_count_172 ?_
    refine lv_iconst (v := 5) hx hb dX9_count_175 (by decide) ?_
    refine va_iald hx hb hK hP 48 0 rfl rfl (by simp only [vp_in]; decide) dX9_count_176 ?_
    refine kz_topi (q.1 48 5) (congrArg (q.1 48) (by decide +kernel : Int32.toNatClampNeg 5 = 5)) ?_
    cases h
    exact kz_iret hx hb hr hlocks hP hK hD hS dX9_count_177 ⟨rfl, rfl⟩
  rw [if_neg c14] at h
  by_cases c15 : p1 = 11
  · rw [if_pos c15] at h
    refine lv_tableIn (off := 177) (tgt := 178) hx hb dX9_count_1 (by rw [c15]; decide) (by rw [c15]; decide) (by rw [c15]; decide) (by decide) ?_
    refine lv_aload_n hx hb dX9_count_178 rfl (lv_at hl 0 rfl) ?_
    refine va_get (D := D) (ci := 9) (v := .ref (ad 48)) (C := RX9) (T := TX9) (N := 19) hx hb hts u9_wsX9_count_X9 hown hK hP 0 rfl rfl 17 (by decide) (hts (.fieldLink RX9 105 "TurnedFloors" "refusals" "[I") f9_wsX9_count_973) (fun _ h9 => h9) rfl dX9_count_179 ?_
    refine lv_bipush (v := 6) hx hb dX9_count_182 (by decide) ?_
    refine va_iald hx hb hK hP 48 0 rfl rfl (by simp only [vp_in]; decide) dX9_count_184 ?_
    refine kz_topi (q.1 48 6) (congrArg (q.1 48) (by decide +kernel : Int32.toNatClampNeg 6 = 6)) ?_
    cases h
    exact kz_iret hx hb hr hlocks hP hK hD hS dX9_count_185 ⟨rfl, rfl⟩
  rw [if_neg c15] at h
  by_cases c16 : p1 = 12
  · rw [if_pos c16] at h
    refine lv_tableIn (off := 185) (tgt := 186) hx hb dX9_count_1 (by rw [c16]; decide) (by rw [c16]; decide) (by rw [c16]; decide) (by decide) ?_
    refine lv_aload_n hx hb dX9_count_186 rfl (lv_at hl 0 rfl) ?_
    refine va_get (D := D) (ci := 9) (v := .ref (ad 1)) (C := RX9) (T := TX9) (N := 19) hx hb hts u9_wsX9_count_X9 hown hK hP 0 rfl rfl 0 (by decide) (hts (.fieldLink RX9 10 "TurnedFloors" "state" "LTurnedFloors$State;") f9_wsX9_count_970) (fun _ h9 => h9) rfl dX9_count_187 ?_
    refine va_getN (D := D) (ci := 6) (v := .int (q.1 1 9)) (C := RX6) (T := TX6) (N := 10) hx hb hts u9_wsX9_count_X6 hown hK hP 1 rfl rfl 9 (by decide) (hN.use (.fieldLinkNest "TurnedFloors" 208 "TurnedFloors$State" "inForce" "I" "TurnedFloors") nn9_2) (fun _ h9 => h9) rfl dX9_count_190 ?_
    cases h
    exact kz_iret hx hb hr hlocks hP hK hD hS dX9_count_193 ⟨rfl, rfl⟩
  rw [if_neg c16] at h
  by_cases c17 : p1 = 13
  · rw [if_pos c17] at h
    refine lv_tableIn (off := 193) (tgt := 194) hx hb dX9_count_1 (by rw [c17]; decide) (by rw [c17]; decide) (by rw [c17]; decide) (by decide) ?_
    refine lv_aload_n hx hb dX9_count_194 rfl (lv_at hl 0 rfl) ?_
    refine va_get (D := D) (ci := 9) (v := .ref (ad 1)) (C := RX9) (T := TX9) (N := 19) hx hb hts u9_wsX9_count_X9 hown hK hP 0 rfl rfl 0 (by decide) (hts (.fieldLink RX9 10 "TurnedFloors" "state" "LTurnedFloors$State;") f9_wsX9_count_970) (fun _ h9 => h9) rfl dX9_count_195 ?_
    refine lv_iload_n hx hb dX9_count_198 rfl (lv_at hl 1 rfl) ?_
    refine lv_bipush (v := 13) hx hb dX9_count_199 (by decide) ?_
    refine lv_isub hx hb dX9_count_201 ?_
    obtain ⟨r18, q20, h19, h⟩ := dB_some h
    refine dw_ki (va_runV (As := [.int (p1 - 13 : Int32)]) (rest := []) ⟨hx, hb, hml, hown, hts⟩ (qX6_term_s1 l D ty eo _ ad q (p1 - 13 : Int32) r18 q20 h19) (cwV 1 hts gX9_count_X6_term rfl rfl rfl hd_X6_term_v ⟨Nat.le_of_ble_eq_true rfl, Nat.le_of_ble_eq_true rfl⟩) (pvF_6_1 hK hN hE hP hD hS hA) rfl rfl hl.1 rfl (lv_room (Nat.le_of_ble_eq_true rfl)) dX9_count_202 ⟨Nat.le_of_ble_eq_true rfl, Nat.le_of_ble_eq_true rfl⟩) hD hS hA (fun r9 u9 H locs hw hp hd hs => ?_)
    clear hP hD hS
    obtain ⟨rfl, rfl⟩ := hw
    have hP := hp; have hD := hd; have hS := hs; clear hp hd hs
    cases h
    exact kz_iret hx hb hr hlocks hP hK hD hS dX9_count_205 ⟨rfl, rfl⟩
  rw [if_neg c17] at h
  by_cases c21 : p1 = 14
  · rw [if_pos c21] at h
    refine lv_tableIn (off := 193) (tgt := 194) hx hb dX9_count_1 (by rw [c21]; decide) (by rw [c21]; decide) (by rw [c21]; decide) (by decide) ?_
    refine lv_aload_n hx hb dX9_count_194 rfl (lv_at hl 0 rfl) ?_
    refine va_get (D := D) (ci := 9) (v := .ref (ad 1)) (C := RX9) (T := TX9) (N := 19) hx hb hts u9_wsX9_count_X9 hown hK hP 0 rfl rfl 0 (by decide) (hts (.fieldLink RX9 10 "TurnedFloors" "state" "LTurnedFloors$State;") f9_wsX9_count_970) (fun _ h9 => h9) rfl dX9_count_195 ?_
    refine lv_iload_n hx hb dX9_count_198 rfl (lv_at hl 1 rfl) ?_
    refine lv_bipush (v := 13) hx hb dX9_count_199 (by decide) ?_
    refine lv_isub hx hb dX9_count_201 ?_
    obtain ⟨r22, q24, h23, h⟩ := dB_some h
    refine dw_ki (va_runV (As := [.int (p1 - 13 : Int32)]) (rest := []) ⟨hx, hb, hml, hown, hts⟩ (qX6_term_s1 l D ty eo _ ad q (p1 - 13 : Int32) r22 q24 h23) (cwV 1 hts gX9_count_X6_term rfl rfl rfl hd_X6_term_v ⟨Nat.le_of_ble_eq_true rfl, Nat.le_of_ble_eq_true rfl⟩) (pvF_6_1 hK hN hE hP hD hS hA) rfl rfl hl.1 rfl (lv_room (Nat.le_of_ble_eq_true rfl)) dX9_count_202 ⟨Nat.le_of_ble_eq_true rfl, Nat.le_of_ble_eq_true rfl⟩) hD hS hA (fun r9 u9 H locs hw hp hd hs => ?_)
    clear hP hD hS
    obtain ⟨rfl, rfl⟩ := hw
    have hP := hp; have hD := hd; have hS := hs; clear hp hd hs
    cases h
    exact kz_iret hx hb hr hlocks hP hK hD hS dX9_count_205 ⟨rfl, rfl⟩
  rw [if_neg c21] at h
  by_cases c25 : p1 = 15
  · rw [if_pos c25] at h
    refine lv_tableIn (off := 193) (tgt := 194) hx hb dX9_count_1 (by rw [c25]; decide) (by rw [c25]; decide) (by rw [c25]; decide) (by decide) ?_
    refine lv_aload_n hx hb dX9_count_194 rfl (lv_at hl 0 rfl) ?_
    refine va_get (D := D) (ci := 9) (v := .ref (ad 1)) (C := RX9) (T := TX9) (N := 19) hx hb hts u9_wsX9_count_X9 hown hK hP 0 rfl rfl 0 (by decide) (hts (.fieldLink RX9 10 "TurnedFloors" "state" "LTurnedFloors$State;") f9_wsX9_count_970) (fun _ h9 => h9) rfl dX9_count_195 ?_
    refine lv_iload_n hx hb dX9_count_198 rfl (lv_at hl 1 rfl) ?_
    refine lv_bipush (v := 13) hx hb dX9_count_199 (by decide) ?_
    refine lv_isub hx hb dX9_count_201 ?_
    obtain ⟨r26, q28, h27, h⟩ := dB_some h
    refine dw_ki (va_runV (As := [.int (p1 - 13 : Int32)]) (rest := []) ⟨hx, hb, hml, hown, hts⟩ (qX6_term_s1 l D ty eo _ ad q (p1 - 13 : Int32) r26 q28 h27) (cwV 1 hts gX9_count_X6_term rfl rfl rfl hd_X6_term_v ⟨Nat.le_of_ble_eq_true rfl, Nat.le_of_ble_eq_true rfl⟩) (pvF_6_1 hK hN hE hP hD hS hA) rfl rfl hl.1 rfl (lv_room (Nat.le_of_ble_eq_true rfl)) dX9_count_202 ⟨Nat.le_of_ble_eq_true rfl, Nat.le_of_ble_eq_true rfl⟩) hD hS hA (fun r9 u9 H locs hw hp hd hs => ?_)
    clear hP hD hS
    obtain ⟨rfl, rfl⟩ := hw
    have hP := hp; have hD := hd; have hS := hs; clear hp hd hs
    cases h
    exact kz_iret hx hb hr hlocks hP hK hD hS dX9_count_205 ⟨rfl, rfl⟩
  rw [if_neg c25] at h
  by_cases c29 : p1 = 16
  · rw [if_pos c29] at h
    refine lv_tableIn (off := 193) (tgt := 194) hx hb dX9_count_1 (by rw [c29]; decide) (by rw [c29]; decide) (by rw [c29]; decide) (by decide) ?_
    refine lv_aload_n hx hb dX9_count_194 rfl (lv_at hl 0 rfl) ?_
    refine va_get (D := D) (ci := 9) (v := .ref (ad 1)) (C := RX9) (T := TX9) (N := 19) hx hb hts u9_wsX9_count_X9 hown hK hP 0 rfl rfl 0 (by decide) (hts (.fieldLink RX9 10 "TurnedFloors" "state" "LTurnedFloors$State;") f9_wsX9_count_970) (fun _ h9 => h9) rfl dX9_count_195 ?_
    refine lv_iload_n hx hb dX9_count_198 rfl (lv_at hl 1 rfl) ?_
    refine lv_bipush (v := 13) hx hb dX9_count_199 (by decide) ?_
    refine lv_isub hx hb dX9_count_201 ?_
    obtain ⟨r30, q32, h31, h⟩ := dB_some h
    refine dw_ki (va_runV (As := [.int (p1 - 13 : Int32)]) (rest := []) ⟨hx, hb, hml, hown, hts⟩ (qX6_term_s1 l D ty eo _ ad q (p1 - 13 : Int32) r30 q32 h31) (cwV 1 hts gX9_count_X6_term rfl rfl rfl hd_X6_term_v ⟨Nat.le_of_ble_eq_true rfl, Nat.le_of_ble_eq_true rfl⟩) (pvF_6_1 hK hN hE hP hD hS hA) rfl rfl hl.1 rfl (lv_room (Nat.le_of_ble_eq_true rfl)) dX9_count_202 ⟨Nat.le_of_ble_eq_true rfl, Nat.le_of_ble_eq_true rfl⟩) hD hS hA (fun r9 u9 H locs hw hp hd hs => ?_)
    clear hP hD hS
    obtain ⟨rfl, rfl⟩ := hw
    have hP := hp; have hD := hd; have hS := hs; clear hp hd hs
    cases h
    exact kz_iret hx hb hr hlocks hP hK hD hS dX9_count_205 ⟨rfl, rfl⟩
  rw [if_neg c29] at h
  by_cases c33 : p1 = 17
  · rw [if_pos c33] at h
    refine lv_tableIn (off := 205) (tgt := 206) hx hb dX9_count_1 (by rw [c33]; decide) (by rw [c33]; decide) (by rw [c33]; decide) (by decide) ?_
    refine lv_aload_n hx hb dX9_count_206 rfl (lv_at hl 0 rfl) ?_
    refine va_get (D := D) (ci := 9) (v := .ref (ad 1)) (C := RX9) (T := TX9) (N := 19) hx hb hts u9_wsX9_count_X9 hown hK hP 0 rfl rfl 0 (by decide) (hts (.fieldLink RX9 10 "TurnedFloors" "state" "LTurnedFloors$State;") f9_wsX9_count_970) (fun _ h9 => h9) rfl dX9_count_207 ?_
    refine va_getN (D := D) (ci := 6) (v := .ref (ad 2)) (C := RX6) (T := TX6) (N := 10) hx hb hts u9_wsX9_count_X6 hown hK hP 1 rfl rfl 0 (by decide) (hN.use (.fieldLinkNest "TurnedFloors" 122 "TurnedFloors$State" "tower" "LTurnedFloors$Tower;" "TurnedFloors") nn9_0) (fun _ h9 => h9) rfl dX9_count_210 ?_
    refine lv_iconst (v := 1) hx hb dX9_count_213 (by decide) ?_
    refine lv_aload_n hx hb dX9_count_214 rfl (lv_at hl 0 rfl) ?_
    refine va_get (D := D) (ci := 9) (v := .ref (ad 1)) (C := RX9) (T := TX9) (N := 19) hx hb hts u9_wsX9_count_X9 hown hK hP 0 rfl rfl 0 (by decide) (hts (.fieldLink RX9 10 "TurnedFloors" "state" "LTurnedFloors$State;") f9_wsX9_count_970) (fun _ h9 => h9) rfl dX9_count_215 ?_
    refine va_getN (D := D) (ci := 6) (v := .ref (ad 2)) (C := RX6) (T := TX6) (N := 10) hx hb hts u9_wsX9_count_X6 hown hK hP 1 rfl rfl 0 (by decide) (hN.use (.fieldLinkNest "TurnedFloors" 122 "TurnedFloors$State" "tower" "LTurnedFloors$Tower;" "TurnedFloors") nn9_0) (fun _ h9 => h9) rfl dX9_count_218 ?_
    refine va_getN (D := D) (ci := 8) (v := .int (q.1 2 2)) (C := RX8) (T := TX8) (N := 5) hx hb hts u9_wsX9_count_X8 hown hK hP 2 rfl rfl 2 (by decide) (hN.use (.fieldLinkNest "TurnedFloors" 135 "TurnedFloors$Tower" "floors" "I" "TurnedFloors") nn9_1) (fun _ h9 => h9) rfl dX9_count_221 ?_
    refine lv_ishl hx hb dX9_count_224 ?_
    refine lv_iconst (v := 1) hx hb dX9_count_225 (by decide) ?_
    refine lv_isub hx hb dX9_count_226 ?_
    refine lv_aload_n hx hb dX9_count_227 rfl (lv_at hl 0 rfl) ?_
    refine va_get (D := D) (ci := 9) (v := .ref (ad 1)) (C := RX9) (T := TX9) (N := 19) hx hb hts u9_wsX9_count_X9 hown hK hP 0 rfl rfl 0 (by decide) (hts (.fieldLink RX9 10 "TurnedFloors" "state" "LTurnedFloors$State;") f9_wsX9_count_970) (fun _ h9 => h9) rfl dX9_count_228 ?_
    refine va_getN (D := D) (ci := 6) (v := .int (q.1 1 3)) (C := RX6) (T := TX6) (N := 10) hx hb hts u9_wsX9_count_X6 hown hK hP 1 rfl rfl 3 (by decide) (hN.use (.fieldLinkNest "TurnedFloors" 267 "TurnedFloors$State" "headsMatter" "I" "TurnedFloors") nn9_36) (fun _ h9 => h9) rfl dX9_count_231 ?_
    obtain ⟨r34, q36, h35, h⟩ := dB_some h
    refine dw_ki (va_runV (As := [.int ((1 <<< ((q.1 2 2 : Int32) &&& 31) : Int32) - 1 : Int32), .int (q.1 1 3)]) (rest := []) ⟨hx, hb, hml, hown, hts⟩ (qX8_rises_s2 l D ty eo _ ad q ((1 <<< ((q.1 2 2 : Int32) &&& 31) : Int32) - 1 : Int32) (q.1 1 3) r34 q36 h35) (cwV 2 hts gX9_count_X8_rises rfl rfl rfl hd_X8_rises_v ⟨Nat.le_of_ble_eq_true rfl, Nat.le_of_ble_eq_true rfl⟩) (pvF_8_2 hK hN hE hP hD hS hA) rfl rfl hl.1 rfl (lv_room (Nat.le_of_ble_eq_true rfl)) dX9_count_234 ⟨Nat.le_of_ble_eq_true rfl, Nat.le_of_ble_eq_true rfl⟩) hD hS hA (fun r9 u9 H locs hw hp hd hs => ?_)
    clear hP hD hS
    obtain ⟨rfl, rfl⟩ := hw
    have hP := hp; have hD := hd; have hS := hs; clear hp hd hs
    obtain ⟨r37, h38, h⟩ := dV_some h
    refine dw_ks (va_runS (As := [.int r34]) (rest := []) ⟨hx, hb, hml, hown, hts⟩ (qX9_bit l D ty eo _ r34 _ h38) (va_cwS 1 hts gX9_count_X9_bit rfl rfl rfl hd_X9_bit ⟨Nat.le_of_ble_eq_true rfl, Nat.le_of_ble_eq_true rfl⟩) (pvS_0 hK hN hE hP hD hS hA) rfl rfl hl.1 rfl (lv_room (Nat.le_of_ble_eq_true rfl)) dX9_count_237 ⟨Nat.le_of_ble_eq_true rfl, Nat.le_of_ble_eq_true rfl⟩) hP hD hS hA (fun _ _ h9 => h9.2.symm) (fun r9 u9 H locs hw hp hd hs => ?_)
    obtain ⟨rfl, -⟩ := hw
    clear hP hD hS
    have hP := hp; have hD := hd; have hS := hs; clear hp hd hs
    cases h
    exact kz_iret hx hb hr hlocks hP hK hD hS dX9_count_240 ⟨rfl, rfl⟩
  rw [if_neg c33] at h
  refine lv_tableOut (tgt := 241) hx hb dX9_count_1 (by simp only [← Int32.toInt_inj, Int32.reduceToInt] at c1 c2 c6 c7 c8 c9 c10 c11 c12 c13 c14 c15 c16 c17 c21 c25 c29 c33; omega) (by decide) ?_
  refine lv_iconst (v := (-1)) hx hb dX9_count_241 (by decide) ?_
  cases h
  exact kz_iret hx hb hr hlocks hP hK hD hS dX9_count_242 ⟨rfl, rfl⟩

set_option maxHeartbeats 4000000 in
set_option maxRecDepth 100000 in
theorem qX9_status_s0 (l : Launch) (D : va_G) (ty : Nat → ClassId) (eo : Nat → Nat) (sz : Nat) (ad : Nat → Nat) (q : dK)  (o1 : Int32) (o2 : dK) (h : zX9_status_s0 q = some (o1, o2)) : Met l yX9_status wsX9_status ({ frames := 0, cells := 0, slots := 0, locals := 0 } : Room) (va_Pc [.ref (ad 0)] (kz_pre D ty eo (wF ty ad q) sz)) (va_Qi (fun (r : Int32) (u : va_W) => o1 = r ∧ wF ty ad o2 = u) (kz_B D ty (va_A (wF ty ad q) sz)) (va_A (wF ty ad q) sz)) 0 0 (va_A (wF ty ad q) sz) := by
  refine Met.ofW (cc := cX9_status) (maxL := 1) (ret := (some .int)) (by decide) rfl ?_
  intro p e s m args below meth c s₁ B hml hv
  obtain ⟨rfl, hsz, hP, hK, hD0, hN, hE⟩ := hv
  have hx := B.exec
  have hb := B.bytes
  have hr := B.returns
  have hts := atoms_spec (ws := wsX9_status) B.pre
  have hown : s.vm.findClass RX9 = some m.cls := findClass_of_methodNamed B.named
  have hlocks := B.notSynchronized
  subst hsz
  have hD := hD0.self (sz := s.heap.size)
  generalize hAe : va_A (wF ty ad q) s.heap.size = A at hD hE ⊢
  have hA : ∀ q : Nat, s.heap.size ≤ q → A q := fun q h => by rw [← hAe]; exact Or.inr h
  clear hAe
  have hS : va_S A s.heap s.heap [] := va_S.rf
  have hl := lv_entry ([.ref (ad 0)]) (n := 1) (Nat.le_of_ble_eq_true rfl)
  rw [lg_entry_eq]
  generalize (lg_sl ([.ref (ad 0)]) ++ List.replicate (1 - (lg_sl ([.ref (ad 0)])).length) Slot.unset).toArray = ls at hl ⊢
  have hl : lv_has ls 1 [(0, .ref (ad 0))] := hl
  have C : dc_C p s m _ meth c cX9_status (some .int) 1 RX9 wsX9_status D ty eo A := ⟨hx, hb, hr, hts, hown, hlocks, hml, hK, hN, hE, hA⟩
  unfold zX9_status_s0 at h
  refine lv_aload_n hx hb dX9_status_0 rfl (lv_at hl 0 rfl) ?_
  refine va_get (D := D) (ci := 9) (v := .int (q.1 0 18)) (C := RX9) (T := TX9) (N := 19) hx hb hts u9_wsX9_status_X9 hown hK hP 0 rfl rfl 18 (by decide) (hts (.fieldLink RX9 108 "TurnedFloors" "latestStatus" "I") f9_wsX9_status_975) (fun _ h9 => h9) rfl dX9_status_1 ?_
  cases h
  exact kz_iret hx hb hr hlocks hP hK hD hS dX9_status_4 ⟨rfl, rfl⟩
end
