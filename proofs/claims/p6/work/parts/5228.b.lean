theorem u9_wsX9_back_X9 : ∀ w ∈ u_ws RX9 TX9 19, w ∈ wsX9_back := by
  first | exact fun w h => List.mem_cons_of_mem _ (List.mem_append_right _ h) | decide +kernel
theorem f9_wsX9_back_959 : (Cond.fieldLink RX9 20 "TurnedFloors" "kept" "[Z") ∈ wsX9_back := by decide +kernel
theorem f9_wsX9_back_960 : (Cond.fieldLink RX9 10 "TurnedFloors" "state" "LTurnedFloors$State;") ∈ wsX9_back := by decide +kernel
theorem f9_wsX9_back_961 : (Cond.fieldLink RX9 16 "TurnedFloors" "images" "[LTurnedFloors$State;") ∈ wsX9_back := by decide +kernel
theorem f9_wsX9_back_962 : (Cond.fieldLink RX9 27 "TurnedFloors" "history" "LTurnedFloors$History;") ∈ wsX9_back := by decide +kernel
theorem u9_wsX8_onHeads_X8 : ∀ w ∈ u_ws RX8 TX8 5, w ∈ wsX8_onHeads := by
  first | exact fun w h => List.mem_cons_of_mem _ (List.mem_append_right _ h) | decide +kernel
theorem f9_wsX8_onHeads_964 : (Cond.fieldLink RX8 18 "TurnedFloors$Tower" "floors" "I") ∈ wsX8_onHeads := by decide +kernel
theorem f9_wsX8_onHeads_965 : (Cond.fieldLink RX8 15 "TurnedFloors$Tower" "head" "[I") ∈ wsX8_onHeads := by decide +kernel
set_option maxHeartbeats 4000000 in
set_option maxRecDepth 100000 in
theorem WX6_copyFrom_s1_s49_94b {p : Program} {l : Launch} {e : Env} {s : State} {m : MethodId} {args : Array Value} {below : List Frame} {meth : Method} {c : Code} {D : va_G} {ty : Nat → ClassId} {eo : Nat → Nat} {A : Nat → Prop} {ad : Nat → Nat} {o2 : dK} (C : dc_C p s m args meth c cX6_copyFrom none 3 RX6 wsX6_copyFrom D ty eo A) {k94 : dK → Int32 → Option (dK)} (hk94 : ∀ (q : dK) (x2 : Int32) (H : Heap) (locs : List Loc) (ls : Array Slot), k94 q x2 = some o2 → va_P D vwCl (wF ty ad q) H → va_D A (wF ty ad q) → va_S A s.heap H locs → lv_has ls 3 [(0, .ref (ad 1)), (1, .ref (ad 49)), (2, .int x2)] → W p l e ({ frames := 2, cells := 0, slots := 0, locals := 46 } : Room) s m args below meth c H locs 0 0 (MQ below (va_Qv (fun (u : va_W) => wF ty ad o2 = u) (kz_B D ty A) A) args s 0 0 A) (F0 m 94 ls [])) (q : dK) (x2 : Int32) (H : Heap) (locs : List Loc) (ls : Array Slot) (h : zX6_copyFrom_s1_s49_94b k94 q x2 = some o2) (hP : va_P D vwCl (wF ty ad q) H) (hD : va_D A (wF ty ad q)) (hS : va_S A s.heap H locs) (hl : lv_has ls 3 [(0, .ref (ad 1)), (1, .ref (ad 49)), (2, .int x2)]) : W p l e ({ frames := 2, cells := 0, slots := 0, locals := 46 } : Room) s m args below meth c H locs 0 0 (MQ below (va_Qv (fun (u : va_W) => wF ty ad o2 = u) (kz_B D ty A) A) args s 0 0 A) (F0 m 94 ls []) := by
  have C0 := C
  obtain ⟨hx, hb, hr, hts, hown, hlocks, hml, hK, hN, hE, hA⟩ := C
  unfold zX6_copyFrom_s1_s49_94b at h
  refine lv_iload_n hx hb dX6_copyFrom_94 rfl (lv_at hl 2 rfl) ?_
  refine lv_bipush (v := 6) hx hb dX6_copyFrom_95 (by decide) ?_
  refine lv_icmp_ge (tgt := 118) hx hb dX6_copyFrom_97 (by decide) (fun c9 => ?_) (fun c9 => ?_)
  · rw [if_pos c9] at h
    refine lv_aload_n hx hb dX6_copyFrom_118 rfl (lv_at hl 0 rfl) ?_
    refine lv_aload_n hx hb dX6_copyFrom_119 rfl (lv_at hl 1 rfl) ?_
    refine va_get (D := D) (ci := 6) (v := .int (q.1 49 9)) (C := RX6) (T := TX6) (N := 10) hx hb hts u9_wsX6_copyFrom_X6 hown hK hP 49 rfl rfl 9 (by decide) (hts (.fieldLink RX6 47 "TurnedFloors$State" "inForce" "I") f9_wsX6_copyFrom_944) (fun _ h9 => h9) rfl dX6_copyFrom_120 ?_
    refine va_put (D := D) (ci := 6) (v := .int (q.1 49 9)) (ty := .int) (C := RX6) (T := TX6) (N := 10) hx hb hts u9_wsX6_copyFrom_X6 tyX6 tyX6_ok nmX6 hown hK hP hD hS 1 rfl rfl 9 (by decide) (hts (.fieldLink RX6 47 "TurnedFloors$State" "inForce" "I") f9_wsX6_copyFrom_944) (fun _ h9 => h9) rfl (by decide +kernel) rfl rfl (Nat.le_of_ble_eq_true rfl) dX6_copyFrom_123 (fun H locs hp hd hs => ?_)
    obtain ⟨q1, eq1, h⟩ := dL_some h
    refine kz_re (w2 := wF ty ad q1) hp hd hs (by rw [← eq1]; exact wF_f1_9 ty ad q (q.1 49 9)) ?_
    clear hp hd hs hP hD hS
    intro hP hD hS
    cases h
    exact kz_vret hx hb hr hlocks hP hK hD hS dX6_copyFrom_126 rfl
  · rw [if_neg c9] at h
    refine lv_aload_n hx hb dX6_copyFrom_100 rfl (lv_at hl 0 rfl) ?_
    refine va_get (D := D) (ci := 6) (v := .ref (ad 7)) (C := RX6) (T := TX6) (N := 10) hx hb hts u9_wsX6_copyFrom_X6 hown hK hP 1 rfl rfl 7 (by decide) (hts (.fieldLink RX6 40 "TurnedFloors$State" "laws" "[LTurnedFloors$Text;") f9_wsX6_copyFrom_945) (fun _ h9 => h9) rfl dX6_copyFrom_101 ?_
    refine lv_iload_n hx hb dX6_copyFrom_104 rfl (lv_at hl 2 rfl) ?_
    refine lv_aload_n hx hb dX6_copyFrom_105 rfl (lv_at hl 1 rfl) ?_
    refine va_get (D := D) (ci := 6) (v := .ref (ad 55)) (C := RX6) (T := TX6) (N := 10) hx hb hts u9_wsX6_copyFrom_X6 hown hK hP 49 rfl rfl 7 (by decide) (hts (.fieldLink RX6 40 "TurnedFloors$State" "laws" "[LTurnedFloors$Text;") f9_wsX6_copyFrom_945) (fun _ h9 => h9) rfl dX6_copyFrom_106 ?_
    refine lv_iload_n hx hb dX6_copyFrom_109 rfl (lv_at hl 2 rfl) ?_
    obtain ⟨g2, h⟩ := dG_some h
    refine va_aldq hx hb hK hP 55 5 rfl rfl (dg_in g2) dX6_copyFrom_110 ?_
    obtain ⟨v3, ev3, h⟩ := dL_some h
    refine kz_topv (y := dLw ad v3) (by rw [dLs_rf (dg_lt g2), ev3]) ?_
    obtain ⟨g4, h⟩ := dG_some h
    by_cases c5 : v3 = 0
    · rw [if_pos c5] at h
      refine kz_topv (if_pos c5) ?_
      refine va_astqN hx hb hK hP hD hS 7 5 rfl rfl (dg_in g4) dX6_copyFrom_111 (fun H locs hp hd hs => ?_)
      rw [dLs_up0 (dg_lt g4)] at hp hd
      obtain ⟨q6, eq6, h⟩ := dL_some h
      refine kz_re (w2 := wF ty ad q6) hp hd hs (by rw [← eq6]; exact wF_t7 ty ad q (Int32.toNatClampNeg x2) 0) ?_
      clear hp hd hs hP hD hS
      intro hP hD hS
      refine lv_iinc (v := x2 + 1) (lv' := [(2, .int (x2 + 1)), (0, .ref (ad 1)), (1, .ref (ad 49))]) hx hb dX6_copyFrom_112 hl (k := 2) rfl rfl (by decide) rfl (fun ls hl => ?_)
      refine lv_goto (tgt := 94) hx hb dX6_copyFrom_115 (by decide) ?_
      exact hk94 _ _ _ _ _ h hP hD hS (lv_sub hl [1, 2, 0] rfl)
    · rw [if_neg c5] at h
      refine kz_topv (if_neg c5) ?_
      obtain ⟨g7, h⟩ := dG_some h
      refine va_astq hx hb hK hP hD hS 7 5 _ 7 rfl rfl (lw_o g7) rfl (dg_in g4) dX6_copyFrom_111 (fun H locs hp hd hs => ?_)
      rw [dLs_up (dg_lt g4) c5] at hp hd
      obtain ⟨q8, eq8, h⟩ := dL_some h
      refine kz_re (w2 := wF ty ad q8) hp hd hs (by rw [← eq8]; exact wF_t7 ty ad q (Int32.toNatClampNeg x2) v3) ?_
      clear hp hd hs hP hD hS
      intro hP hD hS
      refine lv_iinc (v := x2 + 1) (lv' := [(2, .int (x2 + 1)), (0, .ref (ad 1)), (1, .ref (ad 49))]) hx hb dX6_copyFrom_112 hl (k := 2) rfl rfl (by decide) rfl (fun ls hl => ?_)
      refine lv_goto (tgt := 94) hx hb dX6_copyFrom_115 (by decide) ?_
      exact hk94 _ _ _ _ _ h hP hD hS (lv_sub hl [1, 2, 0] rfl)
set_option maxHeartbeats 4000000 in
set_option maxRecDepth 100000 in
theorem WX6_copyFrom_s1_s49_94 {p : Program} {l : Launch} {e : Env} {s : State} {m : MethodId} {args : Array Value} {below : List Frame} {meth : Method} {c : Code} {D : va_G} {ty : Nat → ClassId} {eo : Nat → Nat} {A : Nat → Prop} {ad : Nat → Nat} {o2 : dK} (C : dc_C p s m args meth c cX6_copyFrom none 3 RX6 wsX6_copyFrom D ty eo A)   (n : Nat) (q : dK) (x2 : Int32) (H : Heap) (locs : List Loc) (ls : Array Slot) (h : zX6_copyFrom_s1_s49_94  n q x2 = some o2) (hP : va_P D vwCl (wF ty ad q) H) (hD : va_D A (wF ty ad q)) (hS : va_S A s.heap H locs) (hl : lv_has ls 3 [(0, .ref (ad 1)), (1, .ref (ad 49)), (2, .int x2)]) : W p l e ({ frames := 2, cells := 0, slots := 0, locals := 46 } : Room) s m args below meth c H locs 0 0 (MQ below (va_Qv (fun (u : va_W) => wF ty ad o2 = u) (kz_B D ty A) A) args s 0 0 A) (F0 m 94 ls []) := by
  exact dFix_W (F := fun k (a : dK × Int32) => zX6_copyFrom_s1_s49_94b  (fun q x2 => k (q, x2)) a.1 a.2) (o := o2) (P := fun (a : dK × Int32) H locs ls => va_P D vwCl (wF ty ad a.1) H ∧ va_D A (wF ty ad a.1) ∧ va_S A s.heap H locs ∧ lv_has ls 3 [(0, .ref (ad 1)), (1, .ref (ad 49)), (2, .int a.2)]) (G := fun H locs ls => W p l e ({ frames := 2, cells := 0, slots := 0, locals := 46 } : Room) s m args below meth c H locs 0 0 (MQ below (va_Qv (fun (u : va_W) => wF ty ad o2 = u) (kz_B D ty A) A) args s 0 0 A) (F0 m 94 ls []))
    (fun k hk a H locs ls h hp => WX6_copyFrom_s1_s49_94b C  (fun q x2 H locs ls h h1 h2 h3 h4 => hk (q, x2) H locs ls h ⟨h1, h2, h3, h4⟩) a.1 a.2 H locs ls h hp.1 hp.2.1 hp.2.2.1 hp.2.2.2) n (q, x2) H locs ls h ⟨hP, hD, hS, hl⟩
set_option maxHeartbeats 4000000 in
set_option maxRecDepth 100000 in
theorem WX6_copyFrom_s1_s49_48b {p : Program} {l : Launch} {e : Env} {s : State} {m : MethodId} {args : Array Value} {below : List Frame} {meth : Method} {c : Code} {D : va_G} {ty : Nat → ClassId} {eo : Nat → Nat} {A : Nat → Prop} {ad : Nat → Nat} {o2 : dK} (C : dc_C p s m args meth c cX6_copyFrom none 3 RX6 wsX6_copyFrom D ty eo A) {k48 : dK → Int32 → Option (dK)} (hk48 : ∀ (q : dK) (x2 : Int32) (H : Heap) (locs : List Loc) (ls : Array Slot), k48 q x2 = some o2 → va_P D vwCl (wF ty ad q) H → va_D A (wF ty ad q) → va_S A s.heap H locs → lv_has ls 3 [(0, .ref (ad 1)), (1, .ref (ad 49)), (2, .int x2)] → W p l e ({ frames := 2, cells := 0, slots := 0, locals := 46 } : Room) s m args below meth c H locs 0 0 (MQ below (va_Qv (fun (u : va_W) => wF ty ad o2 = u) (kz_B D ty A) A) args s 0 0 A) (F0 m 48 ls [])) (q : dK) (x2 : Int32) (H : Heap) (locs : List Loc) (ls : Array Slot) (h : zX6_copyFrom_s1_s49_48b k48 q x2 = some o2) (hP : va_P D vwCl (wF ty ad q) H) (hD : va_D A (wF ty ad q)) (hS : va_S A s.heap H locs) (hl : lv_has ls 3 [(0, .ref (ad 1)), (1, .ref (ad 49)), (2, .int x2)]) : W p l e ({ frames := 2, cells := 0, slots := 0, locals := 46 } : Room) s m args below meth c H locs 0 0 (MQ below (va_Qv (fun (u : va_W) => wF ty ad o2 = u) (kz_B D ty A) A) args s 0 0 A) (F0 m 48 ls []) := by
  have C0 := C
  obtain ⟨hx, hb, hr, hts, hown, hlocks, hml, hK, hN, hE, hA⟩ := C
  unfold zX6_copyFrom_s1_s49_48b at h
  refine lv_iload_n hx hb dX6_copyFrom_48 rfl (lv_at hl 2 rfl) ?_
  refine lv_bipush (v := 6) hx hb dX6_copyFrom_49 (by decide) ?_
  refine lv_icmp_ge (tgt := 84) hx hb dX6_copyFrom_51 (by decide) (fun c9 => ?_) (fun c9 => ?_)
  · rw [if_pos c9] at h
    refine lv_aload_n hx hb dX6_copyFrom_84 rfl (lv_at hl 0 rfl) ?_
    refine lv_aload_n hx hb dX6_copyFrom_85 rfl (lv_at hl 1 rfl) ?_
    refine va_get (D := D) (ci := 6) (v := .int (q.1 49 8)) (C := RX6) (T := TX6) (N := 10) hx hb hts u9_wsX6_copyFrom_X6 hown hK hP 49 rfl rfl 8 (by decide) (hts (.fieldLink RX6 44 "TurnedFloors$State" "lawCount" "I") f9_wsX6_copyFrom_946) (fun _ h9 => h9) rfl dX6_copyFrom_86 ?_
    refine va_put (D := D) (ci := 6) (v := .int (q.1 49 8)) (ty := .int) (C := RX6) (T := TX6) (N := 10) hx hb hts u9_wsX6_copyFrom_X6 tyX6 tyX6_ok nmX6 hown hK hP hD hS 1 rfl rfl 8 (by decide) (hts (.fieldLink RX6 44 "TurnedFloors$State" "lawCount" "I") f9_wsX6_copyFrom_946) (fun _ h9 => h9) rfl (by decide +kernel) rfl rfl (Nat.le_of_ble_eq_true rfl) dX6_copyFrom_89 (fun H locs hp hd hs => ?_)
    obtain ⟨q1, eq1, h⟩ := dL_some h
    refine kz_re (w2 := wF ty ad q1) hp hd hs (by rw [← eq1]; exact wF_f1_8 ty ad q (q.1 49 8)) ?_
    clear hp hd hs hP hD hS
    intro hP hD hS
    refine lv_iconst (v := 0) hx hb dX6_copyFrom_92 (by decide) ?_
    refine lv_istore_n (lv' := [(2, .int 0), (0, .ref (ad 1)), (1, .ref (ad 49))]) hx hb dX6_copyFrom_93 rfl hl (by decide) rfl (fun ls hl => ?_)
    exact WX6_copyFrom_s1_s49_94 C0  _ _ _ _ _ _ h hP hD hS (lv_sub hl [1, 2, 0] rfl)
  · rw [if_neg c9] at h
    refine lv_aload_n hx hb dX6_copyFrom_54 rfl (lv_at hl 0 rfl) ?_
    refine va_get (D := D) (ci := 6) (v := .ref (ad 5)) (C := RX6) (T := TX6) (N := 10) hx hb hts u9_wsX6_copyFrom_X6 hown hK hP 1 rfl rfl 4 (by decide) (hts (.fieldLink RX6 28 "TurnedFloors$State" "seenPlace" "[I") f9_wsX6_copyFrom_947) (fun _ h9 => h9) rfl dX6_copyFrom_55 ?_
    refine lv_iload_n hx hb dX6_copyFrom_58 rfl (lv_at hl 2 rfl) ?_
    refine lv_aload_n hx hb dX6_copyFrom_59 rfl (lv_at hl 1 rfl) ?_
    refine va_get (D := D) (ci := 6) (v := .ref (ad 53)) (C := RX6) (T := TX6) (N := 10) hx hb hts u9_wsX6_copyFrom_X6 hown hK hP 49 rfl rfl 4 (by decide) (hts (.fieldLink RX6 28 "TurnedFloors$State" "seenPlace" "[I") f9_wsX6_copyFrom_947) (fun _ h9 => h9) rfl dX6_copyFrom_60 ?_
    refine lv_iload_n hx hb dX6_copyFrom_63 rfl (lv_at hl 2 rfl) ?_
    obtain ⟨g2, h⟩ := dG_some h
    refine va_iald hx hb hK hP 53 0 rfl rfl (dg_in g2) dX6_copyFrom_64 ?_
    obtain ⟨v3, ev3, h⟩ := dL_some h
    refine kz_topi v3 ev3 ?_
    obtain ⟨g4, h⟩ := dG_some h
    refine va_iast hx hb hK hP hD hS 5 0 rfl rfl (dg_in g4) dX6_copyFrom_65 (fun H locs hp hd hs => ?_)
    obtain ⟨q5, eq5, h⟩ := dL_some h
    refine kz_re (w2 := wF ty ad q5) hp hd hs (by rw [← eq5]; exact wF_a5 ty ad q (Int32.toNatClampNeg x2) v3) ?_
    clear hp hd hs hP hD hS
    intro hP hD hS
    refine lv_aload_n hx hb dX6_copyFrom_66 rfl (lv_at hl 0 rfl) ?_
    refine va_get (D := D) (ci := 6) (v := .ref (ad 6)) (C := RX6) (T := TX6) (N := 10) hx hb hts u9_wsX6_copyFrom_X6 hown hK hP 1 rfl rfl 5 (by decide) (hts (.fieldLink RX6 32 "TurnedFloors$State" "seenRank" "[I") f9_wsX6_copyFrom_948) (fun _ h9 => h9) rfl dX6_copyFrom_67 ?_
    refine lv_iload_n hx hb dX6_copyFrom_70 rfl (lv_at hl 2 rfl) ?_
    refine lv_aload_n hx hb dX6_copyFrom_71 rfl (lv_at hl 1 rfl) ?_
    refine va_get (D := D) (ci := 6) (v := .ref (ad 54)) (C := RX6) (T := TX6) (N := 10) hx hb hts u9_wsX6_copyFrom_X6 hown hK hP 49 rfl rfl 5 (by decide) (hts (.fieldLink RX6 32 "TurnedFloors$State" "seenRank" "[I") f9_wsX6_copyFrom_948) (fun _ h9 => h9) rfl dX6_copyFrom_72 ?_
    refine lv_iload_n hx hb dX6_copyFrom_75 rfl (lv_at hl 2 rfl) ?_
    obtain ⟨g6, h⟩ := dG_some h
    refine va_iald hx hb hK hP 54 0 rfl rfl (dg_in g6) dX6_copyFrom_76 ?_
    obtain ⟨v7, ev7, h⟩ := dL_some h
    refine kz_topi v7 ev7 ?_
    obtain ⟨g8, h⟩ := dG_some h
    refine va_iast hx hb hK hP hD hS 6 0 rfl rfl (dg_in g8) dX6_copyFrom_77 (fun H locs hp hd hs => ?_)
    obtain ⟨q9, eq9, h⟩ := dL_some h
    refine kz_re (w2 := wF ty ad q9) hp hd hs (by rw [← eq9]; exact wF_a6 ty ad q5 (Int32.toNatClampNeg x2) v7) ?_
    clear hp hd hs hP hD hS
    intro hP hD hS
    refine lv_iinc (v := x2 + 1) (lv' := [(2, .int (x2 + 1)), (0, .ref (ad 1)), (1, .ref (ad 49))]) hx hb dX6_copyFrom_78 hl (k := 2) rfl rfl (by decide) rfl (fun ls hl => ?_)
    refine lv_goto (tgt := 48) hx hb dX6_copyFrom_81 (by decide) ?_
    exact hk48 _ _ _ _ _ h hP hD hS (lv_sub hl [1, 2, 0] rfl)
set_option maxHeartbeats 4000000 in
set_option maxRecDepth 100000 in
theorem WX6_copyFrom_s1_s49_48 {p : Program} {l : Launch} {e : Env} {s : State} {m : MethodId} {args : Array Value} {below : List Frame} {meth : Method} {c : Code} {D : va_G} {ty : Nat → ClassId} {eo : Nat → Nat} {A : Nat → Prop} {ad : Nat → Nat} {o2 : dK} (C : dc_C p s m args meth c cX6_copyFrom none 3 RX6 wsX6_copyFrom D ty eo A)   (n : Nat) (q : dK) (x2 : Int32) (H : Heap) (locs : List Loc) (ls : Array Slot) (h : zX6_copyFrom_s1_s49_48  n q x2 = some o2) (hP : va_P D vwCl (wF ty ad q) H) (hD : va_D A (wF ty ad q)) (hS : va_S A s.heap H locs) (hl : lv_has ls 3 [(0, .ref (ad 1)), (1, .ref (ad 49)), (2, .int x2)]) : W p l e ({ frames := 2, cells := 0, slots := 0, locals := 46 } : Room) s m args below meth c H locs 0 0 (MQ below (va_Qv (fun (u : va_W) => wF ty ad o2 = u) (kz_B D ty A) A) args s 0 0 A) (F0 m 48 ls []) := by
  exact dFix_W (F := fun k (a : dK × Int32) => zX6_copyFrom_s1_s49_48b  (fun q x2 => k (q, x2)) a.1 a.2) (o := o2) (P := fun (a : dK × Int32) H locs ls => va_P D vwCl (wF ty ad a.1) H ∧ va_D A (wF ty ad a.1) ∧ va_S A s.heap H locs ∧ lv_has ls 3 [(0, .ref (ad 1)), (1, .ref (ad 49)), (2, .int a.2)]) (G := fun H locs ls => W p l e ({ frames := 2, cells := 0, slots := 0, locals := 46 } : Room) s m args below meth c H locs 0 0 (MQ below (va_Qv (fun (u : va_W) => wF ty ad o2 = u) (kz_B D ty A) A) args s 0 0 A) (F0 m 48 ls []))
    (fun k hk a H locs ls h hp => WX6_copyFrom_s1_s49_48b C  (fun q x2 H locs ls h h1 h2 h3 h4 => hk (q, x2) H locs ls h ⟨h1, h2, h3, h4⟩) a.1 a.2 H locs ls h hp.1 hp.2.1 hp.2.2.1 hp.2.2.2) n (q, x2) H locs ls h ⟨hP, hD, hS, hl⟩
set_option maxHeartbeats 4000000 in
set_option maxRecDepth 100000 in
theorem qX6_copyFrom_s1_s49 (l : Launch) (D : va_G) (ty : Nat → ClassId) (eo : Nat → Nat) (sz : Nat) (ad : Nat → Nat) (q : dK)  (o2 : dK) (h : zX6_copyFrom_s1_s49 q = some o2) : Met l yX6_copyFrom wsX6_copyFrom ({ frames := 2, cells := 0, slots := 0, locals := 46 } : Room) (va_Pc [.ref (ad 1), .ref (ad 49)] (kz_pre D ty eo (wF ty ad q) sz)) (va_Qv (fun (u : va_W) => wF ty ad o2 = u) (kz_B D ty (va_A (wF ty ad q) sz)) (va_A (wF ty ad q) sz)) 0 0 (va_A (wF ty ad q) sz) := by
  refine Met.ofW (cc := cX6_copyFrom) (maxL := 3) (ret := none) (by decide) rfl ?_
  intro p e s m args below meth c s₁ B hml hv
  obtain ⟨rfl, hsz, hP, hK, hD0, hN, hE⟩ := hv
  have hx := B.exec
  have hb := B.bytes
  have hr := B.returns
  have hts := atoms_spec (ws := wsX6_copyFrom) B.pre
  have hown : s.vm.findClass RX6 = some m.cls := findClass_of_methodNamed B.named
  have hlocks := B.notSynchronized
  subst hsz
  have hD := hD0.self (sz := s.heap.size)
  generalize hAe : va_A (wF ty ad q) s.heap.size = A at hD hE ⊢
  have hA : ∀ q : Nat, s.heap.size ≤ q → A q := fun q h => by rw [← hAe]; exact Or.inr h
  clear hAe
  have hS : va_S A s.heap s.heap [] := va_S.rf
  have hl := lv_entry ([.ref (ad 1), .ref (ad 49)]) (n := 3) (Nat.le_of_ble_eq_true rfl)
  rw [lg_entry_eq]
  generalize (lg_sl ([.ref (ad 1), .ref (ad 49)]) ++ List.replicate (3 - (lg_sl ([.ref (ad 1), .ref (ad 49)])).length) Slot.unset).toArray = ls at hl ⊢
  have hl : lv_has ls 3 [(0, .ref (ad 1)), (1, .ref (ad 49))] := hl
  have C : dc_C p s m _ meth c cX6_copyFrom none 3 RX6 wsX6_copyFrom D ty eo A := ⟨hx, hb, hr, hts, hown, hlocks, hml, hK, hN, hE, hA⟩
  unfold zX6_copyFrom_s1_s49 at h
  refine lv_aload_n hx hb dX6_copyFrom_0 rfl (lv_at hl 0 rfl) ?_
  refine va_get (D := D) (ci := 6) (v := .ref (ad 2)) (C := RX6) (T := TX6) (N := 10) hx hb hts u9_wsX6_copyFrom_X6 hown hK hP 1 rfl rfl 0 (by decide) (hts (.fieldLink RX6 12 "TurnedFloors$State" "tower" "LTurnedFloors$Tower;") f9_wsX6_copyFrom_949) (fun _ h9 => h9) rfl dX6_copyFrom_1 ?_
  refine lv_aload_n hx hb dX6_copyFrom_4 rfl (lv_at hl 1 rfl) ?_
  refine va_get (D := D) (ci := 6) (v := .ref (ad 50)) (C := RX6) (T := TX6) (N := 10) hx hb hts u9_wsX6_copyFrom_X6 hown hK hP 49 rfl rfl 0 (by decide) (hts (.fieldLink RX6 12 "TurnedFloors$State" "tower" "LTurnedFloors$Tower;") f9_wsX6_copyFrom_949) (fun _ h9 => h9) rfl dX6_copyFrom_5 ?_
  obtain ⟨r1, q3, h2, h⟩ := dB_some h
  refine dw_kl (va_runV (As := []) (rest := [.ref (ad 2)]) ⟨hx, hb, hml, hown, hts⟩ (qX8_pack_s50 l D ty eo _ ad q  r1 q3 h2) (cwV 0 hts gX6_copyFrom_X8_pack rfl rfl rfl (by decide +kernel) ⟨Nat.le_of_ble_eq_true rfl, Nat.le_of_ble_eq_true rfl⟩) (dw_preV (ci := 8) (q0 := 50) hK hN hE hP hD hS hA rfl rfl) rfl rfl hl.1 rfl (lv_room (Nat.le_of_ble_eq_true rfl)) dX6_copyFrom_8 ⟨Nat.le_of_ble_eq_true rfl, Nat.le_of_ble_eq_true rfl⟩) hD hS hA (fun r9 u9 H locs hw hp hd hs => ?_)
  clear hP hD hS
  obtain ⟨rfl, rfl⟩ := hw
  have hP := hp; have hD := hd; have hS := hs; clear hp hd hs
  obtain ⟨q6, h5, h⟩ := dV_some h
  refine dw_kv (va_runV (As := [.long r1]) (rest := []) ⟨hx, hb, hml, hown, hts⟩ (qX8_unpack_s2 l D ty eo _ ad q3 r1 q6 h5) (cwV 1 hts gX6_copyFrom_X8_unpack rfl rfl rfl (by decide +kernel) ⟨Nat.le_of_ble_eq_true rfl, Nat.le_of_ble_eq_true rfl⟩) (dw_preV (ci := 8) (q0 := 2) hK hN hE hP hD hS hA rfl rfl) rfl rfl hl.1 rfl (lv_room (Nat.le_of_ble_eq_true rfl)) dX6_copyFrom_11 ⟨Nat.le_of_ble_eq_true rfl, Nat.le_of_ble_eq_true rfl⟩) hD hS hA (fun u9 H locs hw hp hd hs => ?_)
  clear hP hD hS
  obtain rfl := hw
  have hP := hp; have hD := hd; have hS := hs; clear hp hd hs
  refine lv_aload_n hx hb dX6_copyFrom_14 rfl (lv_at hl 0 rfl) ?_
  refine lv_aload_n hx hb dX6_copyFrom_15 rfl (lv_at hl 1 rfl) ?_
  refine va_get (D := D) (ci := 6) (v := .int (q6.1 49 1)) (C := RX6) (T := TX6) (N := 10) hx hb hts u9_wsX6_copyFrom_X6 hown hK hP 49 rfl rfl 1 (by decide) (hts (.fieldLink RX6 18 "TurnedFloors$State" "slips" "I") f9_wsX6_copyFrom_950) (fun _ h9 => h9) rfl dX6_copyFrom_16 ?_
  refine va_put (D := D) (ci := 6) (v := .int (q6.1 49 1)) (ty := .int) (C := RX6) (T := TX6) (N := 10) hx hb hts u9_wsX6_copyFrom_X6 tyX6 tyX6_ok nmX6 hown hK hP hD hS 1 rfl rfl 1 (by decide) (hts (.fieldLink RX6 18 "TurnedFloors$State" "slips" "I") f9_wsX6_copyFrom_950) (fun _ h9 => h9) rfl (by decide +kernel) rfl rfl (Nat.le_of_ble_eq_true rfl) dX6_copyFrom_19 (fun H locs hp hd hs => ?_)
  obtain ⟨q7, eq7, h⟩ := dL_some h
  refine kz_re (w2 := wF ty ad q7) hp hd hs (by rw [← eq7]; exact wF_f1_1 ty ad q6 (q6.1 49 1)) ?_
  clear hp hd hs hP hD hS
  intro hP hD hS
  refine lv_aload_n hx hb dX6_copyFrom_22 rfl (lv_at hl 0 rfl) ?_
  refine lv_aload_n hx hb dX6_copyFrom_23 rfl (lv_at hl 1 rfl) ?_
  refine va_get (D := D) (ci := 6) (v := .int (q7.1 49 2)) (C := RX6) (T := TX6) (N := 10) hx hb hts u9_wsX6_copyFrom_X6 hown hK hP 49 rfl rfl 2 (by decide) (hts (.fieldLink RX6 22 "TurnedFloors$State" "mood" "I") f9_wsX6_copyFrom_951) (fun _ h9 => h9) rfl dX6_copyFrom_24 ?_
  refine va_put (D := D) (ci := 6) (v := .int (q7.1 49 2)) (ty := .int) (C := RX6) (T := TX6) (N := 10) hx hb hts u9_wsX6_copyFrom_X6 tyX6 tyX6_ok nmX6 hown hK hP hD hS 1 rfl rfl 2 (by decide) (hts (.fieldLink RX6 22 "TurnedFloors$State" "mood" "I") f9_wsX6_copyFrom_951) (fun _ h9 => h9) rfl (by decide +kernel) rfl rfl (Nat.le_of_ble_eq_true rfl) dX6_copyFrom_27 (fun H locs hp hd hs => ?_)
  obtain ⟨q8, eq8, h⟩ := dL_some h
  refine kz_re (w2 := wF ty ad q8) hp hd hs (by rw [← eq8]; exact wF_f1_2 ty ad q7 (q7.1 49 2)) ?_
  clear hp hd hs hP hD hS
  intro hP hD hS
  refine lv_aload_n hx hb dX6_copyFrom_30 rfl (lv_at hl 0 rfl) ?_
  refine lv_aload_n hx hb dX6_copyFrom_31 rfl (lv_at hl 1 rfl) ?_
  refine va_get (D := D) (ci := 6) (v := .int (q8.1 49 3)) (C := RX6) (T := TX6) (N := 10) hx hb hts u9_wsX6_copyFrom_X6 hown hK hP 49 rfl rfl 3 (by decide) (hts (.fieldLink RX6 25 "TurnedFloors$State" "headsMatter" "I") f9_wsX6_copyFrom_952) (fun _ h9 => h9) rfl dX6_copyFrom_32 ?_
  refine va_put (D := D) (ci := 6) (v := .int (q8.1 49 3)) (ty := .int) (C := RX6) (T := TX6) (N := 10) hx hb hts u9_wsX6_copyFrom_X6 tyX6 tyX6_ok nmX6 hown hK hP hD hS 1 rfl rfl 3 (by decide) (hts (.fieldLink RX6 25 "TurnedFloors$State" "headsMatter" "I") f9_wsX6_copyFrom_952) (fun _ h9 => h9) rfl (by decide +kernel) rfl rfl (Nat.le_of_ble_eq_true rfl) dX6_copyFrom_35 (fun H locs hp hd hs => ?_)
  obtain ⟨q9, eq9, h⟩ := dL_some h
  refine kz_re (w2 := wF ty ad q9) hp hd hs (by rw [← eq9]; exact wF_f1_3 ty ad q8 (q8.1 49 3)) ?_
  clear hp hd hs hP hD hS
  intro hP hD hS
  refine lv_aload_n hx hb dX6_copyFrom_38 rfl (lv_at hl 0 rfl) ?_
  refine lv_aload_n hx hb dX6_copyFrom_39 rfl (lv_at hl 1 rfl) ?_
  refine va_get (D := D) (ci := 6) (v := .int (q9.1 49 6)) (C := RX6) (T := TX6) (N := 10) hx hb hts u9_wsX6_copyFrom_X6 hown hK hP 49 rfl rfl 6 (by decide) (hts (.fieldLink RX6 35 "TurnedFloors$State" "seenCount" "I") f9_wsX6_copyFrom_953) (fun _ h9 => h9) rfl dX6_copyFrom_40 ?_
  refine va_put (D := D) (ci := 6) (v := .int (q9.1 49 6)) (ty := .int) (C := RX6) (T := TX6) (N := 10) hx hb hts u9_wsX6_copyFrom_X6 tyX6 tyX6_ok nmX6 hown hK hP hD hS 1 rfl rfl 6 (by decide) (hts (.fieldLink RX6 35 "TurnedFloors$State" "seenCount" "I") f9_wsX6_copyFrom_953) (fun _ h9 => h9) rfl (by decide +kernel) rfl rfl (Nat.le_of_ble_eq_true rfl) dX6_copyFrom_43 (fun H locs hp hd hs => ?_)
  obtain ⟨q10, eq10, h⟩ := dL_some h
  refine kz_re (w2 := wF ty ad q10) hp hd hs (by rw [← eq10]; exact wF_f1_6 ty ad q9 (q9.1 49 6)) ?_
  clear hp hd hs hP hD hS
  intro hP hD hS
  refine lv_iconst (v := 0) hx hb dX6_copyFrom_46 (by decide) ?_
  refine lv_istore_n (lv' := [(2, .int 0), (0, .ref (ad 1)), (1, .ref (ad 49))]) hx hb dX6_copyFrom_47 rfl hl (by decide) rfl (fun ls hl => ?_)
  exact WX6_copyFrom_s1_s49_48 C  _ _ _ _ _ _ h hP hD hS (lv_sub hl [1, 2, 0] rfl)

set_option maxHeartbeats 4000000 in
set_option maxRecDepth 100000 in
theorem WX8_pack_s57_8b {p : Program} {l : Launch} {e : Env} {s : State} {m : MethodId} {args : Array Value} {below : List Frame} {meth : Method} {c : Code} {D : va_G} {ty : Nat → ClassId} {eo : Nat → Nat} {A : Nat → Prop} {ad : Nat → Nat} {o1 : Int64} {o2 : dK} (C : dc_C p s m args meth c cX8_pack (some .long) 4 RX8 wsX8_pack D ty eo A) {k8 : dK → Int64 → Int32 → Option (Int64 × dK)} (hk8 : ∀ (q : dK) (x1 : Int64) (x3 : Int32) (H : Heap) (locs : List Loc) (ls : Array Slot), k8 q x1 x3 = some (o1, o2) → va_P D vwCl (wF ty ad q) H → va_D A (wF ty ad q) → va_S A s.heap H locs → lv_has ls 4 [(0, .ref (ad 57)), (1, .long x1), (3, .int x3)] → W p l e ({ frames := 0, cells := 0, slots := 0, locals := 0 } : Room) s m args below meth c H locs 0 0 (MQ below (va_Ql (fun (r : Int64) (u : va_W) => o1 = r ∧ wF ty ad o2 = u) (kz_B D ty A) A) args s 0 0 A) (F0 m 8 ls [])) (q : dK) (x1 : Int64) (x3 : Int32) (H : Heap) (locs : List Loc) (ls : Array Slot) (h : zX8_pack_s57_8b k8 q x1 x3 = some (o1, o2)) (hP : va_P D vwCl (wF ty ad q) H) (hD : va_D A (wF ty ad q)) (hS : va_S A s.heap H locs) (hl : lv_has ls 4 [(0, .ref (ad 57)), (1, .long x1), (3, .int x3)]) : W p l e ({ frames := 0, cells := 0, slots := 0, locals := 0 } : Room) s m args below meth c H locs 0 0 (MQ below (va_Ql (fun (r : Int64) (u : va_W) => o1 = r ∧ wF ty ad o2 = u) (kz_B D ty A) A) args s 0 0 A) (F0 m 8 ls []) := by
  have C0 := C
  obtain ⟨hx, hb, hr, hts, hown, hlocks, hml, hK, hN, hE, hA⟩ := C
  unfold zX8_pack_s57_8b at h
  refine lv_iload_n hx hb dX8_pack_8 rfl (lv_at hl 2 rfl) ?_
  refine lv_bipush (v := 6) hx hb dX8_pack_9 (by decide) ?_
  refine lv_icmp_ge (tgt := 42) hx hb dX8_pack_11 (by decide) (fun c9 => ?_) (fun c9 => ?_)
  · rw [if_pos c9] at h
    refine lv_lload_n hx hb dX8_pack_42 rfl (lv_at hl 1 rfl) ?_
    refine lv_bipush (v := 14) hx hb dX8_pack_43 (by decide) ?_
    refine lv_lshl (v := x1 <<< (Int32.toInt64 (14 : Int32) &&& 63)) hx hb dX8_pack_45 rfl ?_
    refine lv_aload_n hx hb dX8_pack_46 rfl (lv_at hl 0 rfl) ?_
    refine va_get (D := D) (ci := 8) (v := .int (q.1 57 3)) (C := RX8) (T := TX8) (N := 5) hx hb hts u9_wsX8_pack_X8 hown hK hP 57 rfl rfl 3 (by decide) (hts (.fieldLink RX8 22 "TurnedFloors$Tower" "paid" "I") f9_wsX8_pack_589) (fun _ h9 => h9) rfl dX8_pack_47 ?_
    refine lv_i2l (v := Int32.toInt64 (q.1 57 3)) hx hb dX8_pack_50 rfl ?_
    refine lv_lor hx hb dX8_pack_51 ?_
    obtain ⟨v1, ev1, h⟩ := dL_some h
    refine kz_topl v1 ev1 ?_
    refine lv_bipush (v := 10) hx hb dX8_pack_52 (by decide) ?_
    refine lv_lshl (v := v1 <<< (Int32.toInt64 (10 : Int32) &&& 63)) hx hb dX8_pack_54 rfl ?_
    refine lv_aload_n hx hb dX8_pack_55 rfl (lv_at hl 0 rfl) ?_
    refine va_get (D := D) (ci := 8) (v := .int (q.1 57 4)) (C := RX8) (T := TX8) (N := 5) hx hb hts u9_wsX8_pack_X8 hown hK hP 57 rfl rfl 4 (by decide) (hts (.fieldLink RX8 25 "TurnedFloors$Tower" "year" "I") f9_wsX8_pack_590) (fun _ h9 => h9) rfl dX8_pack_56 ?_
    refine lv_i2l (v := Int32.toInt64 (q.1 57 4)) hx hb dX8_pack_59 rfl ?_
    refine lv_lor hx hb dX8_pack_60 ?_
    obtain ⟨v2, ev2, h⟩ := dL_some h
    refine kz_topl v2 ev2 ?_
    cases h
    exact kz_lret hx hb hr hlocks hP hK hD hS dX8_pack_61 ⟨rfl, rfl⟩
  · rw [if_neg c9] at h
    refine lv_lload_n hx hb dX8_pack_14 rfl (lv_at hl 1 rfl) ?_
    refine lv_iconst (v := 4) hx hb dX8_pack_15 (by decide) ?_
    refine lv_lshl (v := x1 <<< (Int32.toInt64 (4 : Int32) &&& 63)) hx hb dX8_pack_16 rfl ?_
    refine lv_aload_n hx hb dX8_pack_17 rfl (lv_at hl 0 rfl) ?_
    refine va_get (D := D) (ci := 8) (v := .ref (ad 58)) (C := RX8) (T := TX8) (N := 5) hx hb hts u9_wsX8_pack_X8 hown hK hP 57 rfl rfl 0 (by decide) (hts (.fieldLink RX8 9 "TurnedFloors$Tower" "rank" "[I") f9_wsX8_pack_591) (fun _ h9 => h9) rfl dX8_pack_18 ?_
    refine lv_iload_n hx hb dX8_pack_21 rfl (lv_at hl 2 rfl) ?_
    obtain ⟨g3, h⟩ := dG_some h
    refine va_iald hx hb hK hP 58 0 rfl rfl (dg_in g3) dX8_pack_22 ?_
    obtain ⟨v4, ev4, h⟩ := dL_some h
    refine kz_topi v4 ev4 ?_
    refine lv_iconst (v := 1) hx hb dX8_pack_23 (by decide) ?_
    refine lv_ishl hx hb dX8_pack_24 ?_
    refine lv_i2l (v := Int32.toInt64 (v4 <<< ((1 : Int32) &&& 31) : Int32)) hx hb dX8_pack_25 rfl ?_
    refine lv_lor hx hb dX8_pack_26 ?_
    obtain ⟨v5, ev5, h⟩ := dL_some h
    refine kz_topl v5 ev5 ?_
    refine lv_aload_n hx hb dX8_pack_27 rfl (lv_at hl 0 rfl) ?_
    refine va_get (D := D) (ci := 8) (v := .ref (ad 59)) (C := RX8) (T := TX8) (N := 5) hx hb hts u9_wsX8_pack_X8 hown hK hP 57 rfl rfl 1 (by decide) (hts (.fieldLink RX8 15 "TurnedFloors$Tower" "head" "[I") f9_wsX8_pack_592) (fun _ h9 => h9) rfl dX8_pack_28 ?_
    refine lv_iload_n hx hb dX8_pack_31 rfl (lv_at hl 2 rfl) ?_
    obtain ⟨g6, h⟩ := dG_some h
    refine va_iald hx hb hK hP 59 0 rfl rfl (dg_in g6) dX8_pack_32 ?_
    obtain ⟨v7, ev7, h⟩ := dL_some h
    refine kz_topi v7 ev7 ?_
    refine lv_i2l (v := Int32.toInt64 v7) hx hb dX8_pack_33 rfl ?_
    refine lv_lor hx hb dX8_pack_34 ?_
    refine lv_lstore_n (lv' := [(1, .long (v5 ||| (Int32.toInt64 v7) : Int64)), (0, .ref (ad 57)), (3, .int x3)]) hx hb dX8_pack_35 rfl hl (by decide) rfl (fun ls hl => ?_)
    refine lv_iinc (v := x3 + 1) (lv' := [(3, .int (x3 + 1)), (1, .long (v5 ||| (Int32.toInt64 v7) : Int64)), (0, .ref (ad 57))]) hx hb dX8_pack_36 hl (k := 2) rfl rfl (by decide) rfl (fun ls hl => ?_)
    refine lv_goto (tgt := 8) hx hb dX8_pack_39 (by decide) ?_
    exact hk8 _ _ _ _ _ _ h hP hD hS (lv_sub hl [2, 1, 0] rfl)
set_option maxHeartbeats 4000000 in
set_option maxRecDepth 100000 in
theorem WX8_pack_s57_8 {p : Program} {l : Launch} {e : Env} {s : State} {m : MethodId} {args : Array Value} {below : List Frame} {meth : Method} {c : Code} {D : va_G} {ty : Nat → ClassId} {eo : Nat → Nat} {A : Nat → Prop} {ad : Nat → Nat} {o1 : Int64} {o2 : dK} (C : dc_C p s m args meth c cX8_pack (some .long) 4 RX8 wsX8_pack D ty eo A)   (n : Nat) (q : dK) (x1 : Int64) (x3 : Int32) (H : Heap) (locs : List Loc) (ls : Array Slot) (h : zX8_pack_s57_8  n q x1 x3 = some (o1, o2)) (hP : va_P D vwCl (wF ty ad q) H) (hD : va_D A (wF ty ad q)) (hS : va_S A s.heap H locs) (hl : lv_has ls 4 [(0, .ref (ad 57)), (1, .long x1), (3, .int x3)]) : W p l e ({ frames := 0, cells := 0, slots := 0, locals := 0 } : Room) s m args below meth c H locs 0 0 (MQ below (va_Ql (fun (r : Int64) (u : va_W) => o1 = r ∧ wF ty ad o2 = u) (kz_B D ty A) A) args s 0 0 A) (F0 m 8 ls []) := by
  exact dFix_W (F := fun k (a : dK × Int64 × Int32) => zX8_pack_s57_8b  (fun q x1 x3 => k (q, x1, x3)) a.1 a.2.1 a.2.2) (o := (o1, o2)) (P := fun (a : dK × Int64 × Int32) H locs ls => va_P D vwCl (wF ty ad a.1) H ∧ va_D A (wF ty ad a.1) ∧ va_S A s.heap H locs ∧ lv_has ls 4 [(0, .ref (ad 57)), (1, .long a.2.1), (3, .int a.2.2)]) (G := fun H locs ls => W p l e ({ frames := 0, cells := 0, slots := 0, locals := 0 } : Room) s m args below meth c H locs 0 0 (MQ below (va_Ql (fun (r : Int64) (u : va_W) => o1 = r ∧ wF ty ad o2 = u) (kz_B D ty A) A) args s 0 0 A) (F0 m 8 ls []))
    (fun k hk a H locs ls h hp => WX8_pack_s57_8b C  (fun q x1 x3 H locs ls h h1 h2 h3 h4 => hk (q, x1, x3) H locs ls h ⟨h1, h2, h3, h4⟩) a.1 a.2.1 a.2.2 H locs ls h hp.1 hp.2.1 hp.2.2.1 hp.2.2.2) n (q, x1, x3) H locs ls h ⟨hP, hD, hS, hl⟩
set_option maxHeartbeats 4000000 in
set_option maxRecDepth 100000 in
theorem qX8_pack_s57 (l : Launch) (D : va_G) (ty : Nat → ClassId) (eo : Nat → Nat) (sz : Nat) (ad : Nat → Nat) (q : dK)  (o1 : Int64) (o2 : dK) (h : zX8_pack_s57 q = some (o1, o2)) : Met l yX8_pack wsX8_pack ({ frames := 0, cells := 0, slots := 0, locals := 0 } : Room) (va_Pc [.ref (ad 57)] (kz_pre D ty eo (wF ty ad q) sz)) (va_Ql (fun (r : Int64) (u : va_W) => o1 = r ∧ wF ty ad o2 = u) (kz_B D ty (va_A (wF ty ad q) sz)) (va_A (wF ty ad q) sz)) 0 0 (va_A (wF ty ad q) sz) := by
  refine Met.ofW (cc := cX8_pack) (maxL := 4) (ret := (some .long)) (by decide) rfl ?_
  intro p e s m args below meth c s₁ B hml hv
  obtain ⟨rfl, hsz, hP, hK, hD0, hN, hE⟩ := hv
  have hx := B.exec
  have hb := B.bytes
  have hr := B.returns
  have hts := atoms_spec (ws := wsX8_pack) B.pre
  have hown : s.vm.findClass RX8 = some m.cls := findClass_of_methodNamed B.named
  have hlocks := B.notSynchronized
  subst hsz
  have hD := hD0.self (sz := s.heap.size)
  generalize hAe : va_A (wF ty ad q) s.heap.size = A at hD hE ⊢
  have hA : ∀ q : Nat, s.heap.size ≤ q → A q := fun q h => by rw [← hAe]; exact Or.inr h
  clear hAe
  have hS : va_S A s.heap s.heap [] := va_S.rf
  have hl := lv_entry ([.ref (ad 57)]) (n := 4) (Nat.le_of_ble_eq_true rfl)
  rw [lg_entry_eq]
  generalize (lg_sl ([.ref (ad 57)]) ++ List.replicate (4 - (lg_sl ([.ref (ad 57)])).length) Slot.unset).toArray = ls at hl ⊢
  have hl : lv_has ls 4 [(0, .ref (ad 57))] := hl
  have C : dc_C p s m _ meth c cX8_pack (some .long) 4 RX8 wsX8_pack D ty eo A := ⟨hx, hb, hr, hts, hown, hlocks, hml, hK, hN, hE, hA⟩
  unfold zX8_pack_s57 at h
  refine lv_aload_n hx hb dX8_pack_0 rfl (lv_at hl 0 rfl) ?_
  refine va_get (D := D) (ci := 8) (v := .int (q.1 57 2)) (C := RX8) (T := TX8) (N := 5) hx hb hts u9_wsX8_pack_X8 hown hK hP 57 rfl rfl 2 (by decide) (hts (.fieldLink RX8 18 "TurnedFloors$Tower" "floors" "I") f9_wsX8_pack_593) (fun _ h9 => h9) rfl dX8_pack_1 ?_
  refine lv_i2l (v := Int32.toInt64 (q.1 57 2)) hx hb dX8_pack_4 rfl ?_
  refine lv_lstore_n (lv' := [(1, .long (Int32.toInt64 (q.1 57 2))), (0, .ref (ad 57))]) hx hb dX8_pack_5 rfl hl (by decide) rfl (fun ls hl => ?_)
  refine lv_iconst (v := 0) hx hb dX8_pack_6 (by decide) ?_
  refine lv_istore_n (lv' := [(3, .int 0), (1, .long (Int32.toInt64 (q.1 57 2))), (0, .ref (ad 57))]) hx hb dX8_pack_7 rfl hl (by decide) rfl (fun ls hl => ?_)
  exact WX8_pack_s57_8 C  _ _ _ _ _ _ _ h hP hD hS (lv_sub hl [2, 1, 0] rfl)

set_option maxHeartbeats 4000000 in
set_option maxRecDepth 100000 in
theorem WX6_copyFrom_s1_s56_94b {p : Program} {l : Launch} {e : Env} {s : State} {m : MethodId} {args : Array Value} {below : List Frame} {meth : Method} {c : Code} {D : va_G} {ty : Nat → ClassId} {eo : Nat → Nat} {A : Nat → Prop} {ad : Nat → Nat} {o2 : dK} (C : dc_C p s m args meth c cX6_copyFrom none 3 RX6 wsX6_copyFrom D ty eo A) {k94 : dK → Int32 → Option (dK)} (hk94 : ∀ (q : dK) (x2 : Int32) (H : Heap) (locs : List Loc) (ls : Array Slot), k94 q x2 = some o2 → va_P D vwCl (wF ty ad q) H → va_D A (wF ty ad q) → va_S A s.heap H locs → lv_has ls 3 [(0, .ref (ad 1)), (1, .ref (ad 56)), (2, .int x2)] → W p l e ({ frames := 2, cells := 0, slots := 0, locals := 46 } : Room) s m args below meth c H locs 0 0 (MQ below (va_Qv (fun (u : va_W) => wF ty ad o2 = u) (kz_B D ty A) A) args s 0 0 A) (F0 m 94 ls [])) (q : dK) (x2 : Int32) (H : Heap) (locs : List Loc) (ls : Array Slot) (h : zX6_copyFrom_s1_s56_94b k94 q x2 = some o2) (hP : va_P D vwCl (wF ty ad q) H) (hD : va_D A (wF ty ad q)) (hS : va_S A s.heap H locs) (hl : lv_has ls 3 [(0, .ref (ad 1)), (1, .ref (ad 56)), (2, .int x2)]) : W p l e ({ frames := 2, cells := 0, slots := 0, locals := 46 } : Room) s m args below meth c H locs 0 0 (MQ below (va_Qv (fun (u : va_W) => wF ty ad o2 = u) (kz_B D ty A) A) args s 0 0 A) (F0 m 94 ls []) := by
  have C0 := C
  obtain ⟨hx, hb, hr, hts, hown, hlocks, hml, hK, hN, hE, hA⟩ := C
  unfold zX6_copyFrom_s1_s56_94b at h
  refine lv_iload_n hx hb dX6_copyFrom_94 rfl (lv_at hl 2 rfl) ?_
  refine lv_bipush (v := 6) hx hb dX6_copyFrom_95 (by decide) ?_
  refine lv_icmp_ge (tgt := 118) hx hb dX6_copyFrom_97 (by decide) (fun c9 => ?_) (fun c9 => ?_)
  · rw [if_pos c9] at h
    refine lv_aload_n hx hb dX6_copyFrom_118 rfl (lv_at hl 0 rfl) ?_
    refine lv_aload_n hx hb dX6_copyFrom_119 rfl (lv_at hl 1 rfl) ?_
    refine va_get (D := D) (ci := 6) (v := .int (q.1 56 9)) (C := RX6) (T := TX6) (N := 10) hx hb hts u9_wsX6_copyFrom_X6 hown hK hP 56 rfl rfl 9 (by decide) (hts (.fieldLink RX6 47 "TurnedFloors$State" "inForce" "I") f9_wsX6_copyFrom_944) (fun _ h9 => h9) rfl dX6_copyFrom_120 ?_
    refine va_put (D := D) (ci := 6) (v := .int (q.1 56 9)) (ty := .int) (C := RX6) (T := TX6) (N := 10) hx hb hts u9_wsX6_copyFrom_X6 tyX6 tyX6_ok nmX6 hown hK hP hD hS 1 rfl rfl 9 (by decide) (hts (.fieldLink RX6 47 "TurnedFloors$State" "inForce" "I") f9_wsX6_copyFrom_944) (fun _ h9 => h9) rfl (by decide +kernel) rfl rfl (Nat.le_of_ble_eq_true rfl) dX6_copyFrom_123 (fun H locs hp hd hs => ?_)
    obtain ⟨q1, eq1, h⟩ := dL_some h
    refine kz_re (w2 := wF ty ad q1) hp hd hs (by rw [← eq1]; exact wF_f1_9 ty ad q (q.1 56 9)) ?_
    clear hp hd hs hP hD hS
    intro hP hD hS
    cases h
    exact kz_vret hx hb hr hlocks hP hK hD hS dX6_copyFrom_126 rfl
  · rw [if_neg c9] at h
    refine lv_aload_n hx hb dX6_copyFrom_100 rfl (lv_at hl 0 rfl) ?_
    refine va_get (D := D) (ci := 6) (v := .ref (ad 7)) (C := RX6) (T := TX6) (N := 10) hx hb hts u9_wsX6_copyFrom_X6 hown hK hP 1 rfl rfl 7 (by decide) (hts (.fieldLink RX6 40 "TurnedFloors$State" "laws" "[LTurnedFloors$Text;") f9_wsX6_copyFrom_945) (fun _ h9 => h9) rfl dX6_copyFrom_101 ?_
    refine lv_iload_n hx hb dX6_copyFrom_104 rfl (lv_at hl 2 rfl) ?_
    refine lv_aload_n hx hb dX6_copyFrom_105 rfl (lv_at hl 1 rfl) ?_
    refine va_get (D := D) (ci := 6) (v := .ref (ad 62)) (C := RX6) (T := TX6) (N := 10) hx hb hts u9_wsX6_copyFrom_X6 hown hK hP 56 rfl rfl 7 (by decide) (hts (.fieldLink RX6 40 "TurnedFloors$State" "laws" "[LTurnedFloors$Text;") f9_wsX6_copyFrom_945) (fun _ h9 => h9) rfl dX6_copyFrom_106 ?_
    refine lv_iload_n hx hb dX6_copyFrom_109 rfl (lv_at hl 2 rfl) ?_
    obtain ⟨g2, h⟩ := dG_some h
    refine va_aldq hx hb hK hP 62 5 rfl rfl (dg_in g2) dX6_copyFrom_110 ?_
    obtain ⟨v3, ev3, h⟩ := dL_some h
    refine kz_topv (y := dLw ad v3) (by rw [dLs_rf (dg_lt g2), ev3]) ?_
    obtain ⟨g4, h⟩ := dG_some h
    by_cases c5 : v3 = 0
    · rw [if_pos c5] at h
      refine kz_topv (if_pos c5) ?_
      refine va_astqN hx hb hK hP hD hS 7 5 rfl rfl (dg_in g4) dX6_copyFrom_111 (fun H locs hp hd hs => ?_)
      rw [dLs_up0 (dg_lt g4)] at hp hd
      obtain ⟨q6, eq6, h⟩ := dL_some h
      refine kz_re (w2 := wF ty ad q6) hp hd hs (by rw [← eq6]; exact wF_t7 ty ad q (Int32.toNatClampNeg x2) 0) ?_
      clear hp hd hs hP hD hS
      intro hP hD hS
      refine lv_iinc (v := x2 + 1) (lv' := [(2, .int (x2 + 1)), (0, .ref (ad 1)), (1, .ref (ad 56))]) hx hb dX6_copyFrom_112 hl (k := 2) rfl rfl (by decide) rfl (fun ls hl => ?_)
      refine lv_goto (tgt := 94) hx hb dX6_copyFrom_115 (by decide) ?_
      exact hk94 _ _ _ _ _ h hP hD hS (lv_sub hl [1, 2, 0] rfl)
    · rw [if_neg c5] at h
      refine kz_topv (if_neg c5) ?_
      obtain ⟨g7, h⟩ := dG_some h
      refine va_astq hx hb hK hP hD hS 7 5 _ 7 rfl rfl (lw_o g7) rfl (dg_in g4) dX6_copyFrom_111 (fun H locs hp hd hs => ?_)
      rw [dLs_up (dg_lt g4) c5] at hp hd
      obtain ⟨q8, eq8, h⟩ := dL_some h
      refine kz_re (w2 := wF ty ad q8) hp hd hs (by rw [← eq8]; exact wF_t7 ty ad q (Int32.toNatClampNeg x2) v3) ?_
      clear hp hd hs hP hD hS
      intro hP hD hS
      refine lv_iinc (v := x2 + 1) (lv' := [(2, .int (x2 + 1)), (0, .ref (ad 1)), (1, .ref (ad 56))]) hx hb dX6_copyFrom_112 hl (k := 2) rfl rfl (by decide) rfl (fun ls hl => ?_)
      refine lv_goto (tgt := 94) hx hb dX6_copyFrom_115 (by decide) ?_
      exact hk94 _ _ _ _ _ h hP hD hS (lv_sub hl [1, 2, 0] rfl)
set_option maxHeartbeats 4000000 in
set_option maxRecDepth 100000 in
theorem WX6_copyFrom_s1_s56_94 {p : Program} {l : Launch} {e : Env} {s : State} {m : MethodId} {args : Array Value} {below : List Frame} {meth : Method} {c : Code} {D : va_G} {ty : Nat → ClassId} {eo : Nat → Nat} {A : Nat → Prop} {ad : Nat → Nat} {o2 : dK} (C : dc_C p s m args meth c cX6_copyFrom none 3 RX6 wsX6_copyFrom D ty eo A)   (n : Nat) (q : dK) (x2 : Int32) (H : Heap) (locs : List Loc) (ls : Array Slot) (h : zX6_copyFrom_s1_s56_94  n q x2 = some o2) (hP : va_P D vwCl (wF ty ad q) H) (hD : va_D A (wF ty ad q)) (hS : va_S A s.heap H locs) (hl : lv_has ls 3 [(0, .ref (ad 1)), (1, .ref (ad 56)), (2, .int x2)]) : W p l e ({ frames := 2, cells := 0, slots := 0, locals := 46 } : Room) s m args below meth c H locs 0 0 (MQ below (va_Qv (fun (u : va_W) => wF ty ad o2 = u) (kz_B D ty A) A) args s 0 0 A) (F0 m 94 ls []) := by
  exact dFix_W (F := fun k (a : dK × Int32) => zX6_copyFrom_s1_s56_94b  (fun q x2 => k (q, x2)) a.1 a.2) (o := o2) (P := fun (a : dK × Int32) H locs ls => va_P D vwCl (wF ty ad a.1) H ∧ va_D A (wF ty ad a.1) ∧ va_S A s.heap H locs ∧ lv_has ls 3 [(0, .ref (ad 1)), (1, .ref (ad 56)), (2, .int a.2)]) (G := fun H locs ls => W p l e ({ frames := 2, cells := 0, slots := 0, locals := 46 } : Room) s m args below meth c H locs 0 0 (MQ below (va_Qv (fun (u : va_W) => wF ty ad o2 = u) (kz_B D ty A) A) args s 0 0 A) (F0 m 94 ls []))
    (fun k hk a H locs ls h hp => WX6_copyFrom_s1_s56_94b C  (fun q x2 H locs ls h h1 h2 h3 h4 => hk (q, x2) H locs ls h ⟨h1, h2, h3, h4⟩) a.1 a.2 H locs ls h hp.1 hp.2.1 hp.2.2.1 hp.2.2.2) n (q, x2) H locs ls h ⟨hP, hD, hS, hl⟩
set_option maxHeartbeats 4000000 in
set_option maxRecDepth 100000 in
theorem WX6_copyFrom_s1_s56_48b {p : Program} {l : Launch} {e : Env} {s : State} {m : MethodId} {args : Array Value} {below : List Frame} {meth : Method} {c : Code} {D : va_G} {ty : Nat → ClassId} {eo : Nat → Nat} {A : Nat → Prop} {ad : Nat → Nat} {o2 : dK} (C : dc_C p s m args meth c cX6_copyFrom none 3 RX6 wsX6_copyFrom D ty eo A) {k48 : dK → Int32 → Option (dK)} (hk48 : ∀ (q : dK) (x2 : Int32) (H : Heap) (locs : List Loc) (ls : Array Slot), k48 q x2 = some o2 → va_P D vwCl (wF ty ad q) H → va_D A (wF ty ad q) → va_S A s.heap H locs → lv_has ls 3 [(0, .ref (ad 1)), (1, .ref (ad 56)), (2, .int x2)] → W p l e ({ frames := 2, cells := 0, slots := 0, locals := 46 } : Room) s m args below meth c H locs 0 0 (MQ below (va_Qv (fun (u : va_W) => wF ty ad o2 = u) (kz_B D ty A) A) args s 0 0 A) (F0 m 48 ls [])) (q : dK) (x2 : Int32) (H : Heap) (locs : List Loc) (ls : Array Slot) (h : zX6_copyFrom_s1_s56_48b k48 q x2 = some o2) (hP : va_P D vwCl (wF ty ad q) H) (hD : va_D A (wF ty ad q)) (hS : va_S A s.heap H locs) (hl : lv_has ls 3 [(0, .ref (ad 1)), (1, .ref (ad 56)), (2, .int x2)]) : W p l e ({ frames := 2, cells := 0, slots := 0, locals := 46 } : Room) s m args below meth c H locs 0 0 (MQ below (va_Qv (fun (u : va_W) => wF ty ad o2 = u) (kz_B D ty A) A) args s 0 0 A) (F0 m 48 ls []) := by
  have C0 := C
  obtain ⟨hx, hb, hr, hts, hown, hlocks, hml, hK, hN, hE, hA⟩ := C
  unfold zX6_copyFrom_s1_s56_48b at h
  refine lv_iload_n hx hb dX6_copyFrom_48 rfl (lv_at hl 2 rfl) ?_
  refine lv_bipush (v := 6) hx hb dX6_copyFrom_49 (by decide) ?_
  refine lv_icmp_ge (tgt := 84) hx hb dX6_copyFrom_51 (by decide) (fun c9 => ?_) (fun c9 => ?_)
  · rw [if_pos c9] at h
    refine lv_aload_n hx hb dX6_copyFrom_84 rfl (lv_at hl 0 rfl) ?_
    refine lv_aload_n hx hb dX6_copyFrom_85 rfl (lv_at hl 1 rfl) ?_
    refine va_get (D := D) (ci := 6) (v := .int (q.1 56 8)) (C := RX6) (T := TX6) (N := 10) hx hb hts u9_wsX6_copyFrom_X6 hown hK hP 56 rfl rfl 8 (by decide) (hts (.fieldLink RX6 44 "TurnedFloors$State" "lawCount" "I") f9_wsX6_copyFrom_946) (fun _ h9 => h9) rfl dX6_copyFrom_86 ?_
    refine va_put (D := D) (ci := 6) (v := .int (q.1 56 8)) (ty := .int) (C := RX6) (T := TX6) (N := 10) hx hb hts u9_wsX6_copyFrom_X6 tyX6 tyX6_ok nmX6 hown hK hP hD hS 1 rfl rfl 8 (by decide) (hts (.fieldLink RX6 44 "TurnedFloors$State" "lawCount" "I") f9_wsX6_copyFrom_946) (fun _ h9 => h9) rfl (by decide +kernel) rfl rfl (Nat.le_of_ble_eq_true rfl) dX6_copyFrom_89 (fun H locs hp hd hs => ?_)
    obtain ⟨q1, eq1, h⟩ := dL_some h
    refine kz_re (w2 := wF ty ad q1) hp hd hs (by rw [← eq1]; exact wF_f1_8 ty ad q (q.1 56 8)) ?_
    clear hp hd hs hP hD hS
    intro hP hD hS
    refine lv_iconst (v := 0) hx hb dX6_copyFrom_92 (by decide) ?_
    refine lv_istore_n (lv' := [(2, .int 0), (0, .ref (ad 1)), (1, .ref (ad 56))]) hx hb dX6_copyFrom_93 rfl hl (by decide) rfl (fun ls hl => ?_)
    exact WX6_copyFrom_s1_s56_94 C0  _ _ _ _ _ _ h hP hD hS (lv_sub hl [1, 2, 0] rfl)
  · rw [if_neg c9] at h
    refine lv_aload_n hx hb dX6_copyFrom_54 rfl (lv_at hl 0 rfl) ?_
    refine va_get (D := D) (ci := 6) (v := .ref (ad 5)) (C := RX6) (T := TX6) (N := 10) hx hb hts u9_wsX6_copyFrom_X6 hown hK hP 1 rfl rfl 4 (by decide) (hts (.fieldLink RX6 28 "TurnedFloors$State" "seenPlace" "[I") f9_wsX6_copyFrom_947) (fun _ h9 => h9) rfl dX6_copyFrom_55 ?_
    refine lv_iload_n hx hb dX6_copyFrom_58 rfl (lv_at hl 2 rfl) ?_
    refine lv_aload_n hx hb dX6_copyFrom_59 rfl (lv_at hl 1 rfl) ?_
    refine va_get (D := D) (ci := 6) (v := .ref (ad 60)) (C := RX6) (T := TX6) (N := 10) hx hb hts u9_wsX6_copyFrom_X6 hown hK hP 56 rfl rfl 4 (by decide) (hts (.fieldLink RX6 28 "TurnedFloors$State" "seenPlace" "[I") f9_wsX6_copyFrom_947) (fun _ h9 => h9) rfl dX6_copyFrom_60 ?_
    refine lv_iload_n hx hb dX6_copyFrom_63 rfl (lv_at hl 2 rfl) ?_
    obtain ⟨g2, h⟩ := dG_some h
    refine va_iald hx hb hK hP 60 0 rfl rfl (dg_in g2) dX6_copyFrom_64 ?_
    obtain ⟨v3, ev3, h⟩ := dL_some h
    refine kz_topi v3 ev3 ?_
    obtain ⟨g4, h⟩ := dG_some h
    refine va_iast hx hb hK hP hD hS 5 0 rfl rfl (dg_in g4) dX6_copyFrom_65 (fun H locs hp hd hs => ?_)
    obtain ⟨q5, eq5, h⟩ := dL_some h
    refine kz_re (w2 := wF ty ad q5) hp hd hs (by rw [← eq5]; exact wF_a5 ty ad q (Int32.toNatClampNeg x2) v3) ?_
    clear hp hd hs hP hD hS
    intro hP hD hS
    refine lv_aload_n hx hb dX6_copyFrom_66 rfl (lv_at hl 0 rfl) ?_
    refine va_get (D := D) (ci := 6) (v := .ref (ad 6)) (C := RX6) (T := TX6) (N := 10) hx hb hts u9_wsX6_copyFrom_X6 hown hK hP 1 rfl rfl 5 (by decide) (hts (.fieldLink RX6 32 "TurnedFloors$State" "seenRank" "[I") f9_wsX6_copyFrom_948) (fun _ h9 => h9) rfl dX6_copyFrom_67 ?_
    refine lv_iload_n hx hb dX6_copyFrom_70 rfl (lv_at hl 2 rfl) ?_
    refine lv_aload_n hx hb dX6_copyFrom_71 rfl (lv_at hl 1 rfl) ?_
    refine va_get (D := D) (ci := 6) (v := .ref (ad 61)) (C := RX6) (T := TX6) (N := 10) hx hb hts u9_wsX6_copyFrom_X6 hown hK hP 56 rfl rfl 5 (by decide) (hts (.fieldLink RX6 32 "TurnedFloors$State" "seenRank" "[I") f9_wsX6_copyFrom_948) (fun _ h9 => h9) rfl dX6_copyFrom_72 ?_
    refine lv_iload_n hx hb dX6_copyFrom_75 rfl (lv_at hl 2 rfl) ?_
    obtain ⟨g6, h⟩ := dG_some h
    refine va_iald hx hb hK hP 61 0 rfl rfl (dg_in g6) dX6_copyFrom_76 ?_
    obtain ⟨v7, ev7, h⟩ := dL_some h
    refine kz_topi v7 ev7 ?_
    obtain ⟨g8, h⟩ := dG_some h
    refine va_iast hx hb hK hP hD hS 6 0 rfl rfl (dg_in g8) dX6_copyFrom_77 (fun H locs hp hd hs => ?_)
    obtain ⟨q9, eq9, h⟩ := dL_some h
    refine kz_re (w2 := wF ty ad q9) hp hd hs (by rw [← eq9]; exact wF_a6 ty ad q5 (Int32.toNatClampNeg x2) v7) ?_
    clear hp hd hs hP hD hS
    intro hP hD hS
    refine lv_iinc (v := x2 + 1) (lv' := [(2, .int (x2 + 1)), (0, .ref (ad 1)), (1, .ref (ad 56))]) hx hb dX6_copyFrom_78 hl (k := 2) rfl rfl (by decide) rfl (fun ls hl => ?_)
    refine lv_goto (tgt := 48) hx hb dX6_copyFrom_81 (by decide) ?_
    exact hk48 _ _ _ _ _ h hP hD hS (lv_sub hl [1, 2, 0] rfl)
set_option maxHeartbeats 4000000 in
set_option maxRecDepth 100000 in
theorem WX6_copyFrom_s1_s56_48 {p : Program} {l : Launch} {e : Env} {s : State} {m : MethodId} {args : Array Value} {below : List Frame} {meth : Method} {c : Code} {D : va_G} {ty : Nat → ClassId} {eo : Nat → Nat} {A : Nat → Prop} {ad : Nat → Nat} {o2 : dK} (C : dc_C p s m args meth c cX6_copyFrom none 3 RX6 wsX6_copyFrom D ty eo A)   (n : Nat) (q : dK) (x2 : Int32) (H : Heap) (locs : List Loc) (ls : Array Slot) (h : zX6_copyFrom_s1_s56_48  n q x2 = some o2) (hP : va_P D vwCl (wF ty ad q) H) (hD : va_D A (wF ty ad q)) (hS : va_S A s.heap H locs) (hl : lv_has ls 3 [(0, .ref (ad 1)), (1, .ref (ad 56)), (2, .int x2)]) : W p l e ({ frames := 2, cells := 0, slots := 0, locals := 46 } : Room) s m args below meth c H locs 0 0 (MQ below (va_Qv (fun (u : va_W) => wF ty ad o2 = u) (kz_B D ty A) A) args s 0 0 A) (F0 m 48 ls []) := by
  exact dFix_W (F := fun k (a : dK × Int32) => zX6_copyFrom_s1_s56_48b  (fun q x2 => k (q, x2)) a.1 a.2) (o := o2) (P := fun (a : dK × Int32) H locs ls => va_P D vwCl (wF ty ad a.1) H ∧ va_D A (wF ty ad a.1) ∧ va_S A s.heap H locs ∧ lv_has ls 3 [(0, .ref (ad 1)), (1, .ref (ad 56)), (2, .int a.2)]) (G := fun H locs ls => W p l e ({ frames := 2, cells := 0, slots := 0, locals := 46 } : Room) s m args below meth c H locs 0 0 (MQ below (va_Qv (fun (u : va_W) => wF ty ad o2 = u) (kz_B D ty A) A) args s 0 0 A) (F0 m 48 ls []))
    (fun k hk a H locs ls h hp => WX6_copyFrom_s1_s56_48b C  (fun q x2 H locs ls h h1 h2 h3 h4 => hk (q, x2) H locs ls h ⟨h1, h2, h3, h4⟩) a.1 a.2 H locs ls h hp.1 hp.2.1 hp.2.2.1 hp.2.2.2) n (q, x2) H locs ls h ⟨hP, hD, hS, hl⟩
set_option maxHeartbeats 4000000 in
set_option maxRecDepth 100000 in
theorem qX6_copyFrom_s1_s56 (l : Launch) (D : va_G) (ty : Nat → ClassId) (eo : Nat → Nat) (sz : Nat) (ad : Nat → Nat) (q : dK)  (o2 : dK) (h : zX6_copyFrom_s1_s56 q = some o2) : Met l yX6_copyFrom wsX6_copyFrom ({ frames := 2, cells := 0, slots := 0, locals := 46 } : Room) (va_Pc [.ref (ad 1), .ref (ad 56)] (kz_pre D ty eo (wF ty ad q) sz)) (va_Qv (fun (u : va_W) => wF ty ad o2 = u) (kz_B D ty (va_A (wF ty ad q) sz)) (va_A (wF ty ad q) sz)) 0 0 (va_A (wF ty ad q) sz) := by
  refine Met.ofW (cc := cX6_copyFrom) (maxL := 3) (ret := none) (by decide) rfl ?_
  intro p e s m args below meth c s₁ B hml hv
  obtain ⟨rfl, hsz, hP, hK, hD0, hN, hE⟩ := hv
  have hx := B.exec
  have hb := B.bytes
  have hr := B.returns
  have hts := atoms_spec (ws := wsX6_copyFrom) B.pre
  have hown : s.vm.findClass RX6 = some m.cls := findClass_of_methodNamed B.named
  have hlocks := B.notSynchronized
  subst hsz
  have hD := hD0.self (sz := s.heap.size)
  generalize hAe : va_A (wF ty ad q) s.heap.size = A at hD hE ⊢
  have hA : ∀ q : Nat, s.heap.size ≤ q → A q := fun q h => by rw [← hAe]; exact Or.inr h
  clear hAe
  have hS : va_S A s.heap s.heap [] := va_S.rf
  have hl := lv_entry ([.ref (ad 1), .ref (ad 56)]) (n := 3) (Nat.le_of_ble_eq_true rfl)
  rw [lg_entry_eq]
  generalize (lg_sl ([.ref (ad 1), .ref (ad 56)]) ++ List.replicate (3 - (lg_sl ([.ref (ad 1), .ref (ad 56)])).length) Slot.unset).toArray = ls at hl ⊢
  have hl : lv_has ls 3 [(0, .ref (ad 1)), (1, .ref (ad 56))] := hl
  have C : dc_C p s m _ meth c cX6_copyFrom none 3 RX6 wsX6_copyFrom D ty eo A := ⟨hx, hb, hr, hts, hown, hlocks, hml, hK, hN, hE, hA⟩
  unfold zX6_copyFrom_s1_s56 at h
  refine lv_aload_n hx hb dX6_copyFrom_0 rfl (lv_at hl 0 rfl) ?_
  refine va_get (D := D) (ci := 6) (v := .ref (ad 2)) (C := RX6) (T := TX6) (N := 10) hx hb hts u9_wsX6_copyFrom_X6 hown hK hP 1 rfl rfl 0 (by decide) (hts (.fieldLink RX6 12 "TurnedFloors$State" "tower" "LTurnedFloors$Tower;") f9_wsX6_copyFrom_949) (fun _ h9 => h9) rfl dX6_copyFrom_1 ?_
  refine lv_aload_n hx hb dX6_copyFrom_4 rfl (lv_at hl 1 rfl) ?_
  refine va_get (D := D) (ci := 6) (v := .ref (ad 57)) (C := RX6) (T := TX6) (N := 10) hx hb hts u9_wsX6_copyFrom_X6 hown hK hP 56 rfl rfl 0 (by decide) (hts (.fieldLink RX6 12 "TurnedFloors$State" "tower" "LTurnedFloors$Tower;") f9_wsX6_copyFrom_949) (fun _ h9 => h9) rfl dX6_copyFrom_5 ?_
  obtain ⟨r1, q3, h2, h⟩ := dB_some h
  refine dw_kl (va_runV (As := []) (rest := [.ref (ad 2)]) ⟨hx, hb, hml, hown, hts⟩ (qX8_pack_s57 l D ty eo _ ad q  r1 q3 h2) (cwV 0 hts gX6_copyFrom_X8_pack rfl rfl rfl (by decide +kernel) ⟨Nat.le_of_ble_eq_true rfl, Nat.le_of_ble_eq_true rfl⟩) (dw_preV (ci := 8) (q0 := 57) hK hN hE hP hD hS hA rfl rfl) rfl rfl hl.1 rfl (lv_room (Nat.le_of_ble_eq_true rfl)) dX6_copyFrom_8 ⟨Nat.le_of_ble_eq_true rfl, Nat.le_of_ble_eq_true rfl⟩) hD hS hA (fun r9 u9 H locs hw hp hd hs => ?_)
  clear hP hD hS
  obtain ⟨rfl, rfl⟩ := hw
  have hP := hp; have hD := hd; have hS := hs; clear hp hd hs
  obtain ⟨q6, h5, h⟩ := dV_some h
  refine dw_kv (va_runV (As := [.long r1]) (rest := []) ⟨hx, hb, hml, hown, hts⟩ (qX8_unpack_s2 l D ty eo _ ad q3 r1 q6 h5) (cwV 1 hts gX6_copyFrom_X8_unpack rfl rfl rfl (by decide +kernel) ⟨Nat.le_of_ble_eq_true rfl, Nat.le_of_ble_eq_true rfl⟩) (dw_preV (ci := 8) (q0 := 2) hK hN hE hP hD hS hA rfl rfl) rfl rfl hl.1 rfl (lv_room (Nat.le_of_ble_eq_true rfl)) dX6_copyFrom_11 ⟨Nat.le_of_ble_eq_true rfl, Nat.le_of_ble_eq_true rfl⟩) hD hS hA (fun u9 H locs hw hp hd hs => ?_)
  clear hP hD hS
  obtain rfl := hw
  have hP := hp; have hD := hd; have hS := hs; clear hp hd hs
  refine lv_aload_n hx hb dX6_copyFrom_14 rfl (lv_at hl 0 rfl) ?_
  refine lv_aload_n hx hb dX6_copyFrom_15 rfl (lv_at hl 1 rfl) ?_
  refine va_get (D := D) (ci := 6) (v := .int (q6.1 56 1)) (C := RX6) (T := TX6) (N := 10) hx hb hts u9_wsX6_copyFrom_X6 hown hK hP 56 rfl rfl 1 (by decide) (hts (.fieldLink RX6 18 "TurnedFloors$State" "slips" "I") f9_wsX6_copyFrom_950) (fun _ h9 => h9) rfl dX6_copyFrom_16 ?_
  refine va_put (D := D) (ci := 6) (v := .int (q6.1 56 1)) (ty := .int) (C := RX6) (T := TX6) (N := 10) hx hb hts u9_wsX6_copyFrom_X6 tyX6 tyX6_ok nmX6 hown hK hP hD hS 1 rfl rfl 1 (by decide) (hts (.fieldLink RX6 18 "TurnedFloors$State" "slips" "I") f9_wsX6_copyFrom_950) (fun _ h9 => h9) rfl (by decide +kernel) rfl rfl (Nat.le_of_ble_eq_true rfl) dX6_copyFrom_19 (fun H locs hp hd hs => ?_)
  obtain ⟨q7, eq7, h⟩ := dL_some h
  refine kz_re (w2 := wF ty ad q7) hp hd hs (by rw [← eq7]; exact wF_f1_1 ty ad q6 (q6.1 56 1)) ?_
  clear hp hd hs hP hD hS
  intro hP hD hS
  refine lv_aload_n hx hb dX6_copyFrom_22 rfl (lv_at hl 0 rfl) ?_
  refine lv_aload_n hx hb dX6_copyFrom_23 rfl (lv_at hl 1 rfl) ?_
  refine va_get (D := D) (ci := 6) (v := .int (q7.1 56 2)) (C := RX6) (T := TX6) (N := 10) hx hb hts u9_wsX6_copyFrom_X6 hown hK hP 56 rfl rfl 2 (by decide) (hts (.fieldLink RX6 22 "TurnedFloors$State" "mood" "I") f9_wsX6_copyFrom_951) (fun _ h9 => h9) rfl dX6_copyFrom_24 ?_
  refine va_put (D := D) (ci := 6) (v := .int (q7.1 56 2)) (ty := .int) (C := RX6) (T := TX6) (N := 10) hx hb hts u9_wsX6_copyFrom_X6 tyX6 tyX6_ok nmX6 hown hK hP hD hS 1 rfl rfl 2 (by decide) (hts (.fieldLink RX6 22 "TurnedFloors$State" "mood" "I") f9_wsX6_copyFrom_951) (fun _ h9 => h9) rfl (by decide +kernel) rfl rfl (Nat.le_of_ble_eq_true rfl) dX6_copyFrom_27 (fun H locs hp hd hs => ?_)
  obtain ⟨q8, eq8, h⟩ := dL_some h
  refine kz_re (w2 := wF ty ad q8) hp hd hs (by rw [← eq8]; exact wF_f1_2 ty ad q7 (q7.1 56 2)) ?_
  clear hp hd hs hP hD hS
  intro hP hD hS
  refine lv_aload_n hx hb dX6_copyFrom_30 rfl (lv_at hl 0 rfl) ?_
  refine lv_aload_n hx hb dX6_copyFrom_31 rfl (lv_at hl 1 rfl) ?_
  refine va_get (D := D) (ci := 6) (v := .int (q8.1 56 3)) (C := RX6) (T := TX6) (N := 10) hx hb hts u9_wsX6_copyFrom_X6 hown hK hP 56 rfl rfl 3 (by decide) (hts (.fieldLink RX6 25 "TurnedFloors$State" "headsMatter" "I") f9_wsX6_copyFrom_952) (fun _ h9 => h9) rfl dX6_copyFrom_32 ?_
  refine va_put (D := D) (ci := 6) (v := .int (q8.1 56 3)) (ty := .int) (C := RX6) (T := TX6) (N := 10) hx hb hts u9_wsX6_copyFrom_X6 tyX6 tyX6_ok nmX6 hown hK hP hD hS 1 rfl rfl 3 (by decide) (hts (.fieldLink RX6 25 "TurnedFloors$State" "headsMatter" "I") f9_wsX6_copyFrom_952) (fun _ h9 => h9) rfl (by decide +kernel) rfl rfl (Nat.le_of_ble_eq_true rfl) dX6_copyFrom_35 (fun H locs hp hd hs => ?_)
  obtain ⟨q9, eq9, h⟩ := dL_some h
  refine kz_re (w2 := wF ty ad q9) hp hd hs (by rw [← eq9]; exact wF_f1_3 ty ad q8 (q8.1 56 3)) ?_
  clear hp hd hs hP hD hS
  intro hP hD hS
  refine lv_aload_n hx hb dX6_copyFrom_38 rfl (lv_at hl 0 rfl) ?_
  refine lv_aload_n hx hb dX6_copyFrom_39 rfl (lv_at hl 1 rfl) ?_
  refine va_get (D := D) (ci := 6) (v := .int (q9.1 56 6)) (C := RX6) (T := TX6) (N := 10) hx hb hts u9_wsX6_copyFrom_X6 hown hK hP 56 rfl rfl 6 (by decide) (hts (.fieldLink RX6 35 "TurnedFloors$State" "seenCount" "I") f9_wsX6_copyFrom_953) (fun _ h9 => h9) rfl dX6_copyFrom_40 ?_
  refine va_put (D := D) (ci := 6) (v := .int (q9.1 56 6)) (ty := .int) (C := RX6) (T := TX6) (N := 10) hx hb hts u9_wsX6_copyFrom_X6 tyX6 tyX6_ok nmX6 hown hK hP hD hS 1 rfl rfl 6 (by decide) (hts (.fieldLink RX6 35 "TurnedFloors$State" "seenCount" "I") f9_wsX6_copyFrom_953) (fun _ h9 => h9) rfl (by decide +kernel) rfl rfl (Nat.le_of_ble_eq_true rfl) dX6_copyFrom_43 (fun H locs hp hd hs => ?_)
  obtain ⟨q10, eq10, h⟩ := dL_some h
  refine kz_re (w2 := wF ty ad q10) hp hd hs (by rw [← eq10]; exact wF_f1_6 ty ad q9 (q9.1 56 6)) ?_
  clear hp hd hs hP hD hS
  intro hP hD hS
  refine lv_iconst (v := 0) hx hb dX6_copyFrom_46 (by decide) ?_
  refine lv_istore_n (lv' := [(2, .int 0), (0, .ref (ad 1)), (1, .ref (ad 56))]) hx hb dX6_copyFrom_47 rfl hl (by decide) rfl (fun ls hl => ?_)
  exact WX6_copyFrom_s1_s56_48 C  _ _ _ _ _ _ h hP hD hS (lv_sub hl [1, 2, 0] rfl)

set_option maxHeartbeats 4000000 in
set_option maxRecDepth 100000 in
theorem qX9_back_s0 (l : Launch) (D : va_G) (ty : Nat → ClassId) (eo : Nat → Nat) (sz : Nat) (ad : Nat → Nat) (q : dK) (p1 : Int32) (o1 : Int32) (o2 : dK) (h : zX9_back_s0 q p1 = some (o1, o2)) : Met l yX9_back wsX9_back ({ frames := 3, cells := 0, slots := 0, locals := 68 } : Room) (va_Pc [.ref (ad 0), .int p1] (kz_pre D ty eo (wF ty ad q) sz)) (va_Qi (fun (r : Int32) (u : va_W) => o1 = r ∧ wF ty ad o2 = u) (kz_B D ty (va_A (wF ty ad q) sz)) (va_A (wF ty ad q) sz)) 0 0 (va_A (wF ty ad q) sz) := by
  refine Met.ofW (cc := cX9_back) (maxL := 2) (ret := (some .int)) (by decide) rfl ?_
  intro p e s m args below meth c s₁ B hml hv
  obtain ⟨rfl, hsz, hP, hK, hD0, hN, hE⟩ := hv
  have hx := B.exec
  have hb := B.bytes
  have hr := B.returns
  have hts := atoms_spec (ws := wsX9_back) B.pre
  have hown : s.vm.findClass RX9 = some m.cls := findClass_of_methodNamed B.named
  have hlocks := B.notSynchronized
  subst hsz
  have hD := hD0.self (sz := s.heap.size)
  generalize hAe : va_A (wF ty ad q) s.heap.size = A at hD hE ⊢
  have hA : ∀ q : Nat, s.heap.size ≤ q → A q := fun q h => by rw [← hAe]; exact Or.inr h
  clear hAe
  have hS : va_S A s.heap s.heap [] := va_S.rf
  have hl := lv_entry ([.ref (ad 0), .int p1]) (n := 2) (Nat.le_of_ble_eq_true rfl)
  rw [lg_entry_eq]
  generalize (lg_sl ([.ref (ad 0), .int p1]) ++ List.replicate (2 - (lg_sl ([.ref (ad 0), .int p1])).length) Slot.unset).toArray = ls at hl ⊢
  have hl : lv_has ls 2 [(0, .ref (ad 0)), (1, .int p1)] := hl
  have C : dc_C p s m _ meth c cX9_back (some .int) 2 RX9 wsX9_back D ty eo A := ⟨hx, hb, hr, hts, hown, hlocks, hml, hK, hN, hE, hA⟩
  unfold zX9_back_s0 at h
  refine lv_iload_n hx hb dX9_back_0 rfl (lv_at hl 1 rfl) ?_
  obtain ⟨r1, h2, h⟩ := dV_some h
  refine dw_ks (va_runS (As := [.int p1]) (rest := []) ⟨hx, hb, hml, hown, hts⟩ (qX9_isImage l D ty eo _ p1 _ h2) (va_cwS 1 hts gX9_back_X9_isImage rfl rfl rfl (by decide +kernel) ⟨Nat.le_of_ble_eq_true rfl, Nat.le_of_ble_eq_true rfl⟩) (kz_preS hK hN hE hP hD hS hA [] (by decide) rfl) rfl rfl hl.1 rfl (lv_room (Nat.le_of_ble_eq_true rfl)) dX9_back_1 ⟨Nat.le_of_ble_eq_true rfl, Nat.le_of_ble_eq_true rfl⟩) hP hD hS hA (fun _ _ h9 => h9.2.symm) (fun r9 u9 H locs hw hp hd hs => ?_)
  obtain ⟨rfl, -⟩ := hw
  clear hP hD hS
  have hP := hp; have hD := hd; have hS := hs; clear hp hd hs
  refine lv_if_ne (tgt := 13) hx hb dX9_back_4 (by decide) (fun c9 => ?_) (fun c9 => ?_)
  · rw [if_neg c9] at h
    refine lv_aload_n hx hb dX9_back_13 rfl (lv_at hl 0 rfl) ?_
    refine va_get (D := D) (ci := 9) (v := .ref (ad 9)) (C := RX9) (T := TX9) (N := 19) hx hb hts u9_wsX9_back_X9 hown hK hP 0 rfl rfl 2 (by decide) (hts (.fieldLink RX9 20 "TurnedFloors" "kept" "[Z") f9_wsX9_back_959) (fun _ h9 => h9) rfl dX9_back_14 ?_
    refine lv_iload_n hx hb dX9_back_17 rfl (lv_at hl 1 rfl) ?_
    obtain ⟨g3, h⟩ := dG_some h
    refine va_zald hx hb hK hP 9 2 rfl rfl (dg_in g3) dX9_back_18 ?_
    obtain ⟨v4, ev4, h⟩ := dL_some h
    refine kz_topi v4 ev4 ?_
    refine lv_if_ne (tgt := 29) hx hb dX9_back_19 (by decide) (fun c9 => ?_) (fun c9 => ?_)
    · rw [if_neg c9] at h
      refine lv_aload_n hx hb dX9_back_29 rfl (lv_at hl 0 rfl) ?_
      refine va_get (D := D) (ci := 9) (v := .ref (ad 1)) (C := RX9) (T := TX9) (N := 19) hx hb hts u9_wsX9_back_X9 hown hK hP 0 rfl rfl 0 (by decide) (hts (.fieldLink RX9 10 "TurnedFloors" "state" "LTurnedFloors$State;") f9_wsX9_back_960) (fun _ h9 => h9) rfl dX9_back_30 ?_
      refine lv_aload_n hx hb dX9_back_33 rfl (lv_at hl 0 rfl) ?_
      refine va_get (D := D) (ci := 9) (v := .ref (ad 8)) (C := RX9) (T := TX9) (N := 19) hx hb hts u9_wsX9_back_X9 hown hK hP 0 rfl rfl 1 (by decide) (hts (.fieldLink RX9 16 "TurnedFloors" "images" "[LTurnedFloors$State;") f9_wsX9_back_961) (fun _ h9 => h9) rfl dX9_back_34 ?_
      refine lv_iload_n hx hb dX9_back_37 rfl (lv_at hl 1 rfl) ?_
      obtain ⟨g5, h⟩ := dG_some h
      refine va_aldq hx hb hK hP 8 4 rfl rfl (dg_in g5) dX9_back_38 ?_
      by_cases c6 : p1 = 0
      · rw [if_pos c6] at h
        refine kz_topv (y := .ref (ad 49)) (by rw [c6]; rfl) ?_
        obtain ⟨q9, h8, h⟩ := dV_some h
        refine dw_kv (va_runV (As := [.ref (ad 49)]) (rest := []) ⟨hx, hb, hml, hown, hts⟩ (qX6_copyFrom_s1_s49 l D ty eo _ ad q  q9 h8) (cwV 1 hts gX9_back_X6_copyFrom rfl rfl rfl (by decide +kernel) ⟨Nat.le_of_ble_eq_true rfl, Nat.le_of_ble_eq_true rfl⟩) (dw_preV (ci := 6) (q0 := 1) hK hN hE hP hD hS hA rfl rfl) rfl rfl hl.1 rfl (lv_room (Nat.le_of_ble_eq_true rfl)) dX9_back_39 ⟨Nat.le_of_ble_eq_true rfl, Nat.le_of_ble_eq_true rfl⟩) hD hS hA (fun u9 H locs hw hp hd hs => ?_)
        clear hP hD hS
        obtain rfl := hw
        have hP := hp; have hD := hd; have hS := hs; clear hp hd hs
        refine lv_aload_n hx hb dX9_back_42 rfl (lv_at hl 0 rfl) ?_
        refine va_get (D := D) (ci := 9) (v := .ref (ad 10)) (C := RX9) (T := TX9) (N := 19) hx hb hts u9_wsX9_back_X9 hown hK hP 0 rfl rfl 3 (by decide) (hts (.fieldLink RX9 27 "TurnedFloors" "history" "LTurnedFloors$History;") f9_wsX9_back_962) (fun _ h9 => h9) rfl dX9_back_43 ?_
        obtain ⟨q12, h11, h⟩ := dV_some h
        refine dw_kv (va_runV (As := []) (rest := []) ⟨hx, hb, hml, hown, hts⟩ (qX0_clear_s10 l D ty eo _ ad q9  q12 h11) (cwV 0 hts gX9_back_X0_clear rfl rfl rfl (by decide +kernel) ⟨Nat.le_of_ble_eq_true rfl, Nat.le_of_ble_eq_true rfl⟩) (dw_preV (ci := 0) (q0 := 10) hK hN hE hP hD hS hA rfl rfl) rfl rfl hl.1 rfl (lv_room (Nat.le_of_ble_eq_true rfl)) dX9_back_46 ⟨Nat.le_of_ble_eq_true rfl, Nat.le_of_ble_eq_true rfl⟩) hD hS hA (fun u9 H locs hw hp hd hs => ?_)
        clear hP hD hS
        obtain rfl := hw
        have hP := hp; have hD := hd; have hS := hs; clear hp hd hs
        refine lv_aload_n hx hb dX9_back_49 rfl (lv_at hl 0 rfl) ?_
        refine lv_iconst (v := 0) hx hb dX9_back_50 (by decide) ?_
        obtain ⟨r13, q15, h14, h⟩ := dB_some h
        refine dw_ki (va_runV (As := [.int 0]) (rest := []) ⟨hx, hb, hml, hown, hts⟩ (qX9_accept_s0 l D ty eo _ ad q12 0 r13 q15 h14) (cwV 1 hts gX9_back_X9_accept rfl rfl rfl (by decide +kernel) ⟨Nat.le_of_ble_eq_true rfl, Nat.le_of_ble_eq_true rfl⟩) (dw_preV (ci := 9) (q0 := 0) hK hN hE hP hD hS hA rfl rfl) rfl rfl hl.1 rfl (lv_room (Nat.le_of_ble_eq_true rfl)) dX9_back_51 ⟨Nat.le_of_ble_eq_true rfl, Nat.le_of_ble_eq_true rfl⟩) hD hS hA (fun r9 u9 H locs hw hp hd hs => ?_)
        clear hP hD hS
        obtain ⟨rfl, rfl⟩ := hw
        have hP := hp; have hD := hd; have hS := hs; clear hp hd hs
        cases h
        exact kz_iret hx hb hr hlocks hP hK hD hS dX9_back_54 ⟨rfl, rfl⟩
      · rw [if_neg c6] at h
        obtain ⟨g16, h⟩ := dG_some h
        refine kz_topv (y := .ref (ad 56)) (by rw [of_decide_eq_true g16]; rfl) ?_
        obtain ⟨q19, h18, h⟩ := dV_some h
        refine dw_kv (va_runV (As := [.ref (ad 56)]) (rest := []) ⟨hx, hb, hml, hown, hts⟩ (qX6_copyFrom_s1_s56 l D ty eo _ ad q  q19 h18) (cwV 1 hts gX9_back_X6_copyFrom rfl rfl rfl (by decide +kernel) ⟨Nat.le_of_ble_eq_true rfl, Nat.le_of_ble_eq_true rfl⟩) (dw_preV (ci := 6) (q0 := 1) hK hN hE hP hD hS hA rfl rfl) rfl rfl hl.1 rfl (lv_room (Nat.le_of_ble_eq_true rfl)) dX9_back_39 ⟨Nat.le_of_ble_eq_true rfl, Nat.le_of_ble_eq_true rfl⟩) hD hS hA (fun u9 H locs hw hp hd hs => ?_)
        clear hP hD hS
        obtain rfl := hw
        have hP := hp; have hD := hd; have hS := hs; clear hp hd hs
        refine lv_aload_n hx hb dX9_back_42 rfl (lv_at hl 0 rfl) ?_
        refine va_get (D := D) (ci := 9) (v := .ref (ad 10)) (C := RX9) (T := TX9) (N := 19) hx hb hts u9_wsX9_back_X9 hown hK hP 0 rfl rfl 3 (by decide) (hts (.fieldLink RX9 27 "TurnedFloors" "history" "LTurnedFloors$History;") f9_wsX9_back_962) (fun _ h9 => h9) rfl dX9_back_43 ?_
        obtain ⟨q22, h21, h⟩ := dV_some h
        refine dw_kv (va_runV (As := []) (rest := []) ⟨hx, hb, hml, hown, hts⟩ (qX0_clear_s10 l D ty eo _ ad q19  q22 h21) (cwV 0 hts gX9_back_X0_clear rfl rfl rfl (by decide +kernel) ⟨Nat.le_of_ble_eq_true rfl, Nat.le_of_ble_eq_true rfl⟩) (dw_preV (ci := 0) (q0 := 10) hK hN hE hP hD hS hA rfl rfl) rfl rfl hl.1 rfl (lv_room (Nat.le_of_ble_eq_true rfl)) dX9_back_46 ⟨Nat.le_of_ble_eq_true rfl, Nat.le_of_ble_eq_true rfl⟩) hD hS hA (fun u9 H locs hw hp hd hs => ?_)
        clear hP hD hS
        obtain rfl := hw
        have hP := hp; have hD := hd; have hS := hs; clear hp hd hs
        refine lv_aload_n hx hb dX9_back_49 rfl (lv_at hl 0 rfl) ?_
        refine lv_iconst (v := 0) hx hb dX9_back_50 (by decide) ?_
        obtain ⟨r23, q25, h24, h⟩ := dB_some h
        refine dw_ki (va_runV (As := [.int 0]) (rest := []) ⟨hx, hb, hml, hown, hts⟩ (qX9_accept_s0 l D ty eo _ ad q22 0 r23 q25 h24) (cwV 1 hts gX9_back_X9_accept rfl rfl rfl (by decide +kernel) ⟨Nat.le_of_ble_eq_true rfl, Nat.le_of_ble_eq_true rfl⟩) (dw_preV (ci := 9) (q0 := 0) hK hN hE hP hD hS hA rfl rfl) rfl rfl hl.1 rfl (lv_room (Nat.le_of_ble_eq_true rfl)) dX9_back_51 ⟨Nat.le_of_ble_eq_true rfl, Nat.le_of_ble_eq_true rfl⟩) hD hS hA (fun r9 u9 H locs hw hp hd hs => ?_)
        clear hP hD hS
        obtain ⟨rfl, rfl⟩ := hw
        have hP := hp; have hD := hd; have hS := hs; clear hp hd hs
        cases h
        exact kz_iret hx hb hr hlocks hP hK hD hS dX9_back_54 ⟨rfl, rfl⟩
    · rw [if_pos c9] at h
      refine lv_aload_n hx hb dX9_back_22 rfl (lv_at hl 0 rfl) ?_
      refine lv_bipush (v := (-2)) hx hb dX9_back_23 (by decide) ?_
      obtain ⟨r26, q28, h27, h⟩ := dB_some h
      refine dw_ki (va_runV (As := [.int (-2)]) (rest := []) ⟨hx, hb, hml, hown, hts⟩ (qX9_refuse_s0 l D ty eo _ ad q (-2) r26 q28 h27) (cwV 1 hts gX9_back_X9_refuse rfl rfl rfl (by decide +kernel) ⟨Nat.le_of_ble_eq_true rfl, Nat.le_of_ble_eq_true rfl⟩) (dw_preV (ci := 9) (q0 := 0) hK hN hE hP hD hS hA rfl rfl) rfl rfl hl.1 rfl (lv_room (Nat.le_of_ble_eq_true rfl)) dX9_back_25 ⟨Nat.le_of_ble_eq_true rfl, Nat.le_of_ble_eq_true rfl⟩) hD hS hA (fun r9 u9 H locs hw hp hd hs => ?_)
      clear hP hD hS
      obtain ⟨rfl, rfl⟩ := hw
      have hP := hp; have hD := hd; have hS := hs; clear hp hd hs
      cases h
      exact kz_iret hx hb hr hlocks hP hK hD hS dX9_back_28 ⟨rfl, rfl⟩
  · rw [if_pos c9] at h
    refine lv_aload_n hx hb dX9_back_7 rfl (lv_at hl 0 rfl) ?_
    refine lv_iconst (v := (-1)) hx hb dX9_back_8 (by decide) ?_
    obtain ⟨r29, q31, h30, h⟩ := dB_some h
    refine dw_ki (va_runV (As := [.int (-1)]) (rest := []) ⟨hx, hb, hml, hown, hts⟩ (qX9_refuse_s0 l D ty eo _ ad q (-1) r29 q31 h30) (cwV 1 hts gX9_back_X9_refuse rfl rfl rfl (by decide +kernel) ⟨Nat.le_of_ble_eq_true rfl, Nat.le_of_ble_eq_true rfl⟩) (dw_preV (ci := 9) (q0 := 0) hK hN hE hP hD hS hA rfl rfl) rfl rfl hl.1 rfl (lv_room (Nat.le_of_ble_eq_true rfl)) dX9_back_9 ⟨Nat.le_of_ble_eq_true rfl, Nat.le_of_ble_eq_true rfl⟩) hD hS hA (fun r9 u9 H locs hw hp hd hs => ?_)
    clear hP hD hS
    obtain ⟨rfl, rfl⟩ := hw
    have hP := hp; have hD := hd; have hS := hs; clear hp hd hs
    cases h
    exact kz_iret hx hb hr hlocks hP hK hD hS dX9_back_12 ⟨rfl, rfl⟩

set_option maxHeartbeats 4000000 in
set_option maxRecDepth 100000 in
theorem WX8_onHeads_s2_4b {p : Program} {l : Launch} {e : Env} {s : State} {m : MethodId} {args : Array Value} {below : List Frame} {meth : Method} {c : Code} {D : va_G} {ty : Nat → ClassId} {eo : Nat → Nat} {A : Nat → Prop} {ad : Nat → Nat} {o1 : Int32} {o2 : dK} (C : dc_C p s m args meth c cX8_onHeads (some .int) 3 RX8 wsX8_onHeads D ty eo A) {k4 : dK → Int32 → Int32 → Option (Int32 × dK)} (hk4 : ∀ (q : dK) (x1 : Int32) (x2 : Int32) (H : Heap) (locs : List Loc) (ls : Array Slot), k4 q x1 x2 = some (o1, o2) → va_P D vwCl (wF ty ad q) H → va_D A (wF ty ad q) → va_S A s.heap H locs → lv_has ls 3 [(0, .ref (ad 2)), (1, .int x1), (2, .int x2)] → W p l e ({ frames := 0, cells := 0, slots := 0, locals := 0 } : Room) s m args below meth c H locs 0 0 (MQ below (va_Qi (fun (r : Int32) (u : va_W) => o1 = r ∧ wF ty ad o2 = u) (kz_B D ty A) A) args s 0 0 A) (F0 m 4 ls [])) (q : dK) (x1 : Int32) (x2 : Int32) (H : Heap) (locs : List Loc) (ls : Array Slot) (h : zX8_onHeads_s2_4b k4 q x1 x2 = some (o1, o2)) (hP : va_P D vwCl (wF ty ad q) H) (hD : va_D A (wF ty ad q)) (hS : va_S A s.heap H locs) (hl : lv_has ls 3 [(0, .ref (ad 2)), (1, .int x1), (2, .int x2)]) : W p l e ({ frames := 0, cells := 0, slots := 0, locals := 0 } : Room) s m args below meth c H locs 0 0 (MQ below (va_Qi (fun (r : Int32) (u : va_W) => o1 = r ∧ wF ty ad o2 = u) (kz_B D ty A) A) args s 0 0 A) (F0 m 4 ls []) := by
  have C0 := C
  obtain ⟨hx, hb, hr, hts, hown, hlocks, hml, hK, hN, hE, hA⟩ := C
  unfold zX8_onHeads_s2_4b at h
  refine lv_iload_n hx hb dX8_onHeads_4 rfl (lv_at hl 2 rfl) ?_
  refine lv_aload_n hx hb dX8_onHeads_5 rfl (lv_at hl 0 rfl) ?_
  refine va_get (D := D) (ci := 8) (v := .int (q.1 2 2)) (C := RX8) (T := TX8) (N := 5) hx hb hts u9_wsX8_onHeads_X8 hown hK hP 2 rfl rfl 2 (by decide) (hts (.fieldLink RX8 18 "TurnedFloors$Tower" "floors" "I") f9_wsX8_onHeads_964) (fun _ h9 => h9) rfl dX8_onHeads_6 ?_
  refine lv_icmp_ge (tgt := 27) hx hb dX8_onHeads_9 (by decide) (fun c9 => ?_) (fun c9 => ?_)
  · rw [if_pos c9] at h
    refine lv_iload_n hx hb dX8_onHeads_27 rfl (lv_at hl 1 rfl) ?_
    cases h
    exact kz_iret hx hb hr hlocks hP hK hD hS dX8_onHeads_28 ⟨rfl, rfl⟩
  · rw [if_neg c9] at h
    refine lv_iload_n hx hb dX8_onHeads_12 rfl (lv_at hl 1 rfl) ?_
    refine lv_aload_n hx hb dX8_onHeads_13 rfl (lv_at hl 0 rfl) ?_
    refine va_get (D := D) (ci := 8) (v := .ref (ad 4)) (C := RX8) (T := TX8) (N := 5) hx hb hts u9_wsX8_onHeads_X8 hown hK hP 2 rfl rfl 1 (by decide) (hts (.fieldLink RX8 15 "TurnedFloors$Tower" "head" "[I") f9_wsX8_onHeads_965) (fun _ h9 => h9) rfl dX8_onHeads_14 ?_
    refine lv_iload_n hx hb dX8_onHeads_17 rfl (lv_at hl 2 rfl) ?_
    obtain ⟨g1, h⟩ := dG_some h
    refine va_iald hx hb hK hP 4 0 rfl rfl (dg_in g1) dX8_onHeads_18 ?_
    obtain ⟨v2, ev2, h⟩ := dL_some h
    refine kz_topi v2 ev2 ?_
    refine lv_iadd hx hb dX8_onHeads_19 ?_
    refine lv_istore_n (lv' := [(1, .int (x1 + v2)), (0, .ref (ad 2)), (2, .int x2)]) hx hb dX8_onHeads_20 rfl hl (by decide) rfl (fun ls hl => ?_)
    refine lv_iinc (v := x2 + 1) (lv' := [(2, .int (x2 + 1)), (1, .int (x1 + v2)), (0, .ref (ad 2))]) hx hb dX8_onHeads_21 hl (k := 2) rfl rfl (by decide) rfl (fun ls hl => ?_)
    refine lv_goto (tgt := 4) hx hb dX8_onHeads_24 (by decide) ?_
    exact hk4 _ _ _ _ _ _ h hP hD hS (lv_sub hl [2, 1, 0] rfl)
set_option maxHeartbeats 4000000 in
set_option maxRecDepth 100000 in
theorem WX8_onHeads_s2_4 {p : Program} {l : Launch} {e : Env} {s : State} {m : MethodId} {args : Array Value} {below : List Frame} {meth : Method} {c : Code} {D : va_G} {ty : Nat → ClassId} {eo : Nat → Nat} {A : Nat → Prop} {ad : Nat → Nat} {o1 : Int32} {o2 : dK} (C : dc_C p s m args meth c cX8_onHeads (some .int) 3 RX8 wsX8_onHeads D ty eo A)   (n : Nat) (q : dK) (x1 : Int32) (x2 : Int32) (H : Heap) (locs : List Loc) (ls : Array Slot) (h : zX8_onHeads_s2_4  n q x1 x2 = some (o1, o2)) (hP : va_P D vwCl (wF ty ad q) H) (hD : va_D A (wF ty ad q)) (hS : va_S A s.heap H locs) (hl : lv_has ls 3 [(0, .ref (ad 2)), (1, .int x1), (2, .int x2)]) : W p l e ({ frames := 0, cells := 0, slots := 0, locals := 0 } : Room) s m args below meth c H locs 0 0 (MQ below (va_Qi (fun (r : Int32) (u : va_W) => o1 = r ∧ wF ty ad o2 = u) (kz_B D ty A) A) args s 0 0 A) (F0 m 4 ls []) := by
  exact dFix_W (F := fun k (a : dK × Int32 × Int32) => zX8_onHeads_s2_4b  (fun q x1 x2 => k (q, x1, x2)) a.1 a.2.1 a.2.2) (o := (o1, o2)) (P := fun (a : dK × Int32 × Int32) H locs ls => va_P D vwCl (wF ty ad a.1) H ∧ va_D A (wF ty ad a.1) ∧ va_S A s.heap H locs ∧ lv_has ls 3 [(0, .ref (ad 2)), (1, .int a.2.1), (2, .int a.2.2)]) (G := fun H locs ls => W p l e ({ frames := 0, cells := 0, slots := 0, locals := 0 } : Room) s m args below meth c H locs 0 0 (MQ below (va_Qi (fun (r : Int32) (u : va_W) => o1 = r ∧ wF ty ad o2 = u) (kz_B D ty A) A) args s 0 0 A) (F0 m 4 ls []))
    (fun k hk a H locs ls h hp => WX8_onHeads_s2_4b C  (fun q x1 x2 H locs ls h h1 h2 h3 h4 => hk (q, x1, x2) H locs ls h ⟨h1, h2, h3, h4⟩) a.1 a.2.1 a.2.2 H locs ls h hp.1 hp.2.1 hp.2.2.1 hp.2.2.2) n (q, x1, x2) H locs ls h ⟨hP, hD, hS, hl⟩
set_option maxHeartbeats 4000000 in
set_option maxRecDepth 100000 in
theorem qX8_onHeads_s2 (l : Launch) (D : va_G) (ty : Nat → ClassId) (eo : Nat → Nat) (sz : Nat) (ad : Nat → Nat) (q : dK)  (o1 : Int32) (o2 : dK) (h : zX8_onHeads_s2 q = some (o1, o2)) : Met l yX8_onHeads wsX8_onHeads ({ frames := 0, cells := 0, slots := 0, locals := 0 } : Room) (va_Pc [.ref (ad 2)] (kz_pre D ty eo (wF ty ad q) sz)) (va_Qi (fun (r : Int32) (u : va_W) => o1 = r ∧ wF ty ad o2 = u) (kz_B D ty (va_A (wF ty ad q) sz)) (va_A (wF ty ad q) sz)) 0 0 (va_A (wF ty ad q) sz) := by
  refine Met.ofW (cc := cX8_onHeads) (maxL := 3) (ret := (some .int)) (by decide) rfl ?_
  intro p e s m args below meth c s₁ B hml hv
  obtain ⟨rfl, hsz, hP, hK, hD0, hN, hE⟩ := hv
  have hx := B.exec
  have hb := B.bytes
  have hr := B.returns
  have hts := atoms_spec (ws := wsX8_onHeads) B.pre
  have hown : s.vm.findClass RX8 = some m.cls := findClass_of_methodNamed B.named
  have hlocks := B.notSynchronized
  subst hsz
  have hD := hD0.self (sz := s.heap.size)
  generalize hAe : va_A (wF ty ad q) s.heap.size = A at hD hE ⊢
  have hA : ∀ q : Nat, s.heap.size ≤ q → A q := fun q h => by rw [← hAe]; exact Or.inr h
  clear hAe
  have hS : va_S A s.heap s.heap [] := va_S.rf
  have hl := lv_entry ([.ref (ad 2)]) (n := 3) (Nat.le_of_ble_eq_true rfl)
  rw [lg_entry_eq]
  generalize (lg_sl ([.ref (ad 2)]) ++ List.replicate (3 - (lg_sl ([.ref (ad 2)])).length) Slot.unset).toArray = ls at hl ⊢
  have hl : lv_has ls 3 [(0, .ref (ad 2))] := hl
  have C : dc_C p s m _ meth c cX8_onHeads (some .int) 3 RX8 wsX8_onHeads D ty eo A := ⟨hx, hb, hr, hts, hown, hlocks, hml, hK, hN, hE, hA⟩
  unfold zX8_onHeads_s2 at h
  refine lv_iconst (v := 0) hx hb dX8_onHeads_0 (by decide) ?_
  refine lv_istore_n (lv' := [(1, .int 0), (0, .ref (ad 2))]) hx hb dX8_onHeads_1 rfl hl (by decide) rfl (fun ls hl => ?_)
  refine lv_iconst (v := 0) hx hb dX8_onHeads_2 (by decide) ?_
  refine lv_istore_n (lv' := [(2, .int 0), (1, .int 0), (0, .ref (ad 2))]) hx hb dX8_onHeads_3 rfl hl (by decide) rfl (fun ls hl => ?_)
  exact WX8_onHeads_s2_4 C  _ _ _ _ _ _ _ h hP hD hS (lv_sub hl [2, 1, 0] rfl)
