theorem u9_wsX10_init_X10 : ∀ w ∈ u_ws RX10 TX10 56, w ∈ wsX10_init := by
  first | exact fun w h => List.mem_cons_of_mem _ (List.mem_append_right _ h) | decide +kernel
theorem f9_wsX10_init_1151 : (Cond.methodLink RX10 22 objectInit) ∈ wsX10_init := by decide +kernel
theorem f9_wsX10_init_1152 : (Cond.instanceMethod objectInit) ∈ wsX10_init := by decide +kernel
theorem f9_wsX10_init_1153 : (Cond.code objectInit ⟨#[0xb1]⟩ 1 none) ∈ wsX10_init := by decide +kernel
theorem f9_wsX10_init_1154 : (Cond.arrayClass .int) ∈ wsX10_init := by decide +kernel
theorem f9_wsX10_init_1155 : (Cond.fieldLink RX10 7 "TurnedFloorsModel" "refused" "[I") ∈ wsX10_init := by decide +kernel
theorem f9_wsX10_init_1156 : (Cond.fieldLink RX10 28 "TurnedFloorsModel" "kept" "[I") ∈ wsX10_init := by decide +kernel
theorem f9_wsX10_init_1157 : (Cond.fieldLink RX10 31 "TurnedFloorsModel" "images" "[I") ∈ wsX10_init := by decide +kernel
theorem f9_wsX10_init_1158 : (Cond.arrayClass .boolean) ∈ wsX10_init := by decide +kernel
theorem f9_wsX10_init_1159 : (Cond.fieldLink RX10 34 "TurnedFloorsModel" "hasImage" "[Z") ∈ wsX10_init := by decide +kernel
theorem f9_wsX10_init_1160 : (Cond.fieldLink RX10 38 "TurnedFloorsModel" "aside" "[I") ∈ wsX10_init := by decide +kernel
theorem f9_wsX10_init_1161 : (Cond.arrayClass .byte) ∈ wsX10_init := by decide +kernel
theorem f9_wsX10_init_1162 : (Cond.fieldLink RX10 41 "TurnedFloorsModel" "words" "[B") ∈ wsX10_init := by decide +kernel
theorem f9_wsX10_init_1163 : (Cond.fieldLink RX10 45 "TurnedFloorsModel" "tape" "[B") ∈ wsX10_init := by decide +kernel
theorem f9_wsX10_init_1164 : (Cond.fieldLink RX10 48 "TurnedFloorsModel" "five" "[I") ∈ wsX10_init := by decide +kernel
theorem f9_wsX10_init_1165 : (Cond.fieldLink RX10 51 "TurnedFloorsModel" "fault" "I") ∈ wsX10_init := by decide +kernel
theorem f9_wsX10_init_1166 : (Cond.fieldLink RX10 54 "TurnedFloorsModel" "code" "[I") ∈ wsX10_init := by decide +kernel
theorem f9_wsX10_init_1167 : (Cond.fieldLink RX10 57 "TurnedFloorsModel" "value" "[I") ∈ wsX10_init := by decide +kernel
theorem f9_wsX10_init_1168 : (Cond.fieldLink RX10 60 "TurnedFloorsModel" "placed" "[I") ∈ wsX10_init := by decide +kernel
theorem f9_wsX10_init_1169 : (Cond.fieldLink RX10 63 "TurnedFloorsModel" "asked" "[I") ∈ wsX10_init := by decide +kernel
theorem f9_wsX10_init_1170 : (Cond.fieldLink RX10 66 "TurnedFloorsModel" "tipping" "[Z") ∈ wsX10_init := by decide +kernel
theorem f9_wsX10_init_1171 : (Cond.fieldLink RX10 69 "TurnedFloorsModel" "left0" "[I") ∈ wsX10_init := by decide +kernel
theorem f9_wsX10_init_1172 : (Cond.fieldLink RX10 72 "TurnedFloorsModel" "leftAhead" "[I") ∈ wsX10_init := by decide +kernel
theorem f9_wsX10_init_1173 : (Cond.fieldLink RX10 75 "TurnedFloorsModel" "rankAt" "[I") ∈ wsX10_init := by decide +kernel
theorem f9_wsX10_init_1174 : (Cond.fieldLink RX10 78 "TurnedFloorsModel" "orderBy" "[I") ∈ wsX10_init := by decide +kernel
theorem f9_wsX10_init_1175 : (Cond.fieldLink RX10 81 "TurnedFloorsModel" "headsBy" "[I") ∈ wsX10_init := by decide +kernel
theorem f9_wsX10_init_1176 : (Cond.fieldLink RX10 84 "TurnedFloorsModel" "line" "[I") ∈ wsX10_init := by decide +kernel
theorem f9_wsX10_init_1177 : (Cond.fieldLink RX10 87 "TurnedFloorsModel" "price" "[I") ∈ wsX10_init := by decide +kernel
theorem f9_wsX10_init_1178 : (Cond.constant RX10 90 46080) ∈ wsX10_init := by decide +kernel
theorem f9_wsX10_init_1179 : (Cond.fieldLink RX10 91 "TurnedFloorsModel" "dist" "[I") ∈ wsX10_init := by decide +kernel
theorem f9_wsX10_init_1180 : (Cond.fieldLink RX10 94 "TurnedFloorsModel" "rowMany" "[I") ∈ wsX10_init := by decide +kernel
theorem f9_wsX10_init_1181 : (Cond.fieldLink RX10 97 "TurnedFloorsModel" "queue" "[I") ∈ wsX10_init := by decide +kernel
theorem f9_wsX10_init_1182 : (Cond.fieldLink RX10 100 "TurnedFloorsModel" "waits" "[Z") ∈ wsX10_init := by decide +kernel
theorem f9_wsX10_init_1183 : (Cond.fieldLink RX10 103 "TurnedFloorsModel" "alike" "[I") ∈ wsX10_init := by decide +kernel
theorem f9_wsX10_init_1184 : (Cond.arrayClass .long) ∈ wsX10_init := by decide +kernel
theorem f9_wsX10_init_1185 : (Cond.fieldLink RX10 106 "TurnedFloorsModel" "shares" "[J") ∈ wsX10_init := by decide +kernel
theorem f9_wsX10_init_1186 : (Cond.fieldLink RX10 110 "TurnedFloorsModel" "stopped0" "I") ∈ wsX10_init := by decide +kernel
theorem f9_wsX10_init_1187 : (Cond.fieldLink RX10 113 "TurnedFloorsModel" "drawnMoved" "[I") ∈ wsX10_init := by decide +kernel
theorem f9_wsX10_init_1188 : (Cond.fieldLink RX10 116 "TurnedFloorsModel" "drawnMany" "I") ∈ wsX10_init := by decide +kernel
/-- the words, so many laid -/
def wU (k : Nat) : Nat → Int32 := fun i => if i < k then wB i else 0
theorem wU_s (k k2 : Nat) (v : Int32) (hk : k2 = k + 1) (h : v = wB k) : upd (wU k) k v = wU k2 := by
  subst hk h
  funext i
  show (if i = k then wB k else if i < k then wB i else 0) = (if i < k + 1 then wB i else 0)
  by_cases c : i = k
  · subst c; rw [if_pos rfl, if_pos (by omega)]
  · rw [if_neg c]
    by_cases c2 : i < k
    · rw [if_pos c2, if_pos (by omega)]
    · rw [if_neg c2, if_neg (by omega)]
theorem wU_1 (v : Int32) (h : v = wB 0) : upd (fun _ => 0) 0 v = wU 1 := by
  rw [← wU_s 0 1 v rfl h]
  apply congrArg (fun f : Nat → Int32 => upd f 0 v)
  funext i
  exact (if_neg (Nat.not_lt_zero i)).symm

set_option maxHeartbeats 4000000 in
set_option maxRecDepth 100000 in
theorem kcX10_init (l : Launch) (D : va_G) (ty : Nat → ClassId) (eo : Nat → Nat) (sz : Nat) (h0 : Nat) : Met l yX10_init wsX10_init ({ frames := 1, cells := 27, slots := 213951, locals := 20 }) (va_Pc [.ref h0] (kz_pre D ty eo [(h0, .inr (10, [.int 0, .null, .null, .null, .null, .null, .int 0, .null, .int 0, .int 0, .int 0, .null, .null, .int 0, .int 0, .null, .null, .null, .int 0, .int 0, .int 0, .int 0, .int 0, .int 0, .int 0, .int 0, .null, .int 0, .int 0, .null, .null, .null, .int 0, .null, .null, .null, .null, .int 0, .int 0, .null, .null, .null, .null, .null, .null, .null, .int 0, .int 0, .int 0, .int 0, .int 0, .int 0, .long 0, .null, .int 0, .int 0]))] sz)) (va_Qv (fun (u : va_W) => ∃ q_1 q_2 q_3 q_4 q_5 q_6 q_7 q_8 q_9 q_10 q_11 q_12 q_13 q_14 q_15 q_16 q_17 q_18 q_19 q_20 q_21 q_22 q_23 q_24 q_25 q_26 q_27 : Nat, [(h0, .inr (10, [.int 0, .ref q_1, .ref q_2, .ref q_3, .ref q_4, .ref q_5, .int 0, .ref q_6, .int 0, .int 0, .int 0, .ref q_7, .ref q_8, .int 0, .int (-1), .ref q_9, .ref q_10, .ref q_11, .int 0, .int 0, .int 0, .int 0, .int 0, .int 0, .int 0, .int 0, .ref q_12, .int 0, .int 0, .ref q_13, .ref q_14, .ref q_15, .int 0, .ref q_16, .ref q_17, .ref q_18, .ref q_19, .int 0, .int 0, .ref q_20, .ref q_21, .ref q_22, .ref q_23, .ref q_24, .ref q_25, .ref q_26, .int (-1), .int 0, .int 0, .int 0, .int 0, .int 0, .long 0, .ref q_27, .int (-1), .int 0])), (q_1, .inl (ty 0, 7, .inl (fun _ => 0))), (q_2, .inl (ty 0, 5640, .inl (upd (upd (fun _ => 0) 26 1) 32 (-1)))), (q_3, .inl (ty 0, 11280, .inl (fun _ => 0))), (q_4, .inl (ty 2, 2, .inl (fun _ => 0))), (q_5, .inl (ty 0, 28, .inl (fun _ => 0))), (q_6, .inl (ty 3, 128, .inl (wU 128))), (q_7, .inl (ty 3, 400, .inl (fun _ => 0))), (q_8, .inl (ty 0, 5, .inl (fun _ => 0))), (q_9, .inl (ty 0, 401, .inl (fun _ => 0))), (q_10, .inl (ty 0, 401, .inl (fun _ => 0))), (q_11, .inl (ty 0, 401, .inl (fun _ => 0))), (q_12, .inl (ty 0, 9, .inl (fun _ => 0))), (q_13, .inl (ty 2, 6, .inl (fun _ => 0))), (q_14, .inl (ty 0, 240, .inl (fun _ => 0))), (q_15, .inl (ty 0, 240, .inl (fun _ => 0))), (q_16, .inl (ty 0, 4320, .inl (fun _ => 0))), (q_17, .inl (ty 0, 5040, .inl (fun _ => 0))), (q_18, .inl (ty 0, 448, .inl (fun _ => 0))), (q_19, .inl (ty 0, 6, .inl (fun _ => 0))), (q_20, .inl (ty 0, 588, .inl (fun _ => 0))), (q_21, .inl (ty 0, 46080, .inl (fun _ => 0))), (q_22, .inl (ty 0, 46080, .inl (fun _ => 0))), (q_23, .inl (ty 0, 46080, .inl (fun _ => 0))), (q_24, .inl (ty 2, 46080, .inl (fun _ => 0))), (q_25, .inl (ty 0, 6, .inl (fun _ => 0))), (q_26, .inl (ty 1, 21, .inr (.inl (fun _ => 0)))), (q_27, .inl (ty 0, 14, .inl (fun _ => 0)))] = u) (kz_B D ty (va_A [(h0, .inr (10, [.int 0, .null, .null, .null, .null, .null, .int 0, .null, .int 0, .int 0, .int 0, .null, .null, .int 0, .int 0, .null, .null, .null, .int 0, .int 0, .int 0, .int 0, .int 0, .int 0, .int 0, .int 0, .null, .int 0, .int 0, .null, .null, .null, .int 0, .null, .null, .null, .null, .int 0, .int 0, .null, .null, .null, .null, .null, .null, .null, .int 0, .int 0, .int 0, .int 0, .int 0, .int 0, .long 0, .null, .int 0, .int 0]))] sz)) (va_A [(h0, .inr (10, [.int 0, .null, .null, .null, .null, .null, .int 0, .null, .int 0, .int 0, .int 0, .null, .null, .int 0, .int 0, .null, .null, .null, .int 0, .int 0, .int 0, .int 0, .int 0, .int 0, .int 0, .int 0, .null, .int 0, .int 0, .null, .null, .null, .int 0, .null, .null, .null, .null, .int 0, .int 0, .null, .null, .null, .null, .null, .null, .null, .int 0, .int 0, .int 0, .int 0, .int 0, .int 0, .long 0, .null, .int 0, .int 0]))] sz)) 27 213951 (va_A [(h0, .inr (10, [.int 0, .null, .null, .null, .null, .null, .int 0, .null, .int 0, .int 0, .int 0, .null, .null, .int 0, .int 0, .null, .null, .null, .int 0, .int 0, .int 0, .int 0, .int 0, .int 0, .int 0, .int 0, .null, .int 0, .int 0, .null, .null, .null, .int 0, .null, .null, .null, .null, .int 0, .int 0, .null, .null, .null, .null, .null, .null, .null, .int 0, .int 0, .int 0, .int 0, .int 0, .int 0, .long 0, .null, .int 0, .int 0]))] sz) := by
  refine Met.ofW (cc := cX10_init) (maxL := 1) (ret := none) (by decide) rfl ?_
  intro p e s m args below meth c s₁ B hml hv
  obtain ⟨rfl, hsz, hP, hK, hD0, hN, hE⟩ := hv
  have hx := B.exec
  have hb := B.bytes
  have hr := B.returns
  have hts := atoms_spec (ws := wsX10_init) B.pre
  have hown : s.vm.findClass RX10 = some m.cls := findClass_of_methodNamed B.named
  have hlocks := B.notSynchronized
  have hin : meth.name = "<init>" := (name_of_methodNamed B.named B.method).1
  subst hsz
  have hD := hD0.self (sz := s.heap.size)
  generalize hAe : va_A [(h0, .inr (10, [.int 0, .null, .null, .null, .null, .null, .int 0, .null, .int 0, .int 0, .int 0, .null, .null, .int 0, .int 0, .null, .null, .null, .int 0, .int 0, .int 0, .int 0, .int 0, .int 0, .int 0, .int 0, .null, .int 0, .int 0, .null, .null, .null, .int 0, .null, .null, .null, .null, .int 0, .int 0, .null, .null, .null, .null, .null, .null, .null, .int 0, .int 0, .int 0, .int 0, .int 0, .int 0, .long 0, .null, .int 0, .int 0]))] s.heap.size = A at hD hE ⊢
  have hA : ∀ q : Nat, s.heap.size ≤ q → A q := fun q h => by rw [← hAe]; exact Or.inr h
  have hS : va_S A s.heap s.heap [] := va_S.rf
  have hl := lv_entry ([.ref h0]) (n := 1) (Nat.le_of_ble_eq_true rfl)
  rw [lg_entry_eq]
  generalize (lg_sl ([.ref h0]) ++ List.replicate (1 - (lg_sl ([.ref h0])).length) Slot.unset).toArray = ls at hl ⊢
  have hl : lv_has ls 1 [(0, .ref h0)] := hl
  refine lv_aload_n hx hb dX10_init_0 rfl (lv_at hl 0 rfl) ?_
  refine W.objInit hx hb hown (hts (.methodLink RX10 22 objectInit) f9_wsX10_init_1151) (hts (.instanceMethod objectInit) f9_wsX10_init_1152) (hts (.code objectInit ⟨#[0xb1]⟩ 1 none) f9_wsX10_init_1153) rfl (by rw [hml]; exact hl.1) rfl dX10_init_1 (Nat.le_of_ble_eq_true rfl) (Nat.le_of_ble_eq_true rfl) ?_
  refine W.eq (g2 := F0 m 4 ls []) rfl ?_
  refine lv_aload_n hx hb dX10_init_4 rfl (lv_at hl 0 rfl) ?_
  refine lv_bipush (v := 7) hx hb dX10_init_5 (by decide) ?_
  refine va_newa (atype := .int) (ty := .int) (N' := 7) (a0 := (7, .inl (fun _ => 0))) hx hb (hts (.arrayClass .int) f9_wsX10_init_1154) rfl hK hP hD hS hA (fun _ => rfl) (by decide) (by decide) (by decide) (Nat.le_of_ble_eq_true rfl) (Nat.le_of_ble_eq_true rfl) dX10_init_7 (fun q_1 cA H hK2 hp hd hs => ?_)
  obtain rfl : cA = ty 0 := kz_cA (t0 := 0) (t1 := 6) hK2 rfl rfl rfl
  refine kz_re (w2 := [(h0, .inr (10, [.int 0, .null, .null, .null, .null, .null, .int 0, .null, .int 0, .int 0, .int 0, .null, .null, .int 0, .int 0, .null, .null, .null, .int 0, .int 0, .int 0, .int 0, .int 0, .int 0, .int 0, .int 0, .null, .int 0, .int 0, .null, .null, .null, .int 0, .null, .null, .null, .null, .int 0, .int 0, .null, .null, .null, .null, .null, .null, .null, .int 0, .int 0, .int 0, .int 0, .int 0, .int 0, .long 0, .null, .int 0, .int 0])), (q_1, .inl (ty 0, 7, .inl (fun _ => 0)))]) hp hd hs rfl ?_
  clear hp hd hs hP hD hS
  intro hP hD hS
  refine va_putF (D := D) (ci := 10) (v := .ref q_1) (ty := .array .int) (C := RX10) (T := TX10) (N := 56) hx hb hts u9_wsX10_init_X10 tyX10 tyX10_ok nmX10 hown hK hP hD hS 0 rfl rfl 1 (by decide) (hts (.fieldLink RX10 7 "TurnedFloorsModel" "refused" "[I") f9_wsX10_init_1155) (fun _ h9 => h9) rfl hin rfl (by decide +kernel) rfl rfl (Nat.le_of_ble_eq_true rfl) dX10_init_9 (fun H locs hp hd hs => ?_)
  refine kz_re (w2 := [(h0, .inr (10, [.int 0, .ref q_1, .null, .null, .null, .null, .int 0, .null, .int 0, .int 0, .int 0, .null, .null, .int 0, .int 0, .null, .null, .null, .int 0, .int 0, .int 0, .int 0, .int 0, .int 0, .int 0, .int 0, .null, .int 0, .int 0, .null, .null, .null, .int 0, .null, .null, .null, .null, .int 0, .int 0, .null, .null, .null, .null, .null, .null, .null, .int 0, .int 0, .int 0, .int 0, .int 0, .int 0, .long 0, .null, .int 0, .int 0])), (q_1, .inl (ty 0, 7, .inl (fun _ => 0)))]) hp hd hs rfl ?_
  clear hp hd hs hP hD hS
  intro hP hD hS
  refine lv_aload_n hx hb dX10_init_12 rfl (lv_at hl 0 rfl) ?_
  refine lv_sipush (v := 5640) hx hb dX10_init_13 (by decide) ?_
  refine va_newa (atype := .int) (ty := .int) (N' := 5640) (a0 := (5640, .inl (fun _ => 0))) hx hb (hts (.arrayClass .int) f9_wsX10_init_1154) rfl hK hP hD hS hA (fun _ => rfl) (by decide) (by decide) (by decide) (Nat.le_of_ble_eq_true rfl) (Nat.le_of_ble_eq_true rfl) dX10_init_16 (fun q_2 cA H hK2 hp hd hs => ?_)
  obtain rfl : cA = ty 0 := kz_cA (t0 := 0) (t1 := 6) hK2 rfl rfl rfl
  refine kz_re (w2 := [(h0, .inr (10, [.int 0, .ref q_1, .null, .null, .null, .null, .int 0, .null, .int 0, .int 0, .int 0, .null, .null, .int 0, .int 0, .null, .null, .null, .int 0, .int 0, .int 0, .int 0, .int 0, .int 0, .int 0, .int 0, .null, .int 0, .int 0, .null, .null, .null, .int 0, .null, .null, .null, .null, .int 0, .int 0, .null, .null, .null, .null, .null, .null, .null, .int 0, .int 0, .int 0, .int 0, .int 0, .int 0, .long 0, .null, .int 0, .int 0])), (q_1, .inl (ty 0, 7, .inl (fun _ => 0))), (q_2, .inl (ty 0, 5640, .inl (fun _ => 0)))]) hp hd hs rfl ?_
  clear hp hd hs hP hD hS
  intro hP hD hS
  refine va_putF (D := D) (ci := 10) (v := .ref q_2) (ty := .array .int) (C := RX10) (T := TX10) (N := 56) hx hb hts u9_wsX10_init_X10 tyX10 tyX10_ok nmX10 hown hK hP hD hS 0 rfl rfl 2 (by decide) (hts (.fieldLink RX10 28 "TurnedFloorsModel" "kept" "[I") f9_wsX10_init_1156) (fun _ h9 => h9) rfl hin rfl (by decide +kernel) rfl rfl (Nat.le_of_ble_eq_true rfl) dX10_init_18 (fun H locs hp hd hs => ?_)
  refine kz_re (w2 := [(h0, .inr (10, [.int 0, .ref q_1, .ref q_2, .null, .null, .null, .int 0, .null, .int 0, .int 0, .int 0, .null, .null, .int 0, .int 0, .null, .null, .null, .int 0, .int 0, .int 0, .int 0, .int 0, .int 0, .int 0, .int 0, .null, .int 0, .int 0, .null, .null, .null, .int 0, .null, .null, .null, .null, .int 0, .int 0, .null, .null, .null, .null, .null, .null, .null, .int 0, .int 0, .int 0, .int 0, .int 0, .int 0, .long 0, .null, .int 0, .int 0])), (q_1, .inl (ty 0, 7, .inl (fun _ => 0))), (q_2, .inl (ty 0, 5640, .inl (fun _ => 0)))]) hp hd hs rfl ?_
  clear hp hd hs hP hD hS
  intro hP hD hS
  refine lv_aload_n hx hb dX10_init_21 rfl (lv_at hl 0 rfl) ?_
  refine lv_sipush (v := 11280) hx hb dX10_init_22 (by decide) ?_
  refine va_newa (atype := .int) (ty := .int) (N' := 11280) (a0 := (11280, .inl (fun _ => 0))) hx hb (hts (.arrayClass .int) f9_wsX10_init_1154) rfl hK hP hD hS hA (fun _ => rfl) (by decide) (by decide) (by decide) (Nat.le_of_ble_eq_true rfl) (Nat.le_of_ble_eq_true rfl) dX10_init_25 (fun q_3 cA H hK2 hp hd hs => ?_)
  obtain rfl : cA = ty 0 := kz_cA (t0 := 0) (t1 := 6) hK2 rfl rfl rfl
  refine kz_re (w2 := [(h0, .inr (10, [.int 0, .ref q_1, .ref q_2, .null, .null, .null, .int 0, .null, .int 0, .int 0, .int 0, .null, .null, .int 0, .int 0, .null, .null, .null, .int 0, .int 0, .int 0, .int 0, .int 0, .int 0, .int 0, .int 0, .null, .int 0, .int 0, .null, .null, .null, .int 0, .null, .null, .null, .null, .int 0, .int 0, .null, .null, .null, .null, .null, .null, .null, .int 0, .int 0, .int 0, .int 0, .int 0, .int 0, .long 0, .null, .int 0, .int 0])), (q_1, .inl (ty 0, 7, .inl (fun _ => 0))), (q_2, .inl (ty 0, 5640, .inl (fun _ => 0))), (q_3, .inl (ty 0, 11280, .inl (fun _ => 0)))]) hp hd hs rfl ?_
  clear hp hd hs hP hD hS
  intro hP hD hS
  refine va_putF (D := D) (ci := 10) (v := .ref q_3) (ty := .array .int) (C := RX10) (T := TX10) (N := 56) hx hb hts u9_wsX10_init_X10 tyX10 tyX10_ok nmX10 hown hK hP hD hS 0 rfl rfl 3 (by decide) (hts (.fieldLink RX10 31 "TurnedFloorsModel" "images" "[I") f9_wsX10_init_1157) (fun _ h9 => h9) rfl hin rfl (by decide +kernel) rfl rfl (Nat.le_of_ble_eq_true rfl) dX10_init_27 (fun H locs hp hd hs => ?_)
  refine kz_re (w2 := [(h0, .inr (10, [.int 0, .ref q_1, .ref q_2, .ref q_3, .null, .null, .int 0, .null, .int 0, .int 0, .int 0, .null, .null, .int 0, .int 0, .null, .null, .null, .int 0, .int 0, .int 0, .int 0, .int 0, .int 0, .int 0, .int 0, .null, .int 0, .int 0, .null, .null, .null, .int 0, .null, .null, .null, .null, .int 0, .int 0, .null, .null, .null, .null, .null, .null, .null, .int 0, .int 0, .int 0, .int 0, .int 0, .int 0, .long 0, .null, .int 0, .int 0])), (q_1, .inl (ty 0, 7, .inl (fun _ => 0))), (q_2, .inl (ty 0, 5640, .inl (fun _ => 0))), (q_3, .inl (ty 0, 11280, .inl (fun _ => 0)))]) hp hd hs rfl ?_
  clear hp hd hs hP hD hS
  intro hP hD hS
  refine lv_aload_n hx hb dX10_init_30 rfl (lv_at hl 0 rfl) ?_
  refine lv_iconst (v := 2) hx hb dX10_init_31 (by decide) ?_
  refine va_newa (atype := .boolean) (ty := .boolean) (N' := 2) (a0 := (2, .inl (fun _ => 0))) hx hb (hts (.arrayClass .boolean) f9_wsX10_init_1158) rfl hK hP hD hS hA (fun _ => rfl) (by decide) (by decide) (by decide) (Nat.le_of_ble_eq_true rfl) (Nat.le_of_ble_eq_true rfl) dX10_init_32 (fun q_4 cA H hK2 hp hd hs => ?_)
  obtain rfl : cA = ty 2 := kz_cA (t0 := 2) (t1 := 6) hK2 rfl rfl rfl
  refine kz_re (w2 := [(h0, .inr (10, [.int 0, .ref q_1, .ref q_2, .ref q_3, .null, .null, .int 0, .null, .int 0, .int 0, .int 0, .null, .null, .int 0, .int 0, .null, .null, .null, .int 0, .int 0, .int 0, .int 0, .int 0, .int 0, .int 0, .int 0, .null, .int 0, .int 0, .null, .null, .null, .int 0, .null, .null, .null, .null, .int 0, .int 0, .null, .null, .null, .null, .null, .null, .null, .int 0, .int 0, .int 0, .int 0, .int 0, .int 0, .long 0, .null, .int 0, .int 0])), (q_1, .inl (ty 0, 7, .inl (fun _ => 0))), (q_2, .inl (ty 0, 5640, .inl (fun _ => 0))), (q_3, .inl (ty 0, 11280, .inl (fun _ => 0))), (q_4, .inl (ty 2, 2, .inl (fun _ => 0)))]) hp hd hs rfl ?_
  clear hp hd hs hP hD hS
  intro hP hD hS
  refine va_putF (D := D) (ci := 10) (v := .ref q_4) (ty := .array .boolean) (C := RX10) (T := TX10) (N := 56) hx hb hts u9_wsX10_init_X10 tyX10 tyX10_ok nmX10 hown hK hP hD hS 0 rfl rfl 4 (by decide) (hts (.fieldLink RX10 34 "TurnedFloorsModel" "hasImage" "[Z") f9_wsX10_init_1159) (fun _ h9 => h9) rfl hin rfl (by decide +kernel) rfl rfl (Nat.le_of_ble_eq_true rfl) dX10_init_34 (fun H locs hp hd hs => ?_)
  refine kz_re (w2 := [(h0, .inr (10, [.int 0, .ref q_1, .ref q_2, .ref q_3, .ref q_4, .null, .int 0, .null, .int 0, .int 0, .int 0, .null, .null, .int 0, .int 0, .null, .null, .null, .int 0, .int 0, .int 0, .int 0, .int 0, .int 0, .int 0, .int 0, .null, .int 0, .int 0, .null, .null, .null, .int 0, .null, .null, .null, .null, .int 0, .int 0, .null, .null, .null, .null, .null, .null, .null, .int 0, .int 0, .int 0, .int 0, .int 0, .int 0, .long 0, .null, .int 0, .int 0])), (q_1, .inl (ty 0, 7, .inl (fun _ => 0))), (q_2, .inl (ty 0, 5640, .inl (fun _ => 0))), (q_3, .inl (ty 0, 11280, .inl (fun _ => 0))), (q_4, .inl (ty 2, 2, .inl (fun _ => 0)))]) hp hd hs rfl ?_
  clear hp hd hs hP hD hS
  intro hP hD hS
  refine lv_aload_n hx hb dX10_init_37 rfl (lv_at hl 0 rfl) ?_
  refine lv_bipush (v := 28) hx hb dX10_init_38 (by decide) ?_
  refine va_newa (atype := .int) (ty := .int) (N' := 28) (a0 := (28, .inl (fun _ => 0))) hx hb (hts (.arrayClass .int) f9_wsX10_init_1154) rfl hK hP hD hS hA (fun _ => rfl) (by decide) (by decide) (by decide) (Nat.le_of_ble_eq_true rfl) (Nat.le_of_ble_eq_true rfl) dX10_init_40 (fun q_5 cA H hK2 hp hd hs => ?_)
  obtain rfl : cA = ty 0 := kz_cA (t0 := 0) (t1 := 6) hK2 rfl rfl rfl
  refine kz_re (w2 := [(h0, .inr (10, [.int 0, .ref q_1, .ref q_2, .ref q_3, .ref q_4, .null, .int 0, .null, .int 0, .int 0, .int 0, .null, .null, .int 0, .int 0, .null, .null, .null, .int 0, .int 0, .int 0, .int 0, .int 0, .int 0, .int 0, .int 0, .null, .int 0, .int 0, .null, .null, .null, .int 0, .null, .null, .null, .null, .int 0, .int 0, .null, .null, .null, .null, .null, .null, .null, .int 0, .int 0, .int 0, .int 0, .int 0, .int 0, .long 0, .null, .int 0, .int 0])), (q_1, .inl (ty 0, 7, .inl (fun _ => 0))), (q_2, .inl (ty 0, 5640, .inl (fun _ => 0))), (q_3, .inl (ty 0, 11280, .inl (fun _ => 0))), (q_4, .inl (ty 2, 2, .inl (fun _ => 0))), (q_5, .inl (ty 0, 28, .inl (fun _ => 0)))]) hp hd hs rfl ?_
  clear hp hd hs hP hD hS
  intro hP hD hS
  refine va_putF (D := D) (ci := 10) (v := .ref q_5) (ty := .array .int) (C := RX10) (T := TX10) (N := 56) hx hb hts u9_wsX10_init_X10 tyX10 tyX10_ok nmX10 hown hK hP hD hS 0 rfl rfl 5 (by decide) (hts (.fieldLink RX10 38 "TurnedFloorsModel" "aside" "[I") f9_wsX10_init_1160) (fun _ h9 => h9) rfl hin rfl (by decide +kernel) rfl rfl (Nat.le_of_ble_eq_true rfl) dX10_init_42 (fun H locs hp hd hs => ?_)
  refine kz_re (w2 := [(h0, .inr (10, [.int 0, .ref q_1, .ref q_2, .ref q_3, .ref q_4, .ref q_5, .int 0, .null, .int 0, .int 0, .int 0, .null, .null, .int 0, .int 0, .null, .null, .null, .int 0, .int 0, .int 0, .int 0, .int 0, .int 0, .int 0, .int 0, .null, .int 0, .int 0, .null, .null, .null, .int 0, .null, .null, .null, .null, .int 0, .int 0, .null, .null, .null, .null, .null, .null, .null, .int 0, .int 0, .int 0, .int 0, .int 0, .int 0, .long 0, .null, .int 0, .int 0])), (q_1, .inl (ty 0, 7, .inl (fun _ => 0))), (q_2, .inl (ty 0, 5640, .inl (fun _ => 0))), (q_3, .inl (ty 0, 11280, .inl (fun _ => 0))), (q_4, .inl (ty 2, 2, .inl (fun _ => 0))), (q_5, .inl (ty 0, 28, .inl (fun _ => 0)))]) hp hd hs rfl ?_
  clear hp hd hs hP hD hS
  intro hP hD hS
  refine lv_aload_n hx hb dX10_init_45 rfl (lv_at hl 0 rfl) ?_
  refine lv_sipush (v := 128) hx hb dX10_init_46 (by decide) ?_
  refine va_newa (atype := .byte) (ty := .byte) (N' := 128) (a0 := (128, .inl (fun _ => 0))) hx hb (hts (.arrayClass .byte) f9_wsX10_init_1161) rfl hK hP hD hS hA (fun _ => rfl) (by decide) (by decide) (by decide) (Nat.le_of_ble_eq_true rfl) (Nat.le_of_ble_eq_true rfl) dX10_init_49 (fun q_6 cA H hK2 hp hd hs => ?_)
  obtain rfl : cA = ty 3 := kz_cA (t0 := 3) (t1 := 6) hK2 rfl rfl rfl
  refine kz_re (w2 := [(h0, .inr (10, [.int 0, .ref q_1, .ref q_2, .ref q_3, .ref q_4, .ref q_5, .int 0, .null, .int 0, .int 0, .int 0, .null, .null, .int 0, .int 0, .null, .null, .null, .int 0, .int 0, .int 0, .int 0, .int 0, .int 0, .int 0, .int 0, .null, .int 0, .int 0, .null, .null, .null, .int 0, .null, .null, .null, .null, .int 0, .int 0, .null, .null, .null, .null, .null, .null, .null, .int 0, .int 0, .int 0, .int 0, .int 0, .int 0, .long 0, .null, .int 0, .int 0])), (q_1, .inl (ty 0, 7, .inl (fun _ => 0))), (q_2, .inl (ty 0, 5640, .inl (fun _ => 0))), (q_3, .inl (ty 0, 11280, .inl (fun _ => 0))), (q_4, .inl (ty 2, 2, .inl (fun _ => 0))), (q_5, .inl (ty 0, 28, .inl (fun _ => 0))), (q_6, .inl (ty 3, 128, .inl (fun _ => 0)))]) hp hd hs rfl ?_
  clear hp hd hs hP hD hS
  intro hP hD hS
  refine lv_dup hx hb dX10_init_51 rfl ?_
  refine lv_iconst (v := 0) hx hb dX10_init_52 (by decide) ?_
  refine lv_bipush (v := 112) hx hb dX10_init_53 (by decide) ?_
  refine va_bast hx hb hK hP hD hS 6 3 rfl rfl (by simp only [vp_in]; decide) dX10_init_55 (fun H locs hp hd hs => ?_)
  refine kz_re (w2 := [(h0, .inr (10, [.int 0, .ref q_1, .ref q_2, .ref q_3, .ref q_4, .ref q_5, .int 0, .null, .int 0, .int 0, .int 0, .null, .null, .int 0, .int 0, .null, .null, .null, .int 0, .int 0, .int 0, .int 0, .int 0, .int 0, .int 0, .int 0, .null, .int 0, .int 0, .null, .null, .null, .int 0, .null, .null, .null, .null, .int 0, .int 0, .null, .null, .null, .null, .null, .null, .null, .int 0, .int 0, .int 0, .int 0, .int 0, .int 0, .long 0, .null, .int 0, .int 0])), (q_1, .inl (ty 0, 7, .inl (fun _ => 0))), (q_2, .inl (ty 0, 5640, .inl (fun _ => 0))), (q_3, .inl (ty 0, 11280, .inl (fun _ => 0))), (q_4, .inl (ty 2, 2, .inl (fun _ => 0))), (q_5, .inl (ty 0, 28, .inl (fun _ => 0))), (q_6, .inl (ty 3, 128, .inl (wU 1)))]) hp hd hs (by rw [← (wU_1 112 rfl : upd (fun _ => 0) 0 112 = wU 1)]; rfl) ?_
  clear hp hd hs hP hD hS
  intro hP hD hS
  refine lv_dup hx hb dX10_init_56 rfl ?_
  refine lv_iconst (v := 1) hx hb dX10_init_57 (by decide) ?_
  refine lv_bipush (v := 97) hx hb dX10_init_58 (by decide) ?_
  refine va_bast hx hb hK hP hD hS 6 3 rfl rfl (by simp only [vp_in]; decide) dX10_init_60 (fun H locs hp hd hs => ?_)
  refine kz_re (w2 := [(h0, .inr (10, [.int 0, .ref q_1, .ref q_2, .ref q_3, .ref q_4, .ref q_5, .int 0, .null, .int 0, .int 0, .int 0, .null, .null, .int 0, .int 0, .null, .null, .null, .int 0, .int 0, .int 0, .int 0, .int 0, .int 0, .int 0, .int 0, .null, .int 0, .int 0, .null, .null, .null, .int 0, .null, .null, .null, .null, .int 0, .int 0, .null, .null, .null, .null, .null, .null, .null, .int 0, .int 0, .int 0, .int 0, .int 0, .int 0, .long 0, .null, .int 0, .int 0])), (q_1, .inl (ty 0, 7, .inl (fun _ => 0))), (q_2, .inl (ty 0, 5640, .inl (fun _ => 0))), (q_3, .inl (ty 0, 11280, .inl (fun _ => 0))), (q_4, .inl (ty 2, 2, .inl (fun _ => 0))), (q_5, .inl (ty 0, 28, .inl (fun _ => 0))), (q_6, .inl (ty 3, 128, .inl (wU 2)))]) hp hd hs (by rw [← (wU_s 1 2 97 rfl rfl : upd (wU 1) 1 97 = wU 2)]; rfl) ?_
  clear hp hd hs hP hD hS
  intro hP hD hS
  refine lv_dup hx hb dX10_init_61 rfl ?_
  refine lv_iconst (v := 2) hx hb dX10_init_62 (by decide) ?_
  refine lv_bipush (v := 121) hx hb dX10_init_63 (by decide) ?_
  refine va_bast hx hb hK hP hD hS 6 3 rfl rfl (by simp only [vp_in]; decide) dX10_init_65 (fun H locs hp hd hs => ?_)
  refine kz_re (w2 := [(h0, .inr (10, [.int 0, .ref q_1, .ref q_2, .ref q_3, .ref q_4, .ref q_5, .int 0, .null, .int 0, .int 0, .int 0, .null, .null, .int 0, .int 0, .null, .null, .null, .int 0, .int 0, .int 0, .int 0, .int 0, .int 0, .int 0, .int 0, .null, .int 0, .int 0, .null, .null, .null, .int 0, .null, .null, .null, .null, .int 0, .int 0, .null, .null, .null, .null, .null, .null, .null, .int 0, .int 0, .int 0, .int 0, .int 0, .int 0, .long 0, .null, .int 0, .int 0])), (q_1, .inl (ty 0, 7, .inl (fun _ => 0))), (q_2, .inl (ty 0, 5640, .inl (fun _ => 0))), (q_3, .inl (ty 0, 11280, .inl (fun _ => 0))), (q_4, .inl (ty 2, 2, .inl (fun _ => 0))), (q_5, .inl (ty 0, 28, .inl (fun _ => 0))), (q_6, .inl (ty 3, 128, .inl (wU 3)))]) hp hd hs (by rw [← (wU_s 2 3 121 rfl rfl : upd (wU 2) 2 121 = wU 3)]; rfl) ?_
  clear hp hd hs hP hD hS
  intro hP hD hS
  refine lv_dup hx hb dX10_init_66 rfl ?_
  refine lv_iconst (v := 3) hx hb dX10_init_67 (by decide) ?_
  refine lv_bipush (v := 115) hx hb dX10_init_68 (by decide) ?_
  refine va_bast hx hb hK hP hD hS 6 3 rfl rfl (by simp only [vp_in]; decide) dX10_init_70 (fun H locs hp hd hs => ?_)
  refine kz_re (w2 := [(h0, .inr (10, [.int 0, .ref q_1, .ref q_2, .ref q_3, .ref q_4, .ref q_5, .int 0, .null, .int 0, .int 0, .int 0, .null, .null, .int 0, .int 0, .null, .null, .null, .int 0, .int 0, .int 0, .int 0, .int 0, .int 0, .int 0, .int 0, .null, .int 0, .int 0, .null, .null, .null, .int 0, .null, .null, .null, .null, .int 0, .int 0, .null, .null, .null, .null, .null, .null, .null, .int 0, .int 0, .int 0, .int 0, .int 0, .int 0, .long 0, .null, .int 0, .int 0])), (q_1, .inl (ty 0, 7, .inl (fun _ => 0))), (q_2, .inl (ty 0, 5640, .inl (fun _ => 0))), (q_3, .inl (ty 0, 11280, .inl (fun _ => 0))), (q_4, .inl (ty 2, 2, .inl (fun _ => 0))), (q_5, .inl (ty 0, 28, .inl (fun _ => 0))), (q_6, .inl (ty 3, 128, .inl (wU 4)))]) hp hd hs (by rw [← (wU_s 3 4 115 rfl rfl : upd (wU 3) 3 115 = wU 4)]; rfl) ?_
  clear hp hd hs hP hD hS
  intro hP hD hS
  refine lv_dup hx hb dX10_init_71 rfl ?_
  refine lv_iconst (v := 4) hx hb dX10_init_72 (by decide) ?_
  refine lv_bipush (v := 32) hx hb dX10_init_73 (by decide) ?_
  refine va_bast hx hb hK hP hD hS 6 3 rfl rfl (by simp only [vp_in]; decide) dX10_init_75 (fun H locs hp hd hs => ?_)
  refine kz_re (w2 := [(h0, .inr (10, [.int 0, .ref q_1, .ref q_2, .ref q_3, .ref q_4, .ref q_5, .int 0, .null, .int 0, .int 0, .int 0, .null, .null, .int 0, .int 0, .null, .null, .null, .int 0, .int 0, .int 0, .int 0, .int 0, .int 0, .int 0, .int 0, .null, .int 0, .int 0, .null, .null, .null, .int 0, .null, .null, .null, .null, .int 0, .int 0, .null, .null, .null, .null, .null, .null, .null, .int 0, .int 0, .int 0, .int 0, .int 0, .int 0, .long 0, .null, .int 0, .int 0])), (q_1, .inl (ty 0, 7, .inl (fun _ => 0))), (q_2, .inl (ty 0, 5640, .inl (fun _ => 0))), (q_3, .inl (ty 0, 11280, .inl (fun _ => 0))), (q_4, .inl (ty 2, 2, .inl (fun _ => 0))), (q_5, .inl (ty 0, 28, .inl (fun _ => 0))), (q_6, .inl (ty 3, 128, .inl (wU 5)))]) hp hd hs (by rw [← (wU_s 4 5 32 rfl rfl : upd (wU 4) 4 32 = wU 5)]; rfl) ?_
  clear hp hd hs hP hD hS
  intro hP hD hS
  refine lv_dup hx hb dX10_init_76 rfl ?_
  refine lv_iconst (v := 5) hx hb dX10_init_77 (by decide) ?_
  refine lv_bipush (v := 98) hx hb dX10_init_78 (by decide) ?_
  refine va_bast hx hb hK hP hD hS 6 3 rfl rfl (by simp only [vp_in]; decide) dX10_init_80 (fun H locs hp hd hs => ?_)
  refine kz_re (w2 := [(h0, .inr (10, [.int 0, .ref q_1, .ref q_2, .ref q_3, .ref q_4, .ref q_5, .int 0, .null, .int 0, .int 0, .int 0, .null, .null, .int 0, .int 0, .null, .null, .null, .int 0, .int 0, .int 0, .int 0, .int 0, .int 0, .int 0, .int 0, .null, .int 0, .int 0, .null, .null, .null, .int 0, .null, .null, .null, .null, .int 0, .int 0, .null, .null, .null, .null, .null, .null, .null, .int 0, .int 0, .int 0, .int 0, .int 0, .int 0, .long 0, .null, .int 0, .int 0])), (q_1, .inl (ty 0, 7, .inl (fun _ => 0))), (q_2, .inl (ty 0, 5640, .inl (fun _ => 0))), (q_3, .inl (ty 0, 11280, .inl (fun _ => 0))), (q_4, .inl (ty 2, 2, .inl (fun _ => 0))), (q_5, .inl (ty 0, 28, .inl (fun _ => 0))), (q_6, .inl (ty 3, 128, .inl (wU 6)))]) hp hd hs (by rw [← (wU_s 5 6 98 rfl rfl : upd (wU 5) 5 98 = wU 6)]; rfl) ?_
  clear hp hd hs hP hD hS
  intro hP hD hS
  refine lv_dup hx hb dX10_init_81 rfl ?_
  refine lv_bipush (v := 6) hx hb dX10_init_82 (by decide) ?_
  refine lv_bipush (v := 97) hx hb dX10_init_84 (by decide) ?_
  refine va_bast hx hb hK hP hD hS 6 3 rfl rfl (by simp only [vp_in]; decide) dX10_init_86 (fun H locs hp hd hs => ?_)
  refine kz_re (w2 := [(h0, .inr (10, [.int 0, .ref q_1, .ref q_2, .ref q_3, .ref q_4, .ref q_5, .int 0, .null, .int 0, .int 0, .int 0, .null, .null, .int 0, .int 0, .null, .null, .null, .int 0, .int 0, .int 0, .int 0, .int 0, .int 0, .int 0, .int 0, .null, .int 0, .int 0, .null, .null, .null, .int 0, .null, .null, .null, .null, .int 0, .int 0, .null, .null, .null, .null, .null, .null, .null, .int 0, .int 0, .int 0, .int 0, .int 0, .int 0, .long 0, .null, .int 0, .int 0])), (q_1, .inl (ty 0, 7, .inl (fun _ => 0))), (q_2, .inl (ty 0, 5640, .inl (fun _ => 0))), (q_3, .inl (ty 0, 11280, .inl (fun _ => 0))), (q_4, .inl (ty 2, 2, .inl (fun _ => 0))), (q_5, .inl (ty 0, 28, .inl (fun _ => 0))), (q_6, .inl (ty 3, 128, .inl (wU 7)))]) hp hd hs (by rw [← (wU_s 6 7 97 rfl rfl : upd (wU 6) 6 97 = wU 7)]; rfl) ?_
  clear hp hd hs hP hD hS
  intro hP hD hS
  refine lv_dup hx hb dX10_init_87 rfl ?_
  refine lv_bipush (v := 7) hx hb dX10_init_88 (by decide) ?_
  refine lv_bipush (v := 114) hx hb dX10_init_90 (by decide) ?_
  refine va_bast hx hb hK hP hD hS 6 3 rfl rfl (by simp only [vp_in]; decide) dX10_init_92 (fun H locs hp hd hs => ?_)
  refine kz_re (w2 := [(h0, .inr (10, [.int 0, .ref q_1, .ref q_2, .ref q_3, .ref q_4, .ref q_5, .int 0, .null, .int 0, .int 0, .int 0, .null, .null, .int 0, .int 0, .null, .null, .null, .int 0, .int 0, .int 0, .int 0, .int 0, .int 0, .int 0, .int 0, .null, .int 0, .int 0, .null, .null, .null, .int 0, .null, .null, .null, .null, .int 0, .int 0, .null, .null, .null, .null, .null, .null, .null, .int 0, .int 0, .int 0, .int 0, .int 0, .int 0, .long 0, .null, .int 0, .int 0])), (q_1, .inl (ty 0, 7, .inl (fun _ => 0))), (q_2, .inl (ty 0, 5640, .inl (fun _ => 0))), (q_3, .inl (ty 0, 11280, .inl (fun _ => 0))), (q_4, .inl (ty 2, 2, .inl (fun _ => 0))), (q_5, .inl (ty 0, 28, .inl (fun _ => 0))), (q_6, .inl (ty 3, 128, .inl (wU 8)))]) hp hd hs (by rw [← (wU_s 7 8 114 rfl rfl : upd (wU 7) 7 114 = wU 8)]; rfl) ?_
  clear hp hd hs hP hD hS
  intro hP hD hS
  refine lv_dup hx hb dX10_init_93 rfl ?_
  refine lv_bipush (v := 8) hx hb dX10_init_94 (by decide) ?_
  refine lv_bipush (v := 115) hx hb dX10_init_96 (by decide) ?_
  refine va_bast hx hb hK hP hD hS 6 3 rfl rfl (by simp only [vp_in]; decide) dX10_init_98 (fun H locs hp hd hs => ?_)
  refine kz_re (w2 := [(h0, .inr (10, [.int 0, .ref q_1, .ref q_2, .ref q_3, .ref q_4, .ref q_5, .int 0, .null, .int 0, .int 0, .int 0, .null, .null, .int 0, .int 0, .null, .null, .null, .int 0, .int 0, .int 0, .int 0, .int 0, .int 0, .int 0, .int 0, .null, .int 0, .int 0, .null, .null, .null, .int 0, .null, .null, .null, .null, .int 0, .int 0, .null, .null, .null, .null, .null, .null, .null, .int 0, .int 0, .int 0, .int 0, .int 0, .int 0, .long 0, .null, .int 0, .int 0])), (q_1, .inl (ty 0, 7, .inl (fun _ => 0))), (q_2, .inl (ty 0, 5640, .inl (fun _ => 0))), (q_3, .inl (ty 0, 11280, .inl (fun _ => 0))), (q_4, .inl (ty 2, 2, .inl (fun _ => 0))), (q_5, .inl (ty 0, 28, .inl (fun _ => 0))), (q_6, .inl (ty 3, 128, .inl (wU 9)))]) hp hd hs (by rw [← (wU_s 8 9 115 rfl rfl : upd (wU 8) 8 115 = wU 9)]; rfl) ?_
  clear hp hd hs hP hD hS
  intro hP hD hS
  refine lv_dup hx hb dX10_init_99 rfl ?_
  refine lv_bipush (v := 9) hx hb dX10_init_100 (by decide) ?_
  refine lv_bipush (v := 32) hx hb dX10_init_102 (by decide) ?_
  refine va_bast hx hb hK hP hD hS 6 3 rfl rfl (by simp only [vp_in]; decide) dX10_init_104 (fun H locs hp hd hs => ?_)
  refine kz_re (w2 := [(h0, .inr (10, [.int 0, .ref q_1, .ref q_2, .ref q_3, .ref q_4, .ref q_5, .int 0, .null, .int 0, .int 0, .int 0, .null, .null, .int 0, .int 0, .null, .null, .null, .int 0, .int 0, .int 0, .int 0, .int 0, .int 0, .int 0, .int 0, .null, .int 0, .int 0, .null, .null, .null, .int 0, .null, .null, .null, .null, .int 0, .int 0, .null, .null, .null, .null, .null, .null, .null, .int 0, .int 0, .int 0, .int 0, .int 0, .int 0, .long 0, .null, .int 0, .int 0])), (q_1, .inl (ty 0, 7, .inl (fun _ => 0))), (q_2, .inl (ty 0, 5640, .inl (fun _ => 0))), (q_3, .inl (ty 0, 11280, .inl (fun _ => 0))), (q_4, .inl (ty 2, 2, .inl (fun _ => 0))), (q_5, .inl (ty 0, 28, .inl (fun _ => 0))), (q_6, .inl (ty 3, 128, .inl (wU 10)))]) hp hd hs (by rw [← (wU_s 9 10 32 rfl rfl : upd (wU 9) 9 32 = wU 10)]; rfl) ?_
  clear hp hd hs hP hD hS
  intro hP hD hS
  refine lv_dup hx hb dX10_init_105 rfl ?_
  refine lv_bipush (v := 10) hx hb dX10_init_106 (by decide) ?_
  refine lv_bipush (v := 116) hx hb dX10_init_108 (by decide) ?_
  refine va_bast hx hb hK hP hD hS 6 3 rfl rfl (by simp only [vp_in]; decide) dX10_init_110 (fun H locs hp hd hs => ?_)
  refine kz_re (w2 := [(h0, .inr (10, [.int 0, .ref q_1, .ref q_2, .ref q_3, .ref q_4, .ref q_5, .int 0, .null, .int 0, .int 0, .int 0, .null, .null, .int 0, .int 0, .null, .null, .null, .int 0, .int 0, .int 0, .int 0, .int 0, .int 0, .int 0, .int 0, .null, .int 0, .int 0, .null, .null, .null, .int 0, .null, .null, .null, .null, .int 0, .int 0, .null, .null, .null, .null, .null, .null, .null, .int 0, .int 0, .int 0, .int 0, .int 0, .int 0, .long 0, .null, .int 0, .int 0])), (q_1, .inl (ty 0, 7, .inl (fun _ => 0))), (q_2, .inl (ty 0, 5640, .inl (fun _ => 0))), (q_3, .inl (ty 0, 11280, .inl (fun _ => 0))), (q_4, .inl (ty 2, 2, .inl (fun _ => 0))), (q_5, .inl (ty 0, 28, .inl (fun _ => 0))), (q_6, .inl (ty 3, 128, .inl (wU 11)))]) hp hd hs (by rw [← (wU_s 10 11 116 rfl rfl : upd (wU 10) 10 116 = wU 11)]; rfl) ?_
  clear hp hd hs hP hD hS
  intro hP hD hS
  refine lv_dup hx hb dX10_init_111 rfl ?_
  refine lv_bipush (v := 11) hx hb dX10_init_112 (by decide) ?_
  refine lv_bipush (v := 105) hx hb dX10_init_114 (by decide) ?_
  refine va_bast hx hb hK hP hD hS 6 3 rfl rfl (by simp only [vp_in]; decide) dX10_init_116 (fun H locs hp hd hs => ?_)
  refine kz_re (w2 := [(h0, .inr (10, [.int 0, .ref q_1, .ref q_2, .ref q_3, .ref q_4, .ref q_5, .int 0, .null, .int 0, .int 0, .int 0, .null, .null, .int 0, .int 0, .null, .null, .null, .int 0, .int 0, .int 0, .int 0, .int 0, .int 0, .int 0, .int 0, .null, .int 0, .int 0, .null, .null, .null, .int 0, .null, .null, .null, .null, .int 0, .int 0, .null, .null, .null, .null, .null, .null, .null, .int 0, .int 0, .int 0, .int 0, .int 0, .int 0, .long 0, .null, .int 0, .int 0])), (q_1, .inl (ty 0, 7, .inl (fun _ => 0))), (q_2, .inl (ty 0, 5640, .inl (fun _ => 0))), (q_3, .inl (ty 0, 11280, .inl (fun _ => 0))), (q_4, .inl (ty 2, 2, .inl (fun _ => 0))), (q_5, .inl (ty 0, 28, .inl (fun _ => 0))), (q_6, .inl (ty 3, 128, .inl (wU 12)))]) hp hd hs (by rw [← (wU_s 11 12 105 rfl rfl : upd (wU 11) 11 105 = wU 12)]; rfl) ?_
  clear hp hd hs hP hD hS
  intro hP hD hS
  refine lv_dup hx hb dX10_init_117 rfl ?_
  refine lv_bipush (v := 12) hx hb dX10_init_118 (by decide) ?_
  refine lv_bipush (v := 112) hx hb dX10_init_120 (by decide) ?_
  refine va_bast hx hb hK hP hD hS 6 3 rfl rfl (by simp only [vp_in]; decide) dX10_init_122 (fun H locs hp hd hs => ?_)
  refine kz_re (w2 := [(h0, .inr (10, [.int 0, .ref q_1, .ref q_2, .ref q_3, .ref q_4, .ref q_5, .int 0, .null, .int 0, .int 0, .int 0, .null, .null, .int 0, .int 0, .null, .null, .null, .int 0, .int 0, .int 0, .int 0, .int 0, .int 0, .int 0, .int 0, .null, .int 0, .int 0, .null, .null, .null, .int 0, .null, .null, .null, .null, .int 0, .int 0, .null, .null, .null, .null, .null, .null, .null, .int 0, .int 0, .int 0, .int 0, .int 0, .int 0, .long 0, .null, .int 0, .int 0])), (q_1, .inl (ty 0, 7, .inl (fun _ => 0))), (q_2, .inl (ty 0, 5640, .inl (fun _ => 0))), (q_3, .inl (ty 0, 11280, .inl (fun _ => 0))), (q_4, .inl (ty 2, 2, .inl (fun _ => 0))), (q_5, .inl (ty 0, 28, .inl (fun _ => 0))), (q_6, .inl (ty 3, 128, .inl (wU 13)))]) hp hd hs (by rw [← (wU_s 12 13 112 rfl rfl : upd (wU 12) 12 112 = wU 13)]; rfl) ?_
  clear hp hd hs hP hD hS
  intro hP hD hS
  refine lv_dup hx hb dX10_init_123 rfl ?_
  refine lv_bipush (v := 13) hx hb dX10_init_124 (by decide) ?_
  refine lv_bipush (v := 115) hx hb dX10_init_126 (by decide) ?_
  refine va_bast hx hb hK hP hD hS 6 3 rfl rfl (by simp only [vp_in]; decide) dX10_init_128 (fun H locs hp hd hs => ?_)
  refine kz_re (w2 := [(h0, .inr (10, [.int 0, .ref q_1, .ref q_2, .ref q_3, .ref q_4, .ref q_5, .int 0, .null, .int 0, .int 0, .int 0, .null, .null, .int 0, .int 0, .null, .null, .null, .int 0, .int 0, .int 0, .int 0, .int 0, .int 0, .int 0, .int 0, .null, .int 0, .int 0, .null, .null, .null, .int 0, .null, .null, .null, .null, .int 0, .int 0, .null, .null, .null, .null, .null, .null, .null, .int 0, .int 0, .int 0, .int 0, .int 0, .int 0, .long 0, .null, .int 0, .int 0])), (q_1, .inl (ty 0, 7, .inl (fun _ => 0))), (q_2, .inl (ty 0, 5640, .inl (fun _ => 0))), (q_3, .inl (ty 0, 11280, .inl (fun _ => 0))), (q_4, .inl (ty 2, 2, .inl (fun _ => 0))), (q_5, .inl (ty 0, 28, .inl (fun _ => 0))), (q_6, .inl (ty 3, 128, .inl (wU 14)))]) hp hd hs (by rw [← (wU_s 13 14 115 rfl rfl : upd (wU 13) 13 115 = wU 14)]; rfl) ?_
  clear hp hd hs hP hD hS
  intro hP hD hS
  refine lv_dup hx hb dX10_init_129 rfl ?_
  refine lv_bipush (v := 14) hx hb dX10_init_130 (by decide) ?_
  refine lv_bipush (v := 32) hx hb dX10_init_132 (by decide) ?_
  refine va_bast hx hb hK hP hD hS 6 3 rfl rfl (by simp only [vp_in]; decide) dX10_init_134 (fun H locs hp hd hs => ?_)
  refine kz_re (w2 := [(h0, .inr (10, [.int 0, .ref q_1, .ref q_2, .ref q_3, .ref q_4, .ref q_5, .int 0, .null, .int 0, .int 0, .int 0, .null, .null, .int 0, .int 0, .null, .null, .null, .int 0, .int 0, .int 0, .int 0, .int 0, .int 0, .int 0, .int 0, .null, .int 0, .int 0, .null, .null, .null, .int 0, .null, .null, .null, .null, .int 0, .int 0, .null, .null, .null, .null, .null, .null, .null, .int 0, .int 0, .int 0, .int 0, .int 0, .int 0, .long 0, .null, .int 0, .int 0])), (q_1, .inl (ty 0, 7, .inl (fun _ => 0))), (q_2, .inl (ty 0, 5640, .inl (fun _ => 0))), (q_3, .inl (ty 0, 11280, .inl (fun _ => 0))), (q_4, .inl (ty 2, 2, .inl (fun _ => 0))), (q_5, .inl (ty 0, 28, .inl (fun _ => 0))), (q_6, .inl (ty 3, 128, .inl (wU 15)))]) hp hd hs (by rw [← (wU_s 14 15 32 rfl rfl : upd (wU 14) 14 32 = wU 15)]; rfl) ?_
  clear hp hd hs hP hD hS
  intro hP hD hS
  refine lv_dup hx hb dX10_init_135 rfl ?_
  refine lv_bipush (v := 15) hx hb dX10_init_136 (by decide) ?_
  refine lv_bipush (v := 105) hx hb dX10_init_138 (by decide) ?_
  refine va_bast hx hb hK hP hD hS 6 3 rfl rfl (by simp only [vp_in]; decide) dX10_init_140 (fun H locs hp hd hs => ?_)
  refine kz_re (w2 := [(h0, .inr (10, [.int 0, .ref q_1, .ref q_2, .ref q_3, .ref q_4, .ref q_5, .int 0, .null, .int 0, .int 0, .int 0, .null, .null, .int 0, .int 0, .null, .null, .null, .int 0, .int 0, .int 0, .int 0, .int 0, .int 0, .int 0, .int 0, .null, .int 0, .int 0, .null, .null, .null, .int 0, .null, .null, .null, .null, .int 0, .int 0, .null, .null, .null, .null, .null, .null, .null, .int 0, .int 0, .int 0, .int 0, .int 0, .int 0, .long 0, .null, .int 0, .int 0])), (q_1, .inl (ty 0, 7, .inl (fun _ => 0))), (q_2, .inl (ty 0, 5640, .inl (fun _ => 0))), (q_3, .inl (ty 0, 11280, .inl (fun _ => 0))), (q_4, .inl (ty 2, 2, .inl (fun _ => 0))), (q_5, .inl (ty 0, 28, .inl (fun _ => 0))), (q_6, .inl (ty 3, 128, .inl (wU 16)))]) hp hd hs (by rw [← (wU_s 15 16 105 rfl rfl : upd (wU 15) 15 105 = wU 16)]; rfl) ?_
  clear hp hd hs hP hD hS
  intro hP hD hS
  refine lv_dup hx hb dX10_init_141 rfl ?_
  refine lv_bipush (v := 16) hx hb dX10_init_142 (by decide) ?_
  refine lv_bipush (v := 102) hx hb dX10_init_144 (by decide) ?_
  refine va_bast hx hb hK hP hD hS 6 3 rfl rfl (by simp only [vp_in]; decide) dX10_init_146 (fun H locs hp hd hs => ?_)
  refine kz_re (w2 := [(h0, .inr (10, [.int 0, .ref q_1, .ref q_2, .ref q_3, .ref q_4, .ref q_5, .int 0, .null, .int 0, .int 0, .int 0, .null, .null, .int 0, .int 0, .null, .null, .null, .int 0, .int 0, .int 0, .int 0, .int 0, .int 0, .int 0, .int 0, .null, .int 0, .int 0, .null, .null, .null, .int 0, .null, .null, .null, .null, .int 0, .int 0, .null, .null, .null, .null, .null, .null, .null, .int 0, .int 0, .int 0, .int 0, .int 0, .int 0, .long 0, .null, .int 0, .int 0])), (q_1, .inl (ty 0, 7, .inl (fun _ => 0))), (q_2, .inl (ty 0, 5640, .inl (fun _ => 0))), (q_3, .inl (ty 0, 11280, .inl (fun _ => 0))), (q_4, .inl (ty 2, 2, .inl (fun _ => 0))), (q_5, .inl (ty 0, 28, .inl (fun _ => 0))), (q_6, .inl (ty 3, 128, .inl (wU 17)))]) hp hd hs (by rw [← (wU_s 16 17 102 rfl rfl : upd (wU 16) 16 102 = wU 17)]; rfl) ?_
  clear hp hd hs hP hD hS
  intro hP hD hS
  refine lv_dup hx hb dX10_init_147 rfl ?_
  refine lv_bipush (v := 17) hx hb dX10_init_148 (by decide) ?_
  refine lv_bipush (v := 32) hx hb dX10_init_150 (by decide) ?_
  refine va_bast hx hb hK hP hD hS 6 3 rfl rfl (by simp only [vp_in]; decide) dX10_init_152 (fun H locs hp hd hs => ?_)
  refine kz_re (w2 := [(h0, .inr (10, [.int 0, .ref q_1, .ref q_2, .ref q_3, .ref q_4, .ref q_5, .int 0, .null, .int 0, .int 0, .int 0, .null, .null, .int 0, .int 0, .null, .null, .null, .int 0, .int 0, .int 0, .int 0, .int 0, .int 0, .int 0, .int 0, .null, .int 0, .int 0, .null, .null, .null, .int 0, .null, .null, .null, .null, .int 0, .int 0, .null, .null, .null, .null, .null, .null, .null, .int 0, .int 0, .int 0, .int 0, .int 0, .int 0, .long 0, .null, .int 0, .int 0])), (q_1, .inl (ty 0, 7, .inl (fun _ => 0))), (q_2, .inl (ty 0, 5640, .inl (fun _ => 0))), (q_3, .inl (ty 0, 11280, .inl (fun _ => 0))), (q_4, .inl (ty 2, 2, .inl (fun _ => 0))), (q_5, .inl (ty 0, 28, .inl (fun _ => 0))), (q_6, .inl (ty 3, 128, .inl (wU 18)))]) hp hd hs (by rw [← (wU_s 17 18 32 rfl rfl : upd (wU 17) 17 32 = wU 18)]; rfl) ?_
  clear hp hd hs hP hD hS
  intro hP hD hS
  refine lv_dup hx hb dX10_init_153 rfl ?_
  refine lv_bipush (v := 18) hx hb dX10_init_154 (by decide) ?_
  refine lv_bipush (v := 111) hx hb dX10_init_156 (by decide) ?_
  refine va_bast hx hb hK hP hD hS 6 3 rfl rfl (by simp only [vp_in]; decide) dX10_init_158 (fun H locs hp hd hs => ?_)
  refine kz_re (w2 := [(h0, .inr (10, [.int 0, .ref q_1, .ref q_2, .ref q_3, .ref q_4, .ref q_5, .int 0, .null, .int 0, .int 0, .int 0, .null, .null, .int 0, .int 0, .null, .null, .null, .int 0, .int 0, .int 0, .int 0, .int 0, .int 0, .int 0, .int 0, .null, .int 0, .int 0, .null, .null, .null, .int 0, .null, .null, .null, .null, .int 0, .int 0, .null, .null, .null, .null, .null, .null, .null, .int 0, .int 0, .int 0, .int 0, .int 0, .int 0, .long 0, .null, .int 0, .int 0])), (q_1, .inl (ty 0, 7, .inl (fun _ => 0))), (q_2, .inl (ty 0, 5640, .inl (fun _ => 0))), (q_3, .inl (ty 0, 11280, .inl (fun _ => 0))), (q_4, .inl (ty 2, 2, .inl (fun _ => 0))), (q_5, .inl (ty 0, 28, .inl (fun _ => 0))), (q_6, .inl (ty 3, 128, .inl (wU 19)))]) hp hd hs (by rw [← (wU_s 18 19 111 rfl rfl : upd (wU 18) 18 111 = wU 19)]; rfl) ?_
  clear hp hd hs hP hD hS
  intro hP hD hS
  refine lv_dup hx hb dX10_init_159 rfl ?_
  refine lv_bipush (v := 19) hx hb dX10_init_160 (by decide) ?_
  refine lv_bipush (v := 114) hx hb dX10_init_162 (by decide) ?_
  refine va_bast hx hb hK hP hD hS 6 3 rfl rfl (by simp only [vp_in]; decide) dX10_init_164 (fun H locs hp hd hs => ?_)
  refine kz_re (w2 := [(h0, .inr (10, [.int 0, .ref q_1, .ref q_2, .ref q_3, .ref q_4, .ref q_5, .int 0, .null, .int 0, .int 0, .int 0, .null, .null, .int 0, .int 0, .null, .null, .null, .int 0, .int 0, .int 0, .int 0, .int 0, .int 0, .int 0, .int 0, .null, .int 0, .int 0, .null, .null, .null, .int 0, .null, .null, .null, .null, .int 0, .int 0, .null, .null, .null, .null, .null, .null, .null, .int 0, .int 0, .int 0, .int 0, .int 0, .int 0, .long 0, .null, .int 0, .int 0])), (q_1, .inl (ty 0, 7, .inl (fun _ => 0))), (q_2, .inl (ty 0, 5640, .inl (fun _ => 0))), (q_3, .inl (ty 0, 11280, .inl (fun _ => 0))), (q_4, .inl (ty 2, 2, .inl (fun _ => 0))), (q_5, .inl (ty 0, 28, .inl (fun _ => 0))), (q_6, .inl (ty 3, 128, .inl (wU 20)))]) hp hd hs (by rw [← (wU_s 19 20 114 rfl rfl : upd (wU 19) 19 114 = wU 20)]; rfl) ?_
  clear hp hd hs hP hD hS
  intro hP hD hS
  refine lv_dup hx hb dX10_init_165 rfl ?_
  refine lv_bipush (v := 20) hx hb dX10_init_166 (by decide) ?_
  refine lv_bipush (v := 32) hx hb dX10_init_168 (by decide) ?_
  refine va_bast hx hb hK hP hD hS 6 3 rfl rfl (by simp only [vp_in]; decide) dX10_init_170 (fun H locs hp hd hs => ?_)
  refine kz_re (w2 := [(h0, .inr (10, [.int 0, .ref q_1, .ref q_2, .ref q_3, .ref q_4, .ref q_5, .int 0, .null, .int 0, .int 0, .int 0, .null, .null, .int 0, .int 0, .null, .null, .null, .int 0, .int 0, .int 0, .int 0, .int 0, .int 0, .int 0, .int 0, .null, .int 0, .int 0, .null, .null, .null, .int 0, .null, .null, .null, .null, .int 0, .int 0, .null, .null, .null, .null, .null, .null, .null, .int 0, .int 0, .int 0, .int 0, .int 0, .int 0, .long 0, .null, .int 0, .int 0])), (q_1, .inl (ty 0, 7, .inl (fun _ => 0))), (q_2, .inl (ty 0, 5640, .inl (fun _ => 0))), (q_3, .inl (ty 0, 11280, .inl (fun _ => 0))), (q_4, .inl (ty 2, 2, .inl (fun _ => 0))), (q_5, .inl (ty 0, 28, .inl (fun _ => 0))), (q_6, .inl (ty 3, 128, .inl (wU 21)))]) hp hd hs (by rw [← (wU_s 20 21 32 rfl rfl : upd (wU 20) 20 32 = wU 21)]; rfl) ?_
  clear hp hd hs hP hD hS
  intro hP hD hS
  refine lv_dup hx hb dX10_init_171 rfl ?_
  refine lv_bipush (v := 21) hx hb dX10_init_172 (by decide) ?_
  refine lv_bipush (v := 97) hx hb dX10_init_174 (by decide) ?_
  refine va_bast hx hb hK hP hD hS 6 3 rfl rfl (by simp only [vp_in]; decide) dX10_init_176 (fun H locs hp hd hs => ?_)
  refine kz_re (w2 := [(h0, .inr (10, [.int 0, .ref q_1, .ref q_2, .ref q_3, .ref q_4, .ref q_5, .int 0, .null, .int 0, .int 0, .int 0, .null, .null, .int 0, .int 0, .null, .null, .null, .int 0, .int 0, .int 0, .int 0, .int 0, .int 0, .int 0, .int 0, .null, .int 0, .int 0, .null, .null, .null, .int 0, .null, .null, .null, .null, .int 0, .int 0, .null, .null, .null, .null, .null, .null, .null, .int 0, .int 0, .int 0, .int 0, .int 0, .int 0, .long 0, .null, .int 0, .int 0])), (q_1, .inl (ty 0, 7, .inl (fun _ => 0))), (q_2, .inl (ty 0, 5640, .inl (fun _ => 0))), (q_3, .inl (ty 0, 11280, .inl (fun _ => 0))), (q_4, .inl (ty 2, 2, .inl (fun _ => 0))), (q_5, .inl (ty 0, 28, .inl (fun _ => 0))), (q_6, .inl (ty 3, 128, .inl (wU 22)))]) hp hd hs (by rw [← (wU_s 21 22 97 rfl rfl : upd (wU 21) 21 97 = wU 22)]; rfl) ?_
  clear hp hd hs hP hD hS
  intro hP hD hS
  refine lv_dup hx hb dX10_init_177 rfl ?_
  refine lv_bipush (v := 22) hx hb dX10_init_178 (by decide) ?_
  refine lv_bipush (v := 110) hx hb dX10_init_180 (by decide) ?_
  refine va_bast hx hb hK hP hD hS 6 3 rfl rfl (by simp only [vp_in]; decide) dX10_init_182 (fun H locs hp hd hs => ?_)
  refine kz_re (w2 := [(h0, .inr (10, [.int 0, .ref q_1, .ref q_2, .ref q_3, .ref q_4, .ref q_5, .int 0, .null, .int 0, .int 0, .int 0, .null, .null, .int 0, .int 0, .null, .null, .null, .int 0, .int 0, .int 0, .int 0, .int 0, .int 0, .int 0, .int 0, .null, .int 0, .int 0, .null, .null, .null, .int 0, .null, .null, .null, .null, .int 0, .int 0, .null, .null, .null, .null, .null, .null, .null, .int 0, .int 0, .int 0, .int 0, .int 0, .int 0, .long 0, .null, .int 0, .int 0])), (q_1, .inl (ty 0, 7, .inl (fun _ => 0))), (q_2, .inl (ty 0, 5640, .inl (fun _ => 0))), (q_3, .inl (ty 0, 11280, .inl (fun _ => 0))), (q_4, .inl (ty 2, 2, .inl (fun _ => 0))), (q_5, .inl (ty 0, 28, .inl (fun _ => 0))), (q_6, .inl (ty 3, 128, .inl (wU 23)))]) hp hd hs (by rw [← (wU_s 22 23 110 rfl rfl : upd (wU 22) 22 110 = wU 23)]; rfl) ?_
  clear hp hd hs hP hD hS
  intro hP hD hS
  refine lv_dup hx hb dX10_init_183 rfl ?_
  refine lv_bipush (v := 23) hx hb dX10_init_184 (by decide) ?_
  refine lv_bipush (v := 100) hx hb dX10_init_186 (by decide) ?_
  refine va_bast hx hb hK hP hD hS 6 3 rfl rfl (by simp only [vp_in]; decide) dX10_init_188 (fun H locs hp hd hs => ?_)
  refine kz_re (w2 := [(h0, .inr (10, [.int 0, .ref q_1, .ref q_2, .ref q_3, .ref q_4, .ref q_5, .int 0, .null, .int 0, .int 0, .int 0, .null, .null, .int 0, .int 0, .null, .null, .null, .int 0, .int 0, .int 0, .int 0, .int 0, .int 0, .int 0, .int 0, .null, .int 0, .int 0, .null, .null, .null, .int 0, .null, .null, .null, .null, .int 0, .int 0, .null, .null, .null, .null, .null, .null, .null, .int 0, .int 0, .int 0, .int 0, .int 0, .int 0, .long 0, .null, .int 0, .int 0])), (q_1, .inl (ty 0, 7, .inl (fun _ => 0))), (q_2, .inl (ty 0, 5640, .inl (fun _ => 0))), (q_3, .inl (ty 0, 11280, .inl (fun _ => 0))), (q_4, .inl (ty 2, 2, .inl (fun _ => 0))), (q_5, .inl (ty 0, 28, .inl (fun _ => 0))), (q_6, .inl (ty 3, 128, .inl (wU 24)))]) hp hd hs (by rw [← (wU_s 23 24 100 rfl rfl : upd (wU 23) 23 100 = wU 24)]; rfl) ?_
  clear hp hd hs hP hD hS
  intro hP hD hS
  refine lv_dup hx hb dX10_init_189 rfl ?_
  refine lv_bipush (v := 24) hx hb dX10_init_190 (by decide) ?_
  refine lv_bipush (v := 32) hx hb dX10_init_192 (by decide) ?_
  refine va_bast hx hb hK hP hD hS 6 3 rfl rfl (by simp only [vp_in]; decide) dX10_init_194 (fun H locs hp hd hs => ?_)
  refine kz_re (w2 := [(h0, .inr (10, [.int 0, .ref q_1, .ref q_2, .ref q_3, .ref q_4, .ref q_5, .int 0, .null, .int 0, .int 0, .int 0, .null, .null, .int 0, .int 0, .null, .null, .null, .int 0, .int 0, .int 0, .int 0, .int 0, .int 0, .int 0, .int 0, .null, .int 0, .int 0, .null, .null, .null, .int 0, .null, .null, .null, .null, .int 0, .int 0, .null, .null, .null, .null, .null, .null, .null, .int 0, .int 0, .int 0, .int 0, .int 0, .int 0, .long 0, .null, .int 0, .int 0])), (q_1, .inl (ty 0, 7, .inl (fun _ => 0))), (q_2, .inl (ty 0, 5640, .inl (fun _ => 0))), (q_3, .inl (ty 0, 11280, .inl (fun _ => 0))), (q_4, .inl (ty 2, 2, .inl (fun _ => 0))), (q_5, .inl (ty 0, 28, .inl (fun _ => 0))), (q_6, .inl (ty 3, 128, .inl (wU 25)))]) hp hd hs (by rw [← (wU_s 24 25 32 rfl rfl : upd (wU 24) 24 32 = wU 25)]; rfl) ?_
  clear hp hd hs hP hD hS
  intro hP hD hS
  refine lv_dup hx hb dX10_init_195 rfl ?_
  refine lv_bipush (v := 25) hx hb dX10_init_196 (by decide) ?_
  refine lv_bipush (v := 110) hx hb dX10_init_198 (by decide) ?_
  refine va_bast hx hb hK hP hD hS 6 3 rfl rfl (by simp only [vp_in]; decide) dX10_init_200 (fun H locs hp hd hs => ?_)
  refine kz_re (w2 := [(h0, .inr (10, [.int 0, .ref q_1, .ref q_2, .ref q_3, .ref q_4, .ref q_5, .int 0, .null, .int 0, .int 0, .int 0, .null, .null, .int 0, .int 0, .null, .null, .null, .int 0, .int 0, .int 0, .int 0, .int 0, .int 0, .int 0, .int 0, .null, .int 0, .int 0, .null, .null, .null, .int 0, .null, .null, .null, .null, .int 0, .int 0, .null, .null, .null, .null, .null, .null, .null, .int 0, .int 0, .int 0, .int 0, .int 0, .int 0, .long 0, .null, .int 0, .int 0])), (q_1, .inl (ty 0, 7, .inl (fun _ => 0))), (q_2, .inl (ty 0, 5640, .inl (fun _ => 0))), (q_3, .inl (ty 0, 11280, .inl (fun _ => 0))), (q_4, .inl (ty 2, 2, .inl (fun _ => 0))), (q_5, .inl (ty 0, 28, .inl (fun _ => 0))), (q_6, .inl (ty 3, 128, .inl (wU 26)))]) hp hd hs (by rw [← (wU_s 25 26 110 rfl rfl : upd (wU 25) 25 110 = wU 26)]; rfl) ?_
  clear hp hd hs hP hD hS
  intro hP hD hS
  refine lv_dup hx hb dX10_init_201 rfl ?_
  refine lv_bipush (v := 26) hx hb dX10_init_202 (by decide) ?_
  refine lv_bipush (v := 111) hx hb dX10_init_204 (by decide) ?_
  refine va_bast hx hb hK hP hD hS 6 3 rfl rfl (by simp only [vp_in]; decide) dX10_init_206 (fun H locs hp hd hs => ?_)
  refine kz_re (w2 := [(h0, .inr (10, [.int 0, .ref q_1, .ref q_2, .ref q_3, .ref q_4, .ref q_5, .int 0, .null, .int 0, .int 0, .int 0, .null, .null, .int 0, .int 0, .null, .null, .null, .int 0, .int 0, .int 0, .int 0, .int 0, .int 0, .int 0, .int 0, .null, .int 0, .int 0, .null, .null, .null, .int 0, .null, .null, .null, .null, .int 0, .int 0, .null, .null, .null, .null, .null, .null, .null, .int 0, .int 0, .int 0, .int 0, .int 0, .int 0, .long 0, .null, .int 0, .int 0])), (q_1, .inl (ty 0, 7, .inl (fun _ => 0))), (q_2, .inl (ty 0, 5640, .inl (fun _ => 0))), (q_3, .inl (ty 0, 11280, .inl (fun _ => 0))), (q_4, .inl (ty 2, 2, .inl (fun _ => 0))), (q_5, .inl (ty 0, 28, .inl (fun _ => 0))), (q_6, .inl (ty 3, 128, .inl (wU 27)))]) hp hd hs (by rw [← (wU_s 26 27 111 rfl rfl : upd (wU 26) 26 111 = wU 27)]; rfl) ?_
  clear hp hd hs hP hD hS
  intro hP hD hS
  refine lv_dup hx hb dX10_init_207 rfl ?_
  refine lv_bipush (v := 27) hx hb dX10_init_208 (by decide) ?_
  refine lv_bipush (v := 116) hx hb dX10_init_210 (by decide) ?_
  refine va_bast hx hb hK hP hD hS 6 3 rfl rfl (by simp only [vp_in]; decide) dX10_init_212 (fun H locs hp hd hs => ?_)
  refine kz_re (w2 := [(h0, .inr (10, [.int 0, .ref q_1, .ref q_2, .ref q_3, .ref q_4, .ref q_5, .int 0, .null, .int 0, .int 0, .int 0, .null, .null, .int 0, .int 0, .null, .null, .null, .int 0, .int 0, .int 0, .int 0, .int 0, .int 0, .int 0, .int 0, .null, .int 0, .int 0, .null, .null, .null, .int 0, .null, .null, .null, .null, .int 0, .int 0, .null, .null, .null, .null, .null, .null, .null, .int 0, .int 0, .int 0, .int 0, .int 0, .int 0, .long 0, .null, .int 0, .int 0])), (q_1, .inl (ty 0, 7, .inl (fun _ => 0))), (q_2, .inl (ty 0, 5640, .inl (fun _ => 0))), (q_3, .inl (ty 0, 11280, .inl (fun _ => 0))), (q_4, .inl (ty 2, 2, .inl (fun _ => 0))), (q_5, .inl (ty 0, 28, .inl (fun _ => 0))), (q_6, .inl (ty 3, 128, .inl (wU 28)))]) hp hd hs (by rw [← (wU_s 27 28 116 rfl rfl : upd (wU 27) 27 116 = wU 28)]; rfl) ?_
  clear hp hd hs hP hD hS
  intro hP hD hS
  refine lv_dup hx hb dX10_init_213 rfl ?_
  refine lv_bipush (v := 28) hx hb dX10_init_214 (by decide) ?_
  refine lv_bipush (v := 32) hx hb dX10_init_216 (by decide) ?_
  refine va_bast hx hb hK hP hD hS 6 3 rfl rfl (by simp only [vp_in]; decide) dX10_init_218 (fun H locs hp hd hs => ?_)
  refine kz_re (w2 := [(h0, .inr (10, [.int 0, .ref q_1, .ref q_2, .ref q_3, .ref q_4, .ref q_5, .int 0, .null, .int 0, .int 0, .int 0, .null, .null, .int 0, .int 0, .null, .null, .null, .int 0, .int 0, .int 0, .int 0, .int 0, .int 0, .int 0, .int 0, .null, .int 0, .int 0, .null, .null, .null, .int 0, .null, .null, .null, .null, .int 0, .int 0, .null, .null, .null, .null, .null, .null, .null, .int 0, .int 0, .int 0, .int 0, .int 0, .int 0, .long 0, .null, .int 0, .int 0])), (q_1, .inl (ty 0, 7, .inl (fun _ => 0))), (q_2, .inl (ty 0, 5640, .inl (fun _ => 0))), (q_3, .inl (ty 0, 11280, .inl (fun _ => 0))), (q_4, .inl (ty 2, 2, .inl (fun _ => 0))), (q_5, .inl (ty 0, 28, .inl (fun _ => 0))), (q_6, .inl (ty 3, 128, .inl (wU 29)))]) hp hd hs (by rw [← (wU_s 28 29 32 rfl rfl : upd (wU 28) 28 32 = wU 29)]; rfl) ?_
  clear hp hd hs hP hD hS
  intro hP hD hS
  refine lv_dup hx hb dX10_init_219 rfl ?_
  refine lv_bipush (v := 29) hx hb dX10_init_220 (by decide) ?_
  refine lv_bipush (v := 103) hx hb dX10_init_222 (by decide) ?_
  refine va_bast hx hb hK hP hD hS 6 3 rfl rfl (by simp only [vp_in]; decide) dX10_init_224 (fun H locs hp hd hs => ?_)
  refine kz_re (w2 := [(h0, .inr (10, [.int 0, .ref q_1, .ref q_2, .ref q_3, .ref q_4, .ref q_5, .int 0, .null, .int 0, .int 0, .int 0, .null, .null, .int 0, .int 0, .null, .null, .null, .int 0, .int 0, .int 0, .int 0, .int 0, .int 0, .int 0, .int 0, .null, .int 0, .int 0, .null, .null, .null, .int 0, .null, .null, .null, .null, .int 0, .int 0, .null, .null, .null, .null, .null, .null, .null, .int 0, .int 0, .int 0, .int 0, .int 0, .int 0, .long 0, .null, .int 0, .int 0])), (q_1, .inl (ty 0, 7, .inl (fun _ => 0))), (q_2, .inl (ty 0, 5640, .inl (fun _ => 0))), (q_3, .inl (ty 0, 11280, .inl (fun _ => 0))), (q_4, .inl (ty 2, 2, .inl (fun _ => 0))), (q_5, .inl (ty 0, 28, .inl (fun _ => 0))), (q_6, .inl (ty 3, 128, .inl (wU 30)))]) hp hd hs (by rw [← (wU_s 29 30 103 rfl rfl : upd (wU 29) 29 103 = wU 30)]; rfl) ?_
  clear hp hd hs hP hD hS
  intro hP hD hS
  refine lv_dup hx hb dX10_init_225 rfl ?_
  refine lv_bipush (v := 30) hx hb dX10_init_226 (by decide) ?_
  refine lv_bipush (v := 114) hx hb dX10_init_228 (by decide) ?_
  refine va_bast hx hb hK hP hD hS 6 3 rfl rfl (by simp only [vp_in]; decide) dX10_init_230 (fun H locs hp hd hs => ?_)
  refine kz_re (w2 := [(h0, .inr (10, [.int 0, .ref q_1, .ref q_2, .ref q_3, .ref q_4, .ref q_5, .int 0, .null, .int 0, .int 0, .int 0, .null, .null, .int 0, .int 0, .null, .null, .null, .int 0, .int 0, .int 0, .int 0, .int 0, .int 0, .int 0, .int 0, .null, .int 0, .int 0, .null, .null, .null, .int 0, .null, .null, .null, .null, .int 0, .int 0, .null, .null, .null, .null, .null, .null, .null, .int 0, .int 0, .int 0, .int 0, .int 0, .int 0, .long 0, .null, .int 0, .int 0])), (q_1, .inl (ty 0, 7, .inl (fun _ => 0))), (q_2, .inl (ty 0, 5640, .inl (fun _ => 0))), (q_3, .inl (ty 0, 11280, .inl (fun _ => 0))), (q_4, .inl (ty 2, 2, .inl (fun _ => 0))), (q_5, .inl (ty 0, 28, .inl (fun _ => 0))), (q_6, .inl (ty 3, 128, .inl (wU 31)))]) hp hd hs (by rw [← (wU_s 30 31 114 rfl rfl : upd (wU 30) 30 114 = wU 31)]; rfl) ?_
  clear hp hd hs hP hD hS
  intro hP hD hS
  refine lv_dup hx hb dX10_init_231 rfl ?_
  refine lv_bipush (v := 31) hx hb dX10_init_232 (by decide) ?_
  refine lv_bipush (v := 105) hx hb dX10_init_234 (by decide) ?_
  refine va_bast hx hb hK hP hD hS 6 3 rfl rfl (by simp only [vp_in]; decide) dX10_init_236 (fun H locs hp hd hs => ?_)
  refine kz_re (w2 := [(h0, .inr (10, [.int 0, .ref q_1, .ref q_2, .ref q_3, .ref q_4, .ref q_5, .int 0, .null, .int 0, .int 0, .int 0, .null, .null, .int 0, .int 0, .null, .null, .null, .int 0, .int 0, .int 0, .int 0, .int 0, .int 0, .int 0, .int 0, .null, .int 0, .int 0, .null, .null, .null, .int 0, .null, .null, .null, .null, .int 0, .int 0, .null, .null, .null, .null, .null, .null, .null, .int 0, .int 0, .int 0, .int 0, .int 0, .int 0, .long 0, .null, .int 0, .int 0])), (q_1, .inl (ty 0, 7, .inl (fun _ => 0))), (q_2, .inl (ty 0, 5640, .inl (fun _ => 0))), (q_3, .inl (ty 0, 11280, .inl (fun _ => 0))), (q_4, .inl (ty 2, 2, .inl (fun _ => 0))), (q_5, .inl (ty 0, 28, .inl (fun _ => 0))), (q_6, .inl (ty 3, 128, .inl (wU 32)))]) hp hd hs (by rw [← (wU_s 31 32 105 rfl rfl : upd (wU 31) 31 105 = wU 32)]; rfl) ?_
  clear hp hd hs hP hD hS
  intro hP hD hS
  refine lv_dup hx hb dX10_init_237 rfl ?_
  refine lv_bipush (v := 32) hx hb dX10_init_238 (by decide) ?_
  refine lv_bipush (v := 112) hx hb dX10_init_240 (by decide) ?_
  refine va_bast hx hb hK hP hD hS 6 3 rfl rfl (by simp only [vp_in]; decide) dX10_init_242 (fun H locs hp hd hs => ?_)
  refine kz_re (w2 := [(h0, .inr (10, [.int 0, .ref q_1, .ref q_2, .ref q_3, .ref q_4, .ref q_5, .int 0, .null, .int 0, .int 0, .int 0, .null, .null, .int 0, .int 0, .null, .null, .null, .int 0, .int 0, .int 0, .int 0, .int 0, .int 0, .int 0, .int 0, .null, .int 0, .int 0, .null, .null, .null, .int 0, .null, .null, .null, .null, .int 0, .int 0, .null, .null, .null, .null, .null, .null, .null, .int 0, .int 0, .int 0, .int 0, .int 0, .int 0, .long 0, .null, .int 0, .int 0])), (q_1, .inl (ty 0, 7, .inl (fun _ => 0))), (q_2, .inl (ty 0, 5640, .inl (fun _ => 0))), (q_3, .inl (ty 0, 11280, .inl (fun _ => 0))), (q_4, .inl (ty 2, 2, .inl (fun _ => 0))), (q_5, .inl (ty 0, 28, .inl (fun _ => 0))), (q_6, .inl (ty 3, 128, .inl (wU 33)))]) hp hd hs (by rw [← (wU_s 32 33 112 rfl rfl : upd (wU 32) 32 112 = wU 33)]; rfl) ?_
  clear hp hd hs hP hD hS
  intro hP hD hS
  refine lv_dup hx hb dX10_init_243 rfl ?_
  refine lv_bipush (v := 33) hx hb dX10_init_244 (by decide) ?_
  refine lv_bipush (v := 32) hx hb dX10_init_246 (by decide) ?_
  refine va_bast hx hb hK hP hD hS 6 3 rfl rfl (by simp only [vp_in]; decide) dX10_init_248 (fun H locs hp hd hs => ?_)
  refine kz_re (w2 := [(h0, .inr (10, [.int 0, .ref q_1, .ref q_2, .ref q_3, .ref q_4, .ref q_5, .int 0, .null, .int 0, .int 0, .int 0, .null, .null, .int 0, .int 0, .null, .null, .null, .int 0, .int 0, .int 0, .int 0, .int 0, .int 0, .int 0, .int 0, .null, .int 0, .int 0, .null, .null, .null, .int 0, .null, .null, .null, .null, .int 0, .int 0, .null, .null, .null, .null, .null, .null, .null, .int 0, .int 0, .int 0, .int 0, .int 0, .int 0, .long 0, .null, .int 0, .int 0])), (q_1, .inl (ty 0, 7, .inl (fun _ => 0))), (q_2, .inl (ty 0, 5640, .inl (fun _ => 0))), (q_3, .inl (ty 0, 11280, .inl (fun _ => 0))), (q_4, .inl (ty 2, 2, .inl (fun _ => 0))), (q_5, .inl (ty 0, 28, .inl (fun _ => 0))), (q_6, .inl (ty 3, 128, .inl (wU 34)))]) hp hd hs (by rw [← (wU_s 33 34 32 rfl rfl : upd (wU 33) 33 32 = wU 34)]; rfl) ?_
  clear hp hd hs hP hD hS
  intro hP hD hS
  refine lv_dup hx hb dX10_init_249 rfl ?_
  refine lv_bipush (v := 34) hx hb dX10_init_250 (by decide) ?_
  refine lv_bipush (v := 116) hx hb dX10_init_252 (by decide) ?_
  refine va_bast hx hb hK hP hD hS 6 3 rfl rfl (by simp only [vp_in]; decide) dX10_init_254 (fun H locs hp hd hs => ?_)
  refine kz_re (w2 := [(h0, .inr (10, [.int 0, .ref q_1, .ref q_2, .ref q_3, .ref q_4, .ref q_5, .int 0, .null, .int 0, .int 0, .int 0, .null, .null, .int 0, .int 0, .null, .null, .null, .int 0, .int 0, .int 0, .int 0, .int 0, .int 0, .int 0, .int 0, .null, .int 0, .int 0, .null, .null, .null, .int 0, .null, .null, .null, .null, .int 0, .int 0, .null, .null, .null, .null, .null, .null, .null, .int 0, .int 0, .int 0, .int 0, .int 0, .int 0, .long 0, .null, .int 0, .int 0])), (q_1, .inl (ty 0, 7, .inl (fun _ => 0))), (q_2, .inl (ty 0, 5640, .inl (fun _ => 0))), (q_3, .inl (ty 0, 11280, .inl (fun _ => 0))), (q_4, .inl (ty 2, 2, .inl (fun _ => 0))), (q_5, .inl (ty 0, 28, .inl (fun _ => 0))), (q_6, .inl (ty 3, 128, .inl (wU 35)))]) hp hd hs (by rw [← (wU_s 34 35 116 rfl rfl : upd (wU 34) 34 116 = wU 35)]; rfl) ?_
  clear hp hd hs hP hD hS
  intro hP hD hS
  refine lv_dup hx hb dX10_init_255 rfl ?_
  refine lv_bipush (v := 35) hx hb dX10_init_256 (by decide) ?_
  refine lv_bipush (v := 111) hx hb dX10_init_258 (by decide) ?_
  refine va_bast hx hb hK hP hD hS 6 3 rfl rfl (by simp only [vp_in]; decide) dX10_init_260 (fun H locs hp hd hs => ?_)
  refine kz_re (w2 := [(h0, .inr (10, [.int 0, .ref q_1, .ref q_2, .ref q_3, .ref q_4, .ref q_5, .int 0, .null, .int 0, .int 0, .int 0, .null, .null, .int 0, .int 0, .null, .null, .null, .int 0, .int 0, .int 0, .int 0, .int 0, .int 0, .int 0, .int 0, .null, .int 0, .int 0, .null, .null, .null, .int 0, .null, .null, .null, .null, .int 0, .int 0, .null, .null, .null, .null, .null, .null, .null, .int 0, .int 0, .int 0, .int 0, .int 0, .int 0, .long 0, .null, .int 0, .int 0])), (q_1, .inl (ty 0, 7, .inl (fun _ => 0))), (q_2, .inl (ty 0, 5640, .inl (fun _ => 0))), (q_3, .inl (ty 0, 11280, .inl (fun _ => 0))), (q_4, .inl (ty 2, 2, .inl (fun _ => 0))), (q_5, .inl (ty 0, 28, .inl (fun _ => 0))), (q_6, .inl (ty 3, 128, .inl (wU 36)))]) hp hd hs (by rw [← (wU_s 35 36 111 rfl rfl : upd (wU 35) 35 111 = wU 36)]; rfl) ?_
  clear hp hd hs hP hD hS
  intro hP hD hS
  refine lv_dup hx hb dX10_init_261 rfl ?_
  refine lv_bipush (v := 36) hx hb dX10_init_262 (by decide) ?_
  refine lv_bipush (v := 112) hx hb dX10_init_264 (by decide) ?_
  refine va_bast hx hb hK hP hD hS 6 3 rfl rfl (by simp only [vp_in]; decide) dX10_init_266 (fun H locs hp hd hs => ?_)
  refine kz_re (w2 := [(h0, .inr (10, [.int 0, .ref q_1, .ref q_2, .ref q_3, .ref q_4, .ref q_5, .int 0, .null, .int 0, .int 0, .int 0, .null, .null, .int 0, .int 0, .null, .null, .null, .int 0, .int 0, .int 0, .int 0, .int 0, .int 0, .int 0, .int 0, .null, .int 0, .int 0, .null, .null, .null, .int 0, .null, .null, .null, .null, .int 0, .int 0, .null, .null, .null, .null, .null, .null, .null, .int 0, .int 0, .int 0, .int 0, .int 0, .int 0, .long 0, .null, .int 0, .int 0])), (q_1, .inl (ty 0, 7, .inl (fun _ => 0))), (q_2, .inl (ty 0, 5640, .inl (fun _ => 0))), (q_3, .inl (ty 0, 11280, .inl (fun _ => 0))), (q_4, .inl (ty 2, 2, .inl (fun _ => 0))), (q_5, .inl (ty 0, 28, .inl (fun _ => 0))), (q_6, .inl (ty 3, 128, .inl (wU 37)))]) hp hd hs (by rw [← (wU_s 36 37 112 rfl rfl : upd (wU 36) 36 112 = wU 37)]; rfl) ?_
  clear hp hd hs hP hD hS
  intro hP hD hS
  refine lv_dup hx hb dX10_init_267 rfl ?_
  refine lv_bipush (v := 37) hx hb dX10_init_268 (by decide) ?_
  refine lv_bipush (v := 32) hx hb dX10_init_270 (by decide) ?_
  refine va_bast hx hb hK hP hD hS 6 3 rfl rfl (by simp only [vp_in]; decide) dX10_init_272 (fun H locs hp hd hs => ?_)
  refine kz_re (w2 := [(h0, .inr (10, [.int 0, .ref q_1, .ref q_2, .ref q_3, .ref q_4, .ref q_5, .int 0, .null, .int 0, .int 0, .int 0, .null, .null, .int 0, .int 0, .null, .null, .null, .int 0, .int 0, .int 0, .int 0, .int 0, .int 0, .int 0, .int 0, .null, .int 0, .int 0, .null, .null, .null, .int 0, .null, .null, .null, .null, .int 0, .int 0, .null, .null, .null, .null, .null, .null, .null, .int 0, .int 0, .int 0, .int 0, .int 0, .int 0, .long 0, .null, .int 0, .int 0])), (q_1, .inl (ty 0, 7, .inl (fun _ => 0))), (q_2, .inl (ty 0, 5640, .inl (fun _ => 0))), (q_3, .inl (ty 0, 11280, .inl (fun _ => 0))), (q_4, .inl (ty 2, 2, .inl (fun _ => 0))), (q_5, .inl (ty 0, 28, .inl (fun _ => 0))), (q_6, .inl (ty 3, 128, .inl (wU 38)))]) hp hd hs (by rw [← (wU_s 37 38 32 rfl rfl : upd (wU 37) 37 32 = wU 38)]; rfl) ?_
  clear hp hd hs hP hD hS
  intro hP hD hS
  refine lv_dup hx hb dX10_init_273 rfl ?_
  refine lv_bipush (v := 38) hx hb dX10_init_274 (by decide) ?_
  refine lv_bipush (v := 110) hx hb dX10_init_276 (by decide) ?_
  refine va_bast hx hb hK hP hD hS 6 3 rfl rfl (by simp only [vp_in]; decide) dX10_init_278 (fun H locs hp hd hs => ?_)
  refine kz_re (w2 := [(h0, .inr (10, [.int 0, .ref q_1, .ref q_2, .ref q_3, .ref q_4, .ref q_5, .int 0, .null, .int 0, .int 0, .int 0, .null, .null, .int 0, .int 0, .null, .null, .null, .int 0, .int 0, .int 0, .int 0, .int 0, .int 0, .int 0, .int 0, .null, .int 0, .int 0, .null, .null, .null, .int 0, .null, .null, .null, .null, .int 0, .int 0, .null, .null, .null, .null, .null, .null, .null, .int 0, .int 0, .int 0, .int 0, .int 0, .int 0, .long 0, .null, .int 0, .int 0])), (q_1, .inl (ty 0, 7, .inl (fun _ => 0))), (q_2, .inl (ty 0, 5640, .inl (fun _ => 0))), (q_3, .inl (ty 0, 11280, .inl (fun _ => 0))), (q_4, .inl (ty 2, 2, .inl (fun _ => 0))), (q_5, .inl (ty 0, 28, .inl (fun _ => 0))), (q_6, .inl (ty 3, 128, .inl (wU 39)))]) hp hd hs (by rw [← (wU_s 38 39 110 rfl rfl : upd (wU 38) 38 110 = wU 39)]; rfl) ?_
  clear hp hd hs hP hD hS
  intro hP hD hS
  refine lv_dup hx hb dX10_init_279 rfl ?_
  refine lv_bipush (v := 39) hx hb dX10_init_280 (by decide) ?_
  refine lv_bipush (v := 101) hx hb dX10_init_282 (by decide) ?_
  refine va_bast hx hb hK hP hD hS 6 3 rfl rfl (by simp only [vp_in]; decide) dX10_init_284 (fun H locs hp hd hs => ?_)
  refine kz_re (w2 := [(h0, .inr (10, [.int 0, .ref q_1, .ref q_2, .ref q_3, .ref q_4, .ref q_5, .int 0, .null, .int 0, .int 0, .int 0, .null, .null, .int 0, .int 0, .null, .null, .null, .int 0, .int 0, .int 0, .int 0, .int 0, .int 0, .int 0, .int 0, .null, .int 0, .int 0, .null, .null, .null, .int 0, .null, .null, .null, .null, .int 0, .int 0, .null, .null, .null, .null, .null, .null, .null, .int 0, .int 0, .int 0, .int 0, .int 0, .int 0, .long 0, .null, .int 0, .int 0])), (q_1, .inl (ty 0, 7, .inl (fun _ => 0))), (q_2, .inl (ty 0, 5640, .inl (fun _ => 0))), (q_3, .inl (ty 0, 11280, .inl (fun _ => 0))), (q_4, .inl (ty 2, 2, .inl (fun _ => 0))), (q_5, .inl (ty 0, 28, .inl (fun _ => 0))), (q_6, .inl (ty 3, 128, .inl (wU 40)))]) hp hd hs (by rw [← (wU_s 39 40 101 rfl rfl : upd (wU 39) 39 101 = wU 40)]; rfl) ?_
  clear hp hd hs hP hD hS
  intro hP hD hS
  refine lv_dup hx hb dX10_init_285 rfl ?_
  refine lv_bipush (v := 40) hx hb dX10_init_286 (by decide) ?_
  refine lv_bipush (v := 120) hx hb dX10_init_288 (by decide) ?_
  refine va_bast hx hb hK hP hD hS 6 3 rfl rfl (by simp only [vp_in]; decide) dX10_init_290 (fun H locs hp hd hs => ?_)
  refine kz_re (w2 := [(h0, .inr (10, [.int 0, .ref q_1, .ref q_2, .ref q_3, .ref q_4, .ref q_5, .int 0, .null, .int 0, .int 0, .int 0, .null, .null, .int 0, .int 0, .null, .null, .null, .int 0, .int 0, .int 0, .int 0, .int 0, .int 0, .int 0, .int 0, .null, .int 0, .int 0, .null, .null, .null, .int 0, .null, .null, .null, .null, .int 0, .int 0, .null, .null, .null, .null, .null, .null, .null, .int 0, .int 0, .int 0, .int 0, .int 0, .int 0, .long 0, .null, .int 0, .int 0])), (q_1, .inl (ty 0, 7, .inl (fun _ => 0))), (q_2, .inl (ty 0, 5640, .inl (fun _ => 0))), (q_3, .inl (ty 0, 11280, .inl (fun _ => 0))), (q_4, .inl (ty 2, 2, .inl (fun _ => 0))), (q_5, .inl (ty 0, 28, .inl (fun _ => 0))), (q_6, .inl (ty 3, 128, .inl (wU 41)))]) hp hd hs (by rw [← (wU_s 40 41 120 rfl rfl : upd (wU 40) 40 120 = wU 41)]; rfl) ?_
  clear hp hd hs hP hD hS
  intro hP hD hS
  refine lv_dup hx hb dX10_init_291 rfl ?_
  refine lv_bipush (v := 41) hx hb dX10_init_292 (by decide) ?_
  refine lv_bipush (v := 116) hx hb dX10_init_294 (by decide) ?_
  refine va_bast hx hb hK hP hD hS 6 3 rfl rfl (by simp only [vp_in]; decide) dX10_init_296 (fun H locs hp hd hs => ?_)
  refine kz_re (w2 := [(h0, .inr (10, [.int 0, .ref q_1, .ref q_2, .ref q_3, .ref q_4, .ref q_5, .int 0, .null, .int 0, .int 0, .int 0, .null, .null, .int 0, .int 0, .null, .null, .null, .int 0, .int 0, .int 0, .int 0, .int 0, .int 0, .int 0, .int 0, .null, .int 0, .int 0, .null, .null, .null, .int 0, .null, .null, .null, .null, .int 0, .int 0, .null, .null, .null, .null, .null, .null, .null, .int 0, .int 0, .int 0, .int 0, .int 0, .int 0, .long 0, .null, .int 0, .int 0])), (q_1, .inl (ty 0, 7, .inl (fun _ => 0))), (q_2, .inl (ty 0, 5640, .inl (fun _ => 0))), (q_3, .inl (ty 0, 11280, .inl (fun _ => 0))), (q_4, .inl (ty 2, 2, .inl (fun _ => 0))), (q_5, .inl (ty 0, 28, .inl (fun _ => 0))), (q_6, .inl (ty 3, 128, .inl (wU 42)))]) hp hd hs (by rw [← (wU_s 41 42 116 rfl rfl : upd (wU 41) 41 116 = wU 42)]; rfl) ?_
  clear hp hd hs hP hD hS
  intro hP hD hS
  refine lv_dup hx hb dX10_init_297 rfl ?_
  refine lv_bipush (v := 42) hx hb dX10_init_298 (by decide) ?_
  refine lv_bipush (v := 32) hx hb dX10_init_300 (by decide) ?_
  refine va_bast hx hb hK hP hD hS 6 3 rfl rfl (by simp only [vp_in]; decide) dX10_init_302 (fun H locs hp hd hs => ?_)
  refine kz_re (w2 := [(h0, .inr (10, [.int 0, .ref q_1, .ref q_2, .ref q_3, .ref q_4, .ref q_5, .int 0, .null, .int 0, .int 0, .int 0, .null, .null, .int 0, .int 0, .null, .null, .null, .int 0, .int 0, .int 0, .int 0, .int 0, .int 0, .int 0, .int 0, .null, .int 0, .int 0, .null, .null, .null, .int 0, .null, .null, .null, .null, .int 0, .int 0, .null, .null, .null, .null, .null, .null, .null, .int 0, .int 0, .int 0, .int 0, .int 0, .int 0, .long 0, .null, .int 0, .int 0])), (q_1, .inl (ty 0, 7, .inl (fun _ => 0))), (q_2, .inl (ty 0, 5640, .inl (fun _ => 0))), (q_3, .inl (ty 0, 11280, .inl (fun _ => 0))), (q_4, .inl (ty 2, 2, .inl (fun _ => 0))), (q_5, .inl (ty 0, 28, .inl (fun _ => 0))), (q_6, .inl (ty 3, 128, .inl (wU 43)))]) hp hd hs (by rw [← (wU_s 42 43 32 rfl rfl : upd (wU 42) 42 32 = wU 43)]; rfl) ?_
  clear hp hd hs hP hD hS
  intro hP hD hS
  refine lv_dup hx hb dX10_init_303 rfl ?_
  refine lv_bipush (v := 43) hx hb dX10_init_304 (by decide) ?_
  refine lv_bipush (v := 102) hx hb dX10_init_306 (by decide) ?_
  refine va_bast hx hb hK hP hD hS 6 3 rfl rfl (by simp only [vp_in]; decide) dX10_init_308 (fun H locs hp hd hs => ?_)
  refine kz_re (w2 := [(h0, .inr (10, [.int 0, .ref q_1, .ref q_2, .ref q_3, .ref q_4, .ref q_5, .int 0, .null, .int 0, .int 0, .int 0, .null, .null, .int 0, .int 0, .null, .null, .null, .int 0, .int 0, .int 0, .int 0, .int 0, .int 0, .int 0, .int 0, .null, .int 0, .int 0, .null, .null, .null, .int 0, .null, .null, .null, .null, .int 0, .int 0, .null, .null, .null, .null, .null, .null, .null, .int 0, .int 0, .int 0, .int 0, .int 0, .int 0, .long 0, .null, .int 0, .int 0])), (q_1, .inl (ty 0, 7, .inl (fun _ => 0))), (q_2, .inl (ty 0, 5640, .inl (fun _ => 0))), (q_3, .inl (ty 0, 11280, .inl (fun _ => 0))), (q_4, .inl (ty 2, 2, .inl (fun _ => 0))), (q_5, .inl (ty 0, 28, .inl (fun _ => 0))), (q_6, .inl (ty 3, 128, .inl (wU 44)))]) hp hd hs (by rw [← (wU_s 43 44 102 rfl rfl : upd (wU 43) 43 102 = wU 44)]; rfl) ?_
  clear hp hd hs hP hD hS
  intro hP hD hS
  refine lv_dup hx hb dX10_init_309 rfl ?_
  refine lv_bipush (v := 44) hx hb dX10_init_310 (by decide) ?_
  refine lv_bipush (v := 108) hx hb dX10_init_312 (by decide) ?_
  refine va_bast hx hb hK hP hD hS 6 3 rfl rfl (by simp only [vp_in]; decide) dX10_init_314 (fun H locs hp hd hs => ?_)
  refine kz_re (w2 := [(h0, .inr (10, [.int 0, .ref q_1, .ref q_2, .ref q_3, .ref q_4, .ref q_5, .int 0, .null, .int 0, .int 0, .int 0, .null, .null, .int 0, .int 0, .null, .null, .null, .int 0, .int 0, .int 0, .int 0, .int 0, .int 0, .int 0, .int 0, .null, .int 0, .int 0, .null, .null, .null, .int 0, .null, .null, .null, .null, .int 0, .int 0, .null, .null, .null, .null, .null, .null, .null, .int 0, .int 0, .int 0, .int 0, .int 0, .int 0, .long 0, .null, .int 0, .int 0])), (q_1, .inl (ty 0, 7, .inl (fun _ => 0))), (q_2, .inl (ty 0, 5640, .inl (fun _ => 0))), (q_3, .inl (ty 0, 11280, .inl (fun _ => 0))), (q_4, .inl (ty 2, 2, .inl (fun _ => 0))), (q_5, .inl (ty 0, 28, .inl (fun _ => 0))), (q_6, .inl (ty 3, 128, .inl (wU 45)))]) hp hd hs (by rw [← (wU_s 44 45 108 rfl rfl : upd (wU 44) 44 108 = wU 45)]; rfl) ?_
  clear hp hd hs hP hD hS
  intro hP hD hS
  refine lv_dup hx hb dX10_init_315 rfl ?_
  refine lv_bipush (v := 45) hx hb dX10_init_316 (by decide) ?_
  refine lv_bipush (v := 111) hx hb dX10_init_318 (by decide) ?_
  refine va_bast hx hb hK hP hD hS 6 3 rfl rfl (by simp only [vp_in]; decide) dX10_init_320 (fun H locs hp hd hs => ?_)
  refine kz_re (w2 := [(h0, .inr (10, [.int 0, .ref q_1, .ref q_2, .ref q_3, .ref q_4, .ref q_5, .int 0, .null, .int 0, .int 0, .int 0, .null, .null, .int 0, .int 0, .null, .null, .null, .int 0, .int 0, .int 0, .int 0, .int 0, .int 0, .int 0, .int 0, .null, .int 0, .int 0, .null, .null, .null, .int 0, .null, .null, .null, .null, .int 0, .int 0, .null, .null, .null, .null, .null, .null, .null, .int 0, .int 0, .int 0, .int 0, .int 0, .int 0, .long 0, .null, .int 0, .int 0])), (q_1, .inl (ty 0, 7, .inl (fun _ => 0))), (q_2, .inl (ty 0, 5640, .inl (fun _ => 0))), (q_3, .inl (ty 0, 11280, .inl (fun _ => 0))), (q_4, .inl (ty 2, 2, .inl (fun _ => 0))), (q_5, .inl (ty 0, 28, .inl (fun _ => 0))), (q_6, .inl (ty 3, 128, .inl (wU 46)))]) hp hd hs (by rw [← (wU_s 45 46 111 rfl rfl : upd (wU 45) 45 111 = wU 46)]; rfl) ?_
  clear hp hd hs hP hD hS
  intro hP hD hS
  refine lv_dup hx hb dX10_init_321 rfl ?_
  refine lv_bipush (v := 46) hx hb dX10_init_322 (by decide) ?_
  refine lv_bipush (v := 111) hx hb dX10_init_324 (by decide) ?_
  refine va_bast hx hb hK hP hD hS 6 3 rfl rfl (by simp only [vp_in]; decide) dX10_init_326 (fun H locs hp hd hs => ?_)
  refine kz_re (w2 := [(h0, .inr (10, [.int 0, .ref q_1, .ref q_2, .ref q_3, .ref q_4, .ref q_5, .int 0, .null, .int 0, .int 0, .int 0, .null, .null, .int 0, .int 0, .null, .null, .null, .int 0, .int 0, .int 0, .int 0, .int 0, .int 0, .int 0, .int 0, .null, .int 0, .int 0, .null, .null, .null, .int 0, .null, .null, .null, .null, .int 0, .int 0, .null, .null, .null, .null, .null, .null, .null, .int 0, .int 0, .int 0, .int 0, .int 0, .int 0, .long 0, .null, .int 0, .int 0])), (q_1, .inl (ty 0, 7, .inl (fun _ => 0))), (q_2, .inl (ty 0, 5640, .inl (fun _ => 0))), (q_3, .inl (ty 0, 11280, .inl (fun _ => 0))), (q_4, .inl (ty 2, 2, .inl (fun _ => 0))), (q_5, .inl (ty 0, 28, .inl (fun _ => 0))), (q_6, .inl (ty 3, 128, .inl (wU 47)))]) hp hd hs (by rw [← (wU_s 46 47 111 rfl rfl : upd (wU 46) 46 111 = wU 47)]; rfl) ?_
  clear hp hd hs hP hD hS
  intro hP hD hS
  refine lv_dup hx hb dX10_init_327 rfl ?_
  refine lv_bipush (v := 47) hx hb dX10_init_328 (by decide) ?_
  refine lv_bipush (v := 114) hx hb dX10_init_330 (by decide) ?_
  refine va_bast hx hb hK hP hD hS 6 3 rfl rfl (by simp only [vp_in]; decide) dX10_init_332 (fun H locs hp hd hs => ?_)
  refine kz_re (w2 := [(h0, .inr (10, [.int 0, .ref q_1, .ref q_2, .ref q_3, .ref q_4, .ref q_5, .int 0, .null, .int 0, .int 0, .int 0, .null, .null, .int 0, .int 0, .null, .null, .null, .int 0, .int 0, .int 0, .int 0, .int 0, .int 0, .int 0, .int 0, .null, .int 0, .int 0, .null, .null, .null, .int 0, .null, .null, .null, .null, .int 0, .int 0, .null, .null, .null, .null, .null, .null, .null, .int 0, .int 0, .int 0, .int 0, .int 0, .int 0, .long 0, .null, .int 0, .int 0])), (q_1, .inl (ty 0, 7, .inl (fun _ => 0))), (q_2, .inl (ty 0, 5640, .inl (fun _ => 0))), (q_3, .inl (ty 0, 11280, .inl (fun _ => 0))), (q_4, .inl (ty 2, 2, .inl (fun _ => 0))), (q_5, .inl (ty 0, 28, .inl (fun _ => 0))), (q_6, .inl (ty 3, 128, .inl (wU 48)))]) hp hd hs (by rw [← (wU_s 47 48 114 rfl rfl : upd (wU 47) 47 114 = wU 48)]; rfl) ?_
  clear hp hd hs hP hD hS
  intro hP hD hS
  refine lv_dup hx hb dX10_init_333 rfl ?_
  refine lv_bipush (v := 48) hx hb dX10_init_334 (by decide) ?_
  refine lv_bipush (v := 115) hx hb dX10_init_336 (by decide) ?_
  refine va_bast hx hb hK hP hD hS 6 3 rfl rfl (by simp only [vp_in]; decide) dX10_init_338 (fun H locs hp hd hs => ?_)
  refine kz_re (w2 := [(h0, .inr (10, [.int 0, .ref q_1, .ref q_2, .ref q_3, .ref q_4, .ref q_5, .int 0, .null, .int 0, .int 0, .int 0, .null, .null, .int 0, .int 0, .null, .null, .null, .int 0, .int 0, .int 0, .int 0, .int 0, .int 0, .int 0, .int 0, .null, .int 0, .int 0, .null, .null, .null, .int 0, .null, .null, .null, .null, .int 0, .int 0, .null, .null, .null, .null, .null, .null, .null, .int 0, .int 0, .int 0, .int 0, .int 0, .int 0, .long 0, .null, .int 0, .int 0])), (q_1, .inl (ty 0, 7, .inl (fun _ => 0))), (q_2, .inl (ty 0, 5640, .inl (fun _ => 0))), (q_3, .inl (ty 0, 11280, .inl (fun _ => 0))), (q_4, .inl (ty 2, 2, .inl (fun _ => 0))), (q_5, .inl (ty 0, 28, .inl (fun _ => 0))), (q_6, .inl (ty 3, 128, .inl (wU 49)))]) hp hd hs (by rw [← (wU_s 48 49 115 rfl rfl : upd (wU 48) 48 115 = wU 49)]; rfl) ?_
  clear hp hd hs hP hD hS
  intro hP hD hS
  refine lv_dup hx hb dX10_init_339 rfl ?_
  refine lv_bipush (v := 49) hx hb dX10_init_340 (by decide) ?_
  refine lv_bipush (v := 32) hx hb dX10_init_342 (by decide) ?_
  refine va_bast hx hb hK hP hD hS 6 3 rfl rfl (by simp only [vp_in]; decide) dX10_init_344 (fun H locs hp hd hs => ?_)
  refine kz_re (w2 := [(h0, .inr (10, [.int 0, .ref q_1, .ref q_2, .ref q_3, .ref q_4, .ref q_5, .int 0, .null, .int 0, .int 0, .int 0, .null, .null, .int 0, .int 0, .null, .null, .null, .int 0, .int 0, .int 0, .int 0, .int 0, .int 0, .int 0, .int 0, .null, .int 0, .int 0, .null, .null, .null, .int 0, .null, .null, .null, .null, .int 0, .int 0, .null, .null, .null, .null, .null, .null, .null, .int 0, .int 0, .int 0, .int 0, .int 0, .int 0, .long 0, .null, .int 0, .int 0])), (q_1, .inl (ty 0, 7, .inl (fun _ => 0))), (q_2, .inl (ty 0, 5640, .inl (fun _ => 0))), (q_3, .inl (ty 0, 11280, .inl (fun _ => 0))), (q_4, .inl (ty 2, 2, .inl (fun _ => 0))), (q_5, .inl (ty 0, 28, .inl (fun _ => 0))), (q_6, .inl (ty 3, 128, .inl (wU 50)))]) hp hd hs (by rw [← (wU_s 49 50 32 rfl rfl : upd (wU 49) 49 32 = wU 50)]; rfl) ?_
  clear hp hd hs hP hD hS
  intro hP hD hS
  refine lv_dup hx hb dX10_init_345 rfl ?_
  refine lv_bipush (v := 50) hx hb dX10_init_346 (by decide) ?_
  refine lv_bipush (v := 114) hx hb dX10_init_348 (by decide) ?_
  refine va_bast hx hb hK hP hD hS 6 3 rfl rfl (by simp only [vp_in]; decide) dX10_init_350 (fun H locs hp hd hs => ?_)
  refine kz_re (w2 := [(h0, .inr (10, [.int 0, .ref q_1, .ref q_2, .ref q_3, .ref q_4, .ref q_5, .int 0, .null, .int 0, .int 0, .int 0, .null, .null, .int 0, .int 0, .null, .null, .null, .int 0, .int 0, .int 0, .int 0, .int 0, .int 0, .int 0, .int 0, .null, .int 0, .int 0, .null, .null, .null, .int 0, .null, .null, .null, .null, .int 0, .int 0, .null, .null, .null, .null, .null, .null, .null, .int 0, .int 0, .int 0, .int 0, .int 0, .int 0, .long 0, .null, .int 0, .int 0])), (q_1, .inl (ty 0, 7, .inl (fun _ => 0))), (q_2, .inl (ty 0, 5640, .inl (fun _ => 0))), (q_3, .inl (ty 0, 11280, .inl (fun _ => 0))), (q_4, .inl (ty 2, 2, .inl (fun _ => 0))), (q_5, .inl (ty 0, 28, .inl (fun _ => 0))), (q_6, .inl (ty 3, 128, .inl (wU 51)))]) hp hd hs (by rw [← (wU_s 50 51 114 rfl rfl : upd (wU 50) 50 114 = wU 51)]; rfl) ?_
  clear hp hd hs hP hD hS
  intro hP hD hS
  refine lv_dup hx hb dX10_init_351 rfl ?_
  refine lv_bipush (v := 51) hx hb dX10_init_352 (by decide) ?_
  refine lv_bipush (v := 97) hx hb dX10_init_354 (by decide) ?_
  refine va_bast hx hb hK hP hD hS 6 3 rfl rfl (by simp only [vp_in]; decide) dX10_init_356 (fun H locs hp hd hs => ?_)
  refine kz_re (w2 := [(h0, .inr (10, [.int 0, .ref q_1, .ref q_2, .ref q_3, .ref q_4, .ref q_5, .int 0, .null, .int 0, .int 0, .int 0, .null, .null, .int 0, .int 0, .null, .null, .null, .int 0, .int 0, .int 0, .int 0, .int 0, .int 0, .int 0, .int 0, .null, .int 0, .int 0, .null, .null, .null, .int 0, .null, .null, .null, .null, .int 0, .int 0, .null, .null, .null, .null, .null, .null, .null, .int 0, .int 0, .int 0, .int 0, .int 0, .int 0, .long 0, .null, .int 0, .int 0])), (q_1, .inl (ty 0, 7, .inl (fun _ => 0))), (q_2, .inl (ty 0, 5640, .inl (fun _ => 0))), (q_3, .inl (ty 0, 11280, .inl (fun _ => 0))), (q_4, .inl (ty 2, 2, .inl (fun _ => 0))), (q_5, .inl (ty 0, 28, .inl (fun _ => 0))), (q_6, .inl (ty 3, 128, .inl (wU 52)))]) hp hd hs (by rw [← (wU_s 51 52 97 rfl rfl : upd (wU 51) 51 97 = wU 52)]; rfl) ?_
  clear hp hd hs hP hD hS
  intro hP hD hS
  refine lv_dup hx hb dX10_init_357 rfl ?_
  refine lv_bipush (v := 52) hx hb dX10_init_358 (by decide) ?_
  refine lv_bipush (v := 110) hx hb dX10_init_360 (by decide) ?_
  refine va_bast hx hb hK hP hD hS 6 3 rfl rfl (by simp only [vp_in]; decide) dX10_init_362 (fun H locs hp hd hs => ?_)
  refine kz_re (w2 := [(h0, .inr (10, [.int 0, .ref q_1, .ref q_2, .ref q_3, .ref q_4, .ref q_5, .int 0, .null, .int 0, .int 0, .int 0, .null, .null, .int 0, .int 0, .null, .null, .null, .int 0, .int 0, .int 0, .int 0, .int 0, .int 0, .int 0, .int 0, .null, .int 0, .int 0, .null, .null, .null, .int 0, .null, .null, .null, .null, .int 0, .int 0, .null, .null, .null, .null, .null, .null, .null, .int 0, .int 0, .int 0, .int 0, .int 0, .int 0, .long 0, .null, .int 0, .int 0])), (q_1, .inl (ty 0, 7, .inl (fun _ => 0))), (q_2, .inl (ty 0, 5640, .inl (fun _ => 0))), (q_3, .inl (ty 0, 11280, .inl (fun _ => 0))), (q_4, .inl (ty 2, 2, .inl (fun _ => 0))), (q_5, .inl (ty 0, 28, .inl (fun _ => 0))), (q_6, .inl (ty 3, 128, .inl (wU 53)))]) hp hd hs (by rw [← (wU_s 52 53 110 rfl rfl : upd (wU 52) 52 110 = wU 53)]; rfl) ?_
  clear hp hd hs hP hD hS
  intro hP hD hS
  refine lv_dup hx hb dX10_init_363 rfl ?_
  refine lv_bipush (v := 53) hx hb dX10_init_364 (by decide) ?_
  refine lv_bipush (v := 107) hx hb dX10_init_366 (by decide) ?_
  refine va_bast hx hb hK hP hD hS 6 3 rfl rfl (by simp only [vp_in]; decide) dX10_init_368 (fun H locs hp hd hs => ?_)
  refine kz_re (w2 := [(h0, .inr (10, [.int 0, .ref q_1, .ref q_2, .ref q_3, .ref q_4, .ref q_5, .int 0, .null, .int 0, .int 0, .int 0, .null, .null, .int 0, .int 0, .null, .null, .null, .int 0, .int 0, .int 0, .int 0, .int 0, .int 0, .int 0, .int 0, .null, .int 0, .int 0, .null, .null, .null, .int 0, .null, .null, .null, .null, .int 0, .int 0, .null, .null, .null, .null, .null, .null, .null, .int 0, .int 0, .int 0, .int 0, .int 0, .int 0, .long 0, .null, .int 0, .int 0])), (q_1, .inl (ty 0, 7, .inl (fun _ => 0))), (q_2, .inl (ty 0, 5640, .inl (fun _ => 0))), (q_3, .inl (ty 0, 11280, .inl (fun _ => 0))), (q_4, .inl (ty 2, 2, .inl (fun _ => 0))), (q_5, .inl (ty 0, 28, .inl (fun _ => 0))), (q_6, .inl (ty 3, 128, .inl (wU 54)))]) hp hd hs (by rw [← (wU_s 53 54 107 rfl rfl : upd (wU 53) 53 107 = wU 54)]; rfl) ?_
  clear hp hd hs hP hD hS
  intro hP hD hS
  refine lv_dup hx hb dX10_init_369 rfl ?_
  refine lv_bipush (v := 54) hx hb dX10_init_370 (by decide) ?_
  refine lv_bipush (v := 32) hx hb dX10_init_372 (by decide) ?_
  refine va_bast hx hb hK hP hD hS 6 3 rfl rfl (by simp only [vp_in]; decide) dX10_init_374 (fun H locs hp hd hs => ?_)
  refine kz_re (w2 := [(h0, .inr (10, [.int 0, .ref q_1, .ref q_2, .ref q_3, .ref q_4, .ref q_5, .int 0, .null, .int 0, .int 0, .int 0, .null, .null, .int 0, .int 0, .null, .null, .null, .int 0, .int 0, .int 0, .int 0, .int 0, .int 0, .int 0, .int 0, .null, .int 0, .int 0, .null, .null, .null, .int 0, .null, .null, .null, .null, .int 0, .int 0, .null, .null, .null, .null, .null, .null, .null, .int 0, .int 0, .int 0, .int 0, .int 0, .int 0, .long 0, .null, .int 0, .int 0])), (q_1, .inl (ty 0, 7, .inl (fun _ => 0))), (q_2, .inl (ty 0, 5640, .inl (fun _ => 0))), (q_3, .inl (ty 0, 11280, .inl (fun _ => 0))), (q_4, .inl (ty 2, 2, .inl (fun _ => 0))), (q_5, .inl (ty 0, 28, .inl (fun _ => 0))), (q_6, .inl (ty 3, 128, .inl (wU 55)))]) hp hd hs (by rw [← (wU_s 54 55 32 rfl rfl : upd (wU 54) 54 32 = wU 55)]; rfl) ?_
  clear hp hd hs hP hD hS
  intro hP hD hS
  refine lv_dup hx hb dX10_init_375 rfl ?_
  refine lv_bipush (v := 55) hx hb dX10_init_376 (by decide) ?_
  refine lv_bipush (v := 112) hx hb dX10_init_378 (by decide) ?_
  refine va_bast hx hb hK hP hD hS 6 3 rfl rfl (by simp only [vp_in]; decide) dX10_init_380 (fun H locs hp hd hs => ?_)
  refine kz_re (w2 := [(h0, .inr (10, [.int 0, .ref q_1, .ref q_2, .ref q_3, .ref q_4, .ref q_5, .int 0, .null, .int 0, .int 0, .int 0, .null, .null, .int 0, .int 0, .null, .null, .null, .int 0, .int 0, .int 0, .int 0, .int 0, .int 0, .int 0, .int 0, .null, .int 0, .int 0, .null, .null, .null, .int 0, .null, .null, .null, .null, .int 0, .int 0, .null, .null, .null, .null, .null, .null, .null, .int 0, .int 0, .int 0, .int 0, .int 0, .int 0, .long 0, .null, .int 0, .int 0])), (q_1, .inl (ty 0, 7, .inl (fun _ => 0))), (q_2, .inl (ty 0, 5640, .inl (fun _ => 0))), (q_3, .inl (ty 0, 11280, .inl (fun _ => 0))), (q_4, .inl (ty 2, 2, .inl (fun _ => 0))), (q_5, .inl (ty 0, 28, .inl (fun _ => 0))), (q_6, .inl (ty 3, 128, .inl (wU 56)))]) hp hd hs (by rw [← (wU_s 55 56 112 rfl rfl : upd (wU 55) 55 112 = wU 56)]; rfl) ?_
  clear hp hd hs hP hD hS
  intro hP hD hS
  refine lv_dup hx hb dX10_init_381 rfl ?_
  refine lv_bipush (v := 56) hx hb dX10_init_382 (by decide) ?_
  refine lv_bipush (v := 108) hx hb dX10_init_384 (by decide) ?_
  refine va_bast hx hb hK hP hD hS 6 3 rfl rfl (by simp only [vp_in]; decide) dX10_init_386 (fun H locs hp hd hs => ?_)
  refine kz_re (w2 := [(h0, .inr (10, [.int 0, .ref q_1, .ref q_2, .ref q_3, .ref q_4, .ref q_5, .int 0, .null, .int 0, .int 0, .int 0, .null, .null, .int 0, .int 0, .null, .null, .null, .int 0, .int 0, .int 0, .int 0, .int 0, .int 0, .int 0, .int 0, .null, .int 0, .int 0, .null, .null, .null, .int 0, .null, .null, .null, .null, .int 0, .int 0, .null, .null, .null, .null, .null, .null, .null, .int 0, .int 0, .int 0, .int 0, .int 0, .int 0, .long 0, .null, .int 0, .int 0])), (q_1, .inl (ty 0, 7, .inl (fun _ => 0))), (q_2, .inl (ty 0, 5640, .inl (fun _ => 0))), (q_3, .inl (ty 0, 11280, .inl (fun _ => 0))), (q_4, .inl (ty 2, 2, .inl (fun _ => 0))), (q_5, .inl (ty 0, 28, .inl (fun _ => 0))), (q_6, .inl (ty 3, 128, .inl (wU 57)))]) hp hd hs (by rw [← (wU_s 56 57 108 rfl rfl : upd (wU 56) 56 108 = wU 57)]; rfl) ?_
  clear hp hd hs hP hD hS
  intro hP hD hS
  refine lv_dup hx hb dX10_init_387 rfl ?_
  refine lv_bipush (v := 57) hx hb dX10_init_388 (by decide) ?_
  refine lv_bipush (v := 97) hx hb dX10_init_390 (by decide) ?_
  refine va_bast hx hb hK hP hD hS 6 3 rfl rfl (by simp only [vp_in]; decide) dX10_init_392 (fun H locs hp hd hs => ?_)
  refine kz_re (w2 := [(h0, .inr (10, [.int 0, .ref q_1, .ref q_2, .ref q_3, .ref q_4, .ref q_5, .int 0, .null, .int 0, .int 0, .int 0, .null, .null, .int 0, .int 0, .null, .null, .null, .int 0, .int 0, .int 0, .int 0, .int 0, .int 0, .int 0, .int 0, .null, .int 0, .int 0, .null, .null, .null, .int 0, .null, .null, .null, .null, .int 0, .int 0, .null, .null, .null, .null, .null, .null, .null, .int 0, .int 0, .int 0, .int 0, .int 0, .int 0, .long 0, .null, .int 0, .int 0])), (q_1, .inl (ty 0, 7, .inl (fun _ => 0))), (q_2, .inl (ty 0, 5640, .inl (fun _ => 0))), (q_3, .inl (ty 0, 11280, .inl (fun _ => 0))), (q_4, .inl (ty 2, 2, .inl (fun _ => 0))), (q_5, .inl (ty 0, 28, .inl (fun _ => 0))), (q_6, .inl (ty 3, 128, .inl (wU 58)))]) hp hd hs (by rw [← (wU_s 57 58 97 rfl rfl : upd (wU 57) 57 97 = wU 58)]; rfl) ?_
  clear hp hd hs hP hD hS
  intro hP hD hS
  refine lv_dup hx hb dX10_init_393 rfl ?_
  refine lv_bipush (v := 58) hx hb dX10_init_394 (by decide) ?_
  refine lv_bipush (v := 99) hx hb dX10_init_396 (by decide) ?_
  refine va_bast hx hb hK hP hD hS 6 3 rfl rfl (by simp only [vp_in]; decide) dX10_init_398 (fun H locs hp hd hs => ?_)
  refine kz_re (w2 := [(h0, .inr (10, [.int 0, .ref q_1, .ref q_2, .ref q_3, .ref q_4, .ref q_5, .int 0, .null, .int 0, .int 0, .int 0, .null, .null, .int 0, .int 0, .null, .null, .null, .int 0, .int 0, .int 0, .int 0, .int 0, .int 0, .int 0, .int 0, .null, .int 0, .int 0, .null, .null, .null, .int 0, .null, .null, .null, .null, .int 0, .int 0, .null, .null, .null, .null, .null, .null, .null, .int 0, .int 0, .int 0, .int 0, .int 0, .int 0, .long 0, .null, .int 0, .int 0])), (q_1, .inl (ty 0, 7, .inl (fun _ => 0))), (q_2, .inl (ty 0, 5640, .inl (fun _ => 0))), (q_3, .inl (ty 0, 11280, .inl (fun _ => 0))), (q_4, .inl (ty 2, 2, .inl (fun _ => 0))), (q_5, .inl (ty 0, 28, .inl (fun _ => 0))), (q_6, .inl (ty 3, 128, .inl (wU 59)))]) hp hd hs (by rw [← (wU_s 58 59 99 rfl rfl : upd (wU 58) 58 99 = wU 59)]; rfl) ?_
  clear hp hd hs hP hD hS
  intro hP hD hS
  refine lv_dup hx hb dX10_init_399 rfl ?_
  refine lv_bipush (v := 59) hx hb dX10_init_400 (by decide) ?_
  refine lv_bipush (v := 101) hx hb dX10_init_402 (by decide) ?_
  refine va_bast hx hb hK hP hD hS 6 3 rfl rfl (by simp only [vp_in]; decide) dX10_init_404 (fun H locs hp hd hs => ?_)
  refine kz_re (w2 := [(h0, .inr (10, [.int 0, .ref q_1, .ref q_2, .ref q_3, .ref q_4, .ref q_5, .int 0, .null, .int 0, .int 0, .int 0, .null, .null, .int 0, .int 0, .null, .null, .null, .int 0, .int 0, .int 0, .int 0, .int 0, .int 0, .int 0, .int 0, .null, .int 0, .int 0, .null, .null, .null, .int 0, .null, .null, .null, .null, .int 0, .int 0, .null, .null, .null, .null, .null, .null, .null, .int 0, .int 0, .int 0, .int 0, .int 0, .int 0, .long 0, .null, .int 0, .int 0])), (q_1, .inl (ty 0, 7, .inl (fun _ => 0))), (q_2, .inl (ty 0, 5640, .inl (fun _ => 0))), (q_3, .inl (ty 0, 11280, .inl (fun _ => 0))), (q_4, .inl (ty 2, 2, .inl (fun _ => 0))), (q_5, .inl (ty 0, 28, .inl (fun _ => 0))), (q_6, .inl (ty 3, 128, .inl (wU 60)))]) hp hd hs (by rw [← (wU_s 59 60 101 rfl rfl : upd (wU 59) 59 101 = wU 60)]; rfl) ?_
  clear hp hd hs hP hD hS
  intro hP hD hS
  refine lv_dup hx hb dX10_init_405 rfl ?_
  refine lv_bipush (v := 60) hx hb dX10_init_406 (by decide) ?_
  refine lv_bipush (v := 32) hx hb dX10_init_408 (by decide) ?_
  refine va_bast hx hb hK hP hD hS 6 3 rfl rfl (by simp only [vp_in]; decide) dX10_init_410 (fun H locs hp hd hs => ?_)
  refine kz_re (w2 := [(h0, .inr (10, [.int 0, .ref q_1, .ref q_2, .ref q_3, .ref q_4, .ref q_5, .int 0, .null, .int 0, .int 0, .int 0, .null, .null, .int 0, .int 0, .null, .null, .null, .int 0, .int 0, .int 0, .int 0, .int 0, .int 0, .int 0, .int 0, .null, .int 0, .int 0, .null, .null, .null, .int 0, .null, .null, .null, .null, .int 0, .int 0, .null, .null, .null, .null, .null, .null, .null, .int 0, .int 0, .int 0, .int 0, .int 0, .int 0, .long 0, .null, .int 0, .int 0])), (q_1, .inl (ty 0, 7, .inl (fun _ => 0))), (q_2, .inl (ty 0, 5640, .inl (fun _ => 0))), (q_3, .inl (ty 0, 11280, .inl (fun _ => 0))), (q_4, .inl (ty 2, 2, .inl (fun _ => 0))), (q_5, .inl (ty 0, 28, .inl (fun _ => 0))), (q_6, .inl (ty 3, 128, .inl (wU 61)))]) hp hd hs (by rw [← (wU_s 60 61 32 rfl rfl : upd (wU 60) 60 32 = wU 61)]; rfl) ?_
  clear hp hd hs hP hD hS
  intro hP hD hS
  refine lv_dup hx hb dX10_init_411 rfl ?_
  refine lv_bipush (v := 61) hx hb dX10_init_412 (by decide) ?_
  refine lv_bipush (v := 109) hx hb dX10_init_414 (by decide) ?_
  refine va_bast hx hb hK hP hD hS 6 3 rfl rfl (by simp only [vp_in]; decide) dX10_init_416 (fun H locs hp hd hs => ?_)
  refine kz_re (w2 := [(h0, .inr (10, [.int 0, .ref q_1, .ref q_2, .ref q_3, .ref q_4, .ref q_5, .int 0, .null, .int 0, .int 0, .int 0, .null, .null, .int 0, .int 0, .null, .null, .null, .int 0, .int 0, .int 0, .int 0, .int 0, .int 0, .int 0, .int 0, .null, .int 0, .int 0, .null, .null, .null, .int 0, .null, .null, .null, .null, .int 0, .int 0, .null, .null, .null, .null, .null, .null, .null, .int 0, .int 0, .int 0, .int 0, .int 0, .int 0, .long 0, .null, .int 0, .int 0])), (q_1, .inl (ty 0, 7, .inl (fun _ => 0))), (q_2, .inl (ty 0, 5640, .inl (fun _ => 0))), (q_3, .inl (ty 0, 11280, .inl (fun _ => 0))), (q_4, .inl (ty 2, 2, .inl (fun _ => 0))), (q_5, .inl (ty 0, 28, .inl (fun _ => 0))), (q_6, .inl (ty 3, 128, .inl (wU 62)))]) hp hd hs (by rw [← (wU_s 61 62 109 rfl rfl : upd (wU 61) 61 109 = wU 62)]; rfl) ?_
  clear hp hd hs hP hD hS
  intro hP hD hS
  refine lv_dup hx hb dX10_init_417 rfl ?_
  refine lv_bipush (v := 62) hx hb dX10_init_418 (by decide) ?_
  refine lv_bipush (v := 111) hx hb dX10_init_420 (by decide) ?_
  refine va_bast hx hb hK hP hD hS 6 3 rfl rfl (by simp only [vp_in]; decide) dX10_init_422 (fun H locs hp hd hs => ?_)
  refine kz_re (w2 := [(h0, .inr (10, [.int 0, .ref q_1, .ref q_2, .ref q_3, .ref q_4, .ref q_5, .int 0, .null, .int 0, .int 0, .int 0, .null, .null, .int 0, .int 0, .null, .null, .null, .int 0, .int 0, .int 0, .int 0, .int 0, .int 0, .int 0, .int 0, .null, .int 0, .int 0, .null, .null, .null, .int 0, .null, .null, .null, .null, .int 0, .int 0, .null, .null, .null, .null, .null, .null, .null, .int 0, .int 0, .int 0, .int 0, .int 0, .int 0, .long 0, .null, .int 0, .int 0])), (q_1, .inl (ty 0, 7, .inl (fun _ => 0))), (q_2, .inl (ty 0, 5640, .inl (fun _ => 0))), (q_3, .inl (ty 0, 11280, .inl (fun _ => 0))), (q_4, .inl (ty 2, 2, .inl (fun _ => 0))), (q_5, .inl (ty 0, 28, .inl (fun _ => 0))), (q_6, .inl (ty 3, 128, .inl (wU 63)))]) hp hd hs (by rw [← (wU_s 62 63 111 rfl rfl : upd (wU 62) 62 111 = wU 63)]; rfl) ?_
  clear hp hd hs hP hD hS
  intro hP hD hS
  refine lv_dup hx hb dX10_init_423 rfl ?_
  refine lv_bipush (v := 63) hx hb dX10_init_424 (by decide) ?_
  refine lv_bipush (v := 111) hx hb dX10_init_426 (by decide) ?_
  refine va_bast hx hb hK hP hD hS 6 3 rfl rfl (by simp only [vp_in]; decide) dX10_init_428 (fun H locs hp hd hs => ?_)
  refine kz_re (w2 := [(h0, .inr (10, [.int 0, .ref q_1, .ref q_2, .ref q_3, .ref q_4, .ref q_5, .int 0, .null, .int 0, .int 0, .int 0, .null, .null, .int 0, .int 0, .null, .null, .null, .int 0, .int 0, .int 0, .int 0, .int 0, .int 0, .int 0, .int 0, .null, .int 0, .int 0, .null, .null, .null, .int 0, .null, .null, .null, .null, .int 0, .int 0, .null, .null, .null, .null, .null, .null, .null, .int 0, .int 0, .int 0, .int 0, .int 0, .int 0, .long 0, .null, .int 0, .int 0])), (q_1, .inl (ty 0, 7, .inl (fun _ => 0))), (q_2, .inl (ty 0, 5640, .inl (fun _ => 0))), (q_3, .inl (ty 0, 11280, .inl (fun _ => 0))), (q_4, .inl (ty 2, 2, .inl (fun _ => 0))), (q_5, .inl (ty 0, 28, .inl (fun _ => 0))), (q_6, .inl (ty 3, 128, .inl (wU 64)))]) hp hd hs (by rw [← (wU_s 63 64 111 rfl rfl : upd (wU 63) 63 111 = wU 64)]; rfl) ?_
  clear hp hd hs hP hD hS
  intro hP hD hS
  refine lv_dup hx hb dX10_init_429 rfl ?_
  refine lv_bipush (v := 64) hx hb dX10_init_430 (by decide) ?_
  refine lv_bipush (v := 100) hx hb dX10_init_432 (by decide) ?_
  refine va_bast hx hb hK hP hD hS 6 3 rfl rfl (by simp only [vp_in]; decide) dX10_init_434 (fun H locs hp hd hs => ?_)
  refine kz_re (w2 := [(h0, .inr (10, [.int 0, .ref q_1, .ref q_2, .ref q_3, .ref q_4, .ref q_5, .int 0, .null, .int 0, .int 0, .int 0, .null, .null, .int 0, .int 0, .null, .null, .null, .int 0, .int 0, .int 0, .int 0, .int 0, .int 0, .int 0, .int 0, .null, .int 0, .int 0, .null, .null, .null, .int 0, .null, .null, .null, .null, .int 0, .int 0, .null, .null, .null, .null, .null, .null, .null, .int 0, .int 0, .int 0, .int 0, .int 0, .int 0, .long 0, .null, .int 0, .int 0])), (q_1, .inl (ty 0, 7, .inl (fun _ => 0))), (q_2, .inl (ty 0, 5640, .inl (fun _ => 0))), (q_3, .inl (ty 0, 11280, .inl (fun _ => 0))), (q_4, .inl (ty 2, 2, .inl (fun _ => 0))), (q_5, .inl (ty 0, 28, .inl (fun _ => 0))), (q_6, .inl (ty 3, 128, .inl (wU 65)))]) hp hd hs (by rw [← (wU_s 64 65 100 rfl rfl : upd (wU 64) 64 100 = wU 65)]; rfl) ?_
  clear hp hd hs hP hD hS
  intro hP hD hS
  refine lv_dup hx hb dX10_init_435 rfl ?_
  refine lv_bipush (v := 65) hx hb dX10_init_436 (by decide) ?_
  refine lv_bipush (v := 32) hx hb dX10_init_438 (by decide) ?_
  refine va_bast hx hb hK hP hD hS 6 3 rfl rfl (by simp only [vp_in]; decide) dX10_init_440 (fun H locs hp hd hs => ?_)
  refine kz_re (w2 := [(h0, .inr (10, [.int 0, .ref q_1, .ref q_2, .ref q_3, .ref q_4, .ref q_5, .int 0, .null, .int 0, .int 0, .int 0, .null, .null, .int 0, .int 0, .null, .null, .null, .int 0, .int 0, .int 0, .int 0, .int 0, .int 0, .int 0, .int 0, .null, .int 0, .int 0, .null, .null, .null, .int 0, .null, .null, .null, .null, .int 0, .int 0, .null, .null, .null, .null, .null, .null, .null, .int 0, .int 0, .int 0, .int 0, .int 0, .int 0, .long 0, .null, .int 0, .int 0])), (q_1, .inl (ty 0, 7, .inl (fun _ => 0))), (q_2, .inl (ty 0, 5640, .inl (fun _ => 0))), (q_3, .inl (ty 0, 11280, .inl (fun _ => 0))), (q_4, .inl (ty 2, 2, .inl (fun _ => 0))), (q_5, .inl (ty 0, 28, .inl (fun _ => 0))), (q_6, .inl (ty 3, 128, .inl (wU 66)))]) hp hd hs (by rw [← (wU_s 65 66 32 rfl rfl : upd (wU 65) 65 32 = wU 66)]; rfl) ?_
  clear hp hd hs hP hD hS
  intro hP hD hS
  refine lv_dup hx hb dX10_init_441 rfl ?_
  refine lv_bipush (v := 66) hx hb dX10_init_442 (by decide) ?_
  refine lv_bipush (v := 104) hx hb dX10_init_444 (by decide) ?_
  refine va_bast hx hb hK hP hD hS 6 3 rfl rfl (by simp only [vp_in]; decide) dX10_init_446 (fun H locs hp hd hs => ?_)
  refine kz_re (w2 := [(h0, .inr (10, [.int 0, .ref q_1, .ref q_2, .ref q_3, .ref q_4, .ref q_5, .int 0, .null, .int 0, .int 0, .int 0, .null, .null, .int 0, .int 0, .null, .null, .null, .int 0, .int 0, .int 0, .int 0, .int 0, .int 0, .int 0, .int 0, .null, .int 0, .int 0, .null, .null, .null, .int 0, .null, .null, .null, .null, .int 0, .int 0, .null, .null, .null, .null, .null, .null, .null, .int 0, .int 0, .int 0, .int 0, .int 0, .int 0, .long 0, .null, .int 0, .int 0])), (q_1, .inl (ty 0, 7, .inl (fun _ => 0))), (q_2, .inl (ty 0, 5640, .inl (fun _ => 0))), (q_3, .inl (ty 0, 11280, .inl (fun _ => 0))), (q_4, .inl (ty 2, 2, .inl (fun _ => 0))), (q_5, .inl (ty 0, 28, .inl (fun _ => 0))), (q_6, .inl (ty 3, 128, .inl (wU 67)))]) hp hd hs (by rw [← (wU_s 66 67 104 rfl rfl : upd (wU 66) 66 104 = wU 67)]; rfl) ?_
  clear hp hd hs hP hD hS
  intro hP hD hS
  refine lv_dup hx hb dX10_init_447 rfl ?_
  refine lv_bipush (v := 67) hx hb dX10_init_448 (by decide) ?_
  refine lv_bipush (v := 101) hx hb dX10_init_450 (by decide) ?_
  refine va_bast hx hb hK hP hD hS 6 3 rfl rfl (by simp only [vp_in]; decide) dX10_init_452 (fun H locs hp hd hs => ?_)
  refine kz_re (w2 := [(h0, .inr (10, [.int 0, .ref q_1, .ref q_2, .ref q_3, .ref q_4, .ref q_5, .int 0, .null, .int 0, .int 0, .int 0, .null, .null, .int 0, .int 0, .null, .null, .null, .int 0, .int 0, .int 0, .int 0, .int 0, .int 0, .int 0, .int 0, .null, .int 0, .int 0, .null, .null, .null, .int 0, .null, .null, .null, .null, .int 0, .int 0, .null, .null, .null, .null, .null, .null, .null, .int 0, .int 0, .int 0, .int 0, .int 0, .int 0, .long 0, .null, .int 0, .int 0])), (q_1, .inl (ty 0, 7, .inl (fun _ => 0))), (q_2, .inl (ty 0, 5640, .inl (fun _ => 0))), (q_3, .inl (ty 0, 11280, .inl (fun _ => 0))), (q_4, .inl (ty 2, 2, .inl (fun _ => 0))), (q_5, .inl (ty 0, 28, .inl (fun _ => 0))), (q_6, .inl (ty 3, 128, .inl (wU 68)))]) hp hd hs (by rw [← (wU_s 67 68 101 rfl rfl : upd (wU 67) 67 101 = wU 68)]; rfl) ?_
  clear hp hd hs hP hD hS
  intro hP hD hS
  refine lv_dup hx hb dX10_init_453 rfl ?_
  refine lv_bipush (v := 68) hx hb dX10_init_454 (by decide) ?_
  refine lv_bipush (v := 97) hx hb dX10_init_456 (by decide) ?_
  refine va_bast hx hb hK hP hD hS 6 3 rfl rfl (by simp only [vp_in]; decide) dX10_init_458 (fun H locs hp hd hs => ?_)
  refine kz_re (w2 := [(h0, .inr (10, [.int 0, .ref q_1, .ref q_2, .ref q_3, .ref q_4, .ref q_5, .int 0, .null, .int 0, .int 0, .int 0, .null, .null, .int 0, .int 0, .null, .null, .null, .int 0, .int 0, .int 0, .int 0, .int 0, .int 0, .int 0, .int 0, .null, .int 0, .int 0, .null, .null, .null, .int 0, .null, .null, .null, .null, .int 0, .int 0, .null, .null, .null, .null, .null, .null, .null, .int 0, .int 0, .int 0, .int 0, .int 0, .int 0, .long 0, .null, .int 0, .int 0])), (q_1, .inl (ty 0, 7, .inl (fun _ => 0))), (q_2, .inl (ty 0, 5640, .inl (fun _ => 0))), (q_3, .inl (ty 0, 11280, .inl (fun _ => 0))), (q_4, .inl (ty 2, 2, .inl (fun _ => 0))), (q_5, .inl (ty 0, 28, .inl (fun _ => 0))), (q_6, .inl (ty 3, 128, .inl (wU 69)))]) hp hd hs (by rw [← (wU_s 68 69 97 rfl rfl : upd (wU 68) 68 97 = wU 69)]; rfl) ?_
  clear hp hd hs hP hD hS
  intro hP hD hS
  refine lv_dup hx hb dX10_init_459 rfl ?_
  refine lv_bipush (v := 69) hx hb dX10_init_460 (by decide) ?_
  refine lv_bipush (v := 100) hx hb dX10_init_462 (by decide) ?_
  refine va_bast hx hb hK hP hD hS 6 3 rfl rfl (by simp only [vp_in]; decide) dX10_init_464 (fun H locs hp hd hs => ?_)
  refine kz_re (w2 := [(h0, .inr (10, [.int 0, .ref q_1, .ref q_2, .ref q_3, .ref q_4, .ref q_5, .int 0, .null, .int 0, .int 0, .int 0, .null, .null, .int 0, .int 0, .null, .null, .null, .int 0, .int 0, .int 0, .int 0, .int 0, .int 0, .int 0, .int 0, .null, .int 0, .int 0, .null, .null, .null, .int 0, .null, .null, .null, .null, .int 0, .int 0, .null, .null, .null, .null, .null, .null, .null, .int 0, .int 0, .int 0, .int 0, .int 0, .int 0, .long 0, .null, .int 0, .int 0])), (q_1, .inl (ty 0, 7, .inl (fun _ => 0))), (q_2, .inl (ty 0, 5640, .inl (fun _ => 0))), (q_3, .inl (ty 0, 11280, .inl (fun _ => 0))), (q_4, .inl (ty 2, 2, .inl (fun _ => 0))), (q_5, .inl (ty 0, 28, .inl (fun _ => 0))), (q_6, .inl (ty 3, 128, .inl (wU 70)))]) hp hd hs (by rw [← (wU_s 69 70 100 rfl rfl : upd (wU 69) 69 100 = wU 70)]; rfl) ?_
  clear hp hd hs hP hD hS
  intro hP hD hS
  refine lv_dup hx hb dX10_init_465 rfl ?_
  refine lv_bipush (v := 70) hx hb dX10_init_466 (by decide) ?_
  refine lv_bipush (v := 32) hx hb dX10_init_468 (by decide) ?_
  refine va_bast hx hb hK hP hD hS 6 3 rfl rfl (by simp only [vp_in]; decide) dX10_init_470 (fun H locs hp hd hs => ?_)
  refine kz_re (w2 := [(h0, .inr (10, [.int 0, .ref q_1, .ref q_2, .ref q_3, .ref q_4, .ref q_5, .int 0, .null, .int 0, .int 0, .int 0, .null, .null, .int 0, .int 0, .null, .null, .null, .int 0, .int 0, .int 0, .int 0, .int 0, .int 0, .int 0, .int 0, .null, .int 0, .int 0, .null, .null, .null, .int 0, .null, .null, .null, .null, .int 0, .int 0, .null, .null, .null, .null, .null, .null, .null, .int 0, .int 0, .int 0, .int 0, .int 0, .int 0, .long 0, .null, .int 0, .int 0])), (q_1, .inl (ty 0, 7, .inl (fun _ => 0))), (q_2, .inl (ty 0, 5640, .inl (fun _ => 0))), (q_3, .inl (ty 0, 11280, .inl (fun _ => 0))), (q_4, .inl (ty 2, 2, .inl (fun _ => 0))), (q_5, .inl (ty 0, 28, .inl (fun _ => 0))), (q_6, .inl (ty 3, 128, .inl (wU 71)))]) hp hd hs (by rw [← (wU_s 70 71 32 rfl rfl : upd (wU 70) 70 32 = wU 71)]; rfl) ?_
  clear hp hd hs hP hD hS
  intro hP hD hS
  refine lv_dup hx hb dX10_init_471 rfl ?_
  refine lv_bipush (v := 71) hx hb dX10_init_472 (by decide) ?_
  refine lv_bipush (v := 121) hx hb dX10_init_474 (by decide) ?_
  refine va_bast hx hb hK hP hD hS 6 3 rfl rfl (by simp only [vp_in]; decide) dX10_init_476 (fun H locs hp hd hs => ?_)
  refine kz_re (w2 := [(h0, .inr (10, [.int 0, .ref q_1, .ref q_2, .ref q_3, .ref q_4, .ref q_5, .int 0, .null, .int 0, .int 0, .int 0, .null, .null, .int 0, .int 0, .null, .null, .null, .int 0, .int 0, .int 0, .int 0, .int 0, .int 0, .int 0, .int 0, .null, .int 0, .int 0, .null, .null, .null, .int 0, .null, .null, .null, .null, .int 0, .int 0, .null, .null, .null, .null, .null, .null, .null, .int 0, .int 0, .int 0, .int 0, .int 0, .int 0, .long 0, .null, .int 0, .int 0])), (q_1, .inl (ty 0, 7, .inl (fun _ => 0))), (q_2, .inl (ty 0, 5640, .inl (fun _ => 0))), (q_3, .inl (ty 0, 11280, .inl (fun _ => 0))), (q_4, .inl (ty 2, 2, .inl (fun _ => 0))), (q_5, .inl (ty 0, 28, .inl (fun _ => 0))), (q_6, .inl (ty 3, 128, .inl (wU 72)))]) hp hd hs (by rw [← (wU_s 71 72 121 rfl rfl : upd (wU 71) 71 121 = wU 72)]; rfl) ?_
  clear hp hd hs hP hD hS
  intro hP hD hS
  refine lv_dup hx hb dX10_init_477 rfl ?_
  refine lv_bipush (v := 72) hx hb dX10_init_478 (by decide) ?_
  refine lv_bipush (v := 101) hx hb dX10_init_480 (by decide) ?_
  refine va_bast hx hb hK hP hD hS 6 3 rfl rfl (by simp only [vp_in]; decide) dX10_init_482 (fun H locs hp hd hs => ?_)
  refine kz_re (w2 := [(h0, .inr (10, [.int 0, .ref q_1, .ref q_2, .ref q_3, .ref q_4, .ref q_5, .int 0, .null, .int 0, .int 0, .int 0, .null, .null, .int 0, .int 0, .null, .null, .null, .int 0, .int 0, .int 0, .int 0, .int 0, .int 0, .int 0, .int 0, .null, .int 0, .int 0, .null, .null, .null, .int 0, .null, .null, .null, .null, .int 0, .int 0, .null, .null, .null, .null, .null, .null, .null, .int 0, .int 0, .int 0, .int 0, .int 0, .int 0, .long 0, .null, .int 0, .int 0])), (q_1, .inl (ty 0, 7, .inl (fun _ => 0))), (q_2, .inl (ty 0, 5640, .inl (fun _ => 0))), (q_3, .inl (ty 0, 11280, .inl (fun _ => 0))), (q_4, .inl (ty 2, 2, .inl (fun _ => 0))), (q_5, .inl (ty 0, 28, .inl (fun _ => 0))), (q_6, .inl (ty 3, 128, .inl (wU 73)))]) hp hd hs (by rw [← (wU_s 72 73 101 rfl rfl : upd (wU 72) 72 101 = wU 73)]; rfl) ?_
  clear hp hd hs hP hD hS
  intro hP hD hS
  refine lv_dup hx hb dX10_init_483 rfl ?_
  refine lv_bipush (v := 73) hx hb dX10_init_484 (by decide) ?_
  refine lv_bipush (v := 97) hx hb dX10_init_486 (by decide) ?_
  refine va_bast hx hb hK hP hD hS 6 3 rfl rfl (by simp only [vp_in]; decide) dX10_init_488 (fun H locs hp hd hs => ?_)
  refine kz_re (w2 := [(h0, .inr (10, [.int 0, .ref q_1, .ref q_2, .ref q_3, .ref q_4, .ref q_5, .int 0, .null, .int 0, .int 0, .int 0, .null, .null, .int 0, .int 0, .null, .null, .null, .int 0, .int 0, .int 0, .int 0, .int 0, .int 0, .int 0, .int 0, .null, .int 0, .int 0, .null, .null, .null, .int 0, .null, .null, .null, .null, .int 0, .int 0, .null, .null, .null, .null, .null, .null, .null, .int 0, .int 0, .int 0, .int 0, .int 0, .int 0, .long 0, .null, .int 0, .int 0])), (q_1, .inl (ty 0, 7, .inl (fun _ => 0))), (q_2, .inl (ty 0, 5640, .inl (fun _ => 0))), (q_3, .inl (ty 0, 11280, .inl (fun _ => 0))), (q_4, .inl (ty 2, 2, .inl (fun _ => 0))), (q_5, .inl (ty 0, 28, .inl (fun _ => 0))), (q_6, .inl (ty 3, 128, .inl (wU 74)))]) hp hd hs (by rw [← (wU_s 73 74 97 rfl rfl : upd (wU 73) 73 97 = wU 74)]; rfl) ?_
  clear hp hd hs hP hD hS
  intro hP hD hS
  refine lv_dup hx hb dX10_init_489 rfl ?_
  refine lv_bipush (v := 74) hx hb dX10_init_490 (by decide) ?_
  refine lv_bipush (v := 114) hx hb dX10_init_492 (by decide) ?_
  refine va_bast hx hb hK hP hD hS 6 3 rfl rfl (by simp only [vp_in]; decide) dX10_init_494 (fun H locs hp hd hs => ?_)
  refine kz_re (w2 := [(h0, .inr (10, [.int 0, .ref q_1, .ref q_2, .ref q_3, .ref q_4, .ref q_5, .int 0, .null, .int 0, .int 0, .int 0, .null, .null, .int 0, .int 0, .null, .null, .null, .int 0, .int 0, .int 0, .int 0, .int 0, .int 0, .int 0, .int 0, .null, .int 0, .int 0, .null, .null, .null, .int 0, .null, .null, .null, .null, .int 0, .int 0, .null, .null, .null, .null, .null, .null, .null, .int 0, .int 0, .int 0, .int 0, .int 0, .int 0, .long 0, .null, .int 0, .int 0])), (q_1, .inl (ty 0, 7, .inl (fun _ => 0))), (q_2, .inl (ty 0, 5640, .inl (fun _ => 0))), (q_3, .inl (ty 0, 11280, .inl (fun _ => 0))), (q_4, .inl (ty 2, 2, .inl (fun _ => 0))), (q_5, .inl (ty 0, 28, .inl (fun _ => 0))), (q_6, .inl (ty 3, 128, .inl (wU 75)))]) hp hd hs (by rw [← (wU_s 74 75 114 rfl rfl : upd (wU 74) 74 114 = wU 75)]; rfl) ?_
  clear hp hd hs hP hD hS
  intro hP hD hS
  refine lv_dup hx hb dX10_init_495 rfl ?_
  refine lv_bipush (v := 75) hx hb dX10_init_496 (by decide) ?_
  refine lv_bipush (v := 32) hx hb dX10_init_498 (by decide) ?_
  refine va_bast hx hb hK hP hD hS 6 3 rfl rfl (by simp only [vp_in]; decide) dX10_init_500 (fun H locs hp hd hs => ?_)
  refine kz_re (w2 := [(h0, .inr (10, [.int 0, .ref q_1, .ref q_2, .ref q_3, .ref q_4, .ref q_5, .int 0, .null, .int 0, .int 0, .int 0, .null, .null, .int 0, .int 0, .null, .null, .null, .int 0, .int 0, .int 0, .int 0, .int 0, .int 0, .int 0, .int 0, .null, .int 0, .int 0, .null, .null, .null, .int 0, .null, .null, .null, .null, .int 0, .int 0, .null, .null, .null, .null, .null, .null, .null, .int 0, .int 0, .int 0, .int 0, .int 0, .int 0, .long 0, .null, .int 0, .int 0])), (q_1, .inl (ty 0, 7, .inl (fun _ => 0))), (q_2, .inl (ty 0, 5640, .inl (fun _ => 0))), (q_3, .inl (ty 0, 11280, .inl (fun _ => 0))), (q_4, .inl (ty 2, 2, .inl (fun _ => 0))), (q_5, .inl (ty 0, 28, .inl (fun _ => 0))), (q_6, .inl (ty 3, 128, .inl (wU 76)))]) hp hd hs (by rw [← (wU_s 75 76 32 rfl rfl : upd (wU 75) 75 32 = wU 76)]; rfl) ?_
  clear hp hd hs hP hD hS
  intro hP hD hS
  refine lv_dup hx hb dX10_init_501 rfl ?_
  refine lv_bipush (v := 76) hx hb dX10_init_502 (by decide) ?_
  refine lv_bipush (v := 100) hx hb dX10_init_504 (by decide) ?_
  refine va_bast hx hb hK hP hD hS 6 3 rfl rfl (by simp only [vp_in]; decide) dX10_init_506 (fun H locs hp hd hs => ?_)
  refine kz_re (w2 := [(h0, .inr (10, [.int 0, .ref q_1, .ref q_2, .ref q_3, .ref q_4, .ref q_5, .int 0, .null, .int 0, .int 0, .int 0, .null, .null, .int 0, .int 0, .null, .null, .null, .int 0, .int 0, .int 0, .int 0, .int 0, .int 0, .int 0, .int 0, .null, .int 0, .int 0, .null, .null, .null, .int 0, .null, .null, .null, .null, .int 0, .int 0, .null, .null, .null, .null, .null, .null, .null, .int 0, .int 0, .int 0, .int 0, .int 0, .int 0, .long 0, .null, .int 0, .int 0])), (q_1, .inl (ty 0, 7, .inl (fun _ => 0))), (q_2, .inl (ty 0, 5640, .inl (fun _ => 0))), (q_3, .inl (ty 0, 11280, .inl (fun _ => 0))), (q_4, .inl (ty 2, 2, .inl (fun _ => 0))), (q_5, .inl (ty 0, 28, .inl (fun _ => 0))), (q_6, .inl (ty 3, 128, .inl (wU 77)))]) hp hd hs (by rw [← (wU_s 76 77 100 rfl rfl : upd (wU 76) 76 100 = wU 77)]; rfl) ?_
  clear hp hd hs hP hD hS
  intro hP hD hS
  refine lv_dup hx hb dX10_init_507 rfl ?_
  refine lv_bipush (v := 77) hx hb dX10_init_508 (by decide) ?_
  refine lv_bipush (v := 111) hx hb dX10_init_510 (by decide) ?_
  refine va_bast hx hb hK hP hD hS 6 3 rfl rfl (by simp only [vp_in]; decide) dX10_init_512 (fun H locs hp hd hs => ?_)
  refine kz_re (w2 := [(h0, .inr (10, [.int 0, .ref q_1, .ref q_2, .ref q_3, .ref q_4, .ref q_5, .int 0, .null, .int 0, .int 0, .int 0, .null, .null, .int 0, .int 0, .null, .null, .null, .int 0, .int 0, .int 0, .int 0, .int 0, .int 0, .int 0, .int 0, .null, .int 0, .int 0, .null, .null, .null, .int 0, .null, .null, .null, .null, .int 0, .int 0, .null, .null, .null, .null, .null, .null, .null, .int 0, .int 0, .int 0, .int 0, .int 0, .int 0, .long 0, .null, .int 0, .int 0])), (q_1, .inl (ty 0, 7, .inl (fun _ => 0))), (q_2, .inl (ty 0, 5640, .inl (fun _ => 0))), (q_3, .inl (ty 0, 11280, .inl (fun _ => 0))), (q_4, .inl (ty 2, 2, .inl (fun _ => 0))), (q_5, .inl (ty 0, 28, .inl (fun _ => 0))), (q_6, .inl (ty 3, 128, .inl (wU 78)))]) hp hd hs (by rw [← (wU_s 77 78 111 rfl rfl : upd (wU 77) 77 111 = wU 78)]; rfl) ?_
  clear hp hd hs hP hD hS
  intro hP hD hS
  refine lv_dup hx hb dX10_init_513 rfl ?_
  refine lv_bipush (v := 78) hx hb dX10_init_514 (by decide) ?_
  refine lv_bipush (v := 110) hx hb dX10_init_516 (by decide) ?_
  refine va_bast hx hb hK hP hD hS 6 3 rfl rfl (by simp only [vp_in]; decide) dX10_init_518 (fun H locs hp hd hs => ?_)
  refine kz_re (w2 := [(h0, .inr (10, [.int 0, .ref q_1, .ref q_2, .ref q_3, .ref q_4, .ref q_5, .int 0, .null, .int 0, .int 0, .int 0, .null, .null, .int 0, .int 0, .null, .null, .null, .int 0, .int 0, .int 0, .int 0, .int 0, .int 0, .int 0, .int 0, .null, .int 0, .int 0, .null, .null, .null, .int 0, .null, .null, .null, .null, .int 0, .int 0, .null, .null, .null, .null, .null, .null, .null, .int 0, .int 0, .int 0, .int 0, .int 0, .int 0, .long 0, .null, .int 0, .int 0])), (q_1, .inl (ty 0, 7, .inl (fun _ => 0))), (q_2, .inl (ty 0, 5640, .inl (fun _ => 0))), (q_3, .inl (ty 0, 11280, .inl (fun _ => 0))), (q_4, .inl (ty 2, 2, .inl (fun _ => 0))), (q_5, .inl (ty 0, 28, .inl (fun _ => 0))), (q_6, .inl (ty 3, 128, .inl (wU 79)))]) hp hd hs (by rw [← (wU_s 78 79 110 rfl rfl : upd (wU 78) 78 110 = wU 79)]; rfl) ?_
  clear hp hd hs hP hD hS
  intro hP hD hS
  refine lv_dup hx hb dX10_init_519 rfl ?_
  refine lv_bipush (v := 79) hx hb dX10_init_520 (by decide) ?_
  refine lv_bipush (v := 101) hx hb dX10_init_522 (by decide) ?_
  refine va_bast hx hb hK hP hD hS 6 3 rfl rfl (by simp only [vp_in]; decide) dX10_init_524 (fun H locs hp hd hs => ?_)
  refine kz_re (w2 := [(h0, .inr (10, [.int 0, .ref q_1, .ref q_2, .ref q_3, .ref q_4, .ref q_5, .int 0, .null, .int 0, .int 0, .int 0, .null, .null, .int 0, .int 0, .null, .null, .null, .int 0, .int 0, .int 0, .int 0, .int 0, .int 0, .int 0, .int 0, .null, .int 0, .int 0, .null, .null, .null, .int 0, .null, .null, .null, .null, .int 0, .int 0, .null, .null, .null, .null, .null, .null, .null, .int 0, .int 0, .int 0, .int 0, .int 0, .int 0, .long 0, .null, .int 0, .int 0])), (q_1, .inl (ty 0, 7, .inl (fun _ => 0))), (q_2, .inl (ty 0, 5640, .inl (fun _ => 0))), (q_3, .inl (ty 0, 11280, .inl (fun _ => 0))), (q_4, .inl (ty 2, 2, .inl (fun _ => 0))), (q_5, .inl (ty 0, 28, .inl (fun _ => 0))), (q_6, .inl (ty 3, 128, .inl (wU 80)))]) hp hd hs (by rw [← (wU_s 79 80 101 rfl rfl : upd (wU 79) 79 101 = wU 80)]; rfl) ?_
  clear hp hd hs hP hD hS
  intro hP hD hS
  refine lv_dup hx hb dX10_init_525 rfl ?_
  refine lv_bipush (v := 80) hx hb dX10_init_526 (by decide) ?_
  refine lv_bipush (v := 32) hx hb dX10_init_528 (by decide) ?_
  refine va_bast hx hb hK hP hD hS 6 3 rfl rfl (by simp only [vp_in]; decide) dX10_init_530 (fun H locs hp hd hs => ?_)
  refine kz_re (w2 := [(h0, .inr (10, [.int 0, .ref q_1, .ref q_2, .ref q_3, .ref q_4, .ref q_5, .int 0, .null, .int 0, .int 0, .int 0, .null, .null, .int 0, .int 0, .null, .null, .null, .int 0, .int 0, .int 0, .int 0, .int 0, .int 0, .int 0, .int 0, .null, .int 0, .int 0, .null, .null, .null, .int 0, .null, .null, .null, .null, .int 0, .int 0, .null, .null, .null, .null, .null, .null, .null, .int 0, .int 0, .int 0, .int 0, .int 0, .int 0, .long 0, .null, .int 0, .int 0])), (q_1, .inl (ty 0, 7, .inl (fun _ => 0))), (q_2, .inl (ty 0, 5640, .inl (fun _ => 0))), (q_3, .inl (ty 0, 11280, .inl (fun _ => 0))), (q_4, .inl (ty 2, 2, .inl (fun _ => 0))), (q_5, .inl (ty 0, 28, .inl (fun _ => 0))), (q_6, .inl (ty 3, 128, .inl (wU 81)))]) hp hd hs (by rw [← (wU_s 80 81 32 rfl rfl : upd (wU 80) 80 32 = wU 81)]; rfl) ?_
  clear hp hd hs hP hD hS
  intro hP hD hS
  refine lv_dup hx hb dX10_init_531 rfl ?_
  refine lv_bipush (v := 81) hx hb dX10_init_532 (by decide) ?_
  refine lv_bipush (v := 108) hx hb dX10_init_534 (by decide) ?_
  refine va_bast hx hb hK hP hD hS 6 3 rfl rfl (by simp only [vp_in]; decide) dX10_init_536 (fun H locs hp hd hs => ?_)
  refine kz_re (w2 := [(h0, .inr (10, [.int 0, .ref q_1, .ref q_2, .ref q_3, .ref q_4, .ref q_5, .int 0, .null, .int 0, .int 0, .int 0, .null, .null, .int 0, .int 0, .null, .null, .null, .int 0, .int 0, .int 0, .int 0, .int 0, .int 0, .int 0, .int 0, .null, .int 0, .int 0, .null, .null, .null, .int 0, .null, .null, .null, .null, .int 0, .int 0, .null, .null, .null, .null, .null, .null, .null, .int 0, .int 0, .int 0, .int 0, .int 0, .int 0, .long 0, .null, .int 0, .int 0])), (q_1, .inl (ty 0, 7, .inl (fun _ => 0))), (q_2, .inl (ty 0, 5640, .inl (fun _ => 0))), (q_3, .inl (ty 0, 11280, .inl (fun _ => 0))), (q_4, .inl (ty 2, 2, .inl (fun _ => 0))), (q_5, .inl (ty 0, 28, .inl (fun _ => 0))), (q_6, .inl (ty 3, 128, .inl (wU 82)))]) hp hd hs (by rw [← (wU_s 81 82 108 rfl rfl : upd (wU 81) 81 108 = wU 82)]; rfl) ?_
  clear hp hd hs hP hD hS
  intro hP hD hS
  refine lv_dup hx hb dX10_init_537 rfl ?_
  refine lv_bipush (v := 82) hx hb dX10_init_538 (by decide) ?_
  refine lv_bipush (v := 97) hx hb dX10_init_540 (by decide) ?_
  refine va_bast hx hb hK hP hD hS 6 3 rfl rfl (by simp only [vp_in]; decide) dX10_init_542 (fun H locs hp hd hs => ?_)
  refine kz_re (w2 := [(h0, .inr (10, [.int 0, .ref q_1, .ref q_2, .ref q_3, .ref q_4, .ref q_5, .int 0, .null, .int 0, .int 0, .int 0, .null, .null, .int 0, .int 0, .null, .null, .null, .int 0, .int 0, .int 0, .int 0, .int 0, .int 0, .int 0, .int 0, .null, .int 0, .int 0, .null, .null, .null, .int 0, .null, .null, .null, .null, .int 0, .int 0, .null, .null, .null, .null, .null, .null, .null, .int 0, .int 0, .int 0, .int 0, .int 0, .int 0, .long 0, .null, .int 0, .int 0])), (q_1, .inl (ty 0, 7, .inl (fun _ => 0))), (q_2, .inl (ty 0, 5640, .inl (fun _ => 0))), (q_3, .inl (ty 0, 11280, .inl (fun _ => 0))), (q_4, .inl (ty 2, 2, .inl (fun _ => 0))), (q_5, .inl (ty 0, 28, .inl (fun _ => 0))), (q_6, .inl (ty 3, 128, .inl (wU 83)))]) hp hd hs (by rw [← (wU_s 82 83 97 rfl rfl : upd (wU 82) 82 97 = wU 83)]; rfl) ?_
  clear hp hd hs hP hD hS
  intro hP hD hS
  refine lv_dup hx hb dX10_init_543 rfl ?_
  refine lv_bipush (v := 83) hx hb dX10_init_544 (by decide) ?_
  refine lv_bipush (v := 116) hx hb dX10_init_546 (by decide) ?_
  refine va_bast hx hb hK hP hD hS 6 3 rfl rfl (by simp only [vp_in]; decide) dX10_init_548 (fun H locs hp hd hs => ?_)
  refine kz_re (w2 := [(h0, .inr (10, [.int 0, .ref q_1, .ref q_2, .ref q_3, .ref q_4, .ref q_5, .int 0, .null, .int 0, .int 0, .int 0, .null, .null, .int 0, .int 0, .null, .null, .null, .int 0, .int 0, .int 0, .int 0, .int 0, .int 0, .int 0, .int 0, .null, .int 0, .int 0, .null, .null, .null, .int 0, .null, .null, .null, .null, .int 0, .int 0, .null, .null, .null, .null, .null, .null, .null, .int 0, .int 0, .int 0, .int 0, .int 0, .int 0, .long 0, .null, .int 0, .int 0])), (q_1, .inl (ty 0, 7, .inl (fun _ => 0))), (q_2, .inl (ty 0, 5640, .inl (fun _ => 0))), (q_3, .inl (ty 0, 11280, .inl (fun _ => 0))), (q_4, .inl (ty 2, 2, .inl (fun _ => 0))), (q_5, .inl (ty 0, 28, .inl (fun _ => 0))), (q_6, .inl (ty 3, 128, .inl (wU 84)))]) hp hd hs (by rw [← (wU_s 83 84 116 rfl rfl : upd (wU 83) 83 116 = wU 84)]; rfl) ?_
  clear hp hd hs hP hD hS
  intro hP hD hS
  refine lv_dup hx hb dX10_init_549 rfl ?_
  refine lv_bipush (v := 84) hx hb dX10_init_550 (by decide) ?_
  refine lv_bipush (v := 101) hx hb dX10_init_552 (by decide) ?_
  refine va_bast hx hb hK hP hD hS 6 3 rfl rfl (by simp only [vp_in]; decide) dX10_init_554 (fun H locs hp hd hs => ?_)
  refine kz_re (w2 := [(h0, .inr (10, [.int 0, .ref q_1, .ref q_2, .ref q_3, .ref q_4, .ref q_5, .int 0, .null, .int 0, .int 0, .int 0, .null, .null, .int 0, .int 0, .null, .null, .null, .int 0, .int 0, .int 0, .int 0, .int 0, .int 0, .int 0, .int 0, .null, .int 0, .int 0, .null, .null, .null, .int 0, .null, .null, .null, .null, .int 0, .int 0, .null, .null, .null, .null, .null, .null, .null, .int 0, .int 0, .int 0, .int 0, .int 0, .int 0, .long 0, .null, .int 0, .int 0])), (q_1, .inl (ty 0, 7, .inl (fun _ => 0))), (q_2, .inl (ty 0, 5640, .inl (fun _ => 0))), (q_3, .inl (ty 0, 11280, .inl (fun _ => 0))), (q_4, .inl (ty 2, 2, .inl (fun _ => 0))), (q_5, .inl (ty 0, 28, .inl (fun _ => 0))), (q_6, .inl (ty 3, 128, .inl (wU 85)))]) hp hd hs (by rw [← (wU_s 84 85 101 rfl rfl : upd (wU 84) 84 101 = wU 85)]; rfl) ?_
  clear hp hd hs hP hD hS
  intro hP hD hS
  refine lv_dup hx hb dX10_init_555 rfl ?_
  refine lv_bipush (v := 85) hx hb dX10_init_556 (by decide) ?_
  refine lv_bipush (v := 115) hx hb dX10_init_558 (by decide) ?_
  refine va_bast hx hb hK hP hD hS 6 3 rfl rfl (by simp only [vp_in]; decide) dX10_init_560 (fun H locs hp hd hs => ?_)
  refine kz_re (w2 := [(h0, .inr (10, [.int 0, .ref q_1, .ref q_2, .ref q_3, .ref q_4, .ref q_5, .int 0, .null, .int 0, .int 0, .int 0, .null, .null, .int 0, .int 0, .null, .null, .null, .int 0, .int 0, .int 0, .int 0, .int 0, .int 0, .int 0, .int 0, .null, .int 0, .int 0, .null, .null, .null, .int 0, .null, .null, .null, .null, .int 0, .int 0, .null, .null, .null, .null, .null, .null, .null, .int 0, .int 0, .int 0, .int 0, .int 0, .int 0, .long 0, .null, .int 0, .int 0])), (q_1, .inl (ty 0, 7, .inl (fun _ => 0))), (q_2, .inl (ty 0, 5640, .inl (fun _ => 0))), (q_3, .inl (ty 0, 11280, .inl (fun _ => 0))), (q_4, .inl (ty 2, 2, .inl (fun _ => 0))), (q_5, .inl (ty 0, 28, .inl (fun _ => 0))), (q_6, .inl (ty 3, 128, .inl (wU 86)))]) hp hd hs (by rw [← (wU_s 85 86 115 rfl rfl : upd (wU 85) 85 115 = wU 86)]; rfl) ?_
  clear hp hd hs hP hD hS
  intro hP hD hS
  refine lv_dup hx hb dX10_init_561 rfl ?_
  refine lv_bipush (v := 86) hx hb dX10_init_562 (by decide) ?_
  refine lv_bipush (v := 116) hx hb dX10_init_564 (by decide) ?_
  refine va_bast hx hb hK hP hD hS 6 3 rfl rfl (by simp only [vp_in]; decide) dX10_init_566 (fun H locs hp hd hs => ?_)
  refine kz_re (w2 := [(h0, .inr (10, [.int 0, .ref q_1, .ref q_2, .ref q_3, .ref q_4, .ref q_5, .int 0, .null, .int 0, .int 0, .int 0, .null, .null, .int 0, .int 0, .null, .null, .null, .int 0, .int 0, .int 0, .int 0, .int 0, .int 0, .int 0, .int 0, .null, .int 0, .int 0, .null, .null, .null, .int 0, .null, .null, .null, .null, .int 0, .int 0, .null, .null, .null, .null, .null, .null, .null, .int 0, .int 0, .int 0, .int 0, .int 0, .int 0, .long 0, .null, .int 0, .int 0])), (q_1, .inl (ty 0, 7, .inl (fun _ => 0))), (q_2, .inl (ty 0, 5640, .inl (fun _ => 0))), (q_3, .inl (ty 0, 11280, .inl (fun _ => 0))), (q_4, .inl (ty 2, 2, .inl (fun _ => 0))), (q_5, .inl (ty 0, 28, .inl (fun _ => 0))), (q_6, .inl (ty 3, 128, .inl (wU 87)))]) hp hd hs (by rw [← (wU_s 86 87 116 rfl rfl : upd (wU 86) 86 116 = wU 87)]; rfl) ?_
  clear hp hd hs hP hD hS
  intro hP hD hS
  refine lv_dup hx hb dX10_init_567 rfl ?_
  refine lv_bipush (v := 87) hx hb dX10_init_568 (by decide) ?_
  refine lv_bipush (v := 32) hx hb dX10_init_570 (by decide) ?_
  refine va_bast hx hb hK hP hD hS 6 3 rfl rfl (by simp only [vp_in]; decide) dX10_init_572 (fun H locs hp hd hs => ?_)
  refine kz_re (w2 := [(h0, .inr (10, [.int 0, .ref q_1, .ref q_2, .ref q_3, .ref q_4, .ref q_5, .int 0, .null, .int 0, .int 0, .int 0, .null, .null, .int 0, .int 0, .null, .null, .null, .int 0, .int 0, .int 0, .int 0, .int 0, .int 0, .int 0, .int 0, .null, .int 0, .int 0, .null, .null, .null, .int 0, .null, .null, .null, .null, .int 0, .int 0, .null, .null, .null, .null, .null, .null, .null, .int 0, .int 0, .int 0, .int 0, .int 0, .int 0, .long 0, .null, .int 0, .int 0])), (q_1, .inl (ty 0, 7, .inl (fun _ => 0))), (q_2, .inl (ty 0, 5640, .inl (fun _ => 0))), (q_3, .inl (ty 0, 11280, .inl (fun _ => 0))), (q_4, .inl (ty 2, 2, .inl (fun _ => 0))), (q_5, .inl (ty 0, 28, .inl (fun _ => 0))), (q_6, .inl (ty 3, 128, .inl (wU 88)))]) hp hd hs (by rw [← (wU_s 87 88 32 rfl rfl : upd (wU 87) 87 32 = wU 88)]; rfl) ?_
  clear hp hd hs hP hD hS
  intro hP hD hS
  refine lv_dup hx hb dX10_init_573 rfl ?_
  refine lv_bipush (v := 88) hx hb dX10_init_574 (by decide) ?_
  refine lv_bipush (v := 112) hx hb dX10_init_576 (by decide) ?_
  refine va_bast hx hb hK hP hD hS 6 3 rfl rfl (by simp only [vp_in]; decide) dX10_init_578 (fun H locs hp hd hs => ?_)
  refine kz_re (w2 := [(h0, .inr (10, [.int 0, .ref q_1, .ref q_2, .ref q_3, .ref q_4, .ref q_5, .int 0, .null, .int 0, .int 0, .int 0, .null, .null, .int 0, .int 0, .null, .null, .null, .int 0, .int 0, .int 0, .int 0, .int 0, .int 0, .int 0, .int 0, .null, .int 0, .int 0, .null, .null, .null, .int 0, .null, .null, .null, .null, .int 0, .int 0, .null, .null, .null, .null, .null, .null, .null, .int 0, .int 0, .int 0, .int 0, .int 0, .int 0, .long 0, .null, .int 0, .int 0])), (q_1, .inl (ty 0, 7, .inl (fun _ => 0))), (q_2, .inl (ty 0, 5640, .inl (fun _ => 0))), (q_3, .inl (ty 0, 11280, .inl (fun _ => 0))), (q_4, .inl (ty 2, 2, .inl (fun _ => 0))), (q_5, .inl (ty 0, 28, .inl (fun _ => 0))), (q_6, .inl (ty 3, 128, .inl (wU 89)))]) hp hd hs (by rw [← (wU_s 88 89 112 rfl rfl : upd (wU 88) 88 112 = wU 89)]; rfl) ?_
  clear hp hd hs hP hD hS
  intro hP hD hS
  refine lv_dup hx hb dX10_init_579 rfl ?_
  refine lv_bipush (v := 89) hx hb dX10_init_580 (by decide) ?_
  refine lv_bipush (v := 97) hx hb dX10_init_582 (by decide) ?_
  refine va_bast hx hb hK hP hD hS 6 3 rfl rfl (by simp only [vp_in]; decide) dX10_init_584 (fun H locs hp hd hs => ?_)
  refine kz_re (w2 := [(h0, .inr (10, [.int 0, .ref q_1, .ref q_2, .ref q_3, .ref q_4, .ref q_5, .int 0, .null, .int 0, .int 0, .int 0, .null, .null, .int 0, .int 0, .null, .null, .null, .int 0, .int 0, .int 0, .int 0, .int 0, .int 0, .int 0, .int 0, .null, .int 0, .int 0, .null, .null, .null, .int 0, .null, .null, .null, .null, .int 0, .int 0, .null, .null, .null, .null, .null, .null, .null, .int 0, .int 0, .int 0, .int 0, .int 0, .int 0, .long 0, .null, .int 0, .int 0])), (q_1, .inl (ty 0, 7, .inl (fun _ => 0))), (q_2, .inl (ty 0, 5640, .inl (fun _ => 0))), (q_3, .inl (ty 0, 11280, .inl (fun _ => 0))), (q_4, .inl (ty 2, 2, .inl (fun _ => 0))), (q_5, .inl (ty 0, 28, .inl (fun _ => 0))), (q_6, .inl (ty 3, 128, .inl (wU 90)))]) hp hd hs (by rw [← (wU_s 89 90 97 rfl rfl : upd (wU 89) 89 97 = wU 90)]; rfl) ?_
  clear hp hd hs hP hD hS
  intro hP hD hS
  refine lv_dup hx hb dX10_init_585 rfl ?_
  refine lv_bipush (v := 90) hx hb dX10_init_586 (by decide) ?_
  refine lv_bipush (v := 105) hx hb dX10_init_588 (by decide) ?_
  refine va_bast hx hb hK hP hD hS 6 3 rfl rfl (by simp only [vp_in]; decide) dX10_init_590 (fun H locs hp hd hs => ?_)
  refine kz_re (w2 := [(h0, .inr (10, [.int 0, .ref q_1, .ref q_2, .ref q_3, .ref q_4, .ref q_5, .int 0, .null, .int 0, .int 0, .int 0, .null, .null, .int 0, .int 0, .null, .null, .null, .int 0, .int 0, .int 0, .int 0, .int 0, .int 0, .int 0, .int 0, .null, .int 0, .int 0, .null, .null, .null, .int 0, .null, .null, .null, .null, .int 0, .int 0, .null, .null, .null, .null, .null, .null, .null, .int 0, .int 0, .int 0, .int 0, .int 0, .int 0, .long 0, .null, .int 0, .int 0])), (q_1, .inl (ty 0, 7, .inl (fun _ => 0))), (q_2, .inl (ty 0, 5640, .inl (fun _ => 0))), (q_3, .inl (ty 0, 11280, .inl (fun _ => 0))), (q_4, .inl (ty 2, 2, .inl (fun _ => 0))), (q_5, .inl (ty 0, 28, .inl (fun _ => 0))), (q_6, .inl (ty 3, 128, .inl (wU 91)))]) hp hd hs (by rw [← (wU_s 90 91 105 rfl rfl : upd (wU 90) 90 105 = wU 91)]; rfl) ?_
  clear hp hd hs hP hD hS
  intro hP hD hS
  refine lv_dup hx hb dX10_init_591 rfl ?_
  refine lv_bipush (v := 91) hx hb dX10_init_592 (by decide) ?_
  refine lv_bipush (v := 100) hx hb dX10_init_594 (by decide) ?_
  refine va_bast hx hb hK hP hD hS 6 3 rfl rfl (by simp only [vp_in]; decide) dX10_init_596 (fun H locs hp hd hs => ?_)
  refine kz_re (w2 := [(h0, .inr (10, [.int 0, .ref q_1, .ref q_2, .ref q_3, .ref q_4, .ref q_5, .int 0, .null, .int 0, .int 0, .int 0, .null, .null, .int 0, .int 0, .null, .null, .null, .int 0, .int 0, .int 0, .int 0, .int 0, .int 0, .int 0, .int 0, .null, .int 0, .int 0, .null, .null, .null, .int 0, .null, .null, .null, .null, .int 0, .int 0, .null, .null, .null, .null, .null, .null, .null, .int 0, .int 0, .int 0, .int 0, .int 0, .int 0, .long 0, .null, .int 0, .int 0])), (q_1, .inl (ty 0, 7, .inl (fun _ => 0))), (q_2, .inl (ty 0, 5640, .inl (fun _ => 0))), (q_3, .inl (ty 0, 11280, .inl (fun _ => 0))), (q_4, .inl (ty 2, 2, .inl (fun _ => 0))), (q_5, .inl (ty 0, 28, .inl (fun _ => 0))), (q_6, .inl (ty 3, 128, .inl (wU 92)))]) hp hd hs (by rw [← (wU_s 91 92 100 rfl rfl : upd (wU 91) 91 100 = wU 92)]; rfl) ?_
  clear hp hd hs hP hD hS
  intro hP hD hS
  refine lv_dup hx hb dX10_init_597 rfl ?_
  refine lv_bipush (v := 92) hx hb dX10_init_598 (by decide) ?_
  refine lv_bipush (v := 32) hx hb dX10_init_600 (by decide) ?_
  refine va_bast hx hb hK hP hD hS 6 3 rfl rfl (by simp only [vp_in]; decide) dX10_init_602 (fun H locs hp hd hs => ?_)
  refine kz_re (w2 := [(h0, .inr (10, [.int 0, .ref q_1, .ref q_2, .ref q_3, .ref q_4, .ref q_5, .int 0, .null, .int 0, .int 0, .int 0, .null, .null, .int 0, .int 0, .null, .null, .null, .int 0, .int 0, .int 0, .int 0, .int 0, .int 0, .int 0, .int 0, .null, .int 0, .int 0, .null, .null, .null, .int 0, .null, .null, .null, .null, .int 0, .int 0, .null, .null, .null, .null, .null, .null, .null, .int 0, .int 0, .int 0, .int 0, .int 0, .int 0, .long 0, .null, .int 0, .int 0])), (q_1, .inl (ty 0, 7, .inl (fun _ => 0))), (q_2, .inl (ty 0, 5640, .inl (fun _ => 0))), (q_3, .inl (ty 0, 11280, .inl (fun _ => 0))), (q_4, .inl (ty 2, 2, .inl (fun _ => 0))), (q_5, .inl (ty 0, 28, .inl (fun _ => 0))), (q_6, .inl (ty 3, 128, .inl (wU 93)))]) hp hd hs (by rw [← (wU_s 92 93 32 rfl rfl : upd (wU 92) 92 32 = wU 93)]; rfl) ?_
  clear hp hd hs hP hD hS
  intro hP hD hS
  refine lv_dup hx hb dX10_init_603 rfl ?_
  refine lv_bipush (v := 93) hx hb dX10_init_604 (by decide) ?_
  refine lv_bipush (v := 103) hx hb dX10_init_606 (by decide) ?_
  refine va_bast hx hb hK hP hD hS 6 3 rfl rfl (by simp only [vp_in]; decide) dX10_init_608 (fun H locs hp hd hs => ?_)
  refine kz_re (w2 := [(h0, .inr (10, [.int 0, .ref q_1, .ref q_2, .ref q_3, .ref q_4, .ref q_5, .int 0, .null, .int 0, .int 0, .int 0, .null, .null, .int 0, .int 0, .null, .null, .null, .int 0, .int 0, .int 0, .int 0, .int 0, .int 0, .int 0, .int 0, .null, .int 0, .int 0, .null, .null, .null, .int 0, .null, .null, .null, .null, .int 0, .int 0, .null, .null, .null, .null, .null, .null, .null, .int 0, .int 0, .int 0, .int 0, .int 0, .int 0, .long 0, .null, .int 0, .int 0])), (q_1, .inl (ty 0, 7, .inl (fun _ => 0))), (q_2, .inl (ty 0, 5640, .inl (fun _ => 0))), (q_3, .inl (ty 0, 11280, .inl (fun _ => 0))), (q_4, .inl (ty 2, 2, .inl (fun _ => 0))), (q_5, .inl (ty 0, 28, .inl (fun _ => 0))), (q_6, .inl (ty 3, 128, .inl (wU 94)))]) hp hd hs (by rw [← (wU_s 93 94 103 rfl rfl : upd (wU 93) 93 103 = wU 94)]; rfl) ?_
  clear hp hd hs hP hD hS
  intro hP hD hS
  refine lv_dup hx hb dX10_init_609 rfl ?_
  refine lv_bipush (v := 94) hx hb dX10_init_610 (by decide) ?_
  refine lv_bipush (v := 97) hx hb dX10_init_612 (by decide) ?_
  refine va_bast hx hb hK hP hD hS 6 3 rfl rfl (by simp only [vp_in]; decide) dX10_init_614 (fun H locs hp hd hs => ?_)
  refine kz_re (w2 := [(h0, .inr (10, [.int 0, .ref q_1, .ref q_2, .ref q_3, .ref q_4, .ref q_5, .int 0, .null, .int 0, .int 0, .int 0, .null, .null, .int 0, .int 0, .null, .null, .null, .int 0, .int 0, .int 0, .int 0, .int 0, .int 0, .int 0, .int 0, .null, .int 0, .int 0, .null, .null, .null, .int 0, .null, .null, .null, .null, .int 0, .int 0, .null, .null, .null, .null, .null, .null, .null, .int 0, .int 0, .int 0, .int 0, .int 0, .int 0, .long 0, .null, .int 0, .int 0])), (q_1, .inl (ty 0, 7, .inl (fun _ => 0))), (q_2, .inl (ty 0, 5640, .inl (fun _ => 0))), (q_3, .inl (ty 0, 11280, .inl (fun _ => 0))), (q_4, .inl (ty 2, 2, .inl (fun _ => 0))), (q_5, .inl (ty 0, 28, .inl (fun _ => 0))), (q_6, .inl (ty 3, 128, .inl (wU 95)))]) hp hd hs (by rw [← (wU_s 94 95 97 rfl rfl : upd (wU 94) 94 97 = wU 95)]; rfl) ?_
  clear hp hd hs hP hD hS
  intro hP hD hS
  refine lv_dup hx hb dX10_init_615 rfl ?_
  refine lv_bipush (v := 95) hx hb dX10_init_616 (by decide) ?_
  refine lv_bipush (v := 112) hx hb dX10_init_618 (by decide) ?_
  refine va_bast hx hb hK hP hD hS 6 3 rfl rfl (by simp only [vp_in]; decide) dX10_init_620 (fun H locs hp hd hs => ?_)
  refine kz_re (w2 := [(h0, .inr (10, [.int 0, .ref q_1, .ref q_2, .ref q_3, .ref q_4, .ref q_5, .int 0, .null, .int 0, .int 0, .int 0, .null, .null, .int 0, .int 0, .null, .null, .null, .int 0, .int 0, .int 0, .int 0, .int 0, .int 0, .int 0, .int 0, .null, .int 0, .int 0, .null, .null, .null, .int 0, .null, .null, .null, .null, .int 0, .int 0, .null, .null, .null, .null, .null, .null, .null, .int 0, .int 0, .int 0, .int 0, .int 0, .int 0, .long 0, .null, .int 0, .int 0])), (q_1, .inl (ty 0, 7, .inl (fun _ => 0))), (q_2, .inl (ty 0, 5640, .inl (fun _ => 0))), (q_3, .inl (ty 0, 11280, .inl (fun _ => 0))), (q_4, .inl (ty 2, 2, .inl (fun _ => 0))), (q_5, .inl (ty 0, 28, .inl (fun _ => 0))), (q_6, .inl (ty 3, 128, .inl (wU 96)))]) hp hd hs (by rw [← (wU_s 95 96 112 rfl rfl : upd (wU 95) 95 112 = wU 96)]; rfl) ?_
  clear hp hd hs hP hD hS
  intro hP hD hS
  refine lv_dup hx hb dX10_init_621 rfl ?_
  refine lv_bipush (v := 96) hx hb dX10_init_622 (by decide) ?_
  refine lv_bipush (v := 115) hx hb dX10_init_624 (by decide) ?_
  refine va_bast hx hb hK hP hD hS 6 3 rfl rfl (by simp only [vp_in]; decide) dX10_init_626 (fun H locs hp hd hs => ?_)
  refine kz_re (w2 := [(h0, .inr (10, [.int 0, .ref q_1, .ref q_2, .ref q_3, .ref q_4, .ref q_5, .int 0, .null, .int 0, .int 0, .int 0, .null, .null, .int 0, .int 0, .null, .null, .null, .int 0, .int 0, .int 0, .int 0, .int 0, .int 0, .int 0, .int 0, .null, .int 0, .int 0, .null, .null, .null, .int 0, .null, .null, .null, .null, .int 0, .int 0, .null, .null, .null, .null, .null, .null, .null, .int 0, .int 0, .int 0, .int 0, .int 0, .int 0, .long 0, .null, .int 0, .int 0])), (q_1, .inl (ty 0, 7, .inl (fun _ => 0))), (q_2, .inl (ty 0, 5640, .inl (fun _ => 0))), (q_3, .inl (ty 0, 11280, .inl (fun _ => 0))), (q_4, .inl (ty 2, 2, .inl (fun _ => 0))), (q_5, .inl (ty 0, 28, .inl (fun _ => 0))), (q_6, .inl (ty 3, 128, .inl (wU 97)))]) hp hd hs (by rw [← (wU_s 96 97 115 rfl rfl : upd (wU 96) 96 115 = wU 97)]; rfl) ?_
  clear hp hd hs hP hD hS
  intro hP hD hS
  refine lv_dup hx hb dX10_init_627 rfl ?_
  refine lv_bipush (v := 97) hx hb dX10_init_628 (by decide) ?_
  refine lv_bipush (v := 32) hx hb dX10_init_630 (by decide) ?_
  refine va_bast hx hb hK hP hD hS 6 3 rfl rfl (by simp only [vp_in]; decide) dX10_init_632 (fun H locs hp hd hs => ?_)
  refine kz_re (w2 := [(h0, .inr (10, [.int 0, .ref q_1, .ref q_2, .ref q_3, .ref q_4, .ref q_5, .int 0, .null, .int 0, .int 0, .int 0, .null, .null, .int 0, .int 0, .null, .null, .null, .int 0, .int 0, .int 0, .int 0, .int 0, .int 0, .int 0, .int 0, .null, .int 0, .int 0, .null, .null, .null, .int 0, .null, .null, .null, .null, .int 0, .int 0, .null, .null, .null, .null, .null, .null, .null, .int 0, .int 0, .int 0, .int 0, .int 0, .int 0, .long 0, .null, .int 0, .int 0])), (q_1, .inl (ty 0, 7, .inl (fun _ => 0))), (q_2, .inl (ty 0, 5640, .inl (fun _ => 0))), (q_3, .inl (ty 0, 11280, .inl (fun _ => 0))), (q_4, .inl (ty 2, 2, .inl (fun _ => 0))), (q_5, .inl (ty 0, 28, .inl (fun _ => 0))), (q_6, .inl (ty 3, 128, .inl (wU 98)))]) hp hd hs (by rw [← (wU_s 97 98 32 rfl rfl : upd (wU 97) 97 32 = wU 98)]; rfl) ?_
  clear hp hd hs hP hD hS
  intro hP hD hS
  refine lv_dup hx hb dX10_init_633 rfl ?_
  refine lv_bipush (v := 98) hx hb dX10_init_634 (by decide) ?_
  refine lv_bipush (v := 97) hx hb dX10_init_636 (by decide) ?_
  refine va_bast hx hb hK hP hD hS 6 3 rfl rfl (by simp only [vp_in]; decide) dX10_init_638 (fun H locs hp hd hs => ?_)
  refine kz_re (w2 := [(h0, .inr (10, [.int 0, .ref q_1, .ref q_2, .ref q_3, .ref q_4, .ref q_5, .int 0, .null, .int 0, .int 0, .int 0, .null, .null, .int 0, .int 0, .null, .null, .null, .int 0, .int 0, .int 0, .int 0, .int 0, .int 0, .int 0, .int 0, .null, .int 0, .int 0, .null, .null, .null, .int 0, .null, .null, .null, .null, .int 0, .int 0, .null, .null, .null, .null, .null, .null, .null, .int 0, .int 0, .int 0, .int 0, .int 0, .int 0, .long 0, .null, .int 0, .int 0])), (q_1, .inl (ty 0, 7, .inl (fun _ => 0))), (q_2, .inl (ty 0, 5640, .inl (fun _ => 0))), (q_3, .inl (ty 0, 11280, .inl (fun _ => 0))), (q_4, .inl (ty 2, 2, .inl (fun _ => 0))), (q_5, .inl (ty 0, 28, .inl (fun _ => 0))), (q_6, .inl (ty 3, 128, .inl (wU 99)))]) hp hd hs (by rw [← (wU_s 98 99 97 rfl rfl : upd (wU 98) 98 97 = wU 99)]; rfl) ?_
  clear hp hd hs hP hD hS
  intro hP hD hS
  refine lv_dup hx hb dX10_init_639 rfl ?_
  refine lv_bipush (v := 99) hx hb dX10_init_640 (by decide) ?_
  refine lv_bipush (v := 116) hx hb dX10_init_642 (by decide) ?_
  refine va_bast hx hb hK hP hD hS 6 3 rfl rfl (by simp only [vp_in]; decide) dX10_init_644 (fun H locs hp hd hs => ?_)
  refine kz_re (w2 := [(h0, .inr (10, [.int 0, .ref q_1, .ref q_2, .ref q_3, .ref q_4, .ref q_5, .int 0, .null, .int 0, .int 0, .int 0, .null, .null, .int 0, .int 0, .null, .null, .null, .int 0, .int 0, .int 0, .int 0, .int 0, .int 0, .int 0, .int 0, .null, .int 0, .int 0, .null, .null, .null, .int 0, .null, .null, .null, .null, .int 0, .int 0, .null, .null, .null, .null, .null, .null, .null, .int 0, .int 0, .int 0, .int 0, .int 0, .int 0, .long 0, .null, .int 0, .int 0])), (q_1, .inl (ty 0, 7, .inl (fun _ => 0))), (q_2, .inl (ty 0, 5640, .inl (fun _ => 0))), (q_3, .inl (ty 0, 11280, .inl (fun _ => 0))), (q_4, .inl (ty 2, 2, .inl (fun _ => 0))), (q_5, .inl (ty 0, 28, .inl (fun _ => 0))), (q_6, .inl (ty 3, 128, .inl (wU 100)))]) hp hd hs (by rw [← (wU_s 99 100 116 rfl rfl : upd (wU 99) 99 116 = wU 100)]; rfl) ?_
  clear hp hd hs hP hD hS
  intro hP hD hS
  refine lv_dup hx hb dX10_init_645 rfl ?_
  refine lv_bipush (v := 100) hx hb dX10_init_646 (by decide) ?_
  refine lv_bipush (v := 32) hx hb dX10_init_648 (by decide) ?_
  refine va_bast hx hb hK hP hD hS 6 3 rfl rfl (by simp only [vp_in]; decide) dX10_init_650 (fun H locs hp hd hs => ?_)
  refine kz_re (w2 := [(h0, .inr (10, [.int 0, .ref q_1, .ref q_2, .ref q_3, .ref q_4, .ref q_5, .int 0, .null, .int 0, .int 0, .int 0, .null, .null, .int 0, .int 0, .null, .null, .null, .int 0, .int 0, .int 0, .int 0, .int 0, .int 0, .int 0, .int 0, .null, .int 0, .int 0, .null, .null, .null, .int 0, .null, .null, .null, .null, .int 0, .int 0, .null, .null, .null, .null, .null, .null, .null, .int 0, .int 0, .int 0, .int 0, .int 0, .int 0, .long 0, .null, .int 0, .int 0])), (q_1, .inl (ty 0, 7, .inl (fun _ => 0))), (q_2, .inl (ty 0, 5640, .inl (fun _ => 0))), (q_3, .inl (ty 0, 11280, .inl (fun _ => 0))), (q_4, .inl (ty 2, 2, .inl (fun _ => 0))), (q_5, .inl (ty 0, 28, .inl (fun _ => 0))), (q_6, .inl (ty 3, 128, .inl (wU 101)))]) hp hd hs (by rw [← (wU_s 100 101 32 rfl rfl : upd (wU 100) 100 32 = wU 101)]; rfl) ?_
  clear hp hd hs hP hD hS
  intro hP hD hS
  refine lv_dup hx hb dX10_init_651 rfl ?_
  refine lv_bipush (v := 101) hx hb dX10_init_652 (by decide) ?_
  refine lv_bipush (v := 116) hx hb dX10_init_654 (by decide) ?_
  refine va_bast hx hb hK hP hD hS 6 3 rfl rfl (by simp only [vp_in]; decide) dX10_init_656 (fun H locs hp hd hs => ?_)
  refine kz_re (w2 := [(h0, .inr (10, [.int 0, .ref q_1, .ref q_2, .ref q_3, .ref q_4, .ref q_5, .int 0, .null, .int 0, .int 0, .int 0, .null, .null, .int 0, .int 0, .null, .null, .null, .int 0, .int 0, .int 0, .int 0, .int 0, .int 0, .int 0, .int 0, .null, .int 0, .int 0, .null, .null, .null, .int 0, .null, .null, .null, .null, .int 0, .int 0, .null, .null, .null, .null, .null, .null, .null, .int 0, .int 0, .int 0, .int 0, .int 0, .int 0, .long 0, .null, .int 0, .int 0])), (q_1, .inl (ty 0, 7, .inl (fun _ => 0))), (q_2, .inl (ty 0, 5640, .inl (fun _ => 0))), (q_3, .inl (ty 0, 11280, .inl (fun _ => 0))), (q_4, .inl (ty 2, 2, .inl (fun _ => 0))), (q_5, .inl (ty 0, 28, .inl (fun _ => 0))), (q_6, .inl (ty 3, 128, .inl (wU 102)))]) hp hd hs (by rw [← (wU_s 101 102 116 rfl rfl : upd (wU 101) 101 116 = wU 102)]; rfl) ?_
  clear hp hd hs hP hD hS
  intro hP hD hS
  refine lv_dup hx hb dX10_init_657 rfl ?_
  refine lv_bipush (v := 102) hx hb dX10_init_658 (by decide) ?_
  refine lv_bipush (v := 117) hx hb dX10_init_660 (by decide) ?_
  refine va_bast hx hb hK hP hD hS 6 3 rfl rfl (by simp only [vp_in]; decide) dX10_init_662 (fun H locs hp hd hs => ?_)
  refine kz_re (w2 := [(h0, .inr (10, [.int 0, .ref q_1, .ref q_2, .ref q_3, .ref q_4, .ref q_5, .int 0, .null, .int 0, .int 0, .int 0, .null, .null, .int 0, .int 0, .null, .null, .null, .int 0, .int 0, .int 0, .int 0, .int 0, .int 0, .int 0, .int 0, .null, .int 0, .int 0, .null, .null, .null, .int 0, .null, .null, .null, .null, .int 0, .int 0, .null, .null, .null, .null, .null, .null, .null, .int 0, .int 0, .int 0, .int 0, .int 0, .int 0, .long 0, .null, .int 0, .int 0])), (q_1, .inl (ty 0, 7, .inl (fun _ => 0))), (q_2, .inl (ty 0, 5640, .inl (fun _ => 0))), (q_3, .inl (ty 0, 11280, .inl (fun _ => 0))), (q_4, .inl (ty 2, 2, .inl (fun _ => 0))), (q_5, .inl (ty 0, 28, .inl (fun _ => 0))), (q_6, .inl (ty 3, 128, .inl (wU 103)))]) hp hd hs (by rw [← (wU_s 102 103 117 rfl rfl : upd (wU 102) 102 117 = wU 103)]; rfl) ?_
  clear hp hd hs hP hD hS
  intro hP hD hS
  refine lv_dup hx hb dX10_init_663 rfl ?_
  refine lv_bipush (v := 103) hx hb dX10_init_664 (by decide) ?_
  refine lv_bipush (v := 114) hx hb dX10_init_666 (by decide) ?_
  refine va_bast hx hb hK hP hD hS 6 3 rfl rfl (by simp only [vp_in]; decide) dX10_init_668 (fun H locs hp hd hs => ?_)
  refine kz_re (w2 := [(h0, .inr (10, [.int 0, .ref q_1, .ref q_2, .ref q_3, .ref q_4, .ref q_5, .int 0, .null, .int 0, .int 0, .int 0, .null, .null, .int 0, .int 0, .null, .null, .null, .int 0, .int 0, .int 0, .int 0, .int 0, .int 0, .int 0, .int 0, .null, .int 0, .int 0, .null, .null, .null, .int 0, .null, .null, .null, .null, .int 0, .int 0, .null, .null, .null, .null, .null, .null, .null, .int 0, .int 0, .int 0, .int 0, .int 0, .int 0, .long 0, .null, .int 0, .int 0])), (q_1, .inl (ty 0, 7, .inl (fun _ => 0))), (q_2, .inl (ty 0, 5640, .inl (fun _ => 0))), (q_3, .inl (ty 0, 11280, .inl (fun _ => 0))), (q_4, .inl (ty 2, 2, .inl (fun _ => 0))), (q_5, .inl (ty 0, 28, .inl (fun _ => 0))), (q_6, .inl (ty 3, 128, .inl (wU 104)))]) hp hd hs (by rw [← (wU_s 103 104 114 rfl rfl : upd (wU 103) 103 114 = wU 104)]; rfl) ?_
  clear hp hd hs hP hD hS
  intro hP hD hS
  refine lv_dup hx hb dX10_init_669 rfl ?_
  refine lv_bipush (v := 104) hx hb dX10_init_670 (by decide) ?_
  refine lv_bipush (v := 110) hx hb dX10_init_672 (by decide) ?_
  refine va_bast hx hb hK hP hD hS 6 3 rfl rfl (by simp only [vp_in]; decide) dX10_init_674 (fun H locs hp hd hs => ?_)
  refine kz_re (w2 := [(h0, .inr (10, [.int 0, .ref q_1, .ref q_2, .ref q_3, .ref q_4, .ref q_5, .int 0, .null, .int 0, .int 0, .int 0, .null, .null, .int 0, .int 0, .null, .null, .null, .int 0, .int 0, .int 0, .int 0, .int 0, .int 0, .int 0, .int 0, .null, .int 0, .int 0, .null, .null, .null, .int 0, .null, .null, .null, .null, .int 0, .int 0, .null, .null, .null, .null, .null, .null, .null, .int 0, .int 0, .int 0, .int 0, .int 0, .int 0, .long 0, .null, .int 0, .int 0])), (q_1, .inl (ty 0, 7, .inl (fun _ => 0))), (q_2, .inl (ty 0, 5640, .inl (fun _ => 0))), (q_3, .inl (ty 0, 11280, .inl (fun _ => 0))), (q_4, .inl (ty 2, 2, .inl (fun _ => 0))), (q_5, .inl (ty 0, 28, .inl (fun _ => 0))), (q_6, .inl (ty 3, 128, .inl (wU 105)))]) hp hd hs (by rw [← (wU_s 104 105 110 rfl rfl : upd (wU 104) 104 110 = wU 105)]; rfl) ?_
  clear hp hd hs hP hD hS
  intro hP hD hS
  refine lv_dup hx hb dX10_init_675 rfl ?_
  refine lv_bipush (v := 105) hx hb dX10_init_676 (by decide) ?_
  refine lv_bipush (v := 32) hx hb dX10_init_678 (by decide) ?_
  refine va_bast hx hb hK hP hD hS 6 3 rfl rfl (by simp only [vp_in]; decide) dX10_init_680 (fun H locs hp hd hs => ?_)
  refine kz_re (w2 := [(h0, .inr (10, [.int 0, .ref q_1, .ref q_2, .ref q_3, .ref q_4, .ref q_5, .int 0, .null, .int 0, .int 0, .int 0, .null, .null, .int 0, .int 0, .null, .null, .null, .int 0, .int 0, .int 0, .int 0, .int 0, .int 0, .int 0, .int 0, .null, .int 0, .int 0, .null, .null, .null, .int 0, .null, .null, .null, .null, .int 0, .int 0, .null, .null, .null, .null, .null, .null, .null, .int 0, .int 0, .int 0, .int 0, .int 0, .int 0, .long 0, .null, .int 0, .int 0])), (q_1, .inl (ty 0, 7, .inl (fun _ => 0))), (q_2, .inl (ty 0, 5640, .inl (fun _ => 0))), (q_3, .inl (ty 0, 11280, .inl (fun _ => 0))), (q_4, .inl (ty 2, 2, .inl (fun _ => 0))), (q_5, .inl (ty 0, 28, .inl (fun _ => 0))), (q_6, .inl (ty 3, 128, .inl (wU 106)))]) hp hd hs (by rw [← (wU_s 105 106 32 rfl rfl : upd (wU 105) 105 32 = wU 106)]; rfl) ?_
  clear hp hd hs hP hD hS
  intro hP hD hS
  refine lv_dup hx hb dX10_init_681 rfl ?_
  refine lv_bipush (v := 106) hx hb dX10_init_682 (by decide) ?_
  refine lv_bipush (v := 114) hx hb dX10_init_684 (by decide) ?_
  refine va_bast hx hb hK hP hD hS 6 3 rfl rfl (by simp only [vp_in]; decide) dX10_init_686 (fun H locs hp hd hs => ?_)
  refine kz_re (w2 := [(h0, .inr (10, [.int 0, .ref q_1, .ref q_2, .ref q_3, .ref q_4, .ref q_5, .int 0, .null, .int 0, .int 0, .int 0, .null, .null, .int 0, .int 0, .null, .null, .null, .int 0, .int 0, .int 0, .int 0, .int 0, .int 0, .int 0, .int 0, .null, .int 0, .int 0, .null, .null, .null, .int 0, .null, .null, .null, .null, .int 0, .int 0, .null, .null, .null, .null, .null, .null, .null, .int 0, .int 0, .int 0, .int 0, .int 0, .int 0, .long 0, .null, .int 0, .int 0])), (q_1, .inl (ty 0, 7, .inl (fun _ => 0))), (q_2, .inl (ty 0, 5640, .inl (fun _ => 0))), (q_3, .inl (ty 0, 11280, .inl (fun _ => 0))), (q_4, .inl (ty 2, 2, .inl (fun _ => 0))), (q_5, .inl (ty 0, 28, .inl (fun _ => 0))), (q_6, .inl (ty 3, 128, .inl (wU 107)))]) hp hd hs (by rw [← (wU_s 106 107 114 rfl rfl : upd (wU 106) 106 114 = wU 107)]; rfl) ?_
  clear hp hd hs hP hD hS
  intro hP hD hS
  refine lv_dup hx hb dX10_init_687 rfl ?_
  refine lv_bipush (v := 107) hx hb dX10_init_688 (by decide) ?_
  refine lv_bipush (v := 105) hx hb dX10_init_690 (by decide) ?_
  refine va_bast hx hb hK hP hD hS 6 3 rfl rfl (by simp only [vp_in]; decide) dX10_init_692 (fun H locs hp hd hs => ?_)
  refine kz_re (w2 := [(h0, .inr (10, [.int 0, .ref q_1, .ref q_2, .ref q_3, .ref q_4, .ref q_5, .int 0, .null, .int 0, .int 0, .int 0, .null, .null, .int 0, .int 0, .null, .null, .null, .int 0, .int 0, .int 0, .int 0, .int 0, .int 0, .int 0, .int 0, .null, .int 0, .int 0, .null, .null, .null, .int 0, .null, .null, .null, .null, .int 0, .int 0, .null, .null, .null, .null, .null, .null, .null, .int 0, .int 0, .int 0, .int 0, .int 0, .int 0, .long 0, .null, .int 0, .int 0])), (q_1, .inl (ty 0, 7, .inl (fun _ => 0))), (q_2, .inl (ty 0, 5640, .inl (fun _ => 0))), (q_3, .inl (ty 0, 11280, .inl (fun _ => 0))), (q_4, .inl (ty 2, 2, .inl (fun _ => 0))), (q_5, .inl (ty 0, 28, .inl (fun _ => 0))), (q_6, .inl (ty 3, 128, .inl (wU 108)))]) hp hd hs (by rw [← (wU_s 107 108 105 rfl rfl : upd (wU 107) 107 105 = wU 108)]; rfl) ?_
  clear hp hd hs hP hD hS
  intro hP hD hS
  refine lv_dup hx hb dX10_init_693 rfl ?_
  refine lv_bipush (v := 108) hx hb dX10_init_694 (by decide) ?_
  refine lv_bipush (v := 103) hx hb dX10_init_696 (by decide) ?_
  refine va_bast hx hb hK hP hD hS 6 3 rfl rfl (by simp only [vp_in]; decide) dX10_init_698 (fun H locs hp hd hs => ?_)
  refine kz_re (w2 := [(h0, .inr (10, [.int 0, .ref q_1, .ref q_2, .ref q_3, .ref q_4, .ref q_5, .int 0, .null, .int 0, .int 0, .int 0, .null, .null, .int 0, .int 0, .null, .null, .null, .int 0, .int 0, .int 0, .int 0, .int 0, .int 0, .int 0, .int 0, .null, .int 0, .int 0, .null, .null, .null, .int 0, .null, .null, .null, .null, .int 0, .int 0, .null, .null, .null, .null, .null, .null, .null, .int 0, .int 0, .int 0, .int 0, .int 0, .int 0, .long 0, .null, .int 0, .int 0])), (q_1, .inl (ty 0, 7, .inl (fun _ => 0))), (q_2, .inl (ty 0, 5640, .inl (fun _ => 0))), (q_3, .inl (ty 0, 11280, .inl (fun _ => 0))), (q_4, .inl (ty 2, 2, .inl (fun _ => 0))), (q_5, .inl (ty 0, 28, .inl (fun _ => 0))), (q_6, .inl (ty 3, 128, .inl (wU 109)))]) hp hd hs (by rw [← (wU_s 108 109 103 rfl rfl : upd (wU 108) 108 103 = wU 109)]; rfl) ?_
  clear hp hd hs hP hD hS
  intro hP hD hS
  refine lv_dup hx hb dX10_init_699 rfl ?_
  refine lv_bipush (v := 109) hx hb dX10_init_700 (by decide) ?_
  refine lv_bipush (v := 104) hx hb dX10_init_702 (by decide) ?_
  refine va_bast hx hb hK hP hD hS 6 3 rfl rfl (by simp only [vp_in]; decide) dX10_init_704 (fun H locs hp hd hs => ?_)
  refine kz_re (w2 := [(h0, .inr (10, [.int 0, .ref q_1, .ref q_2, .ref q_3, .ref q_4, .ref q_5, .int 0, .null, .int 0, .int 0, .int 0, .null, .null, .int 0, .int 0, .null, .null, .null, .int 0, .int 0, .int 0, .int 0, .int 0, .int 0, .int 0, .int 0, .null, .int 0, .int 0, .null, .null, .null, .int 0, .null, .null, .null, .null, .int 0, .int 0, .null, .null, .null, .null, .null, .null, .null, .int 0, .int 0, .int 0, .int 0, .int 0, .int 0, .long 0, .null, .int 0, .int 0])), (q_1, .inl (ty 0, 7, .inl (fun _ => 0))), (q_2, .inl (ty 0, 5640, .inl (fun _ => 0))), (q_3, .inl (ty 0, 11280, .inl (fun _ => 0))), (q_4, .inl (ty 2, 2, .inl (fun _ => 0))), (q_5, .inl (ty 0, 28, .inl (fun _ => 0))), (q_6, .inl (ty 3, 128, .inl (wU 110)))]) hp hd hs (by rw [← (wU_s 109 110 104 rfl rfl : upd (wU 109) 109 104 = wU 110)]; rfl) ?_
  clear hp hd hs hP hD hS
  intro hP hD hS
  refine lv_dup hx hb dX10_init_705 rfl ?_
  refine lv_bipush (v := 110) hx hb dX10_init_706 (by decide) ?_
  refine lv_bipush (v := 116) hx hb dX10_init_708 (by decide) ?_
  refine va_bast hx hb hK hP hD hS 6 3 rfl rfl (by simp only [vp_in]; decide) dX10_init_710 (fun H locs hp hd hs => ?_)
  refine kz_re (w2 := [(h0, .inr (10, [.int 0, .ref q_1, .ref q_2, .ref q_3, .ref q_4, .ref q_5, .int 0, .null, .int 0, .int 0, .int 0, .null, .null, .int 0, .int 0, .null, .null, .null, .int 0, .int 0, .int 0, .int 0, .int 0, .int 0, .int 0, .int 0, .null, .int 0, .int 0, .null, .null, .null, .int 0, .null, .null, .null, .null, .int 0, .int 0, .null, .null, .null, .null, .null, .null, .null, .int 0, .int 0, .int 0, .int 0, .int 0, .int 0, .long 0, .null, .int 0, .int 0])), (q_1, .inl (ty 0, 7, .inl (fun _ => 0))), (q_2, .inl (ty 0, 5640, .inl (fun _ => 0))), (q_3, .inl (ty 0, 11280, .inl (fun _ => 0))), (q_4, .inl (ty 2, 2, .inl (fun _ => 0))), (q_5, .inl (ty 0, 28, .inl (fun _ => 0))), (q_6, .inl (ty 3, 128, .inl (wU 111)))]) hp hd hs (by rw [← (wU_s 110 111 116 rfl rfl : upd (wU 110) 110 116 = wU 111)]; rfl) ?_
  clear hp hd hs hP hD hS
  intro hP hD hS
  refine lv_dup hx hb dX10_init_711 rfl ?_
  refine lv_bipush (v := 111) hx hb dX10_init_712 (by decide) ?_
  refine lv_bipush (v := 32) hx hb dX10_init_714 (by decide) ?_
  refine va_bast hx hb hK hP hD hS 6 3 rfl rfl (by simp only [vp_in]; decide) dX10_init_716 (fun H locs hp hd hs => ?_)
  refine kz_re (w2 := [(h0, .inr (10, [.int 0, .ref q_1, .ref q_2, .ref q_3, .ref q_4, .ref q_5, .int 0, .null, .int 0, .int 0, .int 0, .null, .null, .int 0, .int 0, .null, .null, .null, .int 0, .int 0, .int 0, .int 0, .int 0, .int 0, .int 0, .int 0, .null, .int 0, .int 0, .null, .null, .null, .int 0, .null, .null, .null, .null, .int 0, .int 0, .null, .null, .null, .null, .null, .null, .null, .int 0, .int 0, .int 0, .int 0, .int 0, .int 0, .long 0, .null, .int 0, .int 0])), (q_1, .inl (ty 0, 7, .inl (fun _ => 0))), (q_2, .inl (ty 0, 5640, .inl (fun _ => 0))), (q_3, .inl (ty 0, 11280, .inl (fun _ => 0))), (q_4, .inl (ty 2, 2, .inl (fun _ => 0))), (q_5, .inl (ty 0, 28, .inl (fun _ => 0))), (q_6, .inl (ty 3, 128, .inl (wU 112)))]) hp hd hs (by rw [← (wU_s 111 112 32 rfl rfl : upd (wU 111) 111 32 = wU 112)]; rfl) ?_
  clear hp hd hs hP hD hS
  intro hP hD hS
  refine lv_dup hx hb dX10_init_717 rfl ?_
  refine lv_bipush (v := 112) hx hb dX10_init_718 (by decide) ?_
  refine lv_bipush (v := 115) hx hb dX10_init_720 (by decide) ?_
  refine va_bast hx hb hK hP hD hS 6 3 rfl rfl (by simp only [vp_in]; decide) dX10_init_722 (fun H locs hp hd hs => ?_)
  refine kz_re (w2 := [(h0, .inr (10, [.int 0, .ref q_1, .ref q_2, .ref q_3, .ref q_4, .ref q_5, .int 0, .null, .int 0, .int 0, .int 0, .null, .null, .int 0, .int 0, .null, .null, .null, .int 0, .int 0, .int 0, .int 0, .int 0, .int 0, .int 0, .int 0, .null, .int 0, .int 0, .null, .null, .null, .int 0, .null, .null, .null, .null, .int 0, .int 0, .null, .null, .null, .null, .null, .null, .null, .int 0, .int 0, .int 0, .int 0, .int 0, .int 0, .long 0, .null, .int 0, .int 0])), (q_1, .inl (ty 0, 7, .inl (fun _ => 0))), (q_2, .inl (ty 0, 5640, .inl (fun _ => 0))), (q_3, .inl (ty 0, 11280, .inl (fun _ => 0))), (q_4, .inl (ty 2, 2, .inl (fun _ => 0))), (q_5, .inl (ty 0, 28, .inl (fun _ => 0))), (q_6, .inl (ty 3, 128, .inl (wU 113)))]) hp hd hs (by rw [← (wU_s 112 113 115 rfl rfl : upd (wU 112) 112 115 = wU 113)]; rfl) ?_
  clear hp hd hs hP hD hS
  intro hP hD hS
  refine lv_dup hx hb dX10_init_723 rfl ?_
  refine lv_bipush (v := 113) hx hb dX10_init_724 (by decide) ?_
  refine lv_bipush (v := 119) hx hb dX10_init_726 (by decide) ?_
  refine va_bast hx hb hK hP hD hS 6 3 rfl rfl (by simp only [vp_in]; decide) dX10_init_728 (fun H locs hp hd hs => ?_)
  refine kz_re (w2 := [(h0, .inr (10, [.int 0, .ref q_1, .ref q_2, .ref q_3, .ref q_4, .ref q_5, .int 0, .null, .int 0, .int 0, .int 0, .null, .null, .int 0, .int 0, .null, .null, .null, .int 0, .int 0, .int 0, .int 0, .int 0, .int 0, .int 0, .int 0, .null, .int 0, .int 0, .null, .null, .null, .int 0, .null, .null, .null, .null, .int 0, .int 0, .null, .null, .null, .null, .null, .null, .null, .int 0, .int 0, .int 0, .int 0, .int 0, .int 0, .long 0, .null, .int 0, .int 0])), (q_1, .inl (ty 0, 7, .inl (fun _ => 0))), (q_2, .inl (ty 0, 5640, .inl (fun _ => 0))), (q_3, .inl (ty 0, 11280, .inl (fun _ => 0))), (q_4, .inl (ty 2, 2, .inl (fun _ => 0))), (q_5, .inl (ty 0, 28, .inl (fun _ => 0))), (q_6, .inl (ty 3, 128, .inl (wU 114)))]) hp hd hs (by rw [← (wU_s 113 114 119 rfl rfl : upd (wU 113) 113 119 = wU 114)]; rfl) ?_
  clear hp hd hs hP hD hS
  intro hP hD hS
  refine lv_dup hx hb dX10_init_729 rfl ?_
  refine lv_bipush (v := 114) hx hb dX10_init_730 (by decide) ?_
  refine lv_bipush (v := 97) hx hb dX10_init_732 (by decide) ?_
  refine va_bast hx hb hK hP hD hS 6 3 rfl rfl (by simp only [vp_in]; decide) dX10_init_734 (fun H locs hp hd hs => ?_)
  refine kz_re (w2 := [(h0, .inr (10, [.int 0, .ref q_1, .ref q_2, .ref q_3, .ref q_4, .ref q_5, .int 0, .null, .int 0, .int 0, .int 0, .null, .null, .int 0, .int 0, .null, .null, .null, .int 0, .int 0, .int 0, .int 0, .int 0, .int 0, .int 0, .int 0, .null, .int 0, .int 0, .null, .null, .null, .int 0, .null, .null, .null, .null, .int 0, .int 0, .null, .null, .null, .null, .null, .null, .null, .int 0, .int 0, .int 0, .int 0, .int 0, .int 0, .long 0, .null, .int 0, .int 0])), (q_1, .inl (ty 0, 7, .inl (fun _ => 0))), (q_2, .inl (ty 0, 5640, .inl (fun _ => 0))), (q_3, .inl (ty 0, 11280, .inl (fun _ => 0))), (q_4, .inl (ty 2, 2, .inl (fun _ => 0))), (q_5, .inl (ty 0, 28, .inl (fun _ => 0))), (q_6, .inl (ty 3, 128, .inl (wU 115)))]) hp hd hs (by rw [← (wU_s 114 115 97 rfl rfl : upd (wU 114) 114 97 = wU 115)]; rfl) ?_
  clear hp hd hs hP hD hS
  intro hP hD hS
  refine lv_dup hx hb dX10_init_735 rfl ?_
  refine lv_bipush (v := 115) hx hb dX10_init_736 (by decide) ?_
  refine lv_bipush (v := 112) hx hb dX10_init_738 (by decide) ?_
  refine va_bast hx hb hK hP hD hS 6 3 rfl rfl (by simp only [vp_in]; decide) dX10_init_740 (fun H locs hp hd hs => ?_)
  refine kz_re (w2 := [(h0, .inr (10, [.int 0, .ref q_1, .ref q_2, .ref q_3, .ref q_4, .ref q_5, .int 0, .null, .int 0, .int 0, .int 0, .null, .null, .int 0, .int 0, .null, .null, .null, .int 0, .int 0, .int 0, .int 0, .int 0, .int 0, .int 0, .int 0, .null, .int 0, .int 0, .null, .null, .null, .int 0, .null, .null, .null, .null, .int 0, .int 0, .null, .null, .null, .null, .null, .null, .null, .int 0, .int 0, .int 0, .int 0, .int 0, .int 0, .long 0, .null, .int 0, .int 0])), (q_1, .inl (ty 0, 7, .inl (fun _ => 0))), (q_2, .inl (ty 0, 5640, .inl (fun _ => 0))), (q_3, .inl (ty 0, 11280, .inl (fun _ => 0))), (q_4, .inl (ty 2, 2, .inl (fun _ => 0))), (q_5, .inl (ty 0, 28, .inl (fun _ => 0))), (q_6, .inl (ty 3, 128, .inl (wU 116)))]) hp hd hs (by rw [← (wU_s 115 116 112 rfl rfl : upd (wU 115) 115 112 = wU 116)]; rfl) ?_
  clear hp hd hs hP hD hS
  intro hP hD hS
  refine lv_dup hx hb dX10_init_741 rfl ?_
  refine lv_bipush (v := 116) hx hb dX10_init_742 (by decide) ?_
  refine lv_bipush (v := 32) hx hb dX10_init_744 (by decide) ?_
  refine va_bast hx hb hK hP hD hS 6 3 rfl rfl (by simp only [vp_in]; decide) dX10_init_746 (fun H locs hp hd hs => ?_)
  refine kz_re (w2 := [(h0, .inr (10, [.int 0, .ref q_1, .ref q_2, .ref q_3, .ref q_4, .ref q_5, .int 0, .null, .int 0, .int 0, .int 0, .null, .null, .int 0, .int 0, .null, .null, .null, .int 0, .int 0, .int 0, .int 0, .int 0, .int 0, .int 0, .int 0, .null, .int 0, .int 0, .null, .null, .null, .int 0, .null, .null, .null, .null, .int 0, .int 0, .null, .null, .null, .null, .null, .null, .null, .int 0, .int 0, .int 0, .int 0, .int 0, .int 0, .long 0, .null, .int 0, .int 0])), (q_1, .inl (ty 0, 7, .inl (fun _ => 0))), (q_2, .inl (ty 0, 5640, .inl (fun _ => 0))), (q_3, .inl (ty 0, 11280, .inl (fun _ => 0))), (q_4, .inl (ty 2, 2, .inl (fun _ => 0))), (q_5, .inl (ty 0, 28, .inl (fun _ => 0))), (q_6, .inl (ty 3, 128, .inl (wU 117)))]) hp hd hs (by rw [← (wU_s 116 117 32 rfl rfl : upd (wU 116) 116 32 = wU 117)]; rfl) ?_
  clear hp hd hs hP hD hS
  intro hP hD hS
  refine lv_dup hx hb dX10_init_747 rfl ?_
  refine lv_bipush (v := 117) hx hb dX10_init_748 (by decide) ?_
  refine lv_bipush (v := 112) hx hb dX10_init_750 (by decide) ?_
  refine va_bast hx hb hK hP hD hS 6 3 rfl rfl (by simp only [vp_in]; decide) dX10_init_752 (fun H locs hp hd hs => ?_)
  refine kz_re (w2 := [(h0, .inr (10, [.int 0, .ref q_1, .ref q_2, .ref q_3, .ref q_4, .ref q_5, .int 0, .null, .int 0, .int 0, .int 0, .null, .null, .int 0, .int 0, .null, .null, .null, .int 0, .int 0, .int 0, .int 0, .int 0, .int 0, .int 0, .int 0, .null, .int 0, .int 0, .null, .null, .null, .int 0, .null, .null, .null, .null, .int 0, .int 0, .null, .null, .null, .null, .null, .null, .null, .int 0, .int 0, .int 0, .int 0, .int 0, .int 0, .long 0, .null, .int 0, .int 0])), (q_1, .inl (ty 0, 7, .inl (fun _ => 0))), (q_2, .inl (ty 0, 5640, .inl (fun _ => 0))), (q_3, .inl (ty 0, 11280, .inl (fun _ => 0))), (q_4, .inl (ty 2, 2, .inl (fun _ => 0))), (q_5, .inl (ty 0, 28, .inl (fun _ => 0))), (q_6, .inl (ty 3, 128, .inl (wU 118)))]) hp hd hs (by rw [← (wU_s 117 118 112 rfl rfl : upd (wU 117) 117 112 = wU 118)]; rfl) ?_
  clear hp hd hs hP hD hS
  intro hP hD hS
  refine lv_dup hx hb dX10_init_753 rfl ?_
  refine lv_bipush (v := 118) hx hb dX10_init_754 (by decide) ?_
  refine lv_bipush (v := 97) hx hb dX10_init_756 (by decide) ?_
  refine va_bast hx hb hK hP hD hS 6 3 rfl rfl (by simp only [vp_in]; decide) dX10_init_758 (fun H locs hp hd hs => ?_)
  refine kz_re (w2 := [(h0, .inr (10, [.int 0, .ref q_1, .ref q_2, .ref q_3, .ref q_4, .ref q_5, .int 0, .null, .int 0, .int 0, .int 0, .null, .null, .int 0, .int 0, .null, .null, .null, .int 0, .int 0, .int 0, .int 0, .int 0, .int 0, .int 0, .int 0, .null, .int 0, .int 0, .null, .null, .null, .int 0, .null, .null, .null, .null, .int 0, .int 0, .null, .null, .null, .null, .null, .null, .null, .int 0, .int 0, .int 0, .int 0, .int 0, .int 0, .long 0, .null, .int 0, .int 0])), (q_1, .inl (ty 0, 7, .inl (fun _ => 0))), (q_2, .inl (ty 0, 5640, .inl (fun _ => 0))), (q_3, .inl (ty 0, 11280, .inl (fun _ => 0))), (q_4, .inl (ty 2, 2, .inl (fun _ => 0))), (q_5, .inl (ty 0, 28, .inl (fun _ => 0))), (q_6, .inl (ty 3, 128, .inl (wU 119)))]) hp hd hs (by rw [← (wU_s 118 119 97 rfl rfl : upd (wU 118) 118 97 = wU 119)]; rfl) ?_
  clear hp hd hs hP hD hS
  intro hP hD hS
  refine lv_dup hx hb dX10_init_759 rfl ?_
  refine lv_bipush (v := 119) hx hb dX10_init_760 (by decide) ?_
  refine lv_bipush (v := 115) hx hb dX10_init_762 (by decide) ?_
  refine va_bast hx hb hK hP hD hS 6 3 rfl rfl (by simp only [vp_in]; decide) dX10_init_764 (fun H locs hp hd hs => ?_)
  refine kz_re (w2 := [(h0, .inr (10, [.int 0, .ref q_1, .ref q_2, .ref q_3, .ref q_4, .ref q_5, .int 0, .null, .int 0, .int 0, .int 0, .null, .null, .int 0, .int 0, .null, .null, .null, .int 0, .int 0, .int 0, .int 0, .int 0, .int 0, .int 0, .int 0, .null, .int 0, .int 0, .null, .null, .null, .int 0, .null, .null, .null, .null, .int 0, .int 0, .null, .null, .null, .null, .null, .null, .null, .int 0, .int 0, .int 0, .int 0, .int 0, .int 0, .long 0, .null, .int 0, .int 0])), (q_1, .inl (ty 0, 7, .inl (fun _ => 0))), (q_2, .inl (ty 0, 5640, .inl (fun _ => 0))), (q_3, .inl (ty 0, 11280, .inl (fun _ => 0))), (q_4, .inl (ty 2, 2, .inl (fun _ => 0))), (q_5, .inl (ty 0, 28, .inl (fun _ => 0))), (q_6, .inl (ty 3, 128, .inl (wU 120)))]) hp hd hs (by rw [← (wU_s 119 120 115 rfl rfl : upd (wU 119) 119 115 = wU 120)]; rfl) ?_
  clear hp hd hs hP hD hS
  intro hP hD hS
  refine lv_dup hx hb dX10_init_765 rfl ?_
  refine lv_bipush (v := 120) hx hb dX10_init_766 (by decide) ?_
  refine lv_bipush (v := 115) hx hb dX10_init_768 (by decide) ?_
  refine va_bast hx hb hK hP hD hS 6 3 rfl rfl (by simp only [vp_in]; decide) dX10_init_770 (fun H locs hp hd hs => ?_)
  refine kz_re (w2 := [(h0, .inr (10, [.int 0, .ref q_1, .ref q_2, .ref q_3, .ref q_4, .ref q_5, .int 0, .null, .int 0, .int 0, .int 0, .null, .null, .int 0, .int 0, .null, .null, .null, .int 0, .int 0, .int 0, .int 0, .int 0, .int 0, .int 0, .int 0, .null, .int 0, .int 0, .null, .null, .null, .int 0, .null, .null, .null, .null, .int 0, .int 0, .null, .null, .null, .null, .null, .null, .null, .int 0, .int 0, .int 0, .int 0, .int 0, .int 0, .long 0, .null, .int 0, .int 0])), (q_1, .inl (ty 0, 7, .inl (fun _ => 0))), (q_2, .inl (ty 0, 5640, .inl (fun _ => 0))), (q_3, .inl (ty 0, 11280, .inl (fun _ => 0))), (q_4, .inl (ty 2, 2, .inl (fun _ => 0))), (q_5, .inl (ty 0, 28, .inl (fun _ => 0))), (q_6, .inl (ty 3, 128, .inl (wU 121)))]) hp hd hs (by rw [← (wU_s 120 121 115 rfl rfl : upd (wU 120) 120 115 = wU 121)]; rfl) ?_
  clear hp hd hs hP hD hS
  intro hP hD hS
  refine lv_dup hx hb dX10_init_771 rfl ?_
  refine lv_bipush (v := 121) hx hb dX10_init_772 (by decide) ?_
  refine lv_bipush (v := 32) hx hb dX10_init_774 (by decide) ?_
  refine va_bast hx hb hK hP hD hS 6 3 rfl rfl (by simp only [vp_in]; decide) dX10_init_776 (fun H locs hp hd hs => ?_)
  refine kz_re (w2 := [(h0, .inr (10, [.int 0, .ref q_1, .ref q_2, .ref q_3, .ref q_4, .ref q_5, .int 0, .null, .int 0, .int 0, .int 0, .null, .null, .int 0, .int 0, .null, .null, .null, .int 0, .int 0, .int 0, .int 0, .int 0, .int 0, .int 0, .int 0, .null, .int 0, .int 0, .null, .null, .null, .int 0, .null, .null, .null, .null, .int 0, .int 0, .null, .null, .null, .null, .null, .null, .null, .int 0, .int 0, .int 0, .int 0, .int 0, .int 0, .long 0, .null, .int 0, .int 0])), (q_1, .inl (ty 0, 7, .inl (fun _ => 0))), (q_2, .inl (ty 0, 5640, .inl (fun _ => 0))), (q_3, .inl (ty 0, 11280, .inl (fun _ => 0))), (q_4, .inl (ty 2, 2, .inl (fun _ => 0))), (q_5, .inl (ty 0, 28, .inl (fun _ => 0))), (q_6, .inl (ty 3, 128, .inl (wU 122)))]) hp hd hs (by rw [← (wU_s 121 122 32 rfl rfl : upd (wU 121) 121 32 = wU 122)]; rfl) ?_
  clear hp hd hs hP hD hS
  intro hP hD hS
  refine lv_dup hx hb dX10_init_777 rfl ?_
  refine lv_bipush (v := 122) hx hb dX10_init_778 (by decide) ?_
  refine lv_bipush (v := 116) hx hb dX10_init_780 (by decide) ?_
  refine va_bast hx hb hK hP hD hS 6 3 rfl rfl (by simp only [vp_in]; decide) dX10_init_782 (fun H locs hp hd hs => ?_)
  refine kz_re (w2 := [(h0, .inr (10, [.int 0, .ref q_1, .ref q_2, .ref q_3, .ref q_4, .ref q_5, .int 0, .null, .int 0, .int 0, .int 0, .null, .null, .int 0, .int 0, .null, .null, .null, .int 0, .int 0, .int 0, .int 0, .int 0, .int 0, .int 0, .int 0, .null, .int 0, .int 0, .null, .null, .null, .int 0, .null, .null, .null, .null, .int 0, .int 0, .null, .null, .null, .null, .null, .null, .null, .int 0, .int 0, .int 0, .int 0, .int 0, .int 0, .long 0, .null, .int 0, .int 0])), (q_1, .inl (ty 0, 7, .inl (fun _ => 0))), (q_2, .inl (ty 0, 5640, .inl (fun _ => 0))), (q_3, .inl (ty 0, 11280, .inl (fun _ => 0))), (q_4, .inl (ty 2, 2, .inl (fun _ => 0))), (q_5, .inl (ty 0, 28, .inl (fun _ => 0))), (q_6, .inl (ty 3, 128, .inl (wU 123)))]) hp hd hs (by rw [← (wU_s 122 123 116 rfl rfl : upd (wU 122) 122 116 = wU 123)]; rfl) ?_
  clear hp hd hs hP hD hS
  intro hP hD hS
  refine lv_dup hx hb dX10_init_783 rfl ?_
  refine lv_bipush (v := 123) hx hb dX10_init_784 (by decide) ?_
  refine lv_bipush (v := 105) hx hb dX10_init_786 (by decide) ?_
  refine va_bast hx hb hK hP hD hS 6 3 rfl rfl (by simp only [vp_in]; decide) dX10_init_788 (fun H locs hp hd hs => ?_)
  refine kz_re (w2 := [(h0, .inr (10, [.int 0, .ref q_1, .ref q_2, .ref q_3, .ref q_4, .ref q_5, .int 0, .null, .int 0, .int 0, .int 0, .null, .null, .int 0, .int 0, .null, .null, .null, .int 0, .int 0, .int 0, .int 0, .int 0, .int 0, .int 0, .int 0, .null, .int 0, .int 0, .null, .null, .null, .int 0, .null, .null, .null, .null, .int 0, .int 0, .null, .null, .null, .null, .null, .null, .null, .int 0, .int 0, .int 0, .int 0, .int 0, .int 0, .long 0, .null, .int 0, .int 0])), (q_1, .inl (ty 0, 7, .inl (fun _ => 0))), (q_2, .inl (ty 0, 5640, .inl (fun _ => 0))), (q_3, .inl (ty 0, 11280, .inl (fun _ => 0))), (q_4, .inl (ty 2, 2, .inl (fun _ => 0))), (q_5, .inl (ty 0, 28, .inl (fun _ => 0))), (q_6, .inl (ty 3, 128, .inl (wU 124)))]) hp hd hs (by rw [← (wU_s 123 124 105 rfl rfl : upd (wU 123) 123 105 = wU 124)]; rfl) ?_
  clear hp hd hs hP hD hS
  intro hP hD hS
  refine lv_dup hx hb dX10_init_789 rfl ?_
  refine lv_bipush (v := 124) hx hb dX10_init_790 (by decide) ?_
  refine lv_bipush (v := 109) hx hb dX10_init_792 (by decide) ?_
  refine va_bast hx hb hK hP hD hS 6 3 rfl rfl (by simp only [vp_in]; decide) dX10_init_794 (fun H locs hp hd hs => ?_)
  refine kz_re (w2 := [(h0, .inr (10, [.int 0, .ref q_1, .ref q_2, .ref q_3, .ref q_4, .ref q_5, .int 0, .null, .int 0, .int 0, .int 0, .null, .null, .int 0, .int 0, .null, .null, .null, .int 0, .int 0, .int 0, .int 0, .int 0, .int 0, .int 0, .int 0, .null, .int 0, .int 0, .null, .null, .null, .int 0, .null, .null, .null, .null, .int 0, .int 0, .null, .null, .null, .null, .null, .null, .null, .int 0, .int 0, .int 0, .int 0, .int 0, .int 0, .long 0, .null, .int 0, .int 0])), (q_1, .inl (ty 0, 7, .inl (fun _ => 0))), (q_2, .inl (ty 0, 5640, .inl (fun _ => 0))), (q_3, .inl (ty 0, 11280, .inl (fun _ => 0))), (q_4, .inl (ty 2, 2, .inl (fun _ => 0))), (q_5, .inl (ty 0, 28, .inl (fun _ => 0))), (q_6, .inl (ty 3, 128, .inl (wU 125)))]) hp hd hs (by rw [← (wU_s 124 125 109 rfl rfl : upd (wU 124) 124 109 = wU 125)]; rfl) ?_
  clear hp hd hs hP hD hS
  intro hP hD hS
  refine lv_dup hx hb dX10_init_795 rfl ?_
  refine lv_bipush (v := 125) hx hb dX10_init_796 (by decide) ?_
  refine lv_bipush (v := 101) hx hb dX10_init_798 (by decide) ?_
  refine va_bast hx hb hK hP hD hS 6 3 rfl rfl (by simp only [vp_in]; decide) dX10_init_800 (fun H locs hp hd hs => ?_)
  refine kz_re (w2 := [(h0, .inr (10, [.int 0, .ref q_1, .ref q_2, .ref q_3, .ref q_4, .ref q_5, .int 0, .null, .int 0, .int 0, .int 0, .null, .null, .int 0, .int 0, .null, .null, .null, .int 0, .int 0, .int 0, .int 0, .int 0, .int 0, .int 0, .int 0, .null, .int 0, .int 0, .null, .null, .null, .int 0, .null, .null, .null, .null, .int 0, .int 0, .null, .null, .null, .null, .null, .null, .null, .int 0, .int 0, .int 0, .int 0, .int 0, .int 0, .long 0, .null, .int 0, .int 0])), (q_1, .inl (ty 0, 7, .inl (fun _ => 0))), (q_2, .inl (ty 0, 5640, .inl (fun _ => 0))), (q_3, .inl (ty 0, 11280, .inl (fun _ => 0))), (q_4, .inl (ty 2, 2, .inl (fun _ => 0))), (q_5, .inl (ty 0, 28, .inl (fun _ => 0))), (q_6, .inl (ty 3, 128, .inl (wU 126)))]) hp hd hs (by rw [← (wU_s 125 126 101 rfl rfl : upd (wU 125) 125 101 = wU 126)]; rfl) ?_
  clear hp hd hs hP hD hS
  intro hP hD hS
  refine lv_dup hx hb dX10_init_801 rfl ?_
  refine lv_bipush (v := 126) hx hb dX10_init_802 (by decide) ?_
  refine lv_bipush (v := 115) hx hb dX10_init_804 (by decide) ?_
  refine va_bast hx hb hK hP hD hS 6 3 rfl rfl (by simp only [vp_in]; decide) dX10_init_806 (fun H locs hp hd hs => ?_)
  refine kz_re (w2 := [(h0, .inr (10, [.int 0, .ref q_1, .ref q_2, .ref q_3, .ref q_4, .ref q_5, .int 0, .null, .int 0, .int 0, .int 0, .null, .null, .int 0, .int 0, .null, .null, .null, .int 0, .int 0, .int 0, .int 0, .int 0, .int 0, .int 0, .int 0, .null, .int 0, .int 0, .null, .null, .null, .int 0, .null, .null, .null, .null, .int 0, .int 0, .null, .null, .null, .null, .null, .null, .null, .int 0, .int 0, .int 0, .int 0, .int 0, .int 0, .long 0, .null, .int 0, .int 0])), (q_1, .inl (ty 0, 7, .inl (fun _ => 0))), (q_2, .inl (ty 0, 5640, .inl (fun _ => 0))), (q_3, .inl (ty 0, 11280, .inl (fun _ => 0))), (q_4, .inl (ty 2, 2, .inl (fun _ => 0))), (q_5, .inl (ty 0, 28, .inl (fun _ => 0))), (q_6, .inl (ty 3, 128, .inl (wU 127)))]) hp hd hs (by rw [← (wU_s 126 127 115 rfl rfl : upd (wU 126) 126 115 = wU 127)]; rfl) ?_
  clear hp hd hs hP hD hS
  intro hP hD hS
  refine lv_dup hx hb dX10_init_807 rfl ?_
  refine lv_bipush (v := 127) hx hb dX10_init_808 (by decide) ?_
  refine lv_bipush (v := 32) hx hb dX10_init_810 (by decide) ?_
  refine va_bast hx hb hK hP hD hS 6 3 rfl rfl (by simp only [vp_in]; decide) dX10_init_812 (fun H locs hp hd hs => ?_)
  refine kz_re (w2 := [(h0, .inr (10, [.int 0, .ref q_1, .ref q_2, .ref q_3, .ref q_4, .ref q_5, .int 0, .null, .int 0, .int 0, .int 0, .null, .null, .int 0, .int 0, .null, .null, .null, .int 0, .int 0, .int 0, .int 0, .int 0, .int 0, .int 0, .int 0, .null, .int 0, .int 0, .null, .null, .null, .int 0, .null, .null, .null, .null, .int 0, .int 0, .null, .null, .null, .null, .null, .null, .null, .int 0, .int 0, .int 0, .int 0, .int 0, .int 0, .long 0, .null, .int 0, .int 0])), (q_1, .inl (ty 0, 7, .inl (fun _ => 0))), (q_2, .inl (ty 0, 5640, .inl (fun _ => 0))), (q_3, .inl (ty 0, 11280, .inl (fun _ => 0))), (q_4, .inl (ty 2, 2, .inl (fun _ => 0))), (q_5, .inl (ty 0, 28, .inl (fun _ => 0))), (q_6, .inl (ty 3, 128, .inl (wU 128)))]) hp hd hs (by rw [← (wU_s 127 128 32 rfl rfl : upd (wU 127) 127 32 = wU 128)]; rfl) ?_
  clear hp hd hs hP hD hS
  intro hP hD hS
  refine va_putF (D := D) (ci := 10) (v := .ref q_6) (ty := .array .byte) (C := RX10) (T := TX10) (N := 56) hx hb hts u9_wsX10_init_X10 tyX10 tyX10_ok nmX10 hown hK hP hD hS 0 rfl rfl 7 (by decide) (hts (.fieldLink RX10 41 "TurnedFloorsModel" "words" "[B") f9_wsX10_init_1162) (fun _ h9 => h9) rfl hin rfl (by decide +kernel) rfl rfl (Nat.le_of_ble_eq_true rfl) dX10_init_813 (fun H locs hp hd hs => ?_)
  refine kz_re (w2 := [(h0, .inr (10, [.int 0, .ref q_1, .ref q_2, .ref q_3, .ref q_4, .ref q_5, .int 0, .ref q_6, .int 0, .int 0, .int 0, .null, .null, .int 0, .int 0, .null, .null, .null, .int 0, .int 0, .int 0, .int 0, .int 0, .int 0, .int 0, .int 0, .null, .int 0, .int 0, .null, .null, .null, .int 0, .null, .null, .null, .null, .int 0, .int 0, .null, .null, .null, .null, .null, .null, .null, .int 0, .int 0, .int 0, .int 0, .int 0, .int 0, .long 0, .null, .int 0, .int 0])), (q_1, .inl (ty 0, 7, .inl (fun _ => 0))), (q_2, .inl (ty 0, 5640, .inl (fun _ => 0))), (q_3, .inl (ty 0, 11280, .inl (fun _ => 0))), (q_4, .inl (ty 2, 2, .inl (fun _ => 0))), (q_5, .inl (ty 0, 28, .inl (fun _ => 0))), (q_6, .inl (ty 3, 128, .inl (wU 128)))]) hp hd hs rfl ?_
  clear hp hd hs hP hD hS
  intro hP hD hS
  refine lv_aload_n hx hb dX10_init_816 rfl (lv_at hl 0 rfl) ?_
  refine lv_sipush (v := 400) hx hb dX10_init_817 (by decide) ?_
  refine va_newa (atype := .byte) (ty := .byte) (N' := 400) (a0 := (400, .inl (fun _ => 0))) hx hb (hts (.arrayClass .byte) f9_wsX10_init_1161) rfl hK hP hD hS hA (fun _ => rfl) (by decide) (by decide) (by decide) (Nat.le_of_ble_eq_true rfl) (Nat.le_of_ble_eq_true rfl) dX10_init_820 (fun q_7 cA H hK2 hp hd hs => ?_)
  obtain rfl : cA = ty 3 := kz_cA (t0 := 3) (t1 := 6) hK2 rfl rfl rfl
  refine kz_re (w2 := [(h0, .inr (10, [.int 0, .ref q_1, .ref q_2, .ref q_3, .ref q_4, .ref q_5, .int 0, .ref q_6, .int 0, .int 0, .int 0, .null, .null, .int 0, .int 0, .null, .null, .null, .int 0, .int 0, .int 0, .int 0, .int 0, .int 0, .int 0, .int 0, .null, .int 0, .int 0, .null, .null, .null, .int 0, .null, .null, .null, .null, .int 0, .int 0, .null, .null, .null, .null, .null, .null, .null, .int 0, .int 0, .int 0, .int 0, .int 0, .int 0, .long 0, .null, .int 0, .int 0])), (q_1, .inl (ty 0, 7, .inl (fun _ => 0))), (q_2, .inl (ty 0, 5640, .inl (fun _ => 0))), (q_3, .inl (ty 0, 11280, .inl (fun _ => 0))), (q_4, .inl (ty 2, 2, .inl (fun _ => 0))), (q_5, .inl (ty 0, 28, .inl (fun _ => 0))), (q_6, .inl (ty 3, 128, .inl (wU 128))), (q_7, .inl (ty 3, 400, .inl (fun _ => 0)))]) hp hd hs rfl ?_
  clear hp hd hs hP hD hS
  intro hP hD hS
  refine va_putF (D := D) (ci := 10) (v := .ref q_7) (ty := .array .byte) (C := RX10) (T := TX10) (N := 56) hx hb hts u9_wsX10_init_X10 tyX10 tyX10_ok nmX10 hown hK hP hD hS 0 rfl rfl 11 (by decide) (hts (.fieldLink RX10 45 "TurnedFloorsModel" "tape" "[B") f9_wsX10_init_1163) (fun _ h9 => h9) rfl hin rfl (by decide +kernel) rfl rfl (Nat.le_of_ble_eq_true rfl) dX10_init_822 (fun H locs hp hd hs => ?_)
  refine kz_re (w2 := [(h0, .inr (10, [.int 0, .ref q_1, .ref q_2, .ref q_3, .ref q_4, .ref q_5, .int 0, .ref q_6, .int 0, .int 0, .int 0, .ref q_7, .null, .int 0, .int 0, .null, .null, .null, .int 0, .int 0, .int 0, .int 0, .int 0, .int 0, .int 0, .int 0, .null, .int 0, .int 0, .null, .null, .null, .int 0, .null, .null, .null, .null, .int 0, .int 0, .null, .null, .null, .null, .null, .null, .null, .int 0, .int 0, .int 0, .int 0, .int 0, .int 0, .long 0, .null, .int 0, .int 0])), (q_1, .inl (ty 0, 7, .inl (fun _ => 0))), (q_2, .inl (ty 0, 5640, .inl (fun _ => 0))), (q_3, .inl (ty 0, 11280, .inl (fun _ => 0))), (q_4, .inl (ty 2, 2, .inl (fun _ => 0))), (q_5, .inl (ty 0, 28, .inl (fun _ => 0))), (q_6, .inl (ty 3, 128, .inl (wU 128))), (q_7, .inl (ty 3, 400, .inl (fun _ => 0)))]) hp hd hs rfl ?_
  clear hp hd hs hP hD hS
  intro hP hD hS
  refine lv_aload_n hx hb dX10_init_825 rfl (lv_at hl 0 rfl) ?_
  refine lv_iconst (v := 5) hx hb dX10_init_826 (by decide) ?_
  refine va_newa (atype := .int) (ty := .int) (N' := 5) (a0 := (5, .inl (fun _ => 0))) hx hb (hts (.arrayClass .int) f9_wsX10_init_1154) rfl hK hP hD hS hA (fun _ => rfl) (by decide) (by decide) (by decide) (Nat.le_of_ble_eq_true rfl) (Nat.le_of_ble_eq_true rfl) dX10_init_827 (fun q_8 cA H hK2 hp hd hs => ?_)
  obtain rfl : cA = ty 0 := kz_cA (t0 := 0) (t1 := 6) hK2 rfl rfl rfl
  refine kz_re (w2 := [(h0, .inr (10, [.int 0, .ref q_1, .ref q_2, .ref q_3, .ref q_4, .ref q_5, .int 0, .ref q_6, .int 0, .int 0, .int 0, .ref q_7, .null, .int 0, .int 0, .null, .null, .null, .int 0, .int 0, .int 0, .int 0, .int 0, .int 0, .int 0, .int 0, .null, .int 0, .int 0, .null, .null, .null, .int 0, .null, .null, .null, .null, .int 0, .int 0, .null, .null, .null, .null, .null, .null, .null, .int 0, .int 0, .int 0, .int 0, .int 0, .int 0, .long 0, .null, .int 0, .int 0])), (q_1, .inl (ty 0, 7, .inl (fun _ => 0))), (q_2, .inl (ty 0, 5640, .inl (fun _ => 0))), (q_3, .inl (ty 0, 11280, .inl (fun _ => 0))), (q_4, .inl (ty 2, 2, .inl (fun _ => 0))), (q_5, .inl (ty 0, 28, .inl (fun _ => 0))), (q_6, .inl (ty 3, 128, .inl (wU 128))), (q_7, .inl (ty 3, 400, .inl (fun _ => 0))), (q_8, .inl (ty 0, 5, .inl (fun _ => 0)))]) hp hd hs rfl ?_
  clear hp hd hs hP hD hS
  intro hP hD hS
  refine va_putF (D := D) (ci := 10) (v := .ref q_8) (ty := .array .int) (C := RX10) (T := TX10) (N := 56) hx hb hts u9_wsX10_init_X10 tyX10 tyX10_ok nmX10 hown hK hP hD hS 0 rfl rfl 12 (by decide) (hts (.fieldLink RX10 48 "TurnedFloorsModel" "five" "[I") f9_wsX10_init_1164) (fun _ h9 => h9) rfl hin rfl (by decide +kernel) rfl rfl (Nat.le_of_ble_eq_true rfl) dX10_init_829 (fun H locs hp hd hs => ?_)
  refine kz_re (w2 := [(h0, .inr (10, [.int 0, .ref q_1, .ref q_2, .ref q_3, .ref q_4, .ref q_5, .int 0, .ref q_6, .int 0, .int 0, .int 0, .ref q_7, .ref q_8, .int 0, .int 0, .null, .null, .null, .int 0, .int 0, .int 0, .int 0, .int 0, .int 0, .int 0, .int 0, .null, .int 0, .int 0, .null, .null, .null, .int 0, .null, .null, .null, .null, .int 0, .int 0, .null, .null, .null, .null, .null, .null, .null, .int 0, .int 0, .int 0, .int 0, .int 0, .int 0, .long 0, .null, .int 0, .int 0])), (q_1, .inl (ty 0, 7, .inl (fun _ => 0))), (q_2, .inl (ty 0, 5640, .inl (fun _ => 0))), (q_3, .inl (ty 0, 11280, .inl (fun _ => 0))), (q_4, .inl (ty 2, 2, .inl (fun _ => 0))), (q_5, .inl (ty 0, 28, .inl (fun _ => 0))), (q_6, .inl (ty 3, 128, .inl (wU 128))), (q_7, .inl (ty 3, 400, .inl (fun _ => 0))), (q_8, .inl (ty 0, 5, .inl (fun _ => 0)))]) hp hd hs rfl ?_
  clear hp hd hs hP hD hS
  intro hP hD hS
  refine lv_aload_n hx hb dX10_init_832 rfl (lv_at hl 0 rfl) ?_
  refine lv_iconst (v := (-1)) hx hb dX10_init_833 (by decide) ?_
  refine va_put (D := D) (ci := 10) (v := .int (-1)) (ty := .int) (C := RX10) (T := TX10) (N := 56) hx hb hts u9_wsX10_init_X10 tyX10 tyX10_ok nmX10 hown hK hP hD hS 0 rfl rfl 14 (by decide) (hts (.fieldLink RX10 51 "TurnedFloorsModel" "fault" "I") f9_wsX10_init_1165) (fun _ h9 => h9) rfl (by decide +kernel) rfl rfl (Nat.le_of_ble_eq_true rfl) dX10_init_834 (fun H locs hp hd hs => ?_)
  refine kz_re (w2 := [(h0, .inr (10, [.int 0, .ref q_1, .ref q_2, .ref q_3, .ref q_4, .ref q_5, .int 0, .ref q_6, .int 0, .int 0, .int 0, .ref q_7, .ref q_8, .int 0, .int (-1), .null, .null, .null, .int 0, .int 0, .int 0, .int 0, .int 0, .int 0, .int 0, .int 0, .null, .int 0, .int 0, .null, .null, .null, .int 0, .null, .null, .null, .null, .int 0, .int 0, .null, .null, .null, .null, .null, .null, .null, .int 0, .int 0, .int 0, .int 0, .int 0, .int 0, .long 0, .null, .int 0, .int 0])), (q_1, .inl (ty 0, 7, .inl (fun _ => 0))), (q_2, .inl (ty 0, 5640, .inl (fun _ => 0))), (q_3, .inl (ty 0, 11280, .inl (fun _ => 0))), (q_4, .inl (ty 2, 2, .inl (fun _ => 0))), (q_5, .inl (ty 0, 28, .inl (fun _ => 0))), (q_6, .inl (ty 3, 128, .inl (wU 128))), (q_7, .inl (ty 3, 400, .inl (fun _ => 0))), (q_8, .inl (ty 0, 5, .inl (fun _ => 0)))]) hp hd hs rfl ?_
  clear hp hd hs hP hD hS
  intro hP hD hS
  refine lv_aload_n hx hb dX10_init_837 rfl (lv_at hl 0 rfl) ?_
  refine lv_sipush (v := 401) hx hb dX10_init_838 (by decide) ?_
  refine va_newa (atype := .int) (ty := .int) (N' := 401) (a0 := (401, .inl (fun _ => 0))) hx hb (hts (.arrayClass .int) f9_wsX10_init_1154) rfl hK hP hD hS hA (fun _ => rfl) (by decide) (by decide) (by decide) (Nat.le_of_ble_eq_true rfl) (Nat.le_of_ble_eq_true rfl) dX10_init_841 (fun q_9 cA H hK2 hp hd hs => ?_)
  obtain rfl : cA = ty 0 := kz_cA (t0 := 0) (t1 := 6) hK2 rfl rfl rfl
  refine kz_re (w2 := [(h0, .inr (10, [.int 0, .ref q_1, .ref q_2, .ref q_3, .ref q_4, .ref q_5, .int 0, .ref q_6, .int 0, .int 0, .int 0, .ref q_7, .ref q_8, .int 0, .int (-1), .null, .null, .null, .int 0, .int 0, .int 0, .int 0, .int 0, .int 0, .int 0, .int 0, .null, .int 0, .int 0, .null, .null, .null, .int 0, .null, .null, .null, .null, .int 0, .int 0, .null, .null, .null, .null, .null, .null, .null, .int 0, .int 0, .int 0, .int 0, .int 0, .int 0, .long 0, .null, .int 0, .int 0])), (q_1, .inl (ty 0, 7, .inl (fun _ => 0))), (q_2, .inl (ty 0, 5640, .inl (fun _ => 0))), (q_3, .inl (ty 0, 11280, .inl (fun _ => 0))), (q_4, .inl (ty 2, 2, .inl (fun _ => 0))), (q_5, .inl (ty 0, 28, .inl (fun _ => 0))), (q_6, .inl (ty 3, 128, .inl (wU 128))), (q_7, .inl (ty 3, 400, .inl (fun _ => 0))), (q_8, .inl (ty 0, 5, .inl (fun _ => 0))), (q_9, .inl (ty 0, 401, .inl (fun _ => 0)))]) hp hd hs rfl ?_
  clear hp hd hs hP hD hS
  intro hP hD hS
  refine va_putF (D := D) (ci := 10) (v := .ref q_9) (ty := .array .int) (C := RX10) (T := TX10) (N := 56) hx hb hts u9_wsX10_init_X10 tyX10 tyX10_ok nmX10 hown hK hP hD hS 0 rfl rfl 15 (by decide) (hts (.fieldLink RX10 54 "TurnedFloorsModel" "code" "[I") f9_wsX10_init_1166) (fun _ h9 => h9) rfl hin rfl (by decide +kernel) rfl rfl (Nat.le_of_ble_eq_true rfl) dX10_init_843 (fun H locs hp hd hs => ?_)
  refine kz_re (w2 := [(h0, .inr (10, [.int 0, .ref q_1, .ref q_2, .ref q_3, .ref q_4, .ref q_5, .int 0, .ref q_6, .int 0, .int 0, .int 0, .ref q_7, .ref q_8, .int 0, .int (-1), .ref q_9, .null, .null, .int 0, .int 0, .int 0, .int 0, .int 0, .int 0, .int 0, .int 0, .null, .int 0, .int 0, .null, .null, .null, .int 0, .null, .null, .null, .null, .int 0, .int 0, .null, .null, .null, .null, .null, .null, .null, .int 0, .int 0, .int 0, .int 0, .int 0, .int 0, .long 0, .null, .int 0, .int 0])), (q_1, .inl (ty 0, 7, .inl (fun _ => 0))), (q_2, .inl (ty 0, 5640, .inl (fun _ => 0))), (q_3, .inl (ty 0, 11280, .inl (fun _ => 0))), (q_4, .inl (ty 2, 2, .inl (fun _ => 0))), (q_5, .inl (ty 0, 28, .inl (fun _ => 0))), (q_6, .inl (ty 3, 128, .inl (wU 128))), (q_7, .inl (ty 3, 400, .inl (fun _ => 0))), (q_8, .inl (ty 0, 5, .inl (fun _ => 0))), (q_9, .inl (ty 0, 401, .inl (fun _ => 0)))]) hp hd hs rfl ?_
  clear hp hd hs hP hD hS
  intro hP hD hS
  refine lv_aload_n hx hb dX10_init_846 rfl (lv_at hl 0 rfl) ?_
  refine lv_sipush (v := 401) hx hb dX10_init_847 (by decide) ?_
  refine va_newa (atype := .int) (ty := .int) (N' := 401) (a0 := (401, .inl (fun _ => 0))) hx hb (hts (.arrayClass .int) f9_wsX10_init_1154) rfl hK hP hD hS hA (fun _ => rfl) (by decide) (by decide) (by decide) (Nat.le_of_ble_eq_true rfl) (Nat.le_of_ble_eq_true rfl) dX10_init_850 (fun q_10 cA H hK2 hp hd hs => ?_)
  obtain rfl : cA = ty 0 := kz_cA (t0 := 0) (t1 := 6) hK2 rfl rfl rfl
  refine kz_re (w2 := [(h0, .inr (10, [.int 0, .ref q_1, .ref q_2, .ref q_3, .ref q_4, .ref q_5, .int 0, .ref q_6, .int 0, .int 0, .int 0, .ref q_7, .ref q_8, .int 0, .int (-1), .ref q_9, .null, .null, .int 0, .int 0, .int 0, .int 0, .int 0, .int 0, .int 0, .int 0, .null, .int 0, .int 0, .null, .null, .null, .int 0, .null, .null, .null, .null, .int 0, .int 0, .null, .null, .null, .null, .null, .null, .null, .int 0, .int 0, .int 0, .int 0, .int 0, .int 0, .long 0, .null, .int 0, .int 0])), (q_1, .inl (ty 0, 7, .inl (fun _ => 0))), (q_2, .inl (ty 0, 5640, .inl (fun _ => 0))), (q_3, .inl (ty 0, 11280, .inl (fun _ => 0))), (q_4, .inl (ty 2, 2, .inl (fun _ => 0))), (q_5, .inl (ty 0, 28, .inl (fun _ => 0))), (q_6, .inl (ty 3, 128, .inl (wU 128))), (q_7, .inl (ty 3, 400, .inl (fun _ => 0))), (q_8, .inl (ty 0, 5, .inl (fun _ => 0))), (q_9, .inl (ty 0, 401, .inl (fun _ => 0))), (q_10, .inl (ty 0, 401, .inl (fun _ => 0)))]) hp hd hs rfl ?_
  clear hp hd hs hP hD hS
  intro hP hD hS
  refine va_putF (D := D) (ci := 10) (v := .ref q_10) (ty := .array .int) (C := RX10) (T := TX10) (N := 56) hx hb hts u9_wsX10_init_X10 tyX10 tyX10_ok nmX10 hown hK hP hD hS 0 rfl rfl 16 (by decide) (hts (.fieldLink RX10 57 "TurnedFloorsModel" "value" "[I") f9_wsX10_init_1167) (fun _ h9 => h9) rfl hin rfl (by decide +kernel) rfl rfl (Nat.le_of_ble_eq_true rfl) dX10_init_852 (fun H locs hp hd hs => ?_)
  refine kz_re (w2 := [(h0, .inr (10, [.int 0, .ref q_1, .ref q_2, .ref q_3, .ref q_4, .ref q_5, .int 0, .ref q_6, .int 0, .int 0, .int 0, .ref q_7, .ref q_8, .int 0, .int (-1), .ref q_9, .ref q_10, .null, .int 0, .int 0, .int 0, .int 0, .int 0, .int 0, .int 0, .int 0, .null, .int 0, .int 0, .null, .null, .null, .int 0, .null, .null, .null, .null, .int 0, .int 0, .null, .null, .null, .null, .null, .null, .null, .int 0, .int 0, .int 0, .int 0, .int 0, .int 0, .long 0, .null, .int 0, .int 0])), (q_1, .inl (ty 0, 7, .inl (fun _ => 0))), (q_2, .inl (ty 0, 5640, .inl (fun _ => 0))), (q_3, .inl (ty 0, 11280, .inl (fun _ => 0))), (q_4, .inl (ty 2, 2, .inl (fun _ => 0))), (q_5, .inl (ty 0, 28, .inl (fun _ => 0))), (q_6, .inl (ty 3, 128, .inl (wU 128))), (q_7, .inl (ty 3, 400, .inl (fun _ => 0))), (q_8, .inl (ty 0, 5, .inl (fun _ => 0))), (q_9, .inl (ty 0, 401, .inl (fun _ => 0))), (q_10, .inl (ty 0, 401, .inl (fun _ => 0)))]) hp hd hs rfl ?_
  clear hp hd hs hP hD hS
  intro hP hD hS
  refine lv_aload_n hx hb dX10_init_855 rfl (lv_at hl 0 rfl) ?_
  refine lv_sipush (v := 401) hx hb dX10_init_856 (by decide) ?_
  refine va_newa (atype := .int) (ty := .int) (N' := 401) (a0 := (401, .inl (fun _ => 0))) hx hb (hts (.arrayClass .int) f9_wsX10_init_1154) rfl hK hP hD hS hA (fun _ => rfl) (by decide) (by decide) (by decide) (Nat.le_of_ble_eq_true rfl) (Nat.le_of_ble_eq_true rfl) dX10_init_859 (fun q_11 cA H hK2 hp hd hs => ?_)
  obtain rfl : cA = ty 0 := kz_cA (t0 := 0) (t1 := 6) hK2 rfl rfl rfl
  refine kz_re (w2 := [(h0, .inr (10, [.int 0, .ref q_1, .ref q_2, .ref q_3, .ref q_4, .ref q_5, .int 0, .ref q_6, .int 0, .int 0, .int 0, .ref q_7, .ref q_8, .int 0, .int (-1), .ref q_9, .ref q_10, .null, .int 0, .int 0, .int 0, .int 0, .int 0, .int 0, .int 0, .int 0, .null, .int 0, .int 0, .null, .null, .null, .int 0, .null, .null, .null, .null, .int 0, .int 0, .null, .null, .null, .null, .null, .null, .null, .int 0, .int 0, .int 0, .int 0, .int 0, .int 0, .long 0, .null, .int 0, .int 0])), (q_1, .inl (ty 0, 7, .inl (fun _ => 0))), (q_2, .inl (ty 0, 5640, .inl (fun _ => 0))), (q_3, .inl (ty 0, 11280, .inl (fun _ => 0))), (q_4, .inl (ty 2, 2, .inl (fun _ => 0))), (q_5, .inl (ty 0, 28, .inl (fun _ => 0))), (q_6, .inl (ty 3, 128, .inl (wU 128))), (q_7, .inl (ty 3, 400, .inl (fun _ => 0))), (q_8, .inl (ty 0, 5, .inl (fun _ => 0))), (q_9, .inl (ty 0, 401, .inl (fun _ => 0))), (q_10, .inl (ty 0, 401, .inl (fun _ => 0))), (q_11, .inl (ty 0, 401, .inl (fun _ => 0)))]) hp hd hs rfl ?_
  clear hp hd hs hP hD hS
  intro hP hD hS
  refine va_putF (D := D) (ci := 10) (v := .ref q_11) (ty := .array .int) (C := RX10) (T := TX10) (N := 56) hx hb hts u9_wsX10_init_X10 tyX10 tyX10_ok nmX10 hown hK hP hD hS 0 rfl rfl 17 (by decide) (hts (.fieldLink RX10 60 "TurnedFloorsModel" "placed" "[I") f9_wsX10_init_1168) (fun _ h9 => h9) rfl hin rfl (by decide +kernel) rfl rfl (Nat.le_of_ble_eq_true rfl) dX10_init_861 (fun H locs hp hd hs => ?_)
  refine kz_re (w2 := [(h0, .inr (10, [.int 0, .ref q_1, .ref q_2, .ref q_3, .ref q_4, .ref q_5, .int 0, .ref q_6, .int 0, .int 0, .int 0, .ref q_7, .ref q_8, .int 0, .int (-1), .ref q_9, .ref q_10, .ref q_11, .int 0, .int 0, .int 0, .int 0, .int 0, .int 0, .int 0, .int 0, .null, .int 0, .int 0, .null, .null, .null, .int 0, .null, .null, .null, .null, .int 0, .int 0, .null, .null, .null, .null, .null, .null, .null, .int 0, .int 0, .int 0, .int 0, .int 0, .int 0, .long 0, .null, .int 0, .int 0])), (q_1, .inl (ty 0, 7, .inl (fun _ => 0))), (q_2, .inl (ty 0, 5640, .inl (fun _ => 0))), (q_3, .inl (ty 0, 11280, .inl (fun _ => 0))), (q_4, .inl (ty 2, 2, .inl (fun _ => 0))), (q_5, .inl (ty 0, 28, .inl (fun _ => 0))), (q_6, .inl (ty 3, 128, .inl (wU 128))), (q_7, .inl (ty 3, 400, .inl (fun _ => 0))), (q_8, .inl (ty 0, 5, .inl (fun _ => 0))), (q_9, .inl (ty 0, 401, .inl (fun _ => 0))), (q_10, .inl (ty 0, 401, .inl (fun _ => 0))), (q_11, .inl (ty 0, 401, .inl (fun _ => 0)))]) hp hd hs rfl ?_
  clear hp hd hs hP hD hS
  intro hP hD hS
  refine lv_aload_n hx hb dX10_init_864 rfl (lv_at hl 0 rfl) ?_
  refine lv_bipush (v := 9) hx hb dX10_init_865 (by decide) ?_
  refine va_newa (atype := .int) (ty := .int) (N' := 9) (a0 := (9, .inl (fun _ => 0))) hx hb (hts (.arrayClass .int) f9_wsX10_init_1154) rfl hK hP hD hS hA (fun _ => rfl) (by decide) (by decide) (by decide) (Nat.le_of_ble_eq_true rfl) (Nat.le_of_ble_eq_true rfl) dX10_init_867 (fun q_12 cA H hK2 hp hd hs => ?_)
  obtain rfl : cA = ty 0 := kz_cA (t0 := 0) (t1 := 6) hK2 rfl rfl rfl
  refine kz_re (w2 := [(h0, .inr (10, [.int 0, .ref q_1, .ref q_2, .ref q_3, .ref q_4, .ref q_5, .int 0, .ref q_6, .int 0, .int 0, .int 0, .ref q_7, .ref q_8, .int 0, .int (-1), .ref q_9, .ref q_10, .ref q_11, .int 0, .int 0, .int 0, .int 0, .int 0, .int 0, .int 0, .int 0, .null, .int 0, .int 0, .null, .null, .null, .int 0, .null, .null, .null, .null, .int 0, .int 0, .null, .null, .null, .null, .null, .null, .null, .int 0, .int 0, .int 0, .int 0, .int 0, .int 0, .long 0, .null, .int 0, .int 0])), (q_1, .inl (ty 0, 7, .inl (fun _ => 0))), (q_2, .inl (ty 0, 5640, .inl (fun _ => 0))), (q_3, .inl (ty 0, 11280, .inl (fun _ => 0))), (q_4, .inl (ty 2, 2, .inl (fun _ => 0))), (q_5, .inl (ty 0, 28, .inl (fun _ => 0))), (q_6, .inl (ty 3, 128, .inl (wU 128))), (q_7, .inl (ty 3, 400, .inl (fun _ => 0))), (q_8, .inl (ty 0, 5, .inl (fun _ => 0))), (q_9, .inl (ty 0, 401, .inl (fun _ => 0))), (q_10, .inl (ty 0, 401, .inl (fun _ => 0))), (q_11, .inl (ty 0, 401, .inl (fun _ => 0))), (q_12, .inl (ty 0, 9, .inl (fun _ => 0)))]) hp hd hs rfl ?_
  clear hp hd hs hP hD hS
  intro hP hD hS
  refine va_putF (D := D) (ci := 10) (v := .ref q_12) (ty := .array .int) (C := RX10) (T := TX10) (N := 56) hx hb hts u9_wsX10_init_X10 tyX10 tyX10_ok nmX10 hown hK hP hD hS 0 rfl rfl 26 (by decide) (hts (.fieldLink RX10 63 "TurnedFloorsModel" "asked" "[I") f9_wsX10_init_1169) (fun _ h9 => h9) rfl hin rfl (by decide +kernel) rfl rfl (Nat.le_of_ble_eq_true rfl) dX10_init_869 (fun H locs hp hd hs => ?_)
  refine kz_re (w2 := [(h0, .inr (10, [.int 0, .ref q_1, .ref q_2, .ref q_3, .ref q_4, .ref q_5, .int 0, .ref q_6, .int 0, .int 0, .int 0, .ref q_7, .ref q_8, .int 0, .int (-1), .ref q_9, .ref q_10, .ref q_11, .int 0, .int 0, .int 0, .int 0, .int 0, .int 0, .int 0, .int 0, .ref q_12, .int 0, .int 0, .null, .null, .null, .int 0, .null, .null, .null, .null, .int 0, .int 0, .null, .null, .null, .null, .null, .null, .null, .int 0, .int 0, .int 0, .int 0, .int 0, .int 0, .long 0, .null, .int 0, .int 0])), (q_1, .inl (ty 0, 7, .inl (fun _ => 0))), (q_2, .inl (ty 0, 5640, .inl (fun _ => 0))), (q_3, .inl (ty 0, 11280, .inl (fun _ => 0))), (q_4, .inl (ty 2, 2, .inl (fun _ => 0))), (q_5, .inl (ty 0, 28, .inl (fun _ => 0))), (q_6, .inl (ty 3, 128, .inl (wU 128))), (q_7, .inl (ty 3, 400, .inl (fun _ => 0))), (q_8, .inl (ty 0, 5, .inl (fun _ => 0))), (q_9, .inl (ty 0, 401, .inl (fun _ => 0))), (q_10, .inl (ty 0, 401, .inl (fun _ => 0))), (q_11, .inl (ty 0, 401, .inl (fun _ => 0))), (q_12, .inl (ty 0, 9, .inl (fun _ => 0)))]) hp hd hs rfl ?_
  clear hp hd hs hP hD hS
  intro hP hD hS
  refine lv_aload_n hx hb dX10_init_872 rfl (lv_at hl 0 rfl) ?_
  refine lv_bipush (v := 6) hx hb dX10_init_873 (by decide) ?_
  refine va_newa (atype := .boolean) (ty := .boolean) (N' := 6) (a0 := (6, .inl (fun _ => 0))) hx hb (hts (.arrayClass .boolean) f9_wsX10_init_1158) rfl hK hP hD hS hA (fun _ => rfl) (by decide) (by decide) (by decide) (Nat.le_of_ble_eq_true rfl) (Nat.le_of_ble_eq_true rfl) dX10_init_875 (fun q_13 cA H hK2 hp hd hs => ?_)
  obtain rfl : cA = ty 2 := kz_cA (t0 := 2) (t1 := 6) hK2 rfl rfl rfl
  refine kz_re (w2 := [(h0, .inr (10, [.int 0, .ref q_1, .ref q_2, .ref q_3, .ref q_4, .ref q_5, .int 0, .ref q_6, .int 0, .int 0, .int 0, .ref q_7, .ref q_8, .int 0, .int (-1), .ref q_9, .ref q_10, .ref q_11, .int 0, .int 0, .int 0, .int 0, .int 0, .int 0, .int 0, .int 0, .ref q_12, .int 0, .int 0, .null, .null, .null, .int 0, .null, .null, .null, .null, .int 0, .int 0, .null, .null, .null, .null, .null, .null, .null, .int 0, .int 0, .int 0, .int 0, .int 0, .int 0, .long 0, .null, .int 0, .int 0])), (q_1, .inl (ty 0, 7, .inl (fun _ => 0))), (q_2, .inl (ty 0, 5640, .inl (fun _ => 0))), (q_3, .inl (ty 0, 11280, .inl (fun _ => 0))), (q_4, .inl (ty 2, 2, .inl (fun _ => 0))), (q_5, .inl (ty 0, 28, .inl (fun _ => 0))), (q_6, .inl (ty 3, 128, .inl (wU 128))), (q_7, .inl (ty 3, 400, .inl (fun _ => 0))), (q_8, .inl (ty 0, 5, .inl (fun _ => 0))), (q_9, .inl (ty 0, 401, .inl (fun _ => 0))), (q_10, .inl (ty 0, 401, .inl (fun _ => 0))), (q_11, .inl (ty 0, 401, .inl (fun _ => 0))), (q_12, .inl (ty 0, 9, .inl (fun _ => 0))), (q_13, .inl (ty 2, 6, .inl (fun _ => 0)))]) hp hd hs rfl ?_
  clear hp hd hs hP hD hS
  intro hP hD hS
  refine va_putF (D := D) (ci := 10) (v := .ref q_13) (ty := .array .boolean) (C := RX10) (T := TX10) (N := 56) hx hb hts u9_wsX10_init_X10 tyX10 tyX10_ok nmX10 hown hK hP hD hS 0 rfl rfl 29 (by decide) (hts (.fieldLink RX10 66 "TurnedFloorsModel" "tipping" "[Z") f9_wsX10_init_1170) (fun _ h9 => h9) rfl hin rfl (by decide +kernel) rfl rfl (Nat.le_of_ble_eq_true rfl) dX10_init_877 (fun H locs hp hd hs => ?_)
  refine kz_re (w2 := [(h0, .inr (10, [.int 0, .ref q_1, .ref q_2, .ref q_3, .ref q_4, .ref q_5, .int 0, .ref q_6, .int 0, .int 0, .int 0, .ref q_7, .ref q_8, .int 0, .int (-1), .ref q_9, .ref q_10, .ref q_11, .int 0, .int 0, .int 0, .int 0, .int 0, .int 0, .int 0, .int 0, .ref q_12, .int 0, .int 0, .ref q_13, .null, .null, .int 0, .null, .null, .null, .null, .int 0, .int 0, .null, .null, .null, .null, .null, .null, .null, .int 0, .int 0, .int 0, .int 0, .int 0, .int 0, .long 0, .null, .int 0, .int 0])), (q_1, .inl (ty 0, 7, .inl (fun _ => 0))), (q_2, .inl (ty 0, 5640, .inl (fun _ => 0))), (q_3, .inl (ty 0, 11280, .inl (fun _ => 0))), (q_4, .inl (ty 2, 2, .inl (fun _ => 0))), (q_5, .inl (ty 0, 28, .inl (fun _ => 0))), (q_6, .inl (ty 3, 128, .inl (wU 128))), (q_7, .inl (ty 3, 400, .inl (fun _ => 0))), (q_8, .inl (ty 0, 5, .inl (fun _ => 0))), (q_9, .inl (ty 0, 401, .inl (fun _ => 0))), (q_10, .inl (ty 0, 401, .inl (fun _ => 0))), (q_11, .inl (ty 0, 401, .inl (fun _ => 0))), (q_12, .inl (ty 0, 9, .inl (fun _ => 0))), (q_13, .inl (ty 2, 6, .inl (fun _ => 0)))]) hp hd hs rfl ?_
  clear hp hd hs hP hD hS
  intro hP hD hS
  refine lv_aload_n hx hb dX10_init_880 rfl (lv_at hl 0 rfl) ?_
  refine lv_sipush (v := 240) hx hb dX10_init_881 (by decide) ?_
  refine va_newa (atype := .int) (ty := .int) (N' := 240) (a0 := (240, .inl (fun _ => 0))) hx hb (hts (.arrayClass .int) f9_wsX10_init_1154) rfl hK hP hD hS hA (fun _ => rfl) (by decide) (by decide) (by decide) (Nat.le_of_ble_eq_true rfl) (Nat.le_of_ble_eq_true rfl) dX10_init_884 (fun q_14 cA H hK2 hp hd hs => ?_)
  obtain rfl : cA = ty 0 := kz_cA (t0 := 0) (t1 := 6) hK2 rfl rfl rfl
  refine kz_re (w2 := [(h0, .inr (10, [.int 0, .ref q_1, .ref q_2, .ref q_3, .ref q_4, .ref q_5, .int 0, .ref q_6, .int 0, .int 0, .int 0, .ref q_7, .ref q_8, .int 0, .int (-1), .ref q_9, .ref q_10, .ref q_11, .int 0, .int 0, .int 0, .int 0, .int 0, .int 0, .int 0, .int 0, .ref q_12, .int 0, .int 0, .ref q_13, .null, .null, .int 0, .null, .null, .null, .null, .int 0, .int 0, .null, .null, .null, .null, .null, .null, .null, .int 0, .int 0, .int 0, .int 0, .int 0, .int 0, .long 0, .null, .int 0, .int 0])), (q_1, .inl (ty 0, 7, .inl (fun _ => 0))), (q_2, .inl (ty 0, 5640, .inl (fun _ => 0))), (q_3, .inl (ty 0, 11280, .inl (fun _ => 0))), (q_4, .inl (ty 2, 2, .inl (fun _ => 0))), (q_5, .inl (ty 0, 28, .inl (fun _ => 0))), (q_6, .inl (ty 3, 128, .inl (wU 128))), (q_7, .inl (ty 3, 400, .inl (fun _ => 0))), (q_8, .inl (ty 0, 5, .inl (fun _ => 0))), (q_9, .inl (ty 0, 401, .inl (fun _ => 0))), (q_10, .inl (ty 0, 401, .inl (fun _ => 0))), (q_11, .inl (ty 0, 401, .inl (fun _ => 0))), (q_12, .inl (ty 0, 9, .inl (fun _ => 0))), (q_13, .inl (ty 2, 6, .inl (fun _ => 0))), (q_14, .inl (ty 0, 240, .inl (fun _ => 0)))]) hp hd hs rfl ?_
  clear hp hd hs hP hD hS
  intro hP hD hS
  refine va_putF (D := D) (ci := 10) (v := .ref q_14) (ty := .array .int) (C := RX10) (T := TX10) (N := 56) hx hb hts u9_wsX10_init_X10 tyX10 tyX10_ok nmX10 hown hK hP hD hS 0 rfl rfl 30 (by decide) (hts (.fieldLink RX10 69 "TurnedFloorsModel" "left0" "[I") f9_wsX10_init_1171) (fun _ h9 => h9) rfl hin rfl (by decide +kernel) rfl rfl (Nat.le_of_ble_eq_true rfl) dX10_init_886 (fun H locs hp hd hs => ?_)
  refine kz_re (w2 := [(h0, .inr (10, [.int 0, .ref q_1, .ref q_2, .ref q_3, .ref q_4, .ref q_5, .int 0, .ref q_6, .int 0, .int 0, .int 0, .ref q_7, .ref q_8, .int 0, .int (-1), .ref q_9, .ref q_10, .ref q_11, .int 0, .int 0, .int 0, .int 0, .int 0, .int 0, .int 0, .int 0, .ref q_12, .int 0, .int 0, .ref q_13, .ref q_14, .null, .int 0, .null, .null, .null, .null, .int 0, .int 0, .null, .null, .null, .null, .null, .null, .null, .int 0, .int 0, .int 0, .int 0, .int 0, .int 0, .long 0, .null, .int 0, .int 0])), (q_1, .inl (ty 0, 7, .inl (fun _ => 0))), (q_2, .inl (ty 0, 5640, .inl (fun _ => 0))), (q_3, .inl (ty 0, 11280, .inl (fun _ => 0))), (q_4, .inl (ty 2, 2, .inl (fun _ => 0))), (q_5, .inl (ty 0, 28, .inl (fun _ => 0))), (q_6, .inl (ty 3, 128, .inl (wU 128))), (q_7, .inl (ty 3, 400, .inl (fun _ => 0))), (q_8, .inl (ty 0, 5, .inl (fun _ => 0))), (q_9, .inl (ty 0, 401, .inl (fun _ => 0))), (q_10, .inl (ty 0, 401, .inl (fun _ => 0))), (q_11, .inl (ty 0, 401, .inl (fun _ => 0))), (q_12, .inl (ty 0, 9, .inl (fun _ => 0))), (q_13, .inl (ty 2, 6, .inl (fun _ => 0))), (q_14, .inl (ty 0, 240, .inl (fun _ => 0)))]) hp hd hs rfl ?_
  clear hp hd hs hP hD hS
  intro hP hD hS
  refine lv_aload_n hx hb dX10_init_889 rfl (lv_at hl 0 rfl) ?_
  refine lv_sipush (v := 240) hx hb dX10_init_890 (by decide) ?_
  refine va_newa (atype := .int) (ty := .int) (N' := 240) (a0 := (240, .inl (fun _ => 0))) hx hb (hts (.arrayClass .int) f9_wsX10_init_1154) rfl hK hP hD hS hA (fun _ => rfl) (by decide) (by decide) (by decide) (Nat.le_of_ble_eq_true rfl) (Nat.le_of_ble_eq_true rfl) dX10_init_893 (fun q_15 cA H hK2 hp hd hs => ?_)
  obtain rfl : cA = ty 0 := kz_cA (t0 := 0) (t1 := 6) hK2 rfl rfl rfl
  refine kz_re (w2 := [(h0, .inr (10, [.int 0, .ref q_1, .ref q_2, .ref q_3, .ref q_4, .ref q_5, .int 0, .ref q_6, .int 0, .int 0, .int 0, .ref q_7, .ref q_8, .int 0, .int (-1), .ref q_9, .ref q_10, .ref q_11, .int 0, .int 0, .int 0, .int 0, .int 0, .int 0, .int 0, .int 0, .ref q_12, .int 0, .int 0, .ref q_13, .ref q_14, .null, .int 0, .null, .null, .null, .null, .int 0, .int 0, .null, .null, .null, .null, .null, .null, .null, .int 0, .int 0, .int 0, .int 0, .int 0, .int 0, .long 0, .null, .int 0, .int 0])), (q_1, .inl (ty 0, 7, .inl (fun _ => 0))), (q_2, .inl (ty 0, 5640, .inl (fun _ => 0))), (q_3, .inl (ty 0, 11280, .inl (fun _ => 0))), (q_4, .inl (ty 2, 2, .inl (fun _ => 0))), (q_5, .inl (ty 0, 28, .inl (fun _ => 0))), (q_6, .inl (ty 3, 128, .inl (wU 128))), (q_7, .inl (ty 3, 400, .inl (fun _ => 0))), (q_8, .inl (ty 0, 5, .inl (fun _ => 0))), (q_9, .inl (ty 0, 401, .inl (fun _ => 0))), (q_10, .inl (ty 0, 401, .inl (fun _ => 0))), (q_11, .inl (ty 0, 401, .inl (fun _ => 0))), (q_12, .inl (ty 0, 9, .inl (fun _ => 0))), (q_13, .inl (ty 2, 6, .inl (fun _ => 0))), (q_14, .inl (ty 0, 240, .inl (fun _ => 0))), (q_15, .inl (ty 0, 240, .inl (fun _ => 0)))]) hp hd hs rfl ?_
  clear hp hd hs hP hD hS
  intro hP hD hS
  refine va_putF (D := D) (ci := 10) (v := .ref q_15) (ty := .array .int) (C := RX10) (T := TX10) (N := 56) hx hb hts u9_wsX10_init_X10 tyX10 tyX10_ok nmX10 hown hK hP hD hS 0 rfl rfl 31 (by decide) (hts (.fieldLink RX10 72 "TurnedFloorsModel" "leftAhead" "[I") f9_wsX10_init_1172) (fun _ h9 => h9) rfl hin rfl (by decide +kernel) rfl rfl (Nat.le_of_ble_eq_true rfl) dX10_init_895 (fun H locs hp hd hs => ?_)
  refine kz_re (w2 := [(h0, .inr (10, [.int 0, .ref q_1, .ref q_2, .ref q_3, .ref q_4, .ref q_5, .int 0, .ref q_6, .int 0, .int 0, .int 0, .ref q_7, .ref q_8, .int 0, .int (-1), .ref q_9, .ref q_10, .ref q_11, .int 0, .int 0, .int 0, .int 0, .int 0, .int 0, .int 0, .int 0, .ref q_12, .int 0, .int 0, .ref q_13, .ref q_14, .ref q_15, .int 0, .null, .null, .null, .null, .int 0, .int 0, .null, .null, .null, .null, .null, .null, .null, .int 0, .int 0, .int 0, .int 0, .int 0, .int 0, .long 0, .null, .int 0, .int 0])), (q_1, .inl (ty 0, 7, .inl (fun _ => 0))), (q_2, .inl (ty 0, 5640, .inl (fun _ => 0))), (q_3, .inl (ty 0, 11280, .inl (fun _ => 0))), (q_4, .inl (ty 2, 2, .inl (fun _ => 0))), (q_5, .inl (ty 0, 28, .inl (fun _ => 0))), (q_6, .inl (ty 3, 128, .inl (wU 128))), (q_7, .inl (ty 3, 400, .inl (fun _ => 0))), (q_8, .inl (ty 0, 5, .inl (fun _ => 0))), (q_9, .inl (ty 0, 401, .inl (fun _ => 0))), (q_10, .inl (ty 0, 401, .inl (fun _ => 0))), (q_11, .inl (ty 0, 401, .inl (fun _ => 0))), (q_12, .inl (ty 0, 9, .inl (fun _ => 0))), (q_13, .inl (ty 2, 6, .inl (fun _ => 0))), (q_14, .inl (ty 0, 240, .inl (fun _ => 0))), (q_15, .inl (ty 0, 240, .inl (fun _ => 0)))]) hp hd hs rfl ?_
  clear hp hd hs hP hD hS
  intro hP hD hS
  refine lv_aload_n hx hb dX10_init_898 rfl (lv_at hl 0 rfl) ?_
  refine lv_sipush (v := 4320) hx hb dX10_init_899 (by decide) ?_
  refine va_newa (atype := .int) (ty := .int) (N' := 4320) (a0 := (4320, .inl (fun _ => 0))) hx hb (hts (.arrayClass .int) f9_wsX10_init_1154) rfl hK hP hD hS hA (fun _ => rfl) (by decide) (by decide) (by decide) (Nat.le_of_ble_eq_true rfl) (Nat.le_of_ble_eq_true rfl) dX10_init_902 (fun q_16 cA H hK2 hp hd hs => ?_)
  obtain rfl : cA = ty 0 := kz_cA (t0 := 0) (t1 := 6) hK2 rfl rfl rfl
  refine kz_re (w2 := [(h0, .inr (10, [.int 0, .ref q_1, .ref q_2, .ref q_3, .ref q_4, .ref q_5, .int 0, .ref q_6, .int 0, .int 0, .int 0, .ref q_7, .ref q_8, .int 0, .int (-1), .ref q_9, .ref q_10, .ref q_11, .int 0, .int 0, .int 0, .int 0, .int 0, .int 0, .int 0, .int 0, .ref q_12, .int 0, .int 0, .ref q_13, .ref q_14, .ref q_15, .int 0, .null, .null, .null, .null, .int 0, .int 0, .null, .null, .null, .null, .null, .null, .null, .int 0, .int 0, .int 0, .int 0, .int 0, .int 0, .long 0, .null, .int 0, .int 0])), (q_1, .inl (ty 0, 7, .inl (fun _ => 0))), (q_2, .inl (ty 0, 5640, .inl (fun _ => 0))), (q_3, .inl (ty 0, 11280, .inl (fun _ => 0))), (q_4, .inl (ty 2, 2, .inl (fun _ => 0))), (q_5, .inl (ty 0, 28, .inl (fun _ => 0))), (q_6, .inl (ty 3, 128, .inl (wU 128))), (q_7, .inl (ty 3, 400, .inl (fun _ => 0))), (q_8, .inl (ty 0, 5, .inl (fun _ => 0))), (q_9, .inl (ty 0, 401, .inl (fun _ => 0))), (q_10, .inl (ty 0, 401, .inl (fun _ => 0))), (q_11, .inl (ty 0, 401, .inl (fun _ => 0))), (q_12, .inl (ty 0, 9, .inl (fun _ => 0))), (q_13, .inl (ty 2, 6, .inl (fun _ => 0))), (q_14, .inl (ty 0, 240, .inl (fun _ => 0))), (q_15, .inl (ty 0, 240, .inl (fun _ => 0))), (q_16, .inl (ty 0, 4320, .inl (fun _ => 0)))]) hp hd hs rfl ?_
  clear hp hd hs hP hD hS
  intro hP hD hS
  refine va_putF (D := D) (ci := 10) (v := .ref q_16) (ty := .array .int) (C := RX10) (T := TX10) (N := 56) hx hb hts u9_wsX10_init_X10 tyX10 tyX10_ok nmX10 hown hK hP hD hS 0 rfl rfl 33 (by decide) (hts (.fieldLink RX10 75 "TurnedFloorsModel" "rankAt" "[I") f9_wsX10_init_1173) (fun _ h9 => h9) rfl hin rfl (by decide +kernel) rfl rfl (Nat.le_of_ble_eq_true rfl) dX10_init_904 (fun H locs hp hd hs => ?_)
  refine kz_re (w2 := [(h0, .inr (10, [.int 0, .ref q_1, .ref q_2, .ref q_3, .ref q_4, .ref q_5, .int 0, .ref q_6, .int 0, .int 0, .int 0, .ref q_7, .ref q_8, .int 0, .int (-1), .ref q_9, .ref q_10, .ref q_11, .int 0, .int 0, .int 0, .int 0, .int 0, .int 0, .int 0, .int 0, .ref q_12, .int 0, .int 0, .ref q_13, .ref q_14, .ref q_15, .int 0, .ref q_16, .null, .null, .null, .int 0, .int 0, .null, .null, .null, .null, .null, .null, .null, .int 0, .int 0, .int 0, .int 0, .int 0, .int 0, .long 0, .null, .int 0, .int 0])), (q_1, .inl (ty 0, 7, .inl (fun _ => 0))), (q_2, .inl (ty 0, 5640, .inl (fun _ => 0))), (q_3, .inl (ty 0, 11280, .inl (fun _ => 0))), (q_4, .inl (ty 2, 2, .inl (fun _ => 0))), (q_5, .inl (ty 0, 28, .inl (fun _ => 0))), (q_6, .inl (ty 3, 128, .inl (wU 128))), (q_7, .inl (ty 3, 400, .inl (fun _ => 0))), (q_8, .inl (ty 0, 5, .inl (fun _ => 0))), (q_9, .inl (ty 0, 401, .inl (fun _ => 0))), (q_10, .inl (ty 0, 401, .inl (fun _ => 0))), (q_11, .inl (ty 0, 401, .inl (fun _ => 0))), (q_12, .inl (ty 0, 9, .inl (fun _ => 0))), (q_13, .inl (ty 2, 6, .inl (fun _ => 0))), (q_14, .inl (ty 0, 240, .inl (fun _ => 0))), (q_15, .inl (ty 0, 240, .inl (fun _ => 0))), (q_16, .inl (ty 0, 4320, .inl (fun _ => 0)))]) hp hd hs rfl ?_
  clear hp hd hs hP hD hS
  intro hP hD hS
  refine lv_aload_n hx hb dX10_init_907 rfl (lv_at hl 0 rfl) ?_
  refine lv_sipush (v := 5040) hx hb dX10_init_908 (by decide) ?_
  refine va_newa (atype := .int) (ty := .int) (N' := 5040) (a0 := (5040, .inl (fun _ => 0))) hx hb (hts (.arrayClass .int) f9_wsX10_init_1154) rfl hK hP hD hS hA (fun _ => rfl) (by decide) (by decide) (by decide) (Nat.le_of_ble_eq_true rfl) (Nat.le_of_ble_eq_true rfl) dX10_init_911 (fun q_17 cA H hK2 hp hd hs => ?_)
  obtain rfl : cA = ty 0 := kz_cA (t0 := 0) (t1 := 6) hK2 rfl rfl rfl
  refine kz_re (w2 := [(h0, .inr (10, [.int 0, .ref q_1, .ref q_2, .ref q_3, .ref q_4, .ref q_5, .int 0, .ref q_6, .int 0, .int 0, .int 0, .ref q_7, .ref q_8, .int 0, .int (-1), .ref q_9, .ref q_10, .ref q_11, .int 0, .int 0, .int 0, .int 0, .int 0, .int 0, .int 0, .int 0, .ref q_12, .int 0, .int 0, .ref q_13, .ref q_14, .ref q_15, .int 0, .ref q_16, .null, .null, .null, .int 0, .int 0, .null, .null, .null, .null, .null, .null, .null, .int 0, .int 0, .int 0, .int 0, .int 0, .int 0, .long 0, .null, .int 0, .int 0])), (q_1, .inl (ty 0, 7, .inl (fun _ => 0))), (q_2, .inl (ty 0, 5640, .inl (fun _ => 0))), (q_3, .inl (ty 0, 11280, .inl (fun _ => 0))), (q_4, .inl (ty 2, 2, .inl (fun _ => 0))), (q_5, .inl (ty 0, 28, .inl (fun _ => 0))), (q_6, .inl (ty 3, 128, .inl (wU 128))), (q_7, .inl (ty 3, 400, .inl (fun _ => 0))), (q_8, .inl (ty 0, 5, .inl (fun _ => 0))), (q_9, .inl (ty 0, 401, .inl (fun _ => 0))), (q_10, .inl (ty 0, 401, .inl (fun _ => 0))), (q_11, .inl (ty 0, 401, .inl (fun _ => 0))), (q_12, .inl (ty 0, 9, .inl (fun _ => 0))), (q_13, .inl (ty 2, 6, .inl (fun _ => 0))), (q_14, .inl (ty 0, 240, .inl (fun _ => 0))), (q_15, .inl (ty 0, 240, .inl (fun _ => 0))), (q_16, .inl (ty 0, 4320, .inl (fun _ => 0))), (q_17, .inl (ty 0, 5040, .inl (fun _ => 0)))]) hp hd hs rfl ?_
  clear hp hd hs hP hD hS
  intro hP hD hS
  refine va_putF (D := D) (ci := 10) (v := .ref q_17) (ty := .array .int) (C := RX10) (T := TX10) (N := 56) hx hb hts u9_wsX10_init_X10 tyX10 tyX10_ok nmX10 hown hK hP hD hS 0 rfl rfl 34 (by decide) (hts (.fieldLink RX10 78 "TurnedFloorsModel" "orderBy" "[I") f9_wsX10_init_1174) (fun _ h9 => h9) rfl hin rfl (by decide +kernel) rfl rfl (Nat.le_of_ble_eq_true rfl) dX10_init_913 (fun H locs hp hd hs => ?_)
  refine kz_re (w2 := [(h0, .inr (10, [.int 0, .ref q_1, .ref q_2, .ref q_3, .ref q_4, .ref q_5, .int 0, .ref q_6, .int 0, .int 0, .int 0, .ref q_7, .ref q_8, .int 0, .int (-1), .ref q_9, .ref q_10, .ref q_11, .int 0, .int 0, .int 0, .int 0, .int 0, .int 0, .int 0, .int 0, .ref q_12, .int 0, .int 0, .ref q_13, .ref q_14, .ref q_15, .int 0, .ref q_16, .ref q_17, .null, .null, .int 0, .int 0, .null, .null, .null, .null, .null, .null, .null, .int 0, .int 0, .int 0, .int 0, .int 0, .int 0, .long 0, .null, .int 0, .int 0])), (q_1, .inl (ty 0, 7, .inl (fun _ => 0))), (q_2, .inl (ty 0, 5640, .inl (fun _ => 0))), (q_3, .inl (ty 0, 11280, .inl (fun _ => 0))), (q_4, .inl (ty 2, 2, .inl (fun _ => 0))), (q_5, .inl (ty 0, 28, .inl (fun _ => 0))), (q_6, .inl (ty 3, 128, .inl (wU 128))), (q_7, .inl (ty 3, 400, .inl (fun _ => 0))), (q_8, .inl (ty 0, 5, .inl (fun _ => 0))), (q_9, .inl (ty 0, 401, .inl (fun _ => 0))), (q_10, .inl (ty 0, 401, .inl (fun _ => 0))), (q_11, .inl (ty 0, 401, .inl (fun _ => 0))), (q_12, .inl (ty 0, 9, .inl (fun _ => 0))), (q_13, .inl (ty 2, 6, .inl (fun _ => 0))), (q_14, .inl (ty 0, 240, .inl (fun _ => 0))), (q_15, .inl (ty 0, 240, .inl (fun _ => 0))), (q_16, .inl (ty 0, 4320, .inl (fun _ => 0))), (q_17, .inl (ty 0, 5040, .inl (fun _ => 0)))]) hp hd hs rfl ?_
  clear hp hd hs hP hD hS
  intro hP hD hS
  refine lv_aload_n hx hb dX10_init_916 rfl (lv_at hl 0 rfl) ?_
  refine lv_sipush (v := 448) hx hb dX10_init_917 (by decide) ?_
  refine va_newa (atype := .int) (ty := .int) (N' := 448) (a0 := (448, .inl (fun _ => 0))) hx hb (hts (.arrayClass .int) f9_wsX10_init_1154) rfl hK hP hD hS hA (fun _ => rfl) (by decide) (by decide) (by decide) (Nat.le_of_ble_eq_true rfl) (Nat.le_of_ble_eq_true rfl) dX10_init_920 (fun q_18 cA H hK2 hp hd hs => ?_)
  obtain rfl : cA = ty 0 := kz_cA (t0 := 0) (t1 := 6) hK2 rfl rfl rfl
  refine kz_re (w2 := [(h0, .inr (10, [.int 0, .ref q_1, .ref q_2, .ref q_3, .ref q_4, .ref q_5, .int 0, .ref q_6, .int 0, .int 0, .int 0, .ref q_7, .ref q_8, .int 0, .int (-1), .ref q_9, .ref q_10, .ref q_11, .int 0, .int 0, .int 0, .int 0, .int 0, .int 0, .int 0, .int 0, .ref q_12, .int 0, .int 0, .ref q_13, .ref q_14, .ref q_15, .int 0, .ref q_16, .ref q_17, .null, .null, .int 0, .int 0, .null, .null, .null, .null, .null, .null, .null, .int 0, .int 0, .int 0, .int 0, .int 0, .int 0, .long 0, .null, .int 0, .int 0])), (q_1, .inl (ty 0, 7, .inl (fun _ => 0))), (q_2, .inl (ty 0, 5640, .inl (fun _ => 0))), (q_3, .inl (ty 0, 11280, .inl (fun _ => 0))), (q_4, .inl (ty 2, 2, .inl (fun _ => 0))), (q_5, .inl (ty 0, 28, .inl (fun _ => 0))), (q_6, .inl (ty 3, 128, .inl (wU 128))), (q_7, .inl (ty 3, 400, .inl (fun _ => 0))), (q_8, .inl (ty 0, 5, .inl (fun _ => 0))), (q_9, .inl (ty 0, 401, .inl (fun _ => 0))), (q_10, .inl (ty 0, 401, .inl (fun _ => 0))), (q_11, .inl (ty 0, 401, .inl (fun _ => 0))), (q_12, .inl (ty 0, 9, .inl (fun _ => 0))), (q_13, .inl (ty 2, 6, .inl (fun _ => 0))), (q_14, .inl (ty 0, 240, .inl (fun _ => 0))), (q_15, .inl (ty 0, 240, .inl (fun _ => 0))), (q_16, .inl (ty 0, 4320, .inl (fun _ => 0))), (q_17, .inl (ty 0, 5040, .inl (fun _ => 0))), (q_18, .inl (ty 0, 448, .inl (fun _ => 0)))]) hp hd hs rfl ?_
  clear hp hd hs hP hD hS
  intro hP hD hS
  refine va_putF (D := D) (ci := 10) (v := .ref q_18) (ty := .array .int) (C := RX10) (T := TX10) (N := 56) hx hb hts u9_wsX10_init_X10 tyX10 tyX10_ok nmX10 hown hK hP hD hS 0 rfl rfl 35 (by decide) (hts (.fieldLink RX10 81 "TurnedFloorsModel" "headsBy" "[I") f9_wsX10_init_1175) (fun _ h9 => h9) rfl hin rfl (by decide +kernel) rfl rfl (Nat.le_of_ble_eq_true rfl) dX10_init_922 (fun H locs hp hd hs => ?_)
  refine kz_re (w2 := [(h0, .inr (10, [.int 0, .ref q_1, .ref q_2, .ref q_3, .ref q_4, .ref q_5, .int 0, .ref q_6, .int 0, .int 0, .int 0, .ref q_7, .ref q_8, .int 0, .int (-1), .ref q_9, .ref q_10, .ref q_11, .int 0, .int 0, .int 0, .int 0, .int 0, .int 0, .int 0, .int 0, .ref q_12, .int 0, .int 0, .ref q_13, .ref q_14, .ref q_15, .int 0, .ref q_16, .ref q_17, .ref q_18, .null, .int 0, .int 0, .null, .null, .null, .null, .null, .null, .null, .int 0, .int 0, .int 0, .int 0, .int 0, .int 0, .long 0, .null, .int 0, .int 0])), (q_1, .inl (ty 0, 7, .inl (fun _ => 0))), (q_2, .inl (ty 0, 5640, .inl (fun _ => 0))), (q_3, .inl (ty 0, 11280, .inl (fun _ => 0))), (q_4, .inl (ty 2, 2, .inl (fun _ => 0))), (q_5, .inl (ty 0, 28, .inl (fun _ => 0))), (q_6, .inl (ty 3, 128, .inl (wU 128))), (q_7, .inl (ty 3, 400, .inl (fun _ => 0))), (q_8, .inl (ty 0, 5, .inl (fun _ => 0))), (q_9, .inl (ty 0, 401, .inl (fun _ => 0))), (q_10, .inl (ty 0, 401, .inl (fun _ => 0))), (q_11, .inl (ty 0, 401, .inl (fun _ => 0))), (q_12, .inl (ty 0, 9, .inl (fun _ => 0))), (q_13, .inl (ty 2, 6, .inl (fun _ => 0))), (q_14, .inl (ty 0, 240, .inl (fun _ => 0))), (q_15, .inl (ty 0, 240, .inl (fun _ => 0))), (q_16, .inl (ty 0, 4320, .inl (fun _ => 0))), (q_17, .inl (ty 0, 5040, .inl (fun _ => 0))), (q_18, .inl (ty 0, 448, .inl (fun _ => 0)))]) hp hd hs rfl ?_
  clear hp hd hs hP hD hS
  intro hP hD hS
  refine lv_aload_n hx hb dX10_init_925 rfl (lv_at hl 0 rfl) ?_
  refine lv_bipush (v := 6) hx hb dX10_init_926 (by decide) ?_
  refine va_newa (atype := .int) (ty := .int) (N' := 6) (a0 := (6, .inl (fun _ => 0))) hx hb (hts (.arrayClass .int) f9_wsX10_init_1154) rfl hK hP hD hS hA (fun _ => rfl) (by decide) (by decide) (by decide) (Nat.le_of_ble_eq_true rfl) (Nat.le_of_ble_eq_true rfl) dX10_init_928 (fun q_19 cA H hK2 hp hd hs => ?_)
  obtain rfl : cA = ty 0 := kz_cA (t0 := 0) (t1 := 6) hK2 rfl rfl rfl
  refine kz_re (w2 := [(h0, .inr (10, [.int 0, .ref q_1, .ref q_2, .ref q_3, .ref q_4, .ref q_5, .int 0, .ref q_6, .int 0, .int 0, .int 0, .ref q_7, .ref q_8, .int 0, .int (-1), .ref q_9, .ref q_10, .ref q_11, .int 0, .int 0, .int 0, .int 0, .int 0, .int 0, .int 0, .int 0, .ref q_12, .int 0, .int 0, .ref q_13, .ref q_14, .ref q_15, .int 0, .ref q_16, .ref q_17, .ref q_18, .null, .int 0, .int 0, .null, .null, .null, .null, .null, .null, .null, .int 0, .int 0, .int 0, .int 0, .int 0, .int 0, .long 0, .null, .int 0, .int 0])), (q_1, .inl (ty 0, 7, .inl (fun _ => 0))), (q_2, .inl (ty 0, 5640, .inl (fun _ => 0))), (q_3, .inl (ty 0, 11280, .inl (fun _ => 0))), (q_4, .inl (ty 2, 2, .inl (fun _ => 0))), (q_5, .inl (ty 0, 28, .inl (fun _ => 0))), (q_6, .inl (ty 3, 128, .inl (wU 128))), (q_7, .inl (ty 3, 400, .inl (fun _ => 0))), (q_8, .inl (ty 0, 5, .inl (fun _ => 0))), (q_9, .inl (ty 0, 401, .inl (fun _ => 0))), (q_10, .inl (ty 0, 401, .inl (fun _ => 0))), (q_11, .inl (ty 0, 401, .inl (fun _ => 0))), (q_12, .inl (ty 0, 9, .inl (fun _ => 0))), (q_13, .inl (ty 2, 6, .inl (fun _ => 0))), (q_14, .inl (ty 0, 240, .inl (fun _ => 0))), (q_15, .inl (ty 0, 240, .inl (fun _ => 0))), (q_16, .inl (ty 0, 4320, .inl (fun _ => 0))), (q_17, .inl (ty 0, 5040, .inl (fun _ => 0))), (q_18, .inl (ty 0, 448, .inl (fun _ => 0))), (q_19, .inl (ty 0, 6, .inl (fun _ => 0)))]) hp hd hs rfl ?_
  clear hp hd hs hP hD hS
  intro hP hD hS
  refine va_putF (D := D) (ci := 10) (v := .ref q_19) (ty := .array .int) (C := RX10) (T := TX10) (N := 56) hx hb hts u9_wsX10_init_X10 tyX10 tyX10_ok nmX10 hown hK hP hD hS 0 rfl rfl 36 (by decide) (hts (.fieldLink RX10 84 "TurnedFloorsModel" "line" "[I") f9_wsX10_init_1176) (fun _ h9 => h9) rfl hin rfl (by decide +kernel) rfl rfl (Nat.le_of_ble_eq_true rfl) dX10_init_930 (fun H locs hp hd hs => ?_)
  refine kz_re (w2 := [(h0, .inr (10, [.int 0, .ref q_1, .ref q_2, .ref q_3, .ref q_4, .ref q_5, .int 0, .ref q_6, .int 0, .int 0, .int 0, .ref q_7, .ref q_8, .int 0, .int (-1), .ref q_9, .ref q_10, .ref q_11, .int 0, .int 0, .int 0, .int 0, .int 0, .int 0, .int 0, .int 0, .ref q_12, .int 0, .int 0, .ref q_13, .ref q_14, .ref q_15, .int 0, .ref q_16, .ref q_17, .ref q_18, .ref q_19, .int 0, .int 0, .null, .null, .null, .null, .null, .null, .null, .int 0, .int 0, .int 0, .int 0, .int 0, .int 0, .long 0, .null, .int 0, .int 0])), (q_1, .inl (ty 0, 7, .inl (fun _ => 0))), (q_2, .inl (ty 0, 5640, .inl (fun _ => 0))), (q_3, .inl (ty 0, 11280, .inl (fun _ => 0))), (q_4, .inl (ty 2, 2, .inl (fun _ => 0))), (q_5, .inl (ty 0, 28, .inl (fun _ => 0))), (q_6, .inl (ty 3, 128, .inl (wU 128))), (q_7, .inl (ty 3, 400, .inl (fun _ => 0))), (q_8, .inl (ty 0, 5, .inl (fun _ => 0))), (q_9, .inl (ty 0, 401, .inl (fun _ => 0))), (q_10, .inl (ty 0, 401, .inl (fun _ => 0))), (q_11, .inl (ty 0, 401, .inl (fun _ => 0))), (q_12, .inl (ty 0, 9, .inl (fun _ => 0))), (q_13, .inl (ty 2, 6, .inl (fun _ => 0))), (q_14, .inl (ty 0, 240, .inl (fun _ => 0))), (q_15, .inl (ty 0, 240, .inl (fun _ => 0))), (q_16, .inl (ty 0, 4320, .inl (fun _ => 0))), (q_17, .inl (ty 0, 5040, .inl (fun _ => 0))), (q_18, .inl (ty 0, 448, .inl (fun _ => 0))), (q_19, .inl (ty 0, 6, .inl (fun _ => 0)))]) hp hd hs rfl ?_
  clear hp hd hs hP hD hS
  intro hP hD hS
  refine lv_aload_n hx hb dX10_init_933 rfl (lv_at hl 0 rfl) ?_
  refine lv_sipush (v := 588) hx hb dX10_init_934 (by decide) ?_
  refine va_newa (atype := .int) (ty := .int) (N' := 588) (a0 := (588, .inl (fun _ => 0))) hx hb (hts (.arrayClass .int) f9_wsX10_init_1154) rfl hK hP hD hS hA (fun _ => rfl) (by decide) (by decide) (by decide) (Nat.le_of_ble_eq_true rfl) (Nat.le_of_ble_eq_true rfl) dX10_init_937 (fun q_20 cA H hK2 hp hd hs => ?_)
  obtain rfl : cA = ty 0 := kz_cA (t0 := 0) (t1 := 6) hK2 rfl rfl rfl
  refine kz_re (w2 := [(h0, .inr (10, [.int 0, .ref q_1, .ref q_2, .ref q_3, .ref q_4, .ref q_5, .int 0, .ref q_6, .int 0, .int 0, .int 0, .ref q_7, .ref q_8, .int 0, .int (-1), .ref q_9, .ref q_10, .ref q_11, .int 0, .int 0, .int 0, .int 0, .int 0, .int 0, .int 0, .int 0, .ref q_12, .int 0, .int 0, .ref q_13, .ref q_14, .ref q_15, .int 0, .ref q_16, .ref q_17, .ref q_18, .ref q_19, .int 0, .int 0, .null, .null, .null, .null, .null, .null, .null, .int 0, .int 0, .int 0, .int 0, .int 0, .int 0, .long 0, .null, .int 0, .int 0])), (q_1, .inl (ty 0, 7, .inl (fun _ => 0))), (q_2, .inl (ty 0, 5640, .inl (fun _ => 0))), (q_3, .inl (ty 0, 11280, .inl (fun _ => 0))), (q_4, .inl (ty 2, 2, .inl (fun _ => 0))), (q_5, .inl (ty 0, 28, .inl (fun _ => 0))), (q_6, .inl (ty 3, 128, .inl (wU 128))), (q_7, .inl (ty 3, 400, .inl (fun _ => 0))), (q_8, .inl (ty 0, 5, .inl (fun _ => 0))), (q_9, .inl (ty 0, 401, .inl (fun _ => 0))), (q_10, .inl (ty 0, 401, .inl (fun _ => 0))), (q_11, .inl (ty 0, 401, .inl (fun _ => 0))), (q_12, .inl (ty 0, 9, .inl (fun _ => 0))), (q_13, .inl (ty 2, 6, .inl (fun _ => 0))), (q_14, .inl (ty 0, 240, .inl (fun _ => 0))), (q_15, .inl (ty 0, 240, .inl (fun _ => 0))), (q_16, .inl (ty 0, 4320, .inl (fun _ => 0))), (q_17, .inl (ty 0, 5040, .inl (fun _ => 0))), (q_18, .inl (ty 0, 448, .inl (fun _ => 0))), (q_19, .inl (ty 0, 6, .inl (fun _ => 0))), (q_20, .inl (ty 0, 588, .inl (fun _ => 0)))]) hp hd hs rfl ?_
  clear hp hd hs hP hD hS
  intro hP hD hS
  refine va_putF (D := D) (ci := 10) (v := .ref q_20) (ty := .array .int) (C := RX10) (T := TX10) (N := 56) hx hb hts u9_wsX10_init_X10 tyX10 tyX10_ok nmX10 hown hK hP hD hS 0 rfl rfl 39 (by decide) (hts (.fieldLink RX10 87 "TurnedFloorsModel" "price" "[I") f9_wsX10_init_1177) (fun _ h9 => h9) rfl hin rfl (by decide +kernel) rfl rfl (Nat.le_of_ble_eq_true rfl) dX10_init_939 (fun H locs hp hd hs => ?_)
  refine kz_re (w2 := [(h0, .inr (10, [.int 0, .ref q_1, .ref q_2, .ref q_3, .ref q_4, .ref q_5, .int 0, .ref q_6, .int 0, .int 0, .int 0, .ref q_7, .ref q_8, .int 0, .int (-1), .ref q_9, .ref q_10, .ref q_11, .int 0, .int 0, .int 0, .int 0, .int 0, .int 0, .int 0, .int 0, .ref q_12, .int 0, .int 0, .ref q_13, .ref q_14, .ref q_15, .int 0, .ref q_16, .ref q_17, .ref q_18, .ref q_19, .int 0, .int 0, .ref q_20, .null, .null, .null, .null, .null, .null, .int 0, .int 0, .int 0, .int 0, .int 0, .int 0, .long 0, .null, .int 0, .int 0])), (q_1, .inl (ty 0, 7, .inl (fun _ => 0))), (q_2, .inl (ty 0, 5640, .inl (fun _ => 0))), (q_3, .inl (ty 0, 11280, .inl (fun _ => 0))), (q_4, .inl (ty 2, 2, .inl (fun _ => 0))), (q_5, .inl (ty 0, 28, .inl (fun _ => 0))), (q_6, .inl (ty 3, 128, .inl (wU 128))), (q_7, .inl (ty 3, 400, .inl (fun _ => 0))), (q_8, .inl (ty 0, 5, .inl (fun _ => 0))), (q_9, .inl (ty 0, 401, .inl (fun _ => 0))), (q_10, .inl (ty 0, 401, .inl (fun _ => 0))), (q_11, .inl (ty 0, 401, .inl (fun _ => 0))), (q_12, .inl (ty 0, 9, .inl (fun _ => 0))), (q_13, .inl (ty 2, 6, .inl (fun _ => 0))), (q_14, .inl (ty 0, 240, .inl (fun _ => 0))), (q_15, .inl (ty 0, 240, .inl (fun _ => 0))), (q_16, .inl (ty 0, 4320, .inl (fun _ => 0))), (q_17, .inl (ty 0, 5040, .inl (fun _ => 0))), (q_18, .inl (ty 0, 448, .inl (fun _ => 0))), (q_19, .inl (ty 0, 6, .inl (fun _ => 0))), (q_20, .inl (ty 0, 588, .inl (fun _ => 0)))]) hp hd hs rfl ?_
  clear hp hd hs hP hD hS
  intro hP hD hS
  refine lv_aload_n hx hb dX10_init_942 rfl (lv_at hl 0 rfl) ?_
  refine lv_ldc (v := 46080) hx hb hown (hts (.constant RX10 90 46080) f9_wsX10_init_1178) dX10_init_943 ?_
  refine va_newa (atype := .int) (ty := .int) (N' := 46080) (a0 := (46080, .inl (fun _ => 0))) hx hb (hts (.arrayClass .int) f9_wsX10_init_1154) rfl hK hP hD hS hA (fun _ => rfl) (by decide) (by decide) (by decide) (Nat.le_of_ble_eq_true rfl) (Nat.le_of_ble_eq_true rfl) dX10_init_945 (fun q_21 cA H hK2 hp hd hs => ?_)
  obtain rfl : cA = ty 0 := kz_cA (t0 := 0) (t1 := 6) hK2 rfl rfl rfl
  refine kz_re (w2 := [(h0, .inr (10, [.int 0, .ref q_1, .ref q_2, .ref q_3, .ref q_4, .ref q_5, .int 0, .ref q_6, .int 0, .int 0, .int 0, .ref q_7, .ref q_8, .int 0, .int (-1), .ref q_9, .ref q_10, .ref q_11, .int 0, .int 0, .int 0, .int 0, .int 0, .int 0, .int 0, .int 0, .ref q_12, .int 0, .int 0, .ref q_13, .ref q_14, .ref q_15, .int 0, .ref q_16, .ref q_17, .ref q_18, .ref q_19, .int 0, .int 0, .ref q_20, .null, .null, .null, .null, .null, .null, .int 0, .int 0, .int 0, .int 0, .int 0, .int 0, .long 0, .null, .int 0, .int 0])), (q_1, .inl (ty 0, 7, .inl (fun _ => 0))), (q_2, .inl (ty 0, 5640, .inl (fun _ => 0))), (q_3, .inl (ty 0, 11280, .inl (fun _ => 0))), (q_4, .inl (ty 2, 2, .inl (fun _ => 0))), (q_5, .inl (ty 0, 28, .inl (fun _ => 0))), (q_6, .inl (ty 3, 128, .inl (wU 128))), (q_7, .inl (ty 3, 400, .inl (fun _ => 0))), (q_8, .inl (ty 0, 5, .inl (fun _ => 0))), (q_9, .inl (ty 0, 401, .inl (fun _ => 0))), (q_10, .inl (ty 0, 401, .inl (fun _ => 0))), (q_11, .inl (ty 0, 401, .inl (fun _ => 0))), (q_12, .inl (ty 0, 9, .inl (fun _ => 0))), (q_13, .inl (ty 2, 6, .inl (fun _ => 0))), (q_14, .inl (ty 0, 240, .inl (fun _ => 0))), (q_15, .inl (ty 0, 240, .inl (fun _ => 0))), (q_16, .inl (ty 0, 4320, .inl (fun _ => 0))), (q_17, .inl (ty 0, 5040, .inl (fun _ => 0))), (q_18, .inl (ty 0, 448, .inl (fun _ => 0))), (q_19, .inl (ty 0, 6, .inl (fun _ => 0))), (q_20, .inl (ty 0, 588, .inl (fun _ => 0))), (q_21, .inl (ty 0, 46080, .inl (fun _ => 0)))]) hp hd hs rfl ?_
  clear hp hd hs hP hD hS
  intro hP hD hS
  refine va_putF (D := D) (ci := 10) (v := .ref q_21) (ty := .array .int) (C := RX10) (T := TX10) (N := 56) hx hb hts u9_wsX10_init_X10 tyX10 tyX10_ok nmX10 hown hK hP hD hS 0 rfl rfl 40 (by decide) (hts (.fieldLink RX10 91 "TurnedFloorsModel" "dist" "[I") f9_wsX10_init_1179) (fun _ h9 => h9) rfl hin rfl (by decide +kernel) rfl rfl (Nat.le_of_ble_eq_true rfl) dX10_init_947 (fun H locs hp hd hs => ?_)
  refine kz_re (w2 := [(h0, .inr (10, [.int 0, .ref q_1, .ref q_2, .ref q_3, .ref q_4, .ref q_5, .int 0, .ref q_6, .int 0, .int 0, .int 0, .ref q_7, .ref q_8, .int 0, .int (-1), .ref q_9, .ref q_10, .ref q_11, .int 0, .int 0, .int 0, .int 0, .int 0, .int 0, .int 0, .int 0, .ref q_12, .int 0, .int 0, .ref q_13, .ref q_14, .ref q_15, .int 0, .ref q_16, .ref q_17, .ref q_18, .ref q_19, .int 0, .int 0, .ref q_20, .ref q_21, .null, .null, .null, .null, .null, .int 0, .int 0, .int 0, .int 0, .int 0, .int 0, .long 0, .null, .int 0, .int 0])), (q_1, .inl (ty 0, 7, .inl (fun _ => 0))), (q_2, .inl (ty 0, 5640, .inl (fun _ => 0))), (q_3, .inl (ty 0, 11280, .inl (fun _ => 0))), (q_4, .inl (ty 2, 2, .inl (fun _ => 0))), (q_5, .inl (ty 0, 28, .inl (fun _ => 0))), (q_6, .inl (ty 3, 128, .inl (wU 128))), (q_7, .inl (ty 3, 400, .inl (fun _ => 0))), (q_8, .inl (ty 0, 5, .inl (fun _ => 0))), (q_9, .inl (ty 0, 401, .inl (fun _ => 0))), (q_10, .inl (ty 0, 401, .inl (fun _ => 0))), (q_11, .inl (ty 0, 401, .inl (fun _ => 0))), (q_12, .inl (ty 0, 9, .inl (fun _ => 0))), (q_13, .inl (ty 2, 6, .inl (fun _ => 0))), (q_14, .inl (ty 0, 240, .inl (fun _ => 0))), (q_15, .inl (ty 0, 240, .inl (fun _ => 0))), (q_16, .inl (ty 0, 4320, .inl (fun _ => 0))), (q_17, .inl (ty 0, 5040, .inl (fun _ => 0))), (q_18, .inl (ty 0, 448, .inl (fun _ => 0))), (q_19, .inl (ty 0, 6, .inl (fun _ => 0))), (q_20, .inl (ty 0, 588, .inl (fun _ => 0))), (q_21, .inl (ty 0, 46080, .inl (fun _ => 0)))]) hp hd hs rfl ?_
  clear hp hd hs hP hD hS
  intro hP hD hS
  refine lv_aload_n hx hb dX10_init_950 rfl (lv_at hl 0 rfl) ?_
  refine lv_ldc (v := 46080) hx hb hown (hts (.constant RX10 90 46080) f9_wsX10_init_1178) dX10_init_951 ?_
  refine va_newa (atype := .int) (ty := .int) (N' := 46080) (a0 := (46080, .inl (fun _ => 0))) hx hb (hts (.arrayClass .int) f9_wsX10_init_1154) rfl hK hP hD hS hA (fun _ => rfl) (by decide) (by decide) (by decide) (Nat.le_of_ble_eq_true rfl) (Nat.le_of_ble_eq_true rfl) dX10_init_953 (fun q_22 cA H hK2 hp hd hs => ?_)
  obtain rfl : cA = ty 0 := kz_cA (t0 := 0) (t1 := 6) hK2 rfl rfl rfl
  refine kz_re (w2 := [(h0, .inr (10, [.int 0, .ref q_1, .ref q_2, .ref q_3, .ref q_4, .ref q_5, .int 0, .ref q_6, .int 0, .int 0, .int 0, .ref q_7, .ref q_8, .int 0, .int (-1), .ref q_9, .ref q_10, .ref q_11, .int 0, .int 0, .int 0, .int 0, .int 0, .int 0, .int 0, .int 0, .ref q_12, .int 0, .int 0, .ref q_13, .ref q_14, .ref q_15, .int 0, .ref q_16, .ref q_17, .ref q_18, .ref q_19, .int 0, .int 0, .ref q_20, .ref q_21, .null, .null, .null, .null, .null, .int 0, .int 0, .int 0, .int 0, .int 0, .int 0, .long 0, .null, .int 0, .int 0])), (q_1, .inl (ty 0, 7, .inl (fun _ => 0))), (q_2, .inl (ty 0, 5640, .inl (fun _ => 0))), (q_3, .inl (ty 0, 11280, .inl (fun _ => 0))), (q_4, .inl (ty 2, 2, .inl (fun _ => 0))), (q_5, .inl (ty 0, 28, .inl (fun _ => 0))), (q_6, .inl (ty 3, 128, .inl (wU 128))), (q_7, .inl (ty 3, 400, .inl (fun _ => 0))), (q_8, .inl (ty 0, 5, .inl (fun _ => 0))), (q_9, .inl (ty 0, 401, .inl (fun _ => 0))), (q_10, .inl (ty 0, 401, .inl (fun _ => 0))), (q_11, .inl (ty 0, 401, .inl (fun _ => 0))), (q_12, .inl (ty 0, 9, .inl (fun _ => 0))), (q_13, .inl (ty 2, 6, .inl (fun _ => 0))), (q_14, .inl (ty 0, 240, .inl (fun _ => 0))), (q_15, .inl (ty 0, 240, .inl (fun _ => 0))), (q_16, .inl (ty 0, 4320, .inl (fun _ => 0))), (q_17, .inl (ty 0, 5040, .inl (fun _ => 0))), (q_18, .inl (ty 0, 448, .inl (fun _ => 0))), (q_19, .inl (ty 0, 6, .inl (fun _ => 0))), (q_20, .inl (ty 0, 588, .inl (fun _ => 0))), (q_21, .inl (ty 0, 46080, .inl (fun _ => 0))), (q_22, .inl (ty 0, 46080, .inl (fun _ => 0)))]) hp hd hs rfl ?_
  clear hp hd hs hP hD hS
  intro hP hD hS
  refine va_putF (D := D) (ci := 10) (v := .ref q_22) (ty := .array .int) (C := RX10) (T := TX10) (N := 56) hx hb hts u9_wsX10_init_X10 tyX10 tyX10_ok nmX10 hown hK hP hD hS 0 rfl rfl 41 (by decide) (hts (.fieldLink RX10 94 "TurnedFloorsModel" "rowMany" "[I") f9_wsX10_init_1180) (fun _ h9 => h9) rfl hin rfl (by decide +kernel) rfl rfl (Nat.le_of_ble_eq_true rfl) dX10_init_955 (fun H locs hp hd hs => ?_)
  refine kz_re (w2 := [(h0, .inr (10, [.int 0, .ref q_1, .ref q_2, .ref q_3, .ref q_4, .ref q_5, .int 0, .ref q_6, .int 0, .int 0, .int 0, .ref q_7, .ref q_8, .int 0, .int (-1), .ref q_9, .ref q_10, .ref q_11, .int 0, .int 0, .int 0, .int 0, .int 0, .int 0, .int 0, .int 0, .ref q_12, .int 0, .int 0, .ref q_13, .ref q_14, .ref q_15, .int 0, .ref q_16, .ref q_17, .ref q_18, .ref q_19, .int 0, .int 0, .ref q_20, .ref q_21, .ref q_22, .null, .null, .null, .null, .int 0, .int 0, .int 0, .int 0, .int 0, .int 0, .long 0, .null, .int 0, .int 0])), (q_1, .inl (ty 0, 7, .inl (fun _ => 0))), (q_2, .inl (ty 0, 5640, .inl (fun _ => 0))), (q_3, .inl (ty 0, 11280, .inl (fun _ => 0))), (q_4, .inl (ty 2, 2, .inl (fun _ => 0))), (q_5, .inl (ty 0, 28, .inl (fun _ => 0))), (q_6, .inl (ty 3, 128, .inl (wU 128))), (q_7, .inl (ty 3, 400, .inl (fun _ => 0))), (q_8, .inl (ty 0, 5, .inl (fun _ => 0))), (q_9, .inl (ty 0, 401, .inl (fun _ => 0))), (q_10, .inl (ty 0, 401, .inl (fun _ => 0))), (q_11, .inl (ty 0, 401, .inl (fun _ => 0))), (q_12, .inl (ty 0, 9, .inl (fun _ => 0))), (q_13, .inl (ty 2, 6, .inl (fun _ => 0))), (q_14, .inl (ty 0, 240, .inl (fun _ => 0))), (q_15, .inl (ty 0, 240, .inl (fun _ => 0))), (q_16, .inl (ty 0, 4320, .inl (fun _ => 0))), (q_17, .inl (ty 0, 5040, .inl (fun _ => 0))), (q_18, .inl (ty 0, 448, .inl (fun _ => 0))), (q_19, .inl (ty 0, 6, .inl (fun _ => 0))), (q_20, .inl (ty 0, 588, .inl (fun _ => 0))), (q_21, .inl (ty 0, 46080, .inl (fun _ => 0))), (q_22, .inl (ty 0, 46080, .inl (fun _ => 0)))]) hp hd hs rfl ?_
  clear hp hd hs hP hD hS
  intro hP hD hS
  refine lv_aload_n hx hb dX10_init_958 rfl (lv_at hl 0 rfl) ?_
  refine lv_ldc (v := 46080) hx hb hown (hts (.constant RX10 90 46080) f9_wsX10_init_1178) dX10_init_959 ?_
  refine va_newa (atype := .int) (ty := .int) (N' := 46080) (a0 := (46080, .inl (fun _ => 0))) hx hb (hts (.arrayClass .int) f9_wsX10_init_1154) rfl hK hP hD hS hA (fun _ => rfl) (by decide) (by decide) (by decide) (Nat.le_of_ble_eq_true rfl) (Nat.le_of_ble_eq_true rfl) dX10_init_961 (fun q_23 cA H hK2 hp hd hs => ?_)
  obtain rfl : cA = ty 0 := kz_cA (t0 := 0) (t1 := 6) hK2 rfl rfl rfl
  refine kz_re (w2 := [(h0, .inr (10, [.int 0, .ref q_1, .ref q_2, .ref q_3, .ref q_4, .ref q_5, .int 0, .ref q_6, .int 0, .int 0, .int 0, .ref q_7, .ref q_8, .int 0, .int (-1), .ref q_9, .ref q_10, .ref q_11, .int 0, .int 0, .int 0, .int 0, .int 0, .int 0, .int 0, .int 0, .ref q_12, .int 0, .int 0, .ref q_13, .ref q_14, .ref q_15, .int 0, .ref q_16, .ref q_17, .ref q_18, .ref q_19, .int 0, .int 0, .ref q_20, .ref q_21, .ref q_22, .null, .null, .null, .null, .int 0, .int 0, .int 0, .int 0, .int 0, .int 0, .long 0, .null, .int 0, .int 0])), (q_1, .inl (ty 0, 7, .inl (fun _ => 0))), (q_2, .inl (ty 0, 5640, .inl (fun _ => 0))), (q_3, .inl (ty 0, 11280, .inl (fun _ => 0))), (q_4, .inl (ty 2, 2, .inl (fun _ => 0))), (q_5, .inl (ty 0, 28, .inl (fun _ => 0))), (q_6, .inl (ty 3, 128, .inl (wU 128))), (q_7, .inl (ty 3, 400, .inl (fun _ => 0))), (q_8, .inl (ty 0, 5, .inl (fun _ => 0))), (q_9, .inl (ty 0, 401, .inl (fun _ => 0))), (q_10, .inl (ty 0, 401, .inl (fun _ => 0))), (q_11, .inl (ty 0, 401, .inl (fun _ => 0))), (q_12, .inl (ty 0, 9, .inl (fun _ => 0))), (q_13, .inl (ty 2, 6, .inl (fun _ => 0))), (q_14, .inl (ty 0, 240, .inl (fun _ => 0))), (q_15, .inl (ty 0, 240, .inl (fun _ => 0))), (q_16, .inl (ty 0, 4320, .inl (fun _ => 0))), (q_17, .inl (ty 0, 5040, .inl (fun _ => 0))), (q_18, .inl (ty 0, 448, .inl (fun _ => 0))), (q_19, .inl (ty 0, 6, .inl (fun _ => 0))), (q_20, .inl (ty 0, 588, .inl (fun _ => 0))), (q_21, .inl (ty 0, 46080, .inl (fun _ => 0))), (q_22, .inl (ty 0, 46080, .inl (fun _ => 0))), (q_23, .inl (ty 0, 46080, .inl (fun _ => 0)))]) hp hd hs rfl ?_
  clear hp hd hs hP hD hS
  intro hP hD hS
  refine va_putF (D := D) (ci := 10) (v := .ref q_23) (ty := .array .int) (C := RX10) (T := TX10) (N := 56) hx hb hts u9_wsX10_init_X10 tyX10 tyX10_ok nmX10 hown hK hP hD hS 0 rfl rfl 42 (by decide) (hts (.fieldLink RX10 97 "TurnedFloorsModel" "queue" "[I") f9_wsX10_init_1181) (fun _ h9 => h9) rfl hin rfl (by decide +kernel) rfl rfl (Nat.le_of_ble_eq_true rfl) dX10_init_963 (fun H locs hp hd hs => ?_)
  refine kz_re (w2 := [(h0, .inr (10, [.int 0, .ref q_1, .ref q_2, .ref q_3, .ref q_4, .ref q_5, .int 0, .ref q_6, .int 0, .int 0, .int 0, .ref q_7, .ref q_8, .int 0, .int (-1), .ref q_9, .ref q_10, .ref q_11, .int 0, .int 0, .int 0, .int 0, .int 0, .int 0, .int 0, .int 0, .ref q_12, .int 0, .int 0, .ref q_13, .ref q_14, .ref q_15, .int 0, .ref q_16, .ref q_17, .ref q_18, .ref q_19, .int 0, .int 0, .ref q_20, .ref q_21, .ref q_22, .ref q_23, .null, .null, .null, .int 0, .int 0, .int 0, .int 0, .int 0, .int 0, .long 0, .null, .int 0, .int 0])), (q_1, .inl (ty 0, 7, .inl (fun _ => 0))), (q_2, .inl (ty 0, 5640, .inl (fun _ => 0))), (q_3, .inl (ty 0, 11280, .inl (fun _ => 0))), (q_4, .inl (ty 2, 2, .inl (fun _ => 0))), (q_5, .inl (ty 0, 28, .inl (fun _ => 0))), (q_6, .inl (ty 3, 128, .inl (wU 128))), (q_7, .inl (ty 3, 400, .inl (fun _ => 0))), (q_8, .inl (ty 0, 5, .inl (fun _ => 0))), (q_9, .inl (ty 0, 401, .inl (fun _ => 0))), (q_10, .inl (ty 0, 401, .inl (fun _ => 0))), (q_11, .inl (ty 0, 401, .inl (fun _ => 0))), (q_12, .inl (ty 0, 9, .inl (fun _ => 0))), (q_13, .inl (ty 2, 6, .inl (fun _ => 0))), (q_14, .inl (ty 0, 240, .inl (fun _ => 0))), (q_15, .inl (ty 0, 240, .inl (fun _ => 0))), (q_16, .inl (ty 0, 4320, .inl (fun _ => 0))), (q_17, .inl (ty 0, 5040, .inl (fun _ => 0))), (q_18, .inl (ty 0, 448, .inl (fun _ => 0))), (q_19, .inl (ty 0, 6, .inl (fun _ => 0))), (q_20, .inl (ty 0, 588, .inl (fun _ => 0))), (q_21, .inl (ty 0, 46080, .inl (fun _ => 0))), (q_22, .inl (ty 0, 46080, .inl (fun _ => 0))), (q_23, .inl (ty 0, 46080, .inl (fun _ => 0)))]) hp hd hs rfl ?_
  clear hp hd hs hP hD hS
  intro hP hD hS
  refine lv_aload_n hx hb dX10_init_966 rfl (lv_at hl 0 rfl) ?_
  refine lv_ldc (v := 46080) hx hb hown (hts (.constant RX10 90 46080) f9_wsX10_init_1178) dX10_init_967 ?_
  refine va_newa (atype := .boolean) (ty := .boolean) (N' := 46080) (a0 := (46080, .inl (fun _ => 0))) hx hb (hts (.arrayClass .boolean) f9_wsX10_init_1158) rfl hK hP hD hS hA (fun _ => rfl) (by decide) (by decide) (by decide) (Nat.le_of_ble_eq_true rfl) (Nat.le_of_ble_eq_true rfl) dX10_init_969 (fun q_24 cA H hK2 hp hd hs => ?_)
  obtain rfl : cA = ty 2 := kz_cA (t0 := 2) (t1 := 6) hK2 rfl rfl rfl
  refine kz_re (w2 := [(h0, .inr (10, [.int 0, .ref q_1, .ref q_2, .ref q_3, .ref q_4, .ref q_5, .int 0, .ref q_6, .int 0, .int 0, .int 0, .ref q_7, .ref q_8, .int 0, .int (-1), .ref q_9, .ref q_10, .ref q_11, .int 0, .int 0, .int 0, .int 0, .int 0, .int 0, .int 0, .int 0, .ref q_12, .int 0, .int 0, .ref q_13, .ref q_14, .ref q_15, .int 0, .ref q_16, .ref q_17, .ref q_18, .ref q_19, .int 0, .int 0, .ref q_20, .ref q_21, .ref q_22, .ref q_23, .null, .null, .null, .int 0, .int 0, .int 0, .int 0, .int 0, .int 0, .long 0, .null, .int 0, .int 0])), (q_1, .inl (ty 0, 7, .inl (fun _ => 0))), (q_2, .inl (ty 0, 5640, .inl (fun _ => 0))), (q_3, .inl (ty 0, 11280, .inl (fun _ => 0))), (q_4, .inl (ty 2, 2, .inl (fun _ => 0))), (q_5, .inl (ty 0, 28, .inl (fun _ => 0))), (q_6, .inl (ty 3, 128, .inl (wU 128))), (q_7, .inl (ty 3, 400, .inl (fun _ => 0))), (q_8, .inl (ty 0, 5, .inl (fun _ => 0))), (q_9, .inl (ty 0, 401, .inl (fun _ => 0))), (q_10, .inl (ty 0, 401, .inl (fun _ => 0))), (q_11, .inl (ty 0, 401, .inl (fun _ => 0))), (q_12, .inl (ty 0, 9, .inl (fun _ => 0))), (q_13, .inl (ty 2, 6, .inl (fun _ => 0))), (q_14, .inl (ty 0, 240, .inl (fun _ => 0))), (q_15, .inl (ty 0, 240, .inl (fun _ => 0))), (q_16, .inl (ty 0, 4320, .inl (fun _ => 0))), (q_17, .inl (ty 0, 5040, .inl (fun _ => 0))), (q_18, .inl (ty 0, 448, .inl (fun _ => 0))), (q_19, .inl (ty 0, 6, .inl (fun _ => 0))), (q_20, .inl (ty 0, 588, .inl (fun _ => 0))), (q_21, .inl (ty 0, 46080, .inl (fun _ => 0))), (q_22, .inl (ty 0, 46080, .inl (fun _ => 0))), (q_23, .inl (ty 0, 46080, .inl (fun _ => 0))), (q_24, .inl (ty 2, 46080, .inl (fun _ => 0)))]) hp hd hs rfl ?_
  clear hp hd hs hP hD hS
  intro hP hD hS
  refine va_putF (D := D) (ci := 10) (v := .ref q_24) (ty := .array .boolean) (C := RX10) (T := TX10) (N := 56) hx hb hts u9_wsX10_init_X10 tyX10 tyX10_ok nmX10 hown hK hP hD hS 0 rfl rfl 43 (by decide) (hts (.fieldLink RX10 100 "TurnedFloorsModel" "waits" "[Z") f9_wsX10_init_1182) (fun _ h9 => h9) rfl hin rfl (by decide +kernel) rfl rfl (Nat.le_of_ble_eq_true rfl) dX10_init_971 (fun H locs hp hd hs => ?_)
  refine kz_re (w2 := [(h0, .inr (10, [.int 0, .ref q_1, .ref q_2, .ref q_3, .ref q_4, .ref q_5, .int 0, .ref q_6, .int 0, .int 0, .int 0, .ref q_7, .ref q_8, .int 0, .int (-1), .ref q_9, .ref q_10, .ref q_11, .int 0, .int 0, .int 0, .int 0, .int 0, .int 0, .int 0, .int 0, .ref q_12, .int 0, .int 0, .ref q_13, .ref q_14, .ref q_15, .int 0, .ref q_16, .ref q_17, .ref q_18, .ref q_19, .int 0, .int 0, .ref q_20, .ref q_21, .ref q_22, .ref q_23, .ref q_24, .null, .null, .int 0, .int 0, .int 0, .int 0, .int 0, .int 0, .long 0, .null, .int 0, .int 0])), (q_1, .inl (ty 0, 7, .inl (fun _ => 0))), (q_2, .inl (ty 0, 5640, .inl (fun _ => 0))), (q_3, .inl (ty 0, 11280, .inl (fun _ => 0))), (q_4, .inl (ty 2, 2, .inl (fun _ => 0))), (q_5, .inl (ty 0, 28, .inl (fun _ => 0))), (q_6, .inl (ty 3, 128, .inl (wU 128))), (q_7, .inl (ty 3, 400, .inl (fun _ => 0))), (q_8, .inl (ty 0, 5, .inl (fun _ => 0))), (q_9, .inl (ty 0, 401, .inl (fun _ => 0))), (q_10, .inl (ty 0, 401, .inl (fun _ => 0))), (q_11, .inl (ty 0, 401, .inl (fun _ => 0))), (q_12, .inl (ty 0, 9, .inl (fun _ => 0))), (q_13, .inl (ty 2, 6, .inl (fun _ => 0))), (q_14, .inl (ty 0, 240, .inl (fun _ => 0))), (q_15, .inl (ty 0, 240, .inl (fun _ => 0))), (q_16, .inl (ty 0, 4320, .inl (fun _ => 0))), (q_17, .inl (ty 0, 5040, .inl (fun _ => 0))), (q_18, .inl (ty 0, 448, .inl (fun _ => 0))), (q_19, .inl (ty 0, 6, .inl (fun _ => 0))), (q_20, .inl (ty 0, 588, .inl (fun _ => 0))), (q_21, .inl (ty 0, 46080, .inl (fun _ => 0))), (q_22, .inl (ty 0, 46080, .inl (fun _ => 0))), (q_23, .inl (ty 0, 46080, .inl (fun _ => 0))), (q_24, .inl (ty 2, 46080, .inl (fun _ => 0)))]) hp hd hs rfl ?_
  clear hp hd hs hP hD hS
  intro hP hD hS
  refine lv_aload_n hx hb dX10_init_974 rfl (lv_at hl 0 rfl) ?_
  refine lv_bipush (v := 6) hx hb dX10_init_975 (by decide) ?_
  refine va_newa (atype := .int) (ty := .int) (N' := 6) (a0 := (6, .inl (fun _ => 0))) hx hb (hts (.arrayClass .int) f9_wsX10_init_1154) rfl hK hP hD hS hA (fun _ => rfl) (by decide) (by decide) (by decide) (Nat.le_of_ble_eq_true rfl) (Nat.le_of_ble_eq_true rfl) dX10_init_977 (fun q_25 cA H hK2 hp hd hs => ?_)
  obtain rfl : cA = ty 0 := kz_cA (t0 := 0) (t1 := 6) hK2 rfl rfl rfl
  refine kz_re (w2 := [(h0, .inr (10, [.int 0, .ref q_1, .ref q_2, .ref q_3, .ref q_4, .ref q_5, .int 0, .ref q_6, .int 0, .int 0, .int 0, .ref q_7, .ref q_8, .int 0, .int (-1), .ref q_9, .ref q_10, .ref q_11, .int 0, .int 0, .int 0, .int 0, .int 0, .int 0, .int 0, .int 0, .ref q_12, .int 0, .int 0, .ref q_13, .ref q_14, .ref q_15, .int 0, .ref q_16, .ref q_17, .ref q_18, .ref q_19, .int 0, .int 0, .ref q_20, .ref q_21, .ref q_22, .ref q_23, .ref q_24, .null, .null, .int 0, .int 0, .int 0, .int 0, .int 0, .int 0, .long 0, .null, .int 0, .int 0])), (q_1, .inl (ty 0, 7, .inl (fun _ => 0))), (q_2, .inl (ty 0, 5640, .inl (fun _ => 0))), (q_3, .inl (ty 0, 11280, .inl (fun _ => 0))), (q_4, .inl (ty 2, 2, .inl (fun _ => 0))), (q_5, .inl (ty 0, 28, .inl (fun _ => 0))), (q_6, .inl (ty 3, 128, .inl (wU 128))), (q_7, .inl (ty 3, 400, .inl (fun _ => 0))), (q_8, .inl (ty 0, 5, .inl (fun _ => 0))), (q_9, .inl (ty 0, 401, .inl (fun _ => 0))), (q_10, .inl (ty 0, 401, .inl (fun _ => 0))), (q_11, .inl (ty 0, 401, .inl (fun _ => 0))), (q_12, .inl (ty 0, 9, .inl (fun _ => 0))), (q_13, .inl (ty 2, 6, .inl (fun _ => 0))), (q_14, .inl (ty 0, 240, .inl (fun _ => 0))), (q_15, .inl (ty 0, 240, .inl (fun _ => 0))), (q_16, .inl (ty 0, 4320, .inl (fun _ => 0))), (q_17, .inl (ty 0, 5040, .inl (fun _ => 0))), (q_18, .inl (ty 0, 448, .inl (fun _ => 0))), (q_19, .inl (ty 0, 6, .inl (fun _ => 0))), (q_20, .inl (ty 0, 588, .inl (fun _ => 0))), (q_21, .inl (ty 0, 46080, .inl (fun _ => 0))), (q_22, .inl (ty 0, 46080, .inl (fun _ => 0))), (q_23, .inl (ty 0, 46080, .inl (fun _ => 0))), (q_24, .inl (ty 2, 46080, .inl (fun _ => 0))), (q_25, .inl (ty 0, 6, .inl (fun _ => 0)))]) hp hd hs rfl ?_
  clear hp hd hs hP hD hS
  intro hP hD hS
  refine va_putF (D := D) (ci := 10) (v := .ref q_25) (ty := .array .int) (C := RX10) (T := TX10) (N := 56) hx hb hts u9_wsX10_init_X10 tyX10 tyX10_ok nmX10 hown hK hP hD hS 0 rfl rfl 44 (by decide) (hts (.fieldLink RX10 103 "TurnedFloorsModel" "alike" "[I") f9_wsX10_init_1183) (fun _ h9 => h9) rfl hin rfl (by decide +kernel) rfl rfl (Nat.le_of_ble_eq_true rfl) dX10_init_979 (fun H locs hp hd hs => ?_)
  refine kz_re (w2 := [(h0, .inr (10, [.int 0, .ref q_1, .ref q_2, .ref q_3, .ref q_4, .ref q_5, .int 0, .ref q_6, .int 0, .int 0, .int 0, .ref q_7, .ref q_8, .int 0, .int (-1), .ref q_9, .ref q_10, .ref q_11, .int 0, .int 0, .int 0, .int 0, .int 0, .int 0, .int 0, .int 0, .ref q_12, .int 0, .int 0, .ref q_13, .ref q_14, .ref q_15, .int 0, .ref q_16, .ref q_17, .ref q_18, .ref q_19, .int 0, .int 0, .ref q_20, .ref q_21, .ref q_22, .ref q_23, .ref q_24, .ref q_25, .null, .int 0, .int 0, .int 0, .int 0, .int 0, .int 0, .long 0, .null, .int 0, .int 0])), (q_1, .inl (ty 0, 7, .inl (fun _ => 0))), (q_2, .inl (ty 0, 5640, .inl (fun _ => 0))), (q_3, .inl (ty 0, 11280, .inl (fun _ => 0))), (q_4, .inl (ty 2, 2, .inl (fun _ => 0))), (q_5, .inl (ty 0, 28, .inl (fun _ => 0))), (q_6, .inl (ty 3, 128, .inl (wU 128))), (q_7, .inl (ty 3, 400, .inl (fun _ => 0))), (q_8, .inl (ty 0, 5, .inl (fun _ => 0))), (q_9, .inl (ty 0, 401, .inl (fun _ => 0))), (q_10, .inl (ty 0, 401, .inl (fun _ => 0))), (q_11, .inl (ty 0, 401, .inl (fun _ => 0))), (q_12, .inl (ty 0, 9, .inl (fun _ => 0))), (q_13, .inl (ty 2, 6, .inl (fun _ => 0))), (q_14, .inl (ty 0, 240, .inl (fun _ => 0))), (q_15, .inl (ty 0, 240, .inl (fun _ => 0))), (q_16, .inl (ty 0, 4320, .inl (fun _ => 0))), (q_17, .inl (ty 0, 5040, .inl (fun _ => 0))), (q_18, .inl (ty 0, 448, .inl (fun _ => 0))), (q_19, .inl (ty 0, 6, .inl (fun _ => 0))), (q_20, .inl (ty 0, 588, .inl (fun _ => 0))), (q_21, .inl (ty 0, 46080, .inl (fun _ => 0))), (q_22, .inl (ty 0, 46080, .inl (fun _ => 0))), (q_23, .inl (ty 0, 46080, .inl (fun _ => 0))), (q_24, .inl (ty 2, 46080, .inl (fun _ => 0))), (q_25, .inl (ty 0, 6, .inl (fun _ => 0)))]) hp hd hs rfl ?_
  clear hp hd hs hP hD hS
  intro hP hD hS
  refine lv_aload_n hx hb dX10_init_982 rfl (lv_at hl 0 rfl) ?_
  refine lv_bipush (v := 21) hx hb dX10_init_983 (by decide) ?_
  refine va_newa (atype := .long) (ty := .long) (N' := 21) (a0 := (21, .inr (.inl (fun _ => 0)))) hx hb (hts (.arrayClass .long) f9_wsX10_init_1184) rfl hK hP hD hS hA (fun _ => rfl) (by decide) (by decide) (by decide) (Nat.le_of_ble_eq_true rfl) (Nat.le_of_ble_eq_true rfl) dX10_init_985 (fun q_26 cA H hK2 hp hd hs => ?_)
  obtain rfl : cA = ty 1 := kz_cA (t0 := 1) (t1 := 6) hK2 rfl rfl rfl
  refine kz_re (w2 := [(h0, .inr (10, [.int 0, .ref q_1, .ref q_2, .ref q_3, .ref q_4, .ref q_5, .int 0, .ref q_6, .int 0, .int 0, .int 0, .ref q_7, .ref q_8, .int 0, .int (-1), .ref q_9, .ref q_10, .ref q_11, .int 0, .int 0, .int 0, .int 0, .int 0, .int 0, .int 0, .int 0, .ref q_12, .int 0, .int 0, .ref q_13, .ref q_14, .ref q_15, .int 0, .ref q_16, .ref q_17, .ref q_18, .ref q_19, .int 0, .int 0, .ref q_20, .ref q_21, .ref q_22, .ref q_23, .ref q_24, .ref q_25, .null, .int 0, .int 0, .int 0, .int 0, .int 0, .int 0, .long 0, .null, .int 0, .int 0])), (q_1, .inl (ty 0, 7, .inl (fun _ => 0))), (q_2, .inl (ty 0, 5640, .inl (fun _ => 0))), (q_3, .inl (ty 0, 11280, .inl (fun _ => 0))), (q_4, .inl (ty 2, 2, .inl (fun _ => 0))), (q_5, .inl (ty 0, 28, .inl (fun _ => 0))), (q_6, .inl (ty 3, 128, .inl (wU 128))), (q_7, .inl (ty 3, 400, .inl (fun _ => 0))), (q_8, .inl (ty 0, 5, .inl (fun _ => 0))), (q_9, .inl (ty 0, 401, .inl (fun _ => 0))), (q_10, .inl (ty 0, 401, .inl (fun _ => 0))), (q_11, .inl (ty 0, 401, .inl (fun _ => 0))), (q_12, .inl (ty 0, 9, .inl (fun _ => 0))), (q_13, .inl (ty 2, 6, .inl (fun _ => 0))), (q_14, .inl (ty 0, 240, .inl (fun _ => 0))), (q_15, .inl (ty 0, 240, .inl (fun _ => 0))), (q_16, .inl (ty 0, 4320, .inl (fun _ => 0))), (q_17, .inl (ty 0, 5040, .inl (fun _ => 0))), (q_18, .inl (ty 0, 448, .inl (fun _ => 0))), (q_19, .inl (ty 0, 6, .inl (fun _ => 0))), (q_20, .inl (ty 0, 588, .inl (fun _ => 0))), (q_21, .inl (ty 0, 46080, .inl (fun _ => 0))), (q_22, .inl (ty 0, 46080, .inl (fun _ => 0))), (q_23, .inl (ty 0, 46080, .inl (fun _ => 0))), (q_24, .inl (ty 2, 46080, .inl (fun _ => 0))), (q_25, .inl (ty 0, 6, .inl (fun _ => 0))), (q_26, .inl (ty 1, 21, .inr (.inl (fun _ => 0))))]) hp hd hs rfl ?_
  clear hp hd hs hP hD hS
  intro hP hD hS
  refine va_putF (D := D) (ci := 10) (v := .ref q_26) (ty := .array .long) (C := RX10) (T := TX10) (N := 56) hx hb hts u9_wsX10_init_X10 tyX10 tyX10_ok nmX10 hown hK hP hD hS 0 rfl rfl 45 (by decide) (hts (.fieldLink RX10 106 "TurnedFloorsModel" "shares" "[J") f9_wsX10_init_1185) (fun _ h9 => h9) rfl hin rfl (by decide +kernel) rfl rfl (Nat.le_of_ble_eq_true rfl) dX10_init_987 (fun H locs hp hd hs => ?_)
  refine kz_re (w2 := [(h0, .inr (10, [.int 0, .ref q_1, .ref q_2, .ref q_3, .ref q_4, .ref q_5, .int 0, .ref q_6, .int 0, .int 0, .int 0, .ref q_7, .ref q_8, .int 0, .int (-1), .ref q_9, .ref q_10, .ref q_11, .int 0, .int 0, .int 0, .int 0, .int 0, .int 0, .int 0, .int 0, .ref q_12, .int 0, .int 0, .ref q_13, .ref q_14, .ref q_15, .int 0, .ref q_16, .ref q_17, .ref q_18, .ref q_19, .int 0, .int 0, .ref q_20, .ref q_21, .ref q_22, .ref q_23, .ref q_24, .ref q_25, .ref q_26, .int 0, .int 0, .int 0, .int 0, .int 0, .int 0, .long 0, .null, .int 0, .int 0])), (q_1, .inl (ty 0, 7, .inl (fun _ => 0))), (q_2, .inl (ty 0, 5640, .inl (fun _ => 0))), (q_3, .inl (ty 0, 11280, .inl (fun _ => 0))), (q_4, .inl (ty 2, 2, .inl (fun _ => 0))), (q_5, .inl (ty 0, 28, .inl (fun _ => 0))), (q_6, .inl (ty 3, 128, .inl (wU 128))), (q_7, .inl (ty 3, 400, .inl (fun _ => 0))), (q_8, .inl (ty 0, 5, .inl (fun _ => 0))), (q_9, .inl (ty 0, 401, .inl (fun _ => 0))), (q_10, .inl (ty 0, 401, .inl (fun _ => 0))), (q_11, .inl (ty 0, 401, .inl (fun _ => 0))), (q_12, .inl (ty 0, 9, .inl (fun _ => 0))), (q_13, .inl (ty 2, 6, .inl (fun _ => 0))), (q_14, .inl (ty 0, 240, .inl (fun _ => 0))), (q_15, .inl (ty 0, 240, .inl (fun _ => 0))), (q_16, .inl (ty 0, 4320, .inl (fun _ => 0))), (q_17, .inl (ty 0, 5040, .inl (fun _ => 0))), (q_18, .inl (ty 0, 448, .inl (fun _ => 0))), (q_19, .inl (ty 0, 6, .inl (fun _ => 0))), (q_20, .inl (ty 0, 588, .inl (fun _ => 0))), (q_21, .inl (ty 0, 46080, .inl (fun _ => 0))), (q_22, .inl (ty 0, 46080, .inl (fun _ => 0))), (q_23, .inl (ty 0, 46080, .inl (fun _ => 0))), (q_24, .inl (ty 2, 46080, .inl (fun _ => 0))), (q_25, .inl (ty 0, 6, .inl (fun _ => 0))), (q_26, .inl (ty 1, 21, .inr (.inl (fun _ => 0))))]) hp hd hs rfl ?_
  clear hp hd hs hP hD hS
  intro hP hD hS
  refine lv_aload_n hx hb dX10_init_990 rfl (lv_at hl 0 rfl) ?_
  refine lv_iconst (v := (-1)) hx hb dX10_init_991 (by decide) ?_
  refine va_put (D := D) (ci := 10) (v := .int (-1)) (ty := .int) (C := RX10) (T := TX10) (N := 56) hx hb hts u9_wsX10_init_X10 tyX10 tyX10_ok nmX10 hown hK hP hD hS 0 rfl rfl 46 (by decide) (hts (.fieldLink RX10 110 "TurnedFloorsModel" "stopped0" "I") f9_wsX10_init_1186) (fun _ h9 => h9) rfl (by decide +kernel) rfl rfl (Nat.le_of_ble_eq_true rfl) dX10_init_992 (fun H locs hp hd hs => ?_)
  refine kz_re (w2 := [(h0, .inr (10, [.int 0, .ref q_1, .ref q_2, .ref q_3, .ref q_4, .ref q_5, .int 0, .ref q_6, .int 0, .int 0, .int 0, .ref q_7, .ref q_8, .int 0, .int (-1), .ref q_9, .ref q_10, .ref q_11, .int 0, .int 0, .int 0, .int 0, .int 0, .int 0, .int 0, .int 0, .ref q_12, .int 0, .int 0, .ref q_13, .ref q_14, .ref q_15, .int 0, .ref q_16, .ref q_17, .ref q_18, .ref q_19, .int 0, .int 0, .ref q_20, .ref q_21, .ref q_22, .ref q_23, .ref q_24, .ref q_25, .ref q_26, .int (-1), .int 0, .int 0, .int 0, .int 0, .int 0, .long 0, .null, .int 0, .int 0])), (q_1, .inl (ty 0, 7, .inl (fun _ => 0))), (q_2, .inl (ty 0, 5640, .inl (fun _ => 0))), (q_3, .inl (ty 0, 11280, .inl (fun _ => 0))), (q_4, .inl (ty 2, 2, .inl (fun _ => 0))), (q_5, .inl (ty 0, 28, .inl (fun _ => 0))), (q_6, .inl (ty 3, 128, .inl (wU 128))), (q_7, .inl (ty 3, 400, .inl (fun _ => 0))), (q_8, .inl (ty 0, 5, .inl (fun _ => 0))), (q_9, .inl (ty 0, 401, .inl (fun _ => 0))), (q_10, .inl (ty 0, 401, .inl (fun _ => 0))), (q_11, .inl (ty 0, 401, .inl (fun _ => 0))), (q_12, .inl (ty 0, 9, .inl (fun _ => 0))), (q_13, .inl (ty 2, 6, .inl (fun _ => 0))), (q_14, .inl (ty 0, 240, .inl (fun _ => 0))), (q_15, .inl (ty 0, 240, .inl (fun _ => 0))), (q_16, .inl (ty 0, 4320, .inl (fun _ => 0))), (q_17, .inl (ty 0, 5040, .inl (fun _ => 0))), (q_18, .inl (ty 0, 448, .inl (fun _ => 0))), (q_19, .inl (ty 0, 6, .inl (fun _ => 0))), (q_20, .inl (ty 0, 588, .inl (fun _ => 0))), (q_21, .inl (ty 0, 46080, .inl (fun _ => 0))), (q_22, .inl (ty 0, 46080, .inl (fun _ => 0))), (q_23, .inl (ty 0, 46080, .inl (fun _ => 0))), (q_24, .inl (ty 2, 46080, .inl (fun _ => 0))), (q_25, .inl (ty 0, 6, .inl (fun _ => 0))), (q_26, .inl (ty 1, 21, .inr (.inl (fun _ => 0))))]) hp hd hs rfl ?_
  clear hp hd hs hP hD hS
  intro hP hD hS
  refine lv_aload_n hx hb dX10_init_995 rfl (lv_at hl 0 rfl) ?_
  refine lv_bipush (v := 14) hx hb dX10_init_996 (by decide) ?_
  refine va_newa (atype := .int) (ty := .int) (N' := 14) (a0 := (14, .inl (fun _ => 0))) hx hb (hts (.arrayClass .int) f9_wsX10_init_1154) rfl hK hP hD hS hA (fun _ => rfl) (by decide) (by decide) (by decide) (Nat.le_of_ble_eq_true rfl) (Nat.le_of_ble_eq_true rfl) dX10_init_998 (fun q_27 cA H hK2 hp hd hs => ?_)
  obtain rfl : cA = ty 0 := kz_cA (t0 := 0) (t1 := 6) hK2 rfl rfl rfl
  refine kz_re (w2 := [(h0, .inr (10, [.int 0, .ref q_1, .ref q_2, .ref q_3, .ref q_4, .ref q_5, .int 0, .ref q_6, .int 0, .int 0, .int 0, .ref q_7, .ref q_8, .int 0, .int (-1), .ref q_9, .ref q_10, .ref q_11, .int 0, .int 0, .int 0, .int 0, .int 0, .int 0, .int 0, .int 0, .ref q_12, .int 0, .int 0, .ref q_13, .ref q_14, .ref q_15, .int 0, .ref q_16, .ref q_17, .ref q_18, .ref q_19, .int 0, .int 0, .ref q_20, .ref q_21, .ref q_22, .ref q_23, .ref q_24, .ref q_25, .ref q_26, .int (-1), .int 0, .int 0, .int 0, .int 0, .int 0, .long 0, .null, .int 0, .int 0])), (q_1, .inl (ty 0, 7, .inl (fun _ => 0))), (q_2, .inl (ty 0, 5640, .inl (fun _ => 0))), (q_3, .inl (ty 0, 11280, .inl (fun _ => 0))), (q_4, .inl (ty 2, 2, .inl (fun _ => 0))), (q_5, .inl (ty 0, 28, .inl (fun _ => 0))), (q_6, .inl (ty 3, 128, .inl (wU 128))), (q_7, .inl (ty 3, 400, .inl (fun _ => 0))), (q_8, .inl (ty 0, 5, .inl (fun _ => 0))), (q_9, .inl (ty 0, 401, .inl (fun _ => 0))), (q_10, .inl (ty 0, 401, .inl (fun _ => 0))), (q_11, .inl (ty 0, 401, .inl (fun _ => 0))), (q_12, .inl (ty 0, 9, .inl (fun _ => 0))), (q_13, .inl (ty 2, 6, .inl (fun _ => 0))), (q_14, .inl (ty 0, 240, .inl (fun _ => 0))), (q_15, .inl (ty 0, 240, .inl (fun _ => 0))), (q_16, .inl (ty 0, 4320, .inl (fun _ => 0))), (q_17, .inl (ty 0, 5040, .inl (fun _ => 0))), (q_18, .inl (ty 0, 448, .inl (fun _ => 0))), (q_19, .inl (ty 0, 6, .inl (fun _ => 0))), (q_20, .inl (ty 0, 588, .inl (fun _ => 0))), (q_21, .inl (ty 0, 46080, .inl (fun _ => 0))), (q_22, .inl (ty 0, 46080, .inl (fun _ => 0))), (q_23, .inl (ty 0, 46080, .inl (fun _ => 0))), (q_24, .inl (ty 2, 46080, .inl (fun _ => 0))), (q_25, .inl (ty 0, 6, .inl (fun _ => 0))), (q_26, .inl (ty 1, 21, .inr (.inl (fun _ => 0)))), (q_27, .inl (ty 0, 14, .inl (fun _ => 0)))]) hp hd hs rfl ?_
  clear hp hd hs hP hD hS
  intro hP hD hS
  refine va_putF (D := D) (ci := 10) (v := .ref q_27) (ty := .array .int) (C := RX10) (T := TX10) (N := 56) hx hb hts u9_wsX10_init_X10 tyX10 tyX10_ok nmX10 hown hK hP hD hS 0 rfl rfl 53 (by decide) (hts (.fieldLink RX10 113 "TurnedFloorsModel" "drawnMoved" "[I") f9_wsX10_init_1187) (fun _ h9 => h9) rfl hin rfl (by decide +kernel) rfl rfl (Nat.le_of_ble_eq_true rfl) dX10_init_1000 (fun H locs hp hd hs => ?_)
  refine kz_re (w2 := [(h0, .inr (10, [.int 0, .ref q_1, .ref q_2, .ref q_3, .ref q_4, .ref q_5, .int 0, .ref q_6, .int 0, .int 0, .int 0, .ref q_7, .ref q_8, .int 0, .int (-1), .ref q_9, .ref q_10, .ref q_11, .int 0, .int 0, .int 0, .int 0, .int 0, .int 0, .int 0, .int 0, .ref q_12, .int 0, .int 0, .ref q_13, .ref q_14, .ref q_15, .int 0, .ref q_16, .ref q_17, .ref q_18, .ref q_19, .int 0, .int 0, .ref q_20, .ref q_21, .ref q_22, .ref q_23, .ref q_24, .ref q_25, .ref q_26, .int (-1), .int 0, .int 0, .int 0, .int 0, .int 0, .long 0, .ref q_27, .int 0, .int 0])), (q_1, .inl (ty 0, 7, .inl (fun _ => 0))), (q_2, .inl (ty 0, 5640, .inl (fun _ => 0))), (q_3, .inl (ty 0, 11280, .inl (fun _ => 0))), (q_4, .inl (ty 2, 2, .inl (fun _ => 0))), (q_5, .inl (ty 0, 28, .inl (fun _ => 0))), (q_6, .inl (ty 3, 128, .inl (wU 128))), (q_7, .inl (ty 3, 400, .inl (fun _ => 0))), (q_8, .inl (ty 0, 5, .inl (fun _ => 0))), (q_9, .inl (ty 0, 401, .inl (fun _ => 0))), (q_10, .inl (ty 0, 401, .inl (fun _ => 0))), (q_11, .inl (ty 0, 401, .inl (fun _ => 0))), (q_12, .inl (ty 0, 9, .inl (fun _ => 0))), (q_13, .inl (ty 2, 6, .inl (fun _ => 0))), (q_14, .inl (ty 0, 240, .inl (fun _ => 0))), (q_15, .inl (ty 0, 240, .inl (fun _ => 0))), (q_16, .inl (ty 0, 4320, .inl (fun _ => 0))), (q_17, .inl (ty 0, 5040, .inl (fun _ => 0))), (q_18, .inl (ty 0, 448, .inl (fun _ => 0))), (q_19, .inl (ty 0, 6, .inl (fun _ => 0))), (q_20, .inl (ty 0, 588, .inl (fun _ => 0))), (q_21, .inl (ty 0, 46080, .inl (fun _ => 0))), (q_22, .inl (ty 0, 46080, .inl (fun _ => 0))), (q_23, .inl (ty 0, 46080, .inl (fun _ => 0))), (q_24, .inl (ty 2, 46080, .inl (fun _ => 0))), (q_25, .inl (ty 0, 6, .inl (fun _ => 0))), (q_26, .inl (ty 1, 21, .inr (.inl (fun _ => 0)))), (q_27, .inl (ty 0, 14, .inl (fun _ => 0)))]) hp hd hs rfl ?_
  clear hp hd hs hP hD hS
  intro hP hD hS
  refine lv_aload_n hx hb dX10_init_1003 rfl (lv_at hl 0 rfl) ?_
  refine lv_iconst (v := (-1)) hx hb dX10_init_1004 (by decide) ?_
  refine va_put (D := D) (ci := 10) (v := .int (-1)) (ty := .int) (C := RX10) (T := TX10) (N := 56) hx hb hts u9_wsX10_init_X10 tyX10 tyX10_ok nmX10 hown hK hP hD hS 0 rfl rfl 54 (by decide) (hts (.fieldLink RX10 116 "TurnedFloorsModel" "drawnMany" "I") f9_wsX10_init_1188) (fun _ h9 => h9) rfl (by decide +kernel) rfl rfl (Nat.le_of_ble_eq_true rfl) dX10_init_1005 (fun H locs hp hd hs => ?_)
  refine kz_re (w2 := [(h0, .inr (10, [.int 0, .ref q_1, .ref q_2, .ref q_3, .ref q_4, .ref q_5, .int 0, .ref q_6, .int 0, .int 0, .int 0, .ref q_7, .ref q_8, .int 0, .int (-1), .ref q_9, .ref q_10, .ref q_11, .int 0, .int 0, .int 0, .int 0, .int 0, .int 0, .int 0, .int 0, .ref q_12, .int 0, .int 0, .ref q_13, .ref q_14, .ref q_15, .int 0, .ref q_16, .ref q_17, .ref q_18, .ref q_19, .int 0, .int 0, .ref q_20, .ref q_21, .ref q_22, .ref q_23, .ref q_24, .ref q_25, .ref q_26, .int (-1), .int 0, .int 0, .int 0, .int 0, .int 0, .long 0, .ref q_27, .int (-1), .int 0])), (q_1, .inl (ty 0, 7, .inl (fun _ => 0))), (q_2, .inl (ty 0, 5640, .inl (fun _ => 0))), (q_3, .inl (ty 0, 11280, .inl (fun _ => 0))), (q_4, .inl (ty 2, 2, .inl (fun _ => 0))), (q_5, .inl (ty 0, 28, .inl (fun _ => 0))), (q_6, .inl (ty 3, 128, .inl (wU 128))), (q_7, .inl (ty 3, 400, .inl (fun _ => 0))), (q_8, .inl (ty 0, 5, .inl (fun _ => 0))), (q_9, .inl (ty 0, 401, .inl (fun _ => 0))), (q_10, .inl (ty 0, 401, .inl (fun _ => 0))), (q_11, .inl (ty 0, 401, .inl (fun _ => 0))), (q_12, .inl (ty 0, 9, .inl (fun _ => 0))), (q_13, .inl (ty 2, 6, .inl (fun _ => 0))), (q_14, .inl (ty 0, 240, .inl (fun _ => 0))), (q_15, .inl (ty 0, 240, .inl (fun _ => 0))), (q_16, .inl (ty 0, 4320, .inl (fun _ => 0))), (q_17, .inl (ty 0, 5040, .inl (fun _ => 0))), (q_18, .inl (ty 0, 448, .inl (fun _ => 0))), (q_19, .inl (ty 0, 6, .inl (fun _ => 0))), (q_20, .inl (ty 0, 588, .inl (fun _ => 0))), (q_21, .inl (ty 0, 46080, .inl (fun _ => 0))), (q_22, .inl (ty 0, 46080, .inl (fun _ => 0))), (q_23, .inl (ty 0, 46080, .inl (fun _ => 0))), (q_24, .inl (ty 2, 46080, .inl (fun _ => 0))), (q_25, .inl (ty 0, 6, .inl (fun _ => 0))), (q_26, .inl (ty 1, 21, .inr (.inl (fun _ => 0)))), (q_27, .inl (ty 0, 14, .inl (fun _ => 0)))]) hp hd hs rfl ?_
  clear hp hd hs hP hD hS
  intro hP hD hS
  refine lv_aload_n hx hb dX10_init_1008 rfl (lv_at hl 0 rfl) ?_
  refine va_get (D := D) (ci := 10) (v := .ref q_2) (C := RX10) (T := TX10) (N := 56) hx hb hts u9_wsX10_init_X10 hown hK hP 0 rfl rfl 2 (by decide) (hts (.fieldLink RX10 28 "TurnedFloorsModel" "kept" "[I") f9_wsX10_init_1156) (fun _ h9 => h9) rfl dX10_init_1009 ?_
  refine lv_bipush (v := 26) hx hb dX10_init_1012 (by decide) ?_
  refine lv_iconst (v := 1) hx hb dX10_init_1014 (by decide) ?_
  refine va_iast hx hb hK hP hD hS 2 0 rfl rfl (by simp only [vp_in]; decide) dX10_init_1015 (fun H locs hp hd hs => ?_)
  refine kz_re (w2 := [(h0, .inr (10, [.int 0, .ref q_1, .ref q_2, .ref q_3, .ref q_4, .ref q_5, .int 0, .ref q_6, .int 0, .int 0, .int 0, .ref q_7, .ref q_8, .int 0, .int (-1), .ref q_9, .ref q_10, .ref q_11, .int 0, .int 0, .int 0, .int 0, .int 0, .int 0, .int 0, .int 0, .ref q_12, .int 0, .int 0, .ref q_13, .ref q_14, .ref q_15, .int 0, .ref q_16, .ref q_17, .ref q_18, .ref q_19, .int 0, .int 0, .ref q_20, .ref q_21, .ref q_22, .ref q_23, .ref q_24, .ref q_25, .ref q_26, .int (-1), .int 0, .int 0, .int 0, .int 0, .int 0, .long 0, .ref q_27, .int (-1), .int 0])), (q_1, .inl (ty 0, 7, .inl (fun _ => 0))), (q_2, .inl (ty 0, 5640, .inl (upd (fun _ => 0) 26 1))), (q_3, .inl (ty 0, 11280, .inl (fun _ => 0))), (q_4, .inl (ty 2, 2, .inl (fun _ => 0))), (q_5, .inl (ty 0, 28, .inl (fun _ => 0))), (q_6, .inl (ty 3, 128, .inl (wU 128))), (q_7, .inl (ty 3, 400, .inl (fun _ => 0))), (q_8, .inl (ty 0, 5, .inl (fun _ => 0))), (q_9, .inl (ty 0, 401, .inl (fun _ => 0))), (q_10, .inl (ty 0, 401, .inl (fun _ => 0))), (q_11, .inl (ty 0, 401, .inl (fun _ => 0))), (q_12, .inl (ty 0, 9, .inl (fun _ => 0))), (q_13, .inl (ty 2, 6, .inl (fun _ => 0))), (q_14, .inl (ty 0, 240, .inl (fun _ => 0))), (q_15, .inl (ty 0, 240, .inl (fun _ => 0))), (q_16, .inl (ty 0, 4320, .inl (fun _ => 0))), (q_17, .inl (ty 0, 5040, .inl (fun _ => 0))), (q_18, .inl (ty 0, 448, .inl (fun _ => 0))), (q_19, .inl (ty 0, 6, .inl (fun _ => 0))), (q_20, .inl (ty 0, 588, .inl (fun _ => 0))), (q_21, .inl (ty 0, 46080, .inl (fun _ => 0))), (q_22, .inl (ty 0, 46080, .inl (fun _ => 0))), (q_23, .inl (ty 0, 46080, .inl (fun _ => 0))), (q_24, .inl (ty 2, 46080, .inl (fun _ => 0))), (q_25, .inl (ty 0, 6, .inl (fun _ => 0))), (q_26, .inl (ty 1, 21, .inr (.inl (fun _ => 0)))), (q_27, .inl (ty 0, 14, .inl (fun _ => 0)))]) hp hd hs rfl ?_
  clear hp hd hs hP hD hS
  intro hP hD hS
  refine lv_aload_n hx hb dX10_init_1016 rfl (lv_at hl 0 rfl) ?_
  refine va_get (D := D) (ci := 10) (v := .ref q_2) (C := RX10) (T := TX10) (N := 56) hx hb hts u9_wsX10_init_X10 hown hK hP 0 rfl rfl 2 (by decide) (hts (.fieldLink RX10 28 "TurnedFloorsModel" "kept" "[I") f9_wsX10_init_1156) (fun _ h9 => h9) rfl dX10_init_1017 ?_
  refine lv_bipush (v := 32) hx hb dX10_init_1020 (by decide) ?_
  refine lv_iconst (v := (-1)) hx hb dX10_init_1022 (by decide) ?_
  refine va_iast hx hb hK hP hD hS 2 0 rfl rfl (by simp only [vp_in]; decide) dX10_init_1023 (fun H locs hp hd hs => ?_)
  refine kz_re (w2 := [(h0, .inr (10, [.int 0, .ref q_1, .ref q_2, .ref q_3, .ref q_4, .ref q_5, .int 0, .ref q_6, .int 0, .int 0, .int 0, .ref q_7, .ref q_8, .int 0, .int (-1), .ref q_9, .ref q_10, .ref q_11, .int 0, .int 0, .int 0, .int 0, .int 0, .int 0, .int 0, .int 0, .ref q_12, .int 0, .int 0, .ref q_13, .ref q_14, .ref q_15, .int 0, .ref q_16, .ref q_17, .ref q_18, .ref q_19, .int 0, .int 0, .ref q_20, .ref q_21, .ref q_22, .ref q_23, .ref q_24, .ref q_25, .ref q_26, .int (-1), .int 0, .int 0, .int 0, .int 0, .int 0, .long 0, .ref q_27, .int (-1), .int 0])), (q_1, .inl (ty 0, 7, .inl (fun _ => 0))), (q_2, .inl (ty 0, 5640, .inl (upd (upd (fun _ => 0) 26 1) 32 (-1)))), (q_3, .inl (ty 0, 11280, .inl (fun _ => 0))), (q_4, .inl (ty 2, 2, .inl (fun _ => 0))), (q_5, .inl (ty 0, 28, .inl (fun _ => 0))), (q_6, .inl (ty 3, 128, .inl (wU 128))), (q_7, .inl (ty 3, 400, .inl (fun _ => 0))), (q_8, .inl (ty 0, 5, .inl (fun _ => 0))), (q_9, .inl (ty 0, 401, .inl (fun _ => 0))), (q_10, .inl (ty 0, 401, .inl (fun _ => 0))), (q_11, .inl (ty 0, 401, .inl (fun _ => 0))), (q_12, .inl (ty 0, 9, .inl (fun _ => 0))), (q_13, .inl (ty 2, 6, .inl (fun _ => 0))), (q_14, .inl (ty 0, 240, .inl (fun _ => 0))), (q_15, .inl (ty 0, 240, .inl (fun _ => 0))), (q_16, .inl (ty 0, 4320, .inl (fun _ => 0))), (q_17, .inl (ty 0, 5040, .inl (fun _ => 0))), (q_18, .inl (ty 0, 448, .inl (fun _ => 0))), (q_19, .inl (ty 0, 6, .inl (fun _ => 0))), (q_20, .inl (ty 0, 588, .inl (fun _ => 0))), (q_21, .inl (ty 0, 46080, .inl (fun _ => 0))), (q_22, .inl (ty 0, 46080, .inl (fun _ => 0))), (q_23, .inl (ty 0, 46080, .inl (fun _ => 0))), (q_24, .inl (ty 2, 46080, .inl (fun _ => 0))), (q_25, .inl (ty 0, 6, .inl (fun _ => 0))), (q_26, .inl (ty 1, 21, .inr (.inl (fun _ => 0)))), (q_27, .inl (ty 0, 14, .inl (fun _ => 0)))]) hp hd hs rfl ?_
  clear hp hd hs hP hD hS
  intro hP hD hS
  refine W.widen (k := 27) (n := 213951) (Nat.le_of_ble_eq_true rfl) (Nat.le_of_ble_eq_true rfl) ?_
  exact kz_vret hx hb hr hlocks hP hK hD hS dX10_init_1024 ⟨q_1, q_2, q_3, q_4, q_5, q_6, q_7, q_8, q_9, q_10, q_11, q_12, q_13, q_14, q_15, q_16, q_17, q_18, q_19, q_20, q_21, q_22, q_23, q_24, q_25, q_26, q_27, rfl⟩
