theorem wd_c {W : List Cond} {a0 b0 : Cond} (hW : W.all goodWord = true) (h : b0 ∈ W) : GoodIn (a0 :: W) (b0 :: W) := by
  intro w hw
  have hm : w ∈ W := by
    rcases List.mem_cons.mp hw with e | e
    · rw [e]; exact h
    · exact e
  exact ⟨List.mem_cons_of_mem _ hm, good_of_word (List.all_eq_true.mp hW w hm)⟩
theorem wd_l {W : List Cond} {a0 : Cond} (hW : W.all goodWord = true) (ws : List Cond) (h : ∀ w ∈ ws, w ∈ W) : GoodIn (a0 :: W) ws :=
  fun w hw => ⟨List.mem_cons_of_mem _ (h w hw), good_of_word (List.all_eq_true.mp hW w (h w hw))⟩
theorem wd_t {big W : List Cond} {b0 : Cond} (hm : ∀ w ∈ W, w ∈ big) (hW : W.all goodWord = true) (h : b0 ∈ big) (hg : goodWord b0 = true) : GoodIn big (b0 :: W) := by
  intro w hw
  rcases List.mem_cons.mp hw with e | e
  · rw [e]; exact ⟨h, good_of_word hg⟩
  · exact ⟨hm w e, good_of_word (List.all_eq_true.mp hW w e)⟩
theorem vW9_p0 (w : Cond) (h : w ∈ vW9_0) : w ∈ vW9 := (List.mem_append_left _ h)
theorem vW9_p1 (w : Cond) (h : w ∈ vW9_1) : w ∈ vW9 := (List.mem_append_right _ (List.mem_append_left _ h))
theorem vW9_p2 (w : Cond) (h : w ∈ vW9_2) : w ∈ vW9 := (List.mem_append_right _ (List.mem_append_right _ (List.mem_append_left _ h)))
theorem vW9_p3 (w : Cond) (h : w ∈ vW9_3) : w ∈ vW9 := (List.mem_append_right _ (List.mem_append_right _ (List.mem_append_right _ (List.mem_append_left _ h))))
theorem vW9_p4 (w : Cond) (h : w ∈ vW9_4) : w ∈ vW9 := (List.mem_append_right _ (List.mem_append_right _ (List.mem_append_right _ (List.mem_append_right _ (List.mem_append_left _ h)))))
theorem vW9_p5 (w : Cond) (h : w ∈ vW9_5) : w ∈ vW9 := (List.mem_append_right _ (List.mem_append_right _ (List.mem_append_right _ (List.mem_append_right _ (List.mem_append_right _ (List.mem_append_left _ h))))))
theorem vW9_p6 (w : Cond) (h : w ∈ vW9_6) : w ∈ vW9 := (List.mem_append_right _ (List.mem_append_right _ (List.mem_append_right _ (List.mem_append_right _ (List.mem_append_right _ (List.mem_append_right _ (List.mem_append_left _ h)))))))
theorem vW9_p7 (w : Cond) (h : w ∈ vW9_7) : w ∈ vW9 := (List.mem_append_right _ (List.mem_append_right _ (List.mem_append_right _ (List.mem_append_right _ (List.mem_append_right _ (List.mem_append_right _ (List.mem_append_right _ (List.mem_append_left _ h))))))))
theorem vW9_p8 (w : Cond) (h : w ∈ vW9_8) : w ∈ vW9 := (List.mem_append_right _ (List.mem_append_right _ (List.mem_append_right _ (List.mem_append_right _ (List.mem_append_right _ (List.mem_append_right _ (List.mem_append_right _ (List.mem_append_right _ (List.mem_append_left _ h)))))))))
theorem vW9_p9 (w : Cond) (h : w ∈ vW9_9) : w ∈ vW9 := (List.mem_append_right _ (List.mem_append_right _ (List.mem_append_right _ (List.mem_append_right _ (List.mem_append_right _ (List.mem_append_right _ (List.mem_append_right _ (List.mem_append_right _ (List.mem_append_right _ (List.mem_append_left _ h))))))))))
theorem vW9_p10 (w : Cond) (h : w ∈ vW9_10) : w ∈ vW9 := (List.mem_append_right _ (List.mem_append_right _ (List.mem_append_right _ (List.mem_append_right _ (List.mem_append_right _ (List.mem_append_right _ (List.mem_append_right _ (List.mem_append_right _ (List.mem_append_right _ (List.mem_append_right _ (List.mem_append_left _ h)))))))))))
theorem vW9_p11 (w : Cond) (h : w ∈ vW9_11) : w ∈ vW9 := (List.mem_append_right _ (List.mem_append_right _ (List.mem_append_right _ (List.mem_append_right _ (List.mem_append_right _ (List.mem_append_right _ (List.mem_append_right _ (List.mem_append_right _ (List.mem_append_right _ (List.mem_append_right _ (List.mem_append_right _ (List.mem_append_left _ h))))))))))))
theorem vW9_p12 (w : Cond) (h : w ∈ vW9_12) : w ∈ vW9 := (List.mem_append_right _ (List.mem_append_right _ (List.mem_append_right _ (List.mem_append_right _ (List.mem_append_right _ (List.mem_append_right _ (List.mem_append_right _ (List.mem_append_right _ (List.mem_append_right _ (List.mem_append_right _ (List.mem_append_right _ (List.mem_append_right _ (List.mem_append_left _ h)))))))))))))
theorem vW9_p13 (w : Cond) (h : w ∈ vW9_13) : w ∈ vW9 := (List.mem_append_right _ (List.mem_append_right _ (List.mem_append_right _ (List.mem_append_right _ (List.mem_append_right _ (List.mem_append_right _ (List.mem_append_right _ (List.mem_append_right _ (List.mem_append_right _ (List.mem_append_right _ (List.mem_append_right _ (List.mem_append_right _ (List.mem_append_right _ (List.mem_append_left _ h))))))))))))))
theorem vW9_wsX90 : ∀ w ∈ wsX90, w ∈ vW9 := fun w h => (List.mem_append_right _ (List.mem_append_right _ (List.mem_append_right _ (List.mem_append_right _ (List.mem_append_right _ (List.mem_append_right _ (List.mem_append_right _ (List.mem_append_right _ (List.mem_append_right _ (List.mem_append_right _ (List.mem_append_right _ (List.mem_append_right _ (List.mem_append_right _ (List.mem_append_right _ (List.mem_append_left _ (List.mem_append_left _ (List.mem_append_left _ (List.mem_append_left _ (List.mem_append_left _ (List.mem_append_left _ (List.mem_append_left _ (List.mem_append_left _ (List.mem_append_left _ h)))))))))))))))))))))))
theorem vW9_wsX60 : ∀ w ∈ wsX60, w ∈ vW9 := fun w h => (List.mem_append_right _ (List.mem_append_right _ (List.mem_append_right _ (List.mem_append_right _ (List.mem_append_right _ (List.mem_append_right _ (List.mem_append_right _ (List.mem_append_right _ (List.mem_append_right _ (List.mem_append_right _ (List.mem_append_right _ (List.mem_append_right _ (List.mem_append_right _ (List.mem_append_right _ (List.mem_append_left _ (List.mem_append_left _ (List.mem_append_left _ (List.mem_append_left _ (List.mem_append_left _ (List.mem_append_left _ (List.mem_append_left _ (List.mem_append_left _ (List.mem_append_right _ h)))))))))))))))))))))))
theorem vW9_wsX80 : ∀ w ∈ wsX80, w ∈ vW9 := fun w h => (List.mem_append_right _ (List.mem_append_right _ (List.mem_append_right _ (List.mem_append_right _ (List.mem_append_right _ (List.mem_append_right _ (List.mem_append_right _ (List.mem_append_right _ (List.mem_append_right _ (List.mem_append_right _ (List.mem_append_right _ (List.mem_append_right _ (List.mem_append_right _ (List.mem_append_right _ (List.mem_append_left _ (List.mem_append_left _ (List.mem_append_left _ (List.mem_append_left _ (List.mem_append_left _ (List.mem_append_left _ (List.mem_append_left _ (List.mem_append_right _ h))))))))))))))))))))))
theorem vW9_wsX00 : ∀ w ∈ wsX00, w ∈ vW9 := fun w h => (List.mem_append_right _ (List.mem_append_right _ (List.mem_append_right _ (List.mem_append_right _ (List.mem_append_right _ (List.mem_append_right _ (List.mem_append_right _ (List.mem_append_right _ (List.mem_append_right _ (List.mem_append_right _ (List.mem_append_right _ (List.mem_append_right _ (List.mem_append_right _ (List.mem_append_right _ (List.mem_append_left _ (List.mem_append_left _ (List.mem_append_left _ (List.mem_append_left _ (List.mem_append_left _ (List.mem_append_left _ (List.mem_append_right _ h)))))))))))))))))))))
theorem vW9_wsX10 : ∀ w ∈ wsX10, w ∈ vW9 := fun w h => (List.mem_append_right _ (List.mem_append_right _ (List.mem_append_right _ (List.mem_append_right _ (List.mem_append_right _ (List.mem_append_right _ (List.mem_append_right _ (List.mem_append_right _ (List.mem_append_right _ (List.mem_append_right _ (List.mem_append_right _ (List.mem_append_right _ (List.mem_append_right _ (List.mem_append_right _ (List.mem_append_left _ (List.mem_append_left _ (List.mem_append_left _ (List.mem_append_left _ (List.mem_append_left _ (List.mem_append_right _ h))))))))))))))))))))
theorem vW9_wsX70 : ∀ w ∈ wsX70, w ∈ vW9 := fun w h => (List.mem_append_right _ (List.mem_append_right _ (List.mem_append_right _ (List.mem_append_right _ (List.mem_append_right _ (List.mem_append_right _ (List.mem_append_right _ (List.mem_append_right _ (List.mem_append_right _ (List.mem_append_right _ (List.mem_append_right _ (List.mem_append_right _ (List.mem_append_right _ (List.mem_append_right _ (List.mem_append_left _ (List.mem_append_left _ (List.mem_append_left _ (List.mem_append_left _ (List.mem_append_right _ h)))))))))))))))))))
theorem vW9_wsX20 : ∀ w ∈ wsX20, w ∈ vW9 := fun w h => (List.mem_append_right _ (List.mem_append_right _ (List.mem_append_right _ (List.mem_append_right _ (List.mem_append_right _ (List.mem_append_right _ (List.mem_append_right _ (List.mem_append_right _ (List.mem_append_right _ (List.mem_append_right _ (List.mem_append_right _ (List.mem_append_right _ (List.mem_append_right _ (List.mem_append_right _ (List.mem_append_left _ (List.mem_append_left _ (List.mem_append_left _ (List.mem_append_right _ h))))))))))))))))))
theorem vW9_wsX40 : ∀ w ∈ wsX40, w ∈ vW9 := fun w h => (List.mem_append_right _ (List.mem_append_right _ (List.mem_append_right _ (List.mem_append_right _ (List.mem_append_right _ (List.mem_append_right _ (List.mem_append_right _ (List.mem_append_right _ (List.mem_append_right _ (List.mem_append_right _ (List.mem_append_right _ (List.mem_append_right _ (List.mem_append_right _ (List.mem_append_right _ (List.mem_append_left _ (List.mem_append_left _ (List.mem_append_right _ h)))))))))))))))))
theorem vW9_wsX50 : ∀ w ∈ wsX50, w ∈ vW9 := fun w h => (List.mem_append_right _ (List.mem_append_right _ (List.mem_append_right _ (List.mem_append_right _ (List.mem_append_right _ (List.mem_append_right _ (List.mem_append_right _ (List.mem_append_right _ (List.mem_append_right _ (List.mem_append_right _ (List.mem_append_right _ (List.mem_append_right _ (List.mem_append_right _ (List.mem_append_right _ (List.mem_append_left _ (List.mem_append_right _ h))))))))))))))))
theorem vW9_wsX30 : ∀ w ∈ wsX30, w ∈ vW9 := fun w h => (List.mem_append_right _ (List.mem_append_right _ (List.mem_append_right _ (List.mem_append_right _ (List.mem_append_right _ (List.mem_append_right _ (List.mem_append_right _ (List.mem_append_right _ (List.mem_append_right _ (List.mem_append_right _ (List.mem_append_right _ (List.mem_append_right _ (List.mem_append_right _ (List.mem_append_right _ (List.mem_append_right _ h)))))))))))))))
set_option maxRecDepth 100000 in
theorem vW9_ok : vW9.all goodWord = true := by decide +kernel
theorem vW10_p0 (w : Cond) (h : w ∈ vW10_0) : w ∈ vW10 := (List.mem_append_left _ h)
theorem vW10_p1 (w : Cond) (h : w ∈ vW10_1) : w ∈ vW10 := (List.mem_append_right _ (List.mem_append_left _ h))
theorem vW10_p2 (w : Cond) (h : w ∈ vW10_2) : w ∈ vW10 := (List.mem_append_right _ (List.mem_append_right _ (List.mem_append_left _ h)))
theorem vW10_p3 (w : Cond) (h : w ∈ vW10_3) : w ∈ vW10 := (List.mem_append_right _ (List.mem_append_right _ (List.mem_append_right _ (List.mem_append_left _ h))))
theorem vW10_p4 (w : Cond) (h : w ∈ vW10_4) : w ∈ vW10 := (List.mem_append_right _ (List.mem_append_right _ (List.mem_append_right _ (List.mem_append_right _ (List.mem_append_left _ h)))))
theorem vW10_p5 (w : Cond) (h : w ∈ vW10_5) : w ∈ vW10 := (List.mem_append_right _ (List.mem_append_right _ (List.mem_append_right _ (List.mem_append_right _ (List.mem_append_right _ (List.mem_append_left _ h))))))
theorem vW10_p6 (w : Cond) (h : w ∈ vW10_6) : w ∈ vW10 := (List.mem_append_right _ (List.mem_append_right _ (List.mem_append_right _ (List.mem_append_right _ (List.mem_append_right _ (List.mem_append_right _ (List.mem_append_left _ h)))))))
theorem vW10_p7 (w : Cond) (h : w ∈ vW10_7) : w ∈ vW10 := (List.mem_append_right _ (List.mem_append_right _ (List.mem_append_right _ (List.mem_append_right _ (List.mem_append_right _ (List.mem_append_right _ (List.mem_append_right _ (List.mem_append_left _ h))))))))
theorem vW10_p8 (w : Cond) (h : w ∈ vW10_8) : w ∈ vW10 := (List.mem_append_right _ (List.mem_append_right _ (List.mem_append_right _ (List.mem_append_right _ (List.mem_append_right _ (List.mem_append_right _ (List.mem_append_right _ (List.mem_append_right _ (List.mem_append_left _ h)))))))))
theorem vW10_p9 (w : Cond) (h : w ∈ vW10_9) : w ∈ vW10 := (List.mem_append_right _ (List.mem_append_right _ (List.mem_append_right _ (List.mem_append_right _ (List.mem_append_right _ (List.mem_append_right _ (List.mem_append_right _ (List.mem_append_right _ (List.mem_append_right _ (List.mem_append_left _ h))))))))))
theorem vW10_wsX100 : ∀ w ∈ wsX100, w ∈ vW10 := fun w h => (List.mem_append_right _ (List.mem_append_right _ (List.mem_append_right _ (List.mem_append_right _ (List.mem_append_right _ (List.mem_append_right _ (List.mem_append_right _ (List.mem_append_right _ (List.mem_append_right _ (List.mem_append_right _ h))))))))))
set_option maxRecDepth 100000 in
theorem vW10_ok : vW10.all goodWord = true := by decide +kernel
theorem mvW9_110 : (Cond.code yX1_setTurn cX1_setTurn 3 none) ∈ vW9 := vW9_p2 _ (List.mem_of_getElem? (i := 14) rfl)
theorem mvW9_60 : (Cond.initialized RX1) ∈ vW9 := vW9_p1 _ (List.mem_of_getElem? (i := 12) rfl)
theorem mvW9_109 : (Cond.selects RX1 yX1_setTurn yX1_setTurn) ∈ vW9 := vW9_p2 _ (List.mem_of_getElem? (i := 13) rfl)
theorem mvW9_108 : (Cond.instanceMethod yX1_setTurn) ∈ vW9 := vW9_p2 _ (List.mem_of_getElem? (i := 12) rfl)
theorem mvW9_107 : (Cond.methodLink RX1 23 yX1_setTurn) ∈ vW9 := vW9_p2 _ (List.mem_of_getElem? (i := 11) rfl)
theorem pvW9_0 : ∀ w ∈ ([.methodLink RX1 23 yX1_setTurn, .instanceMethod yX1_setTurn, .selects RX1 yX1_setTurn yX1_setTurn, .initialized RX1] : List Cond), w ∈ vW9 := (List.forall_mem_cons.mpr ⟨mvW9_107, (List.forall_mem_cons.mpr ⟨mvW9_108, (List.forall_mem_cons.mpr ⟨mvW9_109, (List.forall_mem_cons.mpr ⟨mvW9_60, (fun _ h => absurd h List.not_mem_nil)⟩)⟩)⟩)⟩)
theorem mvW9_76 : (Cond.code yX1_anyHolds cX1_anyHolds 3 (some .boolean)) ∈ vW9 := vW9_p1 _ (List.mem_of_getElem? (i := 28) rfl)
theorem mvW9_75 : (Cond.selects RX1 yX1_anyHolds yX1_anyHolds) ∈ vW9 := vW9_p1 _ (List.mem_of_getElem? (i := 27) rfl)
theorem mvW9_74 : (Cond.instanceMethod yX1_anyHolds) ∈ vW9 := vW9_p1 _ (List.mem_of_getElem? (i := 26) rfl)
theorem mvW9_73 : (Cond.methodLink RX1 27 yX1_anyHolds) ∈ vW9 := vW9_p1 _ (List.mem_of_getElem? (i := 25) rfl)
theorem pvW9_1 : ∀ w ∈ ([.methodLink RX1 27 yX1_anyHolds, .instanceMethod yX1_anyHolds, .selects RX1 yX1_anyHolds yX1_anyHolds, .initialized RX1] : List Cond), w ∈ vW9 := (List.forall_mem_cons.mpr ⟨mvW9_73, (List.forall_mem_cons.mpr ⟨mvW9_74, (List.forall_mem_cons.mpr ⟨mvW9_75, (List.forall_mem_cons.mpr ⟨mvW9_60, (fun _ h => absurd h List.not_mem_nil)⟩)⟩)⟩)⟩)
theorem mvW9_119 : (Cond.code yX1_pay cX1_pay 3 (some .int)) ∈ vW9 := vW9_p2 _ (List.mem_of_getElem? (i := 23) rfl)
theorem mvW9_118 : (Cond.selects RX1 yX1_pay yX1_pay) ∈ vW9 := vW9_p2 _ (List.mem_of_getElem? (i := 22) rfl)
theorem mvW9_117 : (Cond.instanceMethod yX1_pay) ∈ vW9 := vW9_p2 _ (List.mem_of_getElem? (i := 21) rfl)
theorem mvW9_116 : (Cond.methodLink RX1 31 yX1_pay) ∈ vW9 := vW9_p2 _ (List.mem_of_getElem? (i := 20) rfl)
theorem pvW9_2 : ∀ w ∈ ([.methodLink RX1 31 yX1_pay, .instanceMethod yX1_pay, .selects RX1 yX1_pay yX1_pay, .initialized RX1] : List Cond), w ∈ vW9 := (List.forall_mem_cons.mpr ⟨mvW9_116, (List.forall_mem_cons.mpr ⟨mvW9_117, (List.forall_mem_cons.mpr ⟨mvW9_118, (List.forall_mem_cons.mpr ⟨mvW9_60, (fun _ h => absurd h List.not_mem_nil)⟩)⟩)⟩)⟩)
theorem mvW9_40 : (Cond.code yX8_isFloor cX8_isFloor 2 (some .boolean)) ∈ vW9 := vW9_p0 _ (List.mem_of_getElem? (i := 40) rfl)
theorem mvW9_18 : (Cond.initialized RX8) ∈ vW9 := vW9_p0 _ (List.mem_of_getElem? (i := 18) rfl)
theorem mvW9_39 : (Cond.selects RX8 yX8_isFloor yX8_isFloor) ∈ vW9 := vW9_p0 _ (List.mem_of_getElem? (i := 39) rfl)
theorem mvW9_38 : (Cond.instanceMethod yX8_isFloor) ∈ vW9 := vW9_p0 _ (List.mem_of_getElem? (i := 38) rfl)
theorem mvW9_68 : (Cond.methodLink RX1 35 yX8_isFloor) ∈ vW9 := vW9_p1 _ (List.mem_of_getElem? (i := 20) rfl)
theorem pvW9_3 : ∀ w ∈ ([.methodLink RX1 35 yX8_isFloor, .instanceMethod yX8_isFloor, .selects RX8 yX8_isFloor yX8_isFloor, .initialized RX8] : List Cond), w ∈ vW9 := (List.forall_mem_cons.mpr ⟨mvW9_68, (List.forall_mem_cons.mpr ⟨mvW9_38, (List.forall_mem_cons.mpr ⟨mvW9_39, (List.forall_mem_cons.mpr ⟨mvW9_18, (fun _ h => absurd h List.not_mem_nil)⟩)⟩)⟩)⟩)
theorem mvW9_72 : (Cond.code yX1_setCommon cX1_setCommon 3 none) ∈ vW9 := vW9_p1 _ (List.mem_of_getElem? (i := 24) rfl)
theorem mvW9_71 : (Cond.selects RX1 yX1_setCommon yX1_setCommon) ∈ vW9 := vW9_p1 _ (List.mem_of_getElem? (i := 23) rfl)
theorem mvW9_70 : (Cond.instanceMethod yX1_setCommon) ∈ vW9 := vW9_p1 _ (List.mem_of_getElem? (i := 22) rfl)
theorem mvW9_69 : (Cond.methodLink RX1 47 yX1_setCommon) ∈ vW9 := vW9_p1 _ (List.mem_of_getElem? (i := 21) rfl)
theorem pvW9_4 : ∀ w ∈ ([.methodLink RX1 47 yX1_setCommon, .instanceMethod yX1_setCommon, .selects RX1 yX1_setCommon yX1_setCommon, .initialized RX1] : List Cond), w ∈ vW9 := (List.forall_mem_cons.mpr ⟨mvW9_69, (List.forall_mem_cons.mpr ⟨mvW9_70, (List.forall_mem_cons.mpr ⟨mvW9_71, (List.forall_mem_cons.mpr ⟨mvW9_60, (fun _ h => absurd h List.not_mem_nil)⟩)⟩)⟩)⟩)
theorem mvW9_101 : (Cond.code yX8_tell cX8_tell 3 (some .int)) ∈ vW9 := vW9_p2 _ (List.mem_of_getElem? (i := 5) rfl)
theorem mvW9_100 : (Cond.selects RX8 yX8_tell yX8_tell) ∈ vW9 := vW9_p2 _ (List.mem_of_getElem? (i := 4) rfl)
theorem mvW9_99 : (Cond.instanceMethod yX8_tell) ∈ vW9 := vW9_p2 _ (List.mem_of_getElem? (i := 3) rfl)
theorem mvW9_111 : (Cond.methodLink RX1 57 yX8_tell) ∈ vW9 := vW9_p2 _ (List.mem_of_getElem? (i := 15) rfl)
theorem pvW9_5 : ∀ w ∈ ([.methodLink RX1 57 yX8_tell, .instanceMethod yX8_tell, .selects RX8 yX8_tell yX8_tell, .initialized RX8] : List Cond), w ∈ vW9 := (List.forall_mem_cons.mpr ⟨mvW9_111, (List.forall_mem_cons.mpr ⟨mvW9_99, (List.forall_mem_cons.mpr ⟨mvW9_100, (List.forall_mem_cons.mpr ⟨mvW9_18, (fun _ h => absurd h List.not_mem_nil)⟩)⟩)⟩)⟩)
theorem mvW9_115 : (Cond.code yX1_setGrip cX1_setGrip 5 none) ∈ vW9 := vW9_p2 _ (List.mem_of_getElem? (i := 19) rfl)
theorem mvW9_114 : (Cond.selects RX1 yX1_setGrip yX1_setGrip) ∈ vW9 := vW9_p2 _ (List.mem_of_getElem? (i := 18) rfl)
theorem mvW9_113 : (Cond.instanceMethod yX1_setGrip) ∈ vW9 := vW9_p2 _ (List.mem_of_getElem? (i := 17) rfl)
theorem mvW9_112 : (Cond.methodLink RX1 61 yX1_setGrip) ∈ vW9 := vW9_p2 _ (List.mem_of_getElem? (i := 16) rfl)
theorem pvW9_6 : ∀ w ∈ ([.methodLink RX1 61 yX1_setGrip, .instanceMethod yX1_setGrip, .selects RX1 yX1_setGrip yX1_setGrip, .initialized RX1] : List Cond), w ∈ vW9 := (List.forall_mem_cons.mpr ⟨mvW9_112, (List.forall_mem_cons.mpr ⟨mvW9_113, (List.forall_mem_cons.mpr ⟨mvW9_114, (List.forall_mem_cons.mpr ⟨mvW9_60, (fun _ h => absurd h List.not_mem_nil)⟩)⟩)⟩)⟩)
theorem mvW9_82 : (Cond.code yX2_valueOf cX2_valueOf 13 (some .int)) ∈ vW9 := vW9_p1 _ (List.mem_of_getElem? (i := 34) rfl)
theorem mvW9_81 : (Cond.initialized RX2) ∈ vW9 := vW9_p1 _ (List.mem_of_getElem? (i := 33) rfl)
theorem mvW9_80 : (Cond.selects RX2 yX2_valueOf yX2_valueOf) ∈ vW9 := vW9_p1 _ (List.mem_of_getElem? (i := 32) rfl)
theorem mvW9_79 : (Cond.instanceMethod yX2_valueOf) ∈ vW9 := vW9_p1 _ (List.mem_of_getElem? (i := 31) rfl)
theorem mvW9_78 : (Cond.methodLink RX1 79 yX2_valueOf) ∈ vW9 := vW9_p1 _ (List.mem_of_getElem? (i := 30) rfl)
theorem pvW9_7 : ∀ w ∈ ([.methodLink RX1 79 yX2_valueOf, .instanceMethod yX2_valueOf, .selects RX2 yX2_valueOf yX2_valueOf, .initialized RX2] : List Cond), w ∈ vW9 := (List.forall_mem_cons.mpr ⟨mvW9_78, (List.forall_mem_cons.mpr ⟨mvW9_79, (List.forall_mem_cons.mpr ⟨mvW9_80, (List.forall_mem_cons.mpr ⟨mvW9_81, (fun _ h => absurd h List.not_mem_nil)⟩)⟩)⟩)⟩)
theorem mvW9_92 : (Cond.code yX2_join cX2_join 8 (some .int)) ∈ vW9 := vW9_p1 _ (List.mem_of_getElem? (i := 44) rfl)
theorem mvW9_91 : (Cond.selects RX2 yX2_join yX2_join) ∈ vW9 := vW9_p1 _ (List.mem_of_getElem? (i := 43) rfl)
theorem mvW9_90 : (Cond.instanceMethod yX2_join) ∈ vW9 := vW9_p1 _ (List.mem_of_getElem? (i := 42) rfl)
theorem mvW9_89 : (Cond.methodLink RX2 28 yX2_join) ∈ vW9 := vW9_p1 _ (List.mem_of_getElem? (i := 41) rfl)
theorem pvW9_8 : ∀ w ∈ ([.methodLink RX2 28 yX2_join, .instanceMethod yX2_join, .selects RX2 yX2_join yX2_join, .initialized RX2] : List Cond), w ∈ vW9 := (List.forall_mem_cons.mpr ⟨mvW9_89, (List.forall_mem_cons.mpr ⟨mvW9_90, (List.forall_mem_cons.mpr ⟨mvW9_91, (List.forall_mem_cons.mpr ⟨mvW9_81, (fun _ h => absurd h List.not_mem_nil)⟩)⟩)⟩)⟩)
theorem mvW9_475 : (Cond.code yX3_makeRoom cX3_makeRoom 3 none) ∈ vW9 := vW9_p9 _ (List.mem_of_getElem? (i := 43) rfl)
theorem mvW9_461 : (Cond.initialized RX3) ∈ vW9 := vW9_p9 _ (List.mem_of_getElem? (i := 29) rfl)
theorem mvW9_474 : (Cond.selects RX3 yX3_makeRoom yX3_makeRoom) ∈ vW9 := vW9_p9 _ (List.mem_of_getElem? (i := 42) rfl)
theorem mvW9_473 : (Cond.instanceMethod yX3_makeRoom) ∈ vW9 := vW9_p9 _ (List.mem_of_getElem? (i := 41) rfl)
theorem mvW9_472 : (Cond.methodLink RX3 79 yX3_makeRoom) ∈ vW9 := vW9_p9 _ (List.mem_of_getElem? (i := 40) rfl)
theorem pvW9_9 : ∀ w ∈ ([.methodLink RX3 79 yX3_makeRoom, .instanceMethod yX3_makeRoom, .selects RX3 yX3_makeRoom yX3_makeRoom, .initialized RX3] : List Cond), w ∈ vW9 := (List.forall_mem_cons.mpr ⟨mvW9_472, (List.forall_mem_cons.mpr ⟨mvW9_473, (List.forall_mem_cons.mpr ⟨mvW9_474, (List.forall_mem_cons.mpr ⟨mvW9_461, (fun _ h => absurd h List.not_mem_nil)⟩)⟩)⟩)⟩)
theorem mvW9_19 : (Cond.code yX8_has cX8_has 3 (some .boolean)) ∈ vW9 := vW9_p0 _ (List.mem_of_getElem? (i := 19) rfl)
theorem mvW9_17 : (Cond.selects RX8 yX8_has yX8_has) ∈ vW9 := vW9_p0 _ (List.mem_of_getElem? (i := 17) rfl)
theorem mvW9_16 : (Cond.instanceMethod yX8_has) ∈ vW9 := vW9_p0 _ (List.mem_of_getElem? (i := 16) rfl)
theorem mvW9_498 : (Cond.methodLink RX3 82 yX8_has) ∈ vW9 := vW9_p10 _ (List.mem_of_getElem? (i := 18) rfl)
theorem pvW9_10 : ∀ w ∈ ([.methodLink RX3 82 yX8_has, .instanceMethod yX8_has, .selects RX8 yX8_has yX8_has, .initialized RX8] : List Cond), w ∈ vW9 := (List.forall_mem_cons.mpr ⟨mvW9_498, (List.forall_mem_cons.mpr ⟨mvW9_16, (List.forall_mem_cons.mpr ⟨mvW9_17, (List.forall_mem_cons.mpr ⟨mvW9_18, (fun _ h => absurd h List.not_mem_nil)⟩)⟩)⟩)⟩)
theorem mvW9_502 : (Cond.code yX3_indexOfRank cX3_indexOfRank 3 (some .int)) ∈ vW9 := vW9_p10 _ (List.mem_of_getElem? (i := 22) rfl)
theorem mvW9_501 : (Cond.selects RX3 yX3_indexOfRank yX3_indexOfRank) ∈ vW9 := vW9_p10 _ (List.mem_of_getElem? (i := 21) rfl)
theorem mvW9_500 : (Cond.instanceMethod yX3_indexOfRank) ∈ vW9 := vW9_p10 _ (List.mem_of_getElem? (i := 20) rfl)
theorem mvW9_499 : (Cond.methodLink RX3 89 yX3_indexOfRank) ∈ vW9 := vW9_p10 _ (List.mem_of_getElem? (i := 19) rfl)
theorem pvW9_11 : ∀ w ∈ ([.methodLink RX3 89 yX3_indexOfRank, .instanceMethod yX3_indexOfRank, .selects RX3 yX3_indexOfRank yX3_indexOfRank, .initialized RX3] : List Cond), w ∈ vW9 := (List.forall_mem_cons.mpr ⟨mvW9_499, (List.forall_mem_cons.mpr ⟨mvW9_500, (List.forall_mem_cons.mpr ⟨mvW9_501, (List.forall_mem_cons.mpr ⟨mvW9_461, (fun _ h => absurd h List.not_mem_nil)⟩)⟩)⟩)⟩)
theorem mvW9_494 : (Cond.code yX3_numberOfOrder cX3_numberOfOrder 5 (some .int)) ∈ vW9 := vW9_p10 _ (List.mem_of_getElem? (i := 14) rfl)
theorem mvW9_493 : (Cond.selects RX3 yX3_numberOfOrder yX3_numberOfOrder) ∈ vW9 := vW9_p10 _ (List.mem_of_getElem? (i := 13) rfl)
theorem mvW9_492 : (Cond.instanceMethod yX3_numberOfOrder) ∈ vW9 := vW9_p10 _ (List.mem_of_getElem? (i := 12) rfl)
theorem mvW9_491 : (Cond.methodLink RX3 96 yX3_numberOfOrder) ∈ vW9 := vW9_p10 _ (List.mem_of_getElem? (i := 11) rfl)
theorem pvW9_12 : ∀ w ∈ ([.methodLink RX3 96 yX3_numberOfOrder, .instanceMethod yX3_numberOfOrder, .selects RX3 yX3_numberOfOrder yX3_numberOfOrder, .initialized RX3] : List Cond), w ∈ vW9 := (List.forall_mem_cons.mpr ⟨mvW9_491, (List.forall_mem_cons.mpr ⟨mvW9_492, (List.forall_mem_cons.mpr ⟨mvW9_493, (List.forall_mem_cons.mpr ⟨mvW9_461, (fun _ h => absurd h List.not_mem_nil)⟩)⟩)⟩)⟩)
theorem mvW9_506 : (Cond.code yX3_askCases cX3_askCases 13 none) ∈ vW9 := vW9_p10 _ (List.mem_of_getElem? (i := 26) rfl)
theorem mvW9_505 : (Cond.selects RX3 yX3_askCases yX3_askCases) ∈ vW9 := vW9_p10 _ (List.mem_of_getElem? (i := 25) rfl)
theorem mvW9_504 : (Cond.instanceMethod yX3_askCases) ∈ vW9 := vW9_p10 _ (List.mem_of_getElem? (i := 24) rfl)
theorem mvW9_503 : (Cond.methodLink RX3 109 yX3_askCases) ∈ vW9 := vW9_p10 _ (List.mem_of_getElem? (i := 23) rfl)
theorem pvW9_13 : ∀ w ∈ ([.methodLink RX3 109 yX3_askCases, .instanceMethod yX3_askCases, .selects RX3 yX3_askCases yX3_askCases, .initialized RX3] : List Cond), w ∈ vW9 := (List.forall_mem_cons.mpr ⟨mvW9_503, (List.forall_mem_cons.mpr ⟨mvW9_504, (List.forall_mem_cons.mpr ⟨mvW9_505, (List.forall_mem_cons.mpr ⟨mvW9_461, (fun _ h => absurd h List.not_mem_nil)⟩)⟩)⟩)⟩)
theorem mvW9_527 : (Cond.code yX3_measure cX3_measure 6 none) ∈ vW9 := vW9_p10 _ (List.mem_of_getElem? (i := 47) rfl)
theorem mvW9_526 : (Cond.selects RX3 yX3_measure yX3_measure) ∈ vW9 := vW9_p10 _ (List.mem_of_getElem? (i := 46) rfl)
theorem mvW9_525 : (Cond.instanceMethod yX3_measure) ∈ vW9 := vW9_p10 _ (List.mem_of_getElem? (i := 45) rfl)
theorem mvW9_524 : (Cond.methodLink RX3 113 yX3_measure) ∈ vW9 := vW9_p10 _ (List.mem_of_getElem? (i := 44) rfl)
theorem pvW9_14 : ∀ w ∈ ([.methodLink RX3 113 yX3_measure, .instanceMethod yX3_measure, .selects RX3 yX3_measure yX3_measure, .initialized RX3] : List Cond), w ∈ vW9 := (List.forall_mem_cons.mpr ⟨mvW9_524, (List.forall_mem_cons.mpr ⟨mvW9_525, (List.forall_mem_cons.mpr ⟨mvW9_526, (List.forall_mem_cons.mpr ⟨mvW9_461, (fun _ h => absurd h List.not_mem_nil)⟩)⟩)⟩)⟩)
theorem mvW9_554 : (Cond.code yX3_firstCloser cX3_firstCloser 3 (some .int)) ∈ vW9 := vW9_p11 _ (List.mem_of_getElem? (i := 26) rfl)
theorem mvW9_553 : (Cond.selects RX3 yX3_firstCloser yX3_firstCloser) ∈ vW9 := vW9_p11 _ (List.mem_of_getElem? (i := 25) rfl)
theorem mvW9_552 : (Cond.instanceMethod yX3_firstCloser) ∈ vW9 := vW9_p11 _ (List.mem_of_getElem? (i := 24) rfl)
theorem mvW9_551 : (Cond.methodLink RX3 116 yX3_firstCloser) ∈ vW9 := vW9_p11 _ (List.mem_of_getElem? (i := 23) rfl)
theorem pvW9_15 : ∀ w ∈ ([.methodLink RX3 116 yX3_firstCloser, .instanceMethod yX3_firstCloser, .selects RX3 yX3_firstCloser yX3_firstCloser, .initialized RX3] : List Cond), w ∈ vW9 := (List.forall_mem_cons.mpr ⟨mvW9_551, (List.forall_mem_cons.mpr ⟨mvW9_552, (List.forall_mem_cons.mpr ⟨mvW9_553, (List.forall_mem_cons.mpr ⟨mvW9_461, (fun _ h => absurd h List.not_mem_nil)⟩)⟩)⟩)⟩)
theorem mvW9_542 : (Cond.code yX3_turned cX3_turned 6 (some .int)) ∈ vW9 := vW9_p11 _ (List.mem_of_getElem? (i := 14) rfl)
theorem mvW9_541 : (Cond.selects RX3 yX3_turned yX3_turned) ∈ vW9 := vW9_p11 _ (List.mem_of_getElem? (i := 13) rfl)
theorem mvW9_540 : (Cond.instanceMethod yX3_turned) ∈ vW9 := vW9_p11 _ (List.mem_of_getElem? (i := 12) rfl)
theorem mvW9_539 : (Cond.methodLink RX3 119 yX3_turned) ∈ vW9 := vW9_p11 _ (List.mem_of_getElem? (i := 11) rfl)
theorem pvW9_16 : ∀ w ∈ ([.methodLink RX3 119 yX3_turned, .instanceMethod yX3_turned, .selects RX3 yX3_turned yX3_turned, .initialized RX3] : List Cond), w ∈ vW9 := (List.forall_mem_cons.mpr ⟨mvW9_539, (List.forall_mem_cons.mpr ⟨mvW9_540, (List.forall_mem_cons.mpr ⟨mvW9_541, (List.forall_mem_cons.mpr ⟨mvW9_461, (fun _ h => absurd h List.not_mem_nil)⟩)⟩)⟩)⟩)
theorem mvW9_512 : (Cond.code yJ7_fill_53178 cJ7_fill_53178 4 none) ∈ vW9 := vW9_p10 _ (List.mem_of_getElem? (i := 32) rfl)
theorem mvW9_511 : (Cond.initialized RJ7) ∈ vW9 := vW9_p10 _ (List.mem_of_getElem? (i := 31) rfl)
theorem mvW9_510 : (Cond.static yJ7_fill_53178) ∈ vW9 := vW9_p10 _ (List.mem_of_getElem? (i := 30) rfl)
theorem mvW9_509 : (Cond.methodLink RX3 122 yJ7_fill_53178) ∈ vW9 := vW9_p10 _ (List.mem_of_getElem? (i := 29) rfl)
theorem pvW9_17 : ∀ w ∈ ([.methodLink RX3 122 yJ7_fill_53178, .static yJ7_fill_53178, .initialized yJ7_fill_53178.cls] : List Cond), w ∈ vW9 := (List.forall_mem_cons.mpr ⟨mvW9_509, (List.forall_mem_cons.mpr ⟨mvW9_510, (List.forall_mem_cons.mpr ⟨mvW9_511, (fun _ h => absurd h List.not_mem_nil)⟩)⟩)⟩)
theorem mvW9_558 : (Cond.code yX3_isCloser cX3_isCloser 3 (some .boolean)) ∈ vW9 := vW9_p11 _ (List.mem_of_getElem? (i := 30) rfl)
theorem mvW9_557 : (Cond.selects RX3 yX3_isCloser yX3_isCloser) ∈ vW9 := vW9_p11 _ (List.mem_of_getElem? (i := 29) rfl)
theorem mvW9_556 : (Cond.instanceMethod yX3_isCloser) ∈ vW9 := vW9_p11 _ (List.mem_of_getElem? (i := 28) rfl)
theorem mvW9_555 : (Cond.methodLink RX3 129 yX3_isCloser) ∈ vW9 := vW9_p11 _ (List.mem_of_getElem? (i := 27) rfl)
theorem pvW9_18 : ∀ w ∈ ([.methodLink RX3 129 yX3_isCloser, .instanceMethod yX3_isCloser, .selects RX3 yX3_isCloser yX3_isCloser, .initialized RX3] : List Cond), w ∈ vW9 := (List.forall_mem_cons.mpr ⟨mvW9_555, (List.forall_mem_cons.mpr ⟨mvW9_556, (List.forall_mem_cons.mpr ⟨mvW9_557, (List.forall_mem_cons.mpr ⟨mvW9_461, (fun _ h => absurd h List.not_mem_nil)⟩)⟩)⟩)⟩)
theorem mvW9_97 : (Cond.code yX9_bit cX9_bit 1 (some .int)) ∈ vW9 := vW9_p2 _ (List.mem_of_getElem? (i := 1) rfl)
theorem mvW9_594 : (Cond.code yX3_nearest cX3_nearest 7 (some .int)) ∈ vW9 := vW9_p12 _ (List.mem_of_getElem? (i := 18) rfl)
theorem mvW9_593 : (Cond.selects RX3 yX3_nearest yX3_nearest) ∈ vW9 := vW9_p12 _ (List.mem_of_getElem? (i := 17) rfl)
theorem mvW9_592 : (Cond.instanceMethod yX3_nearest) ∈ vW9 := vW9_p12 _ (List.mem_of_getElem? (i := 16) rfl)
theorem mvW9_591 : (Cond.methodLink RX3 137 yX3_nearest) ∈ vW9 := vW9_p12 _ (List.mem_of_getElem? (i := 15) rfl)
theorem pvW9_19 : ∀ w ∈ ([.methodLink RX3 137 yX3_nearest, .instanceMethod yX3_nearest, .selects RX3 yX3_nearest yX3_nearest, .initialized RX3] : List Cond), w ∈ vW9 := (List.forall_mem_cons.mpr ⟨mvW9_591, (List.forall_mem_cons.mpr ⟨mvW9_592, (List.forall_mem_cons.mpr ⟨mvW9_593, (List.forall_mem_cons.mpr ⟨mvW9_461, (fun _ h => absurd h List.not_mem_nil)⟩)⟩)⟩)⟩)
theorem mvW9_573 : (Cond.code yX3_putInBucket cX3_putInBucket 3 none) ∈ vW9 := vW9_p11 _ (List.mem_of_getElem? (i := 45) rfl)
theorem mvW9_572 : (Cond.selects RX3 yX3_putInBucket yX3_putInBucket) ∈ vW9 := vW9_p11 _ (List.mem_of_getElem? (i := 44) rfl)
theorem mvW9_571 : (Cond.instanceMethod yX3_putInBucket) ∈ vW9 := vW9_p11 _ (List.mem_of_getElem? (i := 43) rfl)
theorem mvW9_570 : (Cond.methodLink RX3 141 yX3_putInBucket) ∈ vW9 := vW9_p11 _ (List.mem_of_getElem? (i := 42) rfl)
theorem pvW9_20 : ∀ w ∈ ([.methodLink RX3 141 yX3_putInBucket, .instanceMethod yX3_putInBucket, .selects RX3 yX3_putInBucket yX3_putInBucket, .initialized RX3] : List Cond), w ∈ vW9 := (List.forall_mem_cons.mpr ⟨mvW9_570, (List.forall_mem_cons.mpr ⟨mvW9_571, (List.forall_mem_cons.mpr ⟨mvW9_572, (List.forall_mem_cons.mpr ⟨mvW9_461, (fun _ h => absurd h List.not_mem_nil)⟩)⟩)⟩)⟩)
theorem mvW9_577 : (Cond.code yX3_takeFromBucket cX3_takeFromBucket 2 none) ∈ vW9 := vW9_p12 _ (List.mem_of_getElem? (i := 1) rfl)
theorem mvW9_576 : (Cond.selects RX3 yX3_takeFromBucket yX3_takeFromBucket) ∈ vW9 := vW9_p12 _ (List.mem_of_getElem? (i := 0) rfl)
theorem mvW9_575 : (Cond.instanceMethod yX3_takeFromBucket) ∈ vW9 := vW9_p11 _ (List.mem_of_getElem? (i := 47) rfl)
theorem mvW9_574 : (Cond.methodLink RX3 145 yX3_takeFromBucket) ∈ vW9 := vW9_p11 _ (List.mem_of_getElem? (i := 46) rfl)
theorem pvW9_21 : ∀ w ∈ ([.methodLink RX3 145 yX3_takeFromBucket, .instanceMethod yX3_takeFromBucket, .selects RX3 yX3_takeFromBucket yX3_takeFromBucket, .initialized RX3] : List Cond), w ∈ vW9 := (List.forall_mem_cons.mpr ⟨mvW9_574, (List.forall_mem_cons.mpr ⟨mvW9_575, (List.forall_mem_cons.mpr ⟨mvW9_576, (List.forall_mem_cons.mpr ⟨mvW9_461, (fun _ h => absurd h List.not_mem_nil)⟩)⟩)⟩)⟩)
theorem mvW9_538 : (Cond.code yX3_isOrdered cX3_isOrdered 2 (some .boolean)) ∈ vW9 := vW9_p11 _ (List.mem_of_getElem? (i := 10) rfl)
theorem mvW9_537 : (Cond.selects RX3 yX3_isOrdered yX3_isOrdered) ∈ vW9 := vW9_p11 _ (List.mem_of_getElem? (i := 9) rfl)
theorem mvW9_536 : (Cond.instanceMethod yX3_isOrdered) ∈ vW9 := vW9_p11 _ (List.mem_of_getElem? (i := 8) rfl)
theorem mvW9_535 : (Cond.methodLink RX3 148 yX3_isOrdered) ∈ vW9 := vW9_p11 _ (List.mem_of_getElem? (i := 7) rfl)
theorem pvW9_22 : ∀ w ∈ ([.methodLink RX3 148 yX3_isOrdered, .instanceMethod yX3_isOrdered, .selects RX3 yX3_isOrdered yX3_isOrdered, .initialized RX3] : List Cond), w ∈ vW9 := (List.forall_mem_cons.mpr ⟨mvW9_535, (List.forall_mem_cons.mpr ⟨mvW9_536, (List.forall_mem_cons.mpr ⟨mvW9_537, (List.forall_mem_cons.mpr ⟨mvW9_461, (fun _ h => absurd h List.not_mem_nil)⟩)⟩)⟩)⟩)
theorem mvW9_581 : (Cond.code yX3_offerTurns cX3_offerTurns 7 (some .int)) ∈ vW9 := vW9_p12 _ (List.mem_of_getElem? (i := 5) rfl)
theorem mvW9_580 : (Cond.selects RX3 yX3_offerTurns yX3_offerTurns) ∈ vW9 := vW9_p12 _ (List.mem_of_getElem? (i := 4) rfl)
theorem mvW9_579 : (Cond.instanceMethod yX3_offerTurns) ∈ vW9 := vW9_p12 _ (List.mem_of_getElem? (i := 3) rfl)
theorem mvW9_578 : (Cond.methodLink RX3 151 yX3_offerTurns) ∈ vW9 := vW9_p12 _ (List.mem_of_getElem? (i := 2) rfl)
theorem pvW9_23 : ∀ w ∈ ([.methodLink RX3 151 yX3_offerTurns, .instanceMethod yX3_offerTurns, .selects RX3 yX3_offerTurns yX3_offerTurns, .initialized RX3] : List Cond), w ∈ vW9 := (List.forall_mem_cons.mpr ⟨mvW9_578, (List.forall_mem_cons.mpr ⟨mvW9_579, (List.forall_mem_cons.mpr ⟨mvW9_580, (List.forall_mem_cons.mpr ⟨mvW9_461, (fun _ h => absurd h List.not_mem_nil)⟩)⟩)⟩)⟩)
theorem mvW9_546 : (Cond.code yX3_caseOf cX3_caseOf 5 (some .int)) ∈ vW9 := vW9_p11 _ (List.mem_of_getElem? (i := 18) rfl)
theorem mvW9_545 : (Cond.selects RX3 yX3_caseOf yX3_caseOf) ∈ vW9 := vW9_p11 _ (List.mem_of_getElem? (i := 17) rfl)
theorem mvW9_544 : (Cond.instanceMethod yX3_caseOf) ∈ vW9 := vW9_p11 _ (List.mem_of_getElem? (i := 16) rfl)
theorem mvW9_543 : (Cond.methodLink RX3 154 yX3_caseOf) ∈ vW9 := vW9_p11 _ (List.mem_of_getElem? (i := 15) rfl)
theorem pvW9_24 : ∀ w ∈ ([.methodLink RX3 154 yX3_caseOf, .instanceMethod yX3_caseOf, .selects RX3 yX3_caseOf yX3_caseOf, .initialized RX3] : List Cond), w ∈ vW9 := (List.forall_mem_cons.mpr ⟨mvW9_543, (List.forall_mem_cons.mpr ⟨mvW9_544, (List.forall_mem_cons.mpr ⟨mvW9_545, (List.forall_mem_cons.mpr ⟨mvW9_461, (fun _ h => absurd h List.not_mem_nil)⟩)⟩)⟩)⟩)
theorem mvW9_598 : (Cond.code yX3_fits cX3_fits 5 (some .boolean)) ∈ vW9 := vW9_p12 _ (List.mem_of_getElem? (i := 22) rfl)
theorem mvW9_597 : (Cond.selects RX3 yX3_fits yX3_fits) ∈ vW9 := vW9_p12 _ (List.mem_of_getElem? (i := 21) rfl)
theorem mvW9_596 : (Cond.instanceMethod yX3_fits) ∈ vW9 := vW9_p12 _ (List.mem_of_getElem? (i := 20) rfl)
theorem mvW9_595 : (Cond.methodLink RX3 157 yX3_fits) ∈ vW9 := vW9_p12 _ (List.mem_of_getElem? (i := 19) rfl)
theorem pvW9_25 : ∀ w ∈ ([.methodLink RX3 157 yX3_fits, .instanceMethod yX3_fits, .selects RX3 yX3_fits yX3_fits, .initialized RX3] : List Cond), w ∈ vW9 := (List.forall_mem_cons.mpr ⟨mvW9_595, (List.forall_mem_cons.mpr ⟨mvW9_596, (List.forall_mem_cons.mpr ⟨mvW9_597, (List.forall_mem_cons.mpr ⟨mvW9_461, (fun _ h => absurd h List.not_mem_nil)⟩)⟩)⟩)⟩)
theorem mvW9_534 : (Cond.code yX3_sameBars cX3_sameBars 2 (some .boolean)) ∈ vW9 := vW9_p11 _ (List.mem_of_getElem? (i := 6) rfl)
theorem mvW9_533 : (Cond.selects RX3 yX3_sameBars yX3_sameBars) ∈ vW9 := vW9_p11 _ (List.mem_of_getElem? (i := 5) rfl)
theorem mvW9_532 : (Cond.instanceMethod yX3_sameBars) ∈ vW9 := vW9_p11 _ (List.mem_of_getElem? (i := 4) rfl)
theorem mvW9_531 : (Cond.methodLink RX3 161 yX3_sameBars) ∈ vW9 := vW9_p11 _ (List.mem_of_getElem? (i := 3) rfl)
theorem pvW9_26 : ∀ w ∈ ([.methodLink RX3 161 yX3_sameBars, .instanceMethod yX3_sameBars, .selects RX3 yX3_sameBars yX3_sameBars, .initialized RX3] : List Cond), w ∈ vW9 := (List.forall_mem_cons.mpr ⟨mvW9_531, (List.forall_mem_cons.mpr ⟨mvW9_532, (List.forall_mem_cons.mpr ⟨mvW9_533, (List.forall_mem_cons.mpr ⟨mvW9_461, (fun _ h => absurd h List.not_mem_nil)⟩)⟩)⟩)⟩)
theorem mvW9_519 : (Cond.code yX3_caseNumber cX3_caseNumber 4 (some .int)) ∈ vW9 := vW9_p10 _ (List.mem_of_getElem? (i := 39) rfl)
theorem mvW9_518 : (Cond.static yX3_caseNumber) ∈ vW9 := vW9_p10 _ (List.mem_of_getElem? (i := 38) rfl)
theorem mvW9_517 : (Cond.methodLink RX3 171 yX3_caseNumber) ∈ vW9 := vW9_p10 _ (List.mem_of_getElem? (i := 37) rfl)
theorem pvW9_27 : ∀ w ∈ ([.methodLink RX3 171 yX3_caseNumber, .static yX3_caseNumber, .initialized yX3_caseNumber.cls] : List Cond), w ∈ vW9 := (List.forall_mem_cons.mpr ⟨mvW9_517, (List.forall_mem_cons.mpr ⟨mvW9_518, (List.forall_mem_cons.mpr ⟨mvW9_461, (fun _ h => absurd h List.not_mem_nil)⟩)⟩)⟩)
theorem mvW9_513 : (Cond.methodLink RX3 175 yX1_setCommon) ∈ vW9 := vW9_p10 _ (List.mem_of_getElem? (i := 33) rfl)
theorem pvW9_28 : ∀ w ∈ ([.methodLink RX3 175 yX1_setCommon, .instanceMethod yX1_setCommon, .selects RX1 yX1_setCommon yX1_setCommon, .initialized RX1] : List Cond), w ∈ vW9 := (List.forall_mem_cons.mpr ⟨mvW9_513, (List.forall_mem_cons.mpr ⟨mvW9_70, (List.forall_mem_cons.mpr ⟨mvW9_71, (List.forall_mem_cons.mpr ⟨mvW9_60, (fun _ h => absurd h List.not_mem_nil)⟩)⟩)⟩)⟩)
theorem mvW9_514 : (Cond.methodLink RX3 181 yX1_setGrip) ∈ vW9 := vW9_p10 _ (List.mem_of_getElem? (i := 34) rfl)
theorem pvW9_29 : ∀ w ∈ ([.methodLink RX3 181 yX1_setGrip, .instanceMethod yX1_setGrip, .selects RX1 yX1_setGrip yX1_setGrip, .initialized RX1] : List Cond), w ∈ vW9 := (List.forall_mem_cons.mpr ⟨mvW9_514, (List.forall_mem_cons.mpr ⟨mvW9_113, (List.forall_mem_cons.mpr ⟨mvW9_114, (List.forall_mem_cons.mpr ⟨mvW9_60, (fun _ h => absurd h List.not_mem_nil)⟩)⟩)⟩)⟩)
theorem mvW9_515 : (Cond.methodLink RX3 185 yX1_anyHolds) ∈ vW9 := vW9_p10 _ (List.mem_of_getElem? (i := 35) rfl)
theorem pvW9_30 : ∀ w ∈ ([.methodLink RX3 185 yX1_anyHolds, .instanceMethod yX1_anyHolds, .selects RX1 yX1_anyHolds yX1_anyHolds, .initialized RX1] : List Cond), w ∈ vW9 := (List.forall_mem_cons.mpr ⟨mvW9_515, (List.forall_mem_cons.mpr ⟨mvW9_74, (List.forall_mem_cons.mpr ⟨mvW9_75, (List.forall_mem_cons.mpr ⟨mvW9_60, (fun _ h => absurd h List.not_mem_nil)⟩)⟩)⟩)⟩)
theorem mvW9_516 : (Cond.methodLink RX3 188 yX1_pay) ∈ vW9 := vW9_p10 _ (List.mem_of_getElem? (i := 36) rfl)
theorem pvW9_31 : ∀ w ∈ ([.methodLink RX3 188 yX1_pay, .instanceMethod yX1_pay, .selects RX1 yX1_pay yX1_pay, .initialized RX1] : List Cond), w ∈ vW9 := (List.forall_mem_cons.mpr ⟨mvW9_516, (List.forall_mem_cons.mpr ⟨mvW9_117, (List.forall_mem_cons.mpr ⟨mvW9_118, (List.forall_mem_cons.mpr ⟨mvW9_60, (fun _ h => absurd h List.not_mem_nil)⟩)⟩)⟩)⟩)
theorem mvW9_486 : (Cond.code yX3_listOrder cX3_listOrder 6 none) ∈ vW9 := vW9_p10 _ (List.mem_of_getElem? (i := 6) rfl)
theorem mvW9_485 : (Cond.selects RX3 yX3_listOrder yX3_listOrder) ∈ vW9 := vW9_p10 _ (List.mem_of_getElem? (i := 5) rfl)
theorem mvW9_484 : (Cond.instanceMethod yX3_listOrder) ∈ vW9 := vW9_p10 _ (List.mem_of_getElem? (i := 4) rfl)
theorem mvW9_483 : (Cond.methodLink RX3 191 yX3_listOrder) ∈ vW9 := vW9_p10 _ (List.mem_of_getElem? (i := 3) rfl)
theorem pvW9_32 : ∀ w ∈ ([.methodLink RX3 191 yX3_listOrder, .instanceMethod yX3_listOrder, .selects RX3 yX3_listOrder yX3_listOrder, .initialized RX3] : List Cond), w ∈ vW9 := (List.forall_mem_cons.mpr ⟨mvW9_483, (List.forall_mem_cons.mpr ⟨mvW9_484, (List.forall_mem_cons.mpr ⟨mvW9_485, (List.forall_mem_cons.mpr ⟨mvW9_461, (fun _ h => absurd h List.not_mem_nil)⟩)⟩)⟩)⟩)
theorem mvW9_497 : (Cond.code yX3_headsTurned cX3_headsTurned 4 (some .int)) ∈ vW9 := vW9_p10 _ (List.mem_of_getElem? (i := 17) rfl)
theorem mvW9_496 : (Cond.static yX3_headsTurned) ∈ vW9 := vW9_p10 _ (List.mem_of_getElem? (i := 16) rfl)
theorem mvW9_495 : (Cond.methodLink RX3 194 yX3_headsTurned) ∈ vW9 := vW9_p10 _ (List.mem_of_getElem? (i := 15) rfl)
theorem pvW9_33 : ∀ w ∈ ([.methodLink RX3 194 yX3_headsTurned, .static yX3_headsTurned, .initialized yX3_headsTurned.cls] : List Cond), w ∈ vW9 := (List.forall_mem_cons.mpr ⟨mvW9_495, (List.forall_mem_cons.mpr ⟨mvW9_496, (List.forall_mem_cons.mpr ⟨mvW9_461, (fun _ h => absurd h List.not_mem_nil)⟩)⟩)⟩)
theorem mvW9_490 : (Cond.code yX3_setDigits cX3_setDigits 5 none) ∈ vW9 := vW9_p10 _ (List.mem_of_getElem? (i := 10) rfl)
theorem mvW9_489 : (Cond.selects RX3 yX3_setDigits yX3_setDigits) ∈ vW9 := vW9_p10 _ (List.mem_of_getElem? (i := 9) rfl)
theorem mvW9_488 : (Cond.instanceMethod yX3_setDigits) ∈ vW9 := vW9_p10 _ (List.mem_of_getElem? (i := 8) rfl)
theorem mvW9_487 : (Cond.methodLink RX3 197 yX3_setDigits) ∈ vW9 := vW9_p10 _ (List.mem_of_getElem? (i := 7) rfl)
theorem pvW9_34 : ∀ w ∈ ([.methodLink RX3 197 yX3_setDigits, .instanceMethod yX3_setDigits, .selects RX3 yX3_setDigits yX3_setDigits, .initialized RX3] : List Cond), w ∈ vW9 := (List.forall_mem_cons.mpr ⟨mvW9_487, (List.forall_mem_cons.mpr ⟨mvW9_488, (List.forall_mem_cons.mpr ⟨mvW9_489, (List.forall_mem_cons.mpr ⟨mvW9_461, (fun _ h => absurd h List.not_mem_nil)⟩)⟩)⟩)⟩)
theorem mvW9_176 : (Cond.code yX7_clear cX7_clear 1 none) ∈ vW9 := vW9_p3 _ (List.mem_of_getElem? (i := 32) rfl)
theorem mvW9_175 : (Cond.initialized RX7) ∈ vW9 := vW9_p3 _ (List.mem_of_getElem? (i := 31) rfl)
theorem mvW9_174 : (Cond.selects RX7 yX7_clear yX7_clear) ∈ vW9 := vW9_p3 _ (List.mem_of_getElem? (i := 30) rfl)
theorem mvW9_173 : (Cond.instanceMethod yX7_clear) ∈ vW9 := vW9_p3 _ (List.mem_of_getElem? (i := 29) rfl)
theorem mvW9_172 : (Cond.methodLink RX4 54 yX7_clear) ∈ vW9 := vW9_p3 _ (List.mem_of_getElem? (i := 28) rfl)
theorem pvW9_35 : ∀ w ∈ ([.methodLink RX4 54 yX7_clear, .instanceMethod yX7_clear, .selects RX7 yX7_clear yX7_clear, .initialized RX7] : List Cond), w ∈ vW9 := (List.forall_mem_cons.mpr ⟨mvW9_172, (List.forall_mem_cons.mpr ⟨mvW9_173, (List.forall_mem_cons.mpr ⟨mvW9_174, (List.forall_mem_cons.mpr ⟨mvW9_175, (fun _ h => absurd h List.not_mem_nil)⟩)⟩)⟩)⟩)
theorem mvW9_182 : (Cond.code yX4_step cX4_step 2 none) ∈ vW9 := vW9_p3 _ (List.mem_of_getElem? (i := 38) rfl)
theorem mvW9_160 : (Cond.initialized RX4) ∈ vW9 := vW9_p3 _ (List.mem_of_getElem? (i := 16) rfl)
theorem mvW9_181 : (Cond.selects RX4 yX4_step yX4_step) ∈ vW9 := vW9_p3 _ (List.mem_of_getElem? (i := 37) rfl)
theorem mvW9_180 : (Cond.instanceMethod yX4_step) ∈ vW9 := vW9_p3 _ (List.mem_of_getElem? (i := 36) rfl)
theorem mvW9_179 : (Cond.methodLink RX4 59 yX4_step) ∈ vW9 := vW9_p3 _ (List.mem_of_getElem? (i := 35) rfl)
theorem pvW9_36 : ∀ w ∈ ([.methodLink RX4 59 yX4_step, .instanceMethod yX4_step, .selects RX4 yX4_step yX4_step, .initialized RX4] : List Cond), w ∈ vW9 := (List.forall_mem_cons.mpr ⟨mvW9_179, (List.forall_mem_cons.mpr ⟨mvW9_180, (List.forall_mem_cons.mpr ⟨mvW9_181, (List.forall_mem_cons.mpr ⟨mvW9_160, (fun _ h => absurd h List.not_mem_nil)⟩)⟩)⟩)⟩)
theorem mvW9_191 : (Cond.code yX4_fail cX4_fail 1 none) ∈ vW9 := vW9_p3 _ (List.mem_of_getElem? (i := 47) rfl)
theorem mvW9_190 : (Cond.selects RX4 yX4_fail yX4_fail) ∈ vW9 := vW9_p3 _ (List.mem_of_getElem? (i := 46) rfl)
theorem mvW9_189 : (Cond.instanceMethod yX4_fail) ∈ vW9 := vW9_p3 _ (List.mem_of_getElem? (i := 45) rfl)
theorem mvW9_188 : (Cond.methodLink RX4 62 yX4_fail) ∈ vW9 := vW9_p3 _ (List.mem_of_getElem? (i := 44) rfl)
theorem pvW9_37 : ∀ w ∈ ([.methodLink RX4 62 yX4_fail, .instanceMethod yX4_fail, .selects RX4 yX4_fail yX4_fail, .initialized RX4] : List Cond), w ∈ vW9 := (List.forall_mem_cons.mpr ⟨mvW9_188, (List.forall_mem_cons.mpr ⟨mvW9_189, (List.forall_mem_cons.mpr ⟨mvW9_190, (List.forall_mem_cons.mpr ⟨mvW9_160, (fun _ h => absurd h List.not_mem_nil)⟩)⟩)⟩)⟩)
theorem mvW9_195 : (Cond.code yX4_readClause cX4_readClause 2 none) ∈ vW9 := vW9_p4 _ (List.mem_of_getElem? (i := 3) rfl)
theorem mvW9_194 : (Cond.selects RX4 yX4_readClause yX4_readClause) ∈ vW9 := vW9_p4 _ (List.mem_of_getElem? (i := 2) rfl)
theorem mvW9_193 : (Cond.instanceMethod yX4_readClause) ∈ vW9 := vW9_p4 _ (List.mem_of_getElem? (i := 1) rfl)
theorem mvW9_192 : (Cond.methodLink RX4 65 yX4_readClause) ∈ vW9 := vW9_p4 _ (List.mem_of_getElem? (i := 0) rfl)
theorem pvW9_38 : ∀ w ∈ ([.methodLink RX4 65 yX4_readClause, .instanceMethod yX4_readClause, .selects RX4 yX4_readClause yX4_readClause, .initialized RX4] : List Cond), w ∈ vW9 := (List.forall_mem_cons.mpr ⟨mvW9_192, (List.forall_mem_cons.mpr ⟨mvW9_193, (List.forall_mem_cons.mpr ⟨mvW9_194, (List.forall_mem_cons.mpr ⟨mvW9_160, (fun _ h => absurd h List.not_mem_nil)⟩)⟩)⟩)⟩)
theorem mvW9_290 : (Cond.code yX4_expectSign cX4_expectSign 2 none) ∈ vW9 := vW9_p6 _ (List.mem_of_getElem? (i := 2) rfl)
theorem mvW9_289 : (Cond.selects RX4 yX4_expectSign yX4_expectSign) ∈ vW9 := vW9_p6 _ (List.mem_of_getElem? (i := 1) rfl)
theorem mvW9_288 : (Cond.instanceMethod yX4_expectSign) ∈ vW9 := vW9_p6 _ (List.mem_of_getElem? (i := 0) rfl)
theorem mvW9_287 : (Cond.methodLink RX4 68 yX4_expectSign) ∈ vW9 := vW9_p5 _ (List.mem_of_getElem? (i := 47) rfl)
theorem pvW9_39 : ∀ w ∈ ([.methodLink RX4 68 yX4_expectSign, .instanceMethod yX4_expectSign, .selects RX4 yX4_expectSign yX4_expectSign, .initialized RX4] : List Cond), w ∈ vW9 := (List.forall_mem_cons.mpr ⟨mvW9_287, (List.forall_mem_cons.mpr ⟨mvW9_288, (List.forall_mem_cons.mpr ⟨mvW9_289, (List.forall_mem_cons.mpr ⟨mvW9_160, (fun _ h => absurd h List.not_mem_nil)⟩)⟩)⟩)⟩)
theorem mvW9_199 : (Cond.code yX4_wordIn cX4_wordIn 5 (some .int)) ∈ vW9 := vW9_p4 _ (List.mem_of_getElem? (i := 7) rfl)
theorem mvW9_198 : (Cond.selects RX4 yX4_wordIn yX4_wordIn) ∈ vW9 := vW9_p4 _ (List.mem_of_getElem? (i := 6) rfl)
theorem mvW9_197 : (Cond.instanceMethod yX4_wordIn) ∈ vW9 := vW9_p4 _ (List.mem_of_getElem? (i := 5) rfl)
theorem mvW9_196 : (Cond.methodLink RX4 76 yX4_wordIn) ∈ vW9 := vW9_p4 _ (List.mem_of_getElem? (i := 4) rfl)
theorem pvW9_40 : ∀ w ∈ ([.methodLink RX4 76 yX4_wordIn, .instanceMethod yX4_wordIn, .selects RX4 yX4_wordIn yX4_wordIn, .initialized RX4] : List Cond), w ∈ vW9 := (List.forall_mem_cons.mpr ⟨mvW9_196, (List.forall_mem_cons.mpr ⟨mvW9_197, (List.forall_mem_cons.mpr ⟨mvW9_198, (List.forall_mem_cons.mpr ⟨mvW9_160, (fun _ h => absurd h List.not_mem_nil)⟩)⟩)⟩)⟩)
theorem mvW9_256 : (Cond.code yX7_beginClause cX7_beginClause 2 none) ∈ vW9 := vW9_p5 _ (List.mem_of_getElem? (i := 16) rfl)
theorem mvW9_255 : (Cond.selects RX7 yX7_beginClause yX7_beginClause) ∈ vW9 := vW9_p5 _ (List.mem_of_getElem? (i := 15) rfl)
theorem mvW9_254 : (Cond.instanceMethod yX7_beginClause) ∈ vW9 := vW9_p5 _ (List.mem_of_getElem? (i := 14) rfl)
theorem mvW9_253 : (Cond.methodLink RX4 80 yX7_beginClause) ∈ vW9 := vW9_p5 _ (List.mem_of_getElem? (i := 13) rfl)
theorem pvW9_41 : ∀ w ∈ ([.methodLink RX4 80 yX7_beginClause, .instanceMethod yX7_beginClause, .selects RX7 yX7_beginClause yX7_beginClause, .initialized RX7] : List Cond), w ∈ vW9 := (List.forall_mem_cons.mpr ⟨mvW9_253, (List.forall_mem_cons.mpr ⟨mvW9_254, (List.forall_mem_cons.mpr ⟨mvW9_255, (List.forall_mem_cons.mpr ⟨mvW9_175, (fun _ h => absurd h List.not_mem_nil)⟩)⟩)⟩)⟩)
theorem mvW9_265 : (Cond.code yX4_readSum cX4_readSum 3 none) ∈ vW9 := vW9_p5 _ (List.mem_of_getElem? (i := 25) rfl)
theorem mvW9_264 : (Cond.selects RX4 yX4_readSum yX4_readSum) ∈ vW9 := vW9_p5 _ (List.mem_of_getElem? (i := 24) rfl)
theorem mvW9_263 : (Cond.instanceMethod yX4_readSum) ∈ vW9 := vW9_p5 _ (List.mem_of_getElem? (i := 23) rfl)
theorem mvW9_262 : (Cond.methodLink RX4 84 yX4_readSum) ∈ vW9 := vW9_p5 _ (List.mem_of_getElem? (i := 22) rfl)
theorem pvW9_42 : ∀ w ∈ ([.methodLink RX4 84 yX4_readSum, .instanceMethod yX4_readSum, .selects RX4 yX4_readSum yX4_readSum, .initialized RX4] : List Cond), w ∈ vW9 := (List.forall_mem_cons.mpr ⟨mvW9_262, (List.forall_mem_cons.mpr ⟨mvW9_263, (List.forall_mem_cons.mpr ⟨mvW9_264, (List.forall_mem_cons.mpr ⟨mvW9_160, (fun _ h => absurd h List.not_mem_nil)⟩)⟩)⟩)⟩)
theorem mvW9_302 : (Cond.code yX7_endSum cX7_endSum 1 none) ∈ vW9 := vW9_p6 _ (List.mem_of_getElem? (i := 14) rfl)
theorem mvW9_301 : (Cond.selects RX7 yX7_endSum yX7_endSum) ∈ vW9 := vW9_p6 _ (List.mem_of_getElem? (i := 13) rfl)
theorem mvW9_300 : (Cond.instanceMethod yX7_endSum) ∈ vW9 := vW9_p6 _ (List.mem_of_getElem? (i := 12) rfl)
theorem mvW9_299 : (Cond.methodLink RX4 87 yX7_endSum) ∈ vW9 := vW9_p6 _ (List.mem_of_getElem? (i := 11) rfl)
theorem pvW9_43 : ∀ w ∈ ([.methodLink RX4 87 yX7_endSum, .instanceMethod yX7_endSum, .selects RX7 yX7_endSum yX7_endSum, .initialized RX7] : List Cond), w ∈ vW9 := (List.forall_mem_cons.mpr ⟨mvW9_299, (List.forall_mem_cons.mpr ⟨mvW9_300, (List.forall_mem_cons.mpr ⟨mvW9_301, (List.forall_mem_cons.mpr ⟨mvW9_175, (fun _ h => absurd h List.not_mem_nil)⟩)⟩)⟩)⟩)
theorem mvW9_306 : (Cond.code yX4_isWord cX4_isWord 2 (some .boolean)) ∈ vW9 := vW9_p6 _ (List.mem_of_getElem? (i := 18) rfl)
theorem mvW9_305 : (Cond.selects RX4 yX4_isWord yX4_isWord) ∈ vW9 := vW9_p6 _ (List.mem_of_getElem? (i := 17) rfl)
theorem mvW9_304 : (Cond.instanceMethod yX4_isWord) ∈ vW9 := vW9_p6 _ (List.mem_of_getElem? (i := 16) rfl)
theorem mvW9_303 : (Cond.methodLink RX4 92 yX4_isWord) ∈ vW9 := vW9_p6 _ (List.mem_of_getElem? (i := 15) rfl)
theorem pvW9_44 : ∀ w ∈ ([.methodLink RX4 92 yX4_isWord, .instanceMethod yX4_isWord, .selects RX4 yX4_isWord yX4_isWord, .initialized RX4] : List Cond), w ∈ vW9 := (List.forall_mem_cons.mpr ⟨mvW9_303, (List.forall_mem_cons.mpr ⟨mvW9_304, (List.forall_mem_cons.mpr ⟨mvW9_305, (List.forall_mem_cons.mpr ⟨mvW9_160, (fun _ h => absurd h List.not_mem_nil)⟩)⟩)⟩)⟩)
theorem mvW9_310 : (Cond.code yX4_readTimes cX4_readTimes 1 none) ∈ vW9 := vW9_p6 _ (List.mem_of_getElem? (i := 22) rfl)
theorem mvW9_309 : (Cond.selects RX4 yX4_readTimes yX4_readTimes) ∈ vW9 := vW9_p6 _ (List.mem_of_getElem? (i := 21) rfl)
theorem mvW9_308 : (Cond.instanceMethod yX4_readTimes) ∈ vW9 := vW9_p6 _ (List.mem_of_getElem? (i := 20) rfl)
theorem mvW9_307 : (Cond.methodLink RX4 96 yX4_readTimes) ∈ vW9 := vW9_p6 _ (List.mem_of_getElem? (i := 19) rfl)
theorem pvW9_45 : ∀ w ∈ ([.methodLink RX4 96 yX4_readTimes, .instanceMethod yX4_readTimes, .selects RX4 yX4_readTimes yX4_readTimes, .initialized RX4] : List Cond), w ∈ vW9 := (List.forall_mem_cons.mpr ⟨mvW9_307, (List.forall_mem_cons.mpr ⟨mvW9_308, (List.forall_mem_cons.mpr ⟨mvW9_309, (List.forall_mem_cons.mpr ⟨mvW9_160, (fun _ h => absurd h List.not_mem_nil)⟩)⟩)⟩)⟩)
theorem mvW9_318 : (Cond.code yX4_readTest cX4_readTest 3 none) ∈ vW9 := vW9_p6 _ (List.mem_of_getElem? (i := 30) rfl)
theorem mvW9_317 : (Cond.selects RX4 yX4_readTest yX4_readTest) ∈ vW9 := vW9_p6 _ (List.mem_of_getElem? (i := 29) rfl)
theorem mvW9_316 : (Cond.instanceMethod yX4_readTest) ∈ vW9 := vW9_p6 _ (List.mem_of_getElem? (i := 28) rfl)
theorem mvW9_315 : (Cond.methodLink RX4 101 yX4_readTest) ∈ vW9 := vW9_p6 _ (List.mem_of_getElem? (i := 27) rfl)
theorem pvW9_46 : ∀ w ∈ ([.methodLink RX4 101 yX4_readTest, .instanceMethod yX4_readTest, .selects RX4 yX4_readTest yX4_readTest, .initialized RX4] : List Cond), w ∈ vW9 := (List.forall_mem_cons.mpr ⟨mvW9_315, (List.forall_mem_cons.mpr ⟨mvW9_316, (List.forall_mem_cons.mpr ⟨mvW9_317, (List.forall_mem_cons.mpr ⟨mvW9_160, (fun _ h => absurd h List.not_mem_nil)⟩)⟩)⟩)⟩)
theorem mvW9_334 : (Cond.code yX7_endTest cX7_endTest 1 none) ∈ vW9 := vW9_p6 _ (List.mem_of_getElem? (i := 46) rfl)
theorem mvW9_333 : (Cond.selects RX7 yX7_endTest yX7_endTest) ∈ vW9 := vW9_p6 _ (List.mem_of_getElem? (i := 45) rfl)
theorem mvW9_332 : (Cond.instanceMethod yX7_endTest) ∈ vW9 := vW9_p6 _ (List.mem_of_getElem? (i := 44) rfl)
theorem mvW9_331 : (Cond.methodLink RX4 104 yX7_endTest) ∈ vW9 := vW9_p6 _ (List.mem_of_getElem? (i := 43) rfl)
theorem pvW9_47 : ∀ w ∈ ([.methodLink RX4 104 yX7_endTest, .instanceMethod yX7_endTest, .selects RX7 yX7_endTest yX7_endTest, .initialized RX7] : List Cond), w ∈ vW9 := (List.forall_mem_cons.mpr ⟨mvW9_331, (List.forall_mem_cons.mpr ⟨mvW9_332, (List.forall_mem_cons.mpr ⟨mvW9_333, (List.forall_mem_cons.mpr ⟨mvW9_175, (fun _ h => absurd h List.not_mem_nil)⟩)⟩)⟩)⟩)
theorem mvW9_314 : (Cond.code yX7_setTimes cX7_setTimes 2 none) ∈ vW9 := vW9_p6 _ (List.mem_of_getElem? (i := 26) rfl)
theorem mvW9_313 : (Cond.selects RX7 yX7_setTimes yX7_setTimes) ∈ vW9 := vW9_p6 _ (List.mem_of_getElem? (i := 25) rfl)
theorem mvW9_312 : (Cond.instanceMethod yX7_setTimes) ∈ vW9 := vW9_p6 _ (List.mem_of_getElem? (i := 24) rfl)
theorem mvW9_311 : (Cond.methodLink RX4 107 yX7_setTimes) ∈ vW9 := vW9_p6 _ (List.mem_of_getElem? (i := 23) rfl)
theorem pvW9_48 : ∀ w ∈ ([.methodLink RX4 107 yX7_setTimes, .instanceMethod yX7_setTimes, .selects RX7 yX7_setTimes yX7_setTimes, .initialized RX7] : List Cond), w ∈ vW9 := (List.forall_mem_cons.mpr ⟨mvW9_311, (List.forall_mem_cons.mpr ⟨mvW9_312, (List.forall_mem_cons.mpr ⟨mvW9_313, (List.forall_mem_cons.mpr ⟨mvW9_175, (fun _ h => absurd h List.not_mem_nil)⟩)⟩)⟩)⟩)
theorem mvW9_326 : (Cond.code yX4_readBoth cX4_readBoth 3 none) ∈ vW9 := vW9_p6 _ (List.mem_of_getElem? (i := 38) rfl)
theorem mvW9_321 : (Cond.selects RX4 yX4_readBoth yX4_readBoth) ∈ vW9 := vW9_p6 _ (List.mem_of_getElem? (i := 33) rfl)
theorem mvW9_320 : (Cond.instanceMethod yX4_readBoth) ∈ vW9 := vW9_p6 _ (List.mem_of_getElem? (i := 32) rfl)
theorem mvW9_319 : (Cond.methodLink RX4 110 yX4_readBoth) ∈ vW9 := vW9_p6 _ (List.mem_of_getElem? (i := 31) rfl)
theorem pvW9_49 : ∀ w ∈ ([.methodLink RX4 110 yX4_readBoth, .instanceMethod yX4_readBoth, .selects RX4 yX4_readBoth yX4_readBoth, .initialized RX4] : List Cond), w ∈ vW9 := (List.forall_mem_cons.mpr ⟨mvW9_319, (List.forall_mem_cons.mpr ⟨mvW9_320, (List.forall_mem_cons.mpr ⟨mvW9_321, (List.forall_mem_cons.mpr ⟨mvW9_160, (fun _ h => absurd h List.not_mem_nil)⟩)⟩)⟩)⟩)
theorem mvW9_280 : (Cond.code yX7_emit cX7_emit 3 none) ∈ vW9 := vW9_p5 _ (List.mem_of_getElem? (i := 40) rfl)
theorem mvW9_279 : (Cond.selects RX7 yX7_emit yX7_emit) ∈ vW9 := vW9_p5 _ (List.mem_of_getElem? (i := 39) rfl)
theorem mvW9_278 : (Cond.instanceMethod yX7_emit) ∈ vW9 := vW9_p5 _ (List.mem_of_getElem? (i := 38) rfl)
theorem mvW9_277 : (Cond.methodLink RX4 116 yX7_emit) ∈ vW9 := vW9_p5 _ (List.mem_of_getElem? (i := 37) rfl)
theorem pvW9_50 : ∀ w ∈ ([.methodLink RX4 116 yX7_emit, .instanceMethod yX7_emit, .selects RX7 yX7_emit yX7_emit, .initialized RX7] : List Cond), w ∈ vW9 := (List.forall_mem_cons.mpr ⟨mvW9_277, (List.forall_mem_cons.mpr ⟨mvW9_278, (List.forall_mem_cons.mpr ⟨mvW9_279, (List.forall_mem_cons.mpr ⟨mvW9_175, (fun _ h => absurd h List.not_mem_nil)⟩)⟩)⟩)⟩)
theorem mvW9_325 : (Cond.code yX7_leapHere cX7_leapHere 3 none) ∈ vW9 := vW9_p6 _ (List.mem_of_getElem? (i := 37) rfl)
theorem mvW9_324 : (Cond.selects RX7 yX7_leapHere yX7_leapHere) ∈ vW9 := vW9_p6 _ (List.mem_of_getElem? (i := 36) rfl)
theorem mvW9_323 : (Cond.instanceMethod yX7_leapHere) ∈ vW9 := vW9_p6 _ (List.mem_of_getElem? (i := 35) rfl)
theorem mvW9_322 : (Cond.methodLink RX4 120 yX7_leapHere) ∈ vW9 := vW9_p6 _ (List.mem_of_getElem? (i := 34) rfl)
theorem pvW9_51 : ∀ w ∈ ([.methodLink RX4 120 yX7_leapHere, .instanceMethod yX7_leapHere, .selects RX7 yX7_leapHere yX7_leapHere, .initialized RX7] : List Cond), w ∈ vW9 := (List.forall_mem_cons.mpr ⟨mvW9_322, (List.forall_mem_cons.mpr ⟨mvW9_323, (List.forall_mem_cons.mpr ⟨mvW9_324, (List.forall_mem_cons.mpr ⟨mvW9_175, (fun _ h => absurd h List.not_mem_nil)⟩)⟩)⟩)⟩)
theorem mvW9_330 : (Cond.code yX4_readPlain cX4_readPlain 3 none) ∈ vW9 := vW9_p6 _ (List.mem_of_getElem? (i := 42) rfl)
theorem mvW9_329 : (Cond.selects RX4 yX4_readPlain yX4_readPlain) ∈ vW9 := vW9_p6 _ (List.mem_of_getElem? (i := 41) rfl)
theorem mvW9_328 : (Cond.instanceMethod yX4_readPlain) ∈ vW9 := vW9_p6 _ (List.mem_of_getElem? (i := 40) rfl)
theorem mvW9_327 : (Cond.methodLink RX4 123 yX4_readPlain) ∈ vW9 := vW9_p6 _ (List.mem_of_getElem? (i := 39) rfl)
theorem pvW9_52 : ∀ w ∈ ([.methodLink RX4 123 yX4_readPlain, .instanceMethod yX4_readPlain, .selects RX4 yX4_readPlain yX4_readPlain, .initialized RX4] : List Cond), w ∈ vW9 := (List.forall_mem_cons.mpr ⟨mvW9_327, (List.forall_mem_cons.mpr ⟨mvW9_328, (List.forall_mem_cons.mpr ⟨mvW9_329, (List.forall_mem_cons.mpr ⟨mvW9_160, (fun _ h => absurd h List.not_mem_nil)⟩)⟩)⟩)⟩)
theorem mvW9_276 : (Cond.code yX4_isSign cX4_isSign 2 (some .boolean)) ∈ vW9 := vW9_p5 _ (List.mem_of_getElem? (i := 36) rfl)
theorem mvW9_275 : (Cond.selects RX4 yX4_isSign yX4_isSign) ∈ vW9 := vW9_p5 _ (List.mem_of_getElem? (i := 35) rfl)
theorem mvW9_274 : (Cond.instanceMethod yX4_isSign) ∈ vW9 := vW9_p5 _ (List.mem_of_getElem? (i := 34) rfl)
theorem mvW9_273 : (Cond.methodLink RX4 130 yX4_isSign) ∈ vW9 := vW9_p5 _ (List.mem_of_getElem? (i := 33) rfl)
theorem pvW9_53 : ∀ w ∈ ([.methodLink RX4 130 yX4_isSign, .instanceMethod yX4_isSign, .selects RX4 yX4_isSign yX4_isSign, .initialized RX4] : List Cond), w ∈ vW9 := (List.forall_mem_cons.mpr ⟨mvW9_273, (List.forall_mem_cons.mpr ⟨mvW9_274, (List.forall_mem_cons.mpr ⟨mvW9_275, (List.forall_mem_cons.mpr ⟨mvW9_160, (fun _ h => absurd h List.not_mem_nil)⟩)⟩)⟩)⟩)
theorem mvW9_286 : (Cond.code yX4_openBracket cX4_openBracket 1 (some .boolean)) ∈ vW9 := vW9_p5 _ (List.mem_of_getElem? (i := 46) rfl)
theorem mvW9_285 : (Cond.selects RX4 yX4_openBracket yX4_openBracket) ∈ vW9 := vW9_p5 _ (List.mem_of_getElem? (i := 45) rfl)
theorem mvW9_284 : (Cond.instanceMethod yX4_openBracket) ∈ vW9 := vW9_p5 _ (List.mem_of_getElem? (i := 44) rfl)
theorem mvW9_283 : (Cond.methodLink RX4 134 yX4_openBracket) ∈ vW9 := vW9_p5 _ (List.mem_of_getElem? (i := 43) rfl)
theorem pvW9_54 : ∀ w ∈ ([.methodLink RX4 134 yX4_openBracket, .instanceMethod yX4_openBracket, .selects RX4 yX4_openBracket yX4_openBracket, .initialized RX4] : List Cond), w ∈ vW9 := (List.forall_mem_cons.mpr ⟨mvW9_283, (List.forall_mem_cons.mpr ⟨mvW9_284, (List.forall_mem_cons.mpr ⟨mvW9_285, (List.forall_mem_cons.mpr ⟨mvW9_160, (fun _ h => absurd h List.not_mem_nil)⟩)⟩)⟩)⟩)
theorem mvW9_272 : (Cond.code yX4_signIn cX4_signIn 4 (some .int)) ∈ vW9 := vW9_p5 _ (List.mem_of_getElem? (i := 32) rfl)
theorem mvW9_271 : (Cond.selects RX4 yX4_signIn yX4_signIn) ∈ vW9 := vW9_p5 _ (List.mem_of_getElem? (i := 31) rfl)
theorem mvW9_270 : (Cond.instanceMethod yX4_signIn) ∈ vW9 := vW9_p5 _ (List.mem_of_getElem? (i := 30) rfl)
theorem mvW9_269 : (Cond.methodLink RX4 140 yX4_signIn) ∈ vW9 := vW9_p5 _ (List.mem_of_getElem? (i := 29) rfl)
theorem pvW9_55 : ∀ w ∈ ([.methodLink RX4 140 yX4_signIn, .instanceMethod yX4_signIn, .selects RX4 yX4_signIn yX4_signIn, .initialized RX4] : List Cond), w ∈ vW9 := (List.forall_mem_cons.mpr ⟨mvW9_269, (List.forall_mem_cons.mpr ⟨mvW9_270, (List.forall_mem_cons.mpr ⟨mvW9_271, (List.forall_mem_cons.mpr ⟨mvW9_160, (fun _ h => absurd h List.not_mem_nil)⟩)⟩)⟩)⟩)
theorem mvW9_295 : (Cond.code yX4_readTerm cX4_readTerm 3 none) ∈ vW9 := vW9_p6 _ (List.mem_of_getElem? (i := 7) rfl)
theorem mvW9_268 : (Cond.selects RX4 yX4_readTerm yX4_readTerm) ∈ vW9 := vW9_p5 _ (List.mem_of_getElem? (i := 28) rfl)
theorem mvW9_267 : (Cond.instanceMethod yX4_readTerm) ∈ vW9 := vW9_p5 _ (List.mem_of_getElem? (i := 27) rfl)
theorem mvW9_266 : (Cond.methodLink RX4 144 yX4_readTerm) ∈ vW9 := vW9_p5 _ (List.mem_of_getElem? (i := 26) rfl)
theorem pvW9_56 : ∀ w ∈ ([.methodLink RX4 144 yX4_readTerm, .instanceMethod yX4_readTerm, .selects RX4 yX4_readTerm yX4_readTerm, .initialized RX4] : List Cond), w ∈ vW9 := (List.forall_mem_cons.mpr ⟨mvW9_266, (List.forall_mem_cons.mpr ⟨mvW9_267, (List.forall_mem_cons.mpr ⟨mvW9_268, (List.forall_mem_cons.mpr ⟨mvW9_160, (fun _ h => absurd h List.not_mem_nil)⟩)⟩)⟩)⟩)
theorem mvW9_282 : (Cond.code yX4_readPart cX4_readPart 4 none) ∈ vW9 := vW9_p5 _ (List.mem_of_getElem? (i := 42) rfl)
theorem mvW9_298 : (Cond.selects RX4 yX4_readPart yX4_readPart) ∈ vW9 := vW9_p6 _ (List.mem_of_getElem? (i := 10) rfl)
theorem mvW9_297 : (Cond.instanceMethod yX4_readPart) ∈ vW9 := vW9_p6 _ (List.mem_of_getElem? (i := 9) rfl)
theorem mvW9_296 : (Cond.methodLink RX4 149 yX4_readPart) ∈ vW9 := vW9_p6 _ (List.mem_of_getElem? (i := 8) rfl)
theorem pvW9_57 : ∀ w ∈ ([.methodLink RX4 149 yX4_readPart, .instanceMethod yX4_readPart, .selects RX4 yX4_readPart yX4_readPart, .initialized RX4] : List Cond), w ∈ vW9 := (List.forall_mem_cons.mpr ⟨mvW9_296, (List.forall_mem_cons.mpr ⟨mvW9_297, (List.forall_mem_cons.mpr ⟨mvW9_298, (List.forall_mem_cons.mpr ⟨mvW9_160, (fun _ h => absurd h List.not_mem_nil)⟩)⟩)⟩)⟩)
theorem mvW9_294 : (Cond.code yX4_readPlace cX4_readPlace 2 none) ∈ vW9 := vW9_p6 _ (List.mem_of_getElem? (i := 6) rfl)
theorem mvW9_293 : (Cond.selects RX4 yX4_readPlace yX4_readPlace) ∈ vW9 := vW9_p6 _ (List.mem_of_getElem? (i := 5) rfl)
theorem mvW9_292 : (Cond.instanceMethod yX4_readPlace) ∈ vW9 := vW9_p6 _ (List.mem_of_getElem? (i := 4) rfl)
theorem mvW9_291 : (Cond.methodLink RX4 160 yX4_readPlace) ∈ vW9 := vW9_p6 _ (List.mem_of_getElem? (i := 3) rfl)
theorem pvW9_58 : ∀ w ∈ ([.methodLink RX4 160 yX4_readPlace, .instanceMethod yX4_readPlace, .selects RX4 yX4_readPlace yX4_readPlace, .initialized RX4] : List Cond), w ∈ vW9 := (List.forall_mem_cons.mpr ⟨mvW9_291, (List.forall_mem_cons.mpr ⟨mvW9_292, (List.forall_mem_cons.mpr ⟨mvW9_293, (List.forall_mem_cons.mpr ⟨mvW9_160, (fun _ h => absurd h List.not_mem_nil)⟩)⟩)⟩)⟩)
theorem mvW9_187 : (Cond.code yX4_tokenOf cX4_tokenOf 1 (some .int)) ∈ vW9 := vW9_p3 _ (List.mem_of_getElem? (i := 43) rfl)
theorem mvW9_186 : (Cond.static yX4_tokenOf) ∈ vW9 := vW9_p3 _ (List.mem_of_getElem? (i := 42) rfl)
theorem mvW9_185 : (Cond.methodLink RX4 163 yX4_tokenOf) ∈ vW9 := vW9_p3 _ (List.mem_of_getElem? (i := 41) rfl)
theorem pvW9_59 : ∀ w ∈ ([.methodLink RX4 163 yX4_tokenOf, .static yX4_tokenOf, .initialized yX4_tokenOf.cls] : List Cond), w ∈ vW9 := (List.forall_mem_cons.mpr ⟨mvW9_185, (List.forall_mem_cons.mpr ⟨mvW9_186, (List.forall_mem_cons.mpr ⟨mvW9_160, (fun _ h => absurd h List.not_mem_nil)⟩)⟩)⟩)
theorem mvW9_211 : (Cond.fieldLink RJ0 15 "java/lang/String" "coder" "B") ∈ vW9 := vW9_p4 _ (List.mem_of_getElem? (i := 19) rfl)
theorem mvW9_210 : (Cond.fieldLink RJ0 38 "java/lang/String" "COMPACT_STRINGS" "Z") ∈ vW9 := vW9_p4 _ (List.mem_of_getElem? (i := 18) rfl)
theorem mvW9_209 : (Cond.code yJ0_coder_7d493 cJ0_coder_7d493 1 (some .byte)) ∈ vW9 := vW9_p4 _ (List.mem_of_getElem? (i := 17) rfl)
theorem mvW9_203 : (Cond.initialized RJ0) ∈ vW9 := vW9_p4 _ (List.mem_of_getElem? (i := 11) rfl)
theorem mvW9_208 : (Cond.selects RJ0 yJ0_coder_7d493 yJ0_coder_7d493) ∈ vW9 := vW9_p4 _ (List.mem_of_getElem? (i := 16) rfl)
theorem mvW9_207 : (Cond.instanceMethod yJ0_coder_7d493) ∈ vW9 := vW9_p4 _ (List.mem_of_getElem? (i := 15) rfl)
theorem mvW9_206 : (Cond.methodLink RJ0 335 yJ0_coder_7d493) ∈ vW9 := vW9_p4 _ (List.mem_of_getElem? (i := 14) rfl)
theorem mvW9_205 : (Cond.fieldLink RJ0 9 "java/lang/String" "value" "[B") ∈ vW9 := vW9_p4 _ (List.mem_of_getElem? (i := 13) rfl)
theorem mvW9_204 : (Cond.code yJ0_length_8abf5 cJ0_length_8abf5 1 (some .int)) ∈ vW9 := vW9_p4 _ (List.mem_of_getElem? (i := 12) rfl)
theorem mvW9_202 : (Cond.selects RJ0 yJ0_length_8abf5 yJ0_length_8abf5) ∈ vW9 := vW9_p4 _ (List.mem_of_getElem? (i := 10) rfl)
theorem mvW9_201 : (Cond.instanceMethod yJ0_length_8abf5) ∈ vW9 := vW9_p4 _ (List.mem_of_getElem? (i := 9) rfl)
theorem mvW9_200 : (Cond.methodLink RX4 167 yJ0_length_8abf5) ∈ vW9 := vW9_p4 _ (List.mem_of_getElem? (i := 8) rfl)
theorem pvW9_60 : ∀ w ∈ ([.methodLink RX4 167 yJ0_length_8abf5, .instanceMethod yJ0_length_8abf5, .selects RJ0 yJ0_length_8abf5 yJ0_length_8abf5, .initialized RJ0] : List Cond), w ∈ vW9 := (List.forall_mem_cons.mpr ⟨mvW9_200, (List.forall_mem_cons.mpr ⟨mvW9_201, (List.forall_mem_cons.mpr ⟨mvW9_202, (List.forall_mem_cons.mpr ⟨mvW9_203, (fun _ h => absurd h List.not_mem_nil)⟩)⟩)⟩)⟩)
theorem mvW9_248 : (Cond.fieldLink RJ2 63 "java/lang/StringUTF16" "LO_BYTE_SHIFT" "I") ∈ vW9 := vW9_p5 _ (List.mem_of_getElem? (i := 8) rfl)
theorem mvW9_247 : (Cond.fieldLink RJ2 59 "java/lang/StringUTF16" "HI_BYTE_SHIFT" "I") ∈ vW9 := vW9_p5 _ (List.mem_of_getElem? (i := 7) rfl)
theorem mvW9_246 : (Cond.fieldLink RJ2 44 "java/lang/StringUTF16" "$assertionsDisabled" "Z") ∈ vW9 := vW9_p5 _ (List.mem_of_getElem? (i := 6) rfl)
theorem mvW9_245 : (Cond.code yJ2_getChar_3b067 cJ2_getChar_3b067 2 (some .char)) ∈ vW9 := vW9_p5 _ (List.mem_of_getElem? (i := 5) rfl)
theorem mvW9_244 : (Cond.static yJ2_getChar_3b067) ∈ vW9 := vW9_p5 _ (List.mem_of_getElem? (i := 4) rfl)
theorem mvW9_243 : (Cond.methodLink RJ2 71 yJ2_getChar_3b067) ∈ vW9 := vW9_p5 _ (List.mem_of_getElem? (i := 3) rfl)
theorem mvW9_242 : (Cond.methodLink RJ2 414 yJ0_checkIndex_df160) ∈ vW9 := vW9_p5 _ (List.mem_of_getElem? (i := 2) rfl)
theorem mvW9_241 : (Cond.code yJ2_length_9d52b cJ2_length_9d52b 1 (some .int)) ∈ vW9 := vW9_p5 _ (List.mem_of_getElem? (i := 1) rfl)
theorem mvW9_240 : (Cond.static yJ2_length_9d52b) ∈ vW9 := vW9_p5 _ (List.mem_of_getElem? (i := 0) rfl)
theorem mvW9_239 : (Cond.methodLink RJ2 48 yJ2_length_9d52b) ∈ vW9 := vW9_p4 _ (List.mem_of_getElem? (i := 47) rfl)
theorem mvW9_238 : (Cond.code yJ2_checkIndex_2214a cJ2_checkIndex_2214a 2 none) ∈ vW9 := vW9_p4 _ (List.mem_of_getElem? (i := 46) rfl)
theorem mvW9_237 : (Cond.static yJ2_checkIndex_2214a) ∈ vW9 := vW9_p4 _ (List.mem_of_getElem? (i := 45) rfl)
theorem mvW9_236 : (Cond.methodLink RJ2 67 yJ2_checkIndex_2214a) ∈ vW9 := vW9_p4 _ (List.mem_of_getElem? (i := 44) rfl)
theorem mvW9_235 : (Cond.code yJ2_charAt_3b067 cJ2_charAt_3b067 2 (some .char)) ∈ vW9 := vW9_p4 _ (List.mem_of_getElem? (i := 43) rfl)
theorem mvW9_234 : (Cond.initialized RJ2) ∈ vW9 := vW9_p4 _ (List.mem_of_getElem? (i := 42) rfl)
theorem mvW9_233 : (Cond.static yJ2_charAt_3b067) ∈ vW9 := vW9_p4 _ (List.mem_of_getElem? (i := 41) rfl)
theorem mvW9_232 : (Cond.methodLink RJ0 498 yJ2_charAt_3b067) ∈ vW9 := vW9_p4 _ (List.mem_of_getElem? (i := 40) rfl)
theorem mvW9_231 : (Cond.code yJ3_checkIndex_8e157 cJ3_checkIndex_8e157 3 (some .int)) ∈ vW9 := vW9_p4 _ (List.mem_of_getElem? (i := 39) rfl)
theorem mvW9_230 : (Cond.initialized RJ3) ∈ vW9 := vW9_p4 _ (List.mem_of_getElem? (i := 38) rfl)
theorem mvW9_229 : (Cond.static yJ3_checkIndex_8e157) ∈ vW9 := vW9_p4 _ (List.mem_of_getElem? (i := 37) rfl)
theorem mvW9_228 : (Cond.methodLink RJ0 1059 yJ3_checkIndex_8e157) ∈ vW9 := vW9_p4 _ (List.mem_of_getElem? (i := 36) rfl)
theorem mvW9_227 : (Cond.fieldLink RJ0 1053 "jdk/internal/util/Preconditions" "SIOOBE_FORMATTER" "Ljava/util/function/BiFunction;") ∈ vW9 := vW9_p4 _ (List.mem_of_getElem? (i := 35) rfl)
theorem mvW9_226 : (Cond.code yJ0_checkIndex_df160 cJ0_checkIndex_df160 2 none) ∈ vW9 := vW9_p4 _ (List.mem_of_getElem? (i := 34) rfl)
theorem mvW9_225 : (Cond.static yJ0_checkIndex_df160) ∈ vW9 := vW9_p4 _ (List.mem_of_getElem? (i := 33) rfl)
theorem mvW9_224 : (Cond.methodLink RJ1 9 yJ0_checkIndex_df160) ∈ vW9 := vW9_p4 _ (List.mem_of_getElem? (i := 32) rfl)
theorem mvW9_223 : (Cond.code yJ1_charAt_3b067 cJ1_charAt_3b067 2 (some .char)) ∈ vW9 := vW9_p4 _ (List.mem_of_getElem? (i := 31) rfl)
theorem mvW9_222 : (Cond.initialized RJ1) ∈ vW9 := vW9_p4 _ (List.mem_of_getElem? (i := 30) rfl)
theorem mvW9_221 : (Cond.static yJ1_charAt_3b067) ∈ vW9 := vW9_p4 _ (List.mem_of_getElem? (i := 29) rfl)
theorem mvW9_220 : (Cond.methodLink RJ0 495 yJ1_charAt_3b067) ∈ vW9 := vW9_p4 _ (List.mem_of_getElem? (i := 28) rfl)
theorem mvW9_219 : (Cond.code yJ0_isLatin1_aae02 cJ0_isLatin1_aae02 1 (some .boolean)) ∈ vW9 := vW9_p4 _ (List.mem_of_getElem? (i := 27) rfl)
theorem mvW9_218 : (Cond.selects RJ0 yJ0_isLatin1_aae02 yJ0_isLatin1_aae02) ∈ vW9 := vW9_p4 _ (List.mem_of_getElem? (i := 26) rfl)
theorem mvW9_217 : (Cond.instanceMethod yJ0_isLatin1_aae02) ∈ vW9 := vW9_p4 _ (List.mem_of_getElem? (i := 25) rfl)
theorem mvW9_216 : (Cond.methodLink RJ0 492 yJ0_isLatin1_aae02) ∈ vW9 := vW9_p4 _ (List.mem_of_getElem? (i := 24) rfl)
theorem mvW9_215 : (Cond.code yJ0_charAt_5068e cJ0_charAt_5068e 2 (some .char)) ∈ vW9 := vW9_p4 _ (List.mem_of_getElem? (i := 23) rfl)
theorem mvW9_214 : (Cond.selects RJ0 yJ0_charAt_5068e yJ0_charAt_5068e) ∈ vW9 := vW9_p4 _ (List.mem_of_getElem? (i := 22) rfl)
theorem mvW9_213 : (Cond.instanceMethod yJ0_charAt_5068e) ∈ vW9 := vW9_p4 _ (List.mem_of_getElem? (i := 21) rfl)
theorem mvW9_212 : (Cond.methodLink RX4 172 yJ0_charAt_5068e) ∈ vW9 := vW9_p4 _ (List.mem_of_getElem? (i := 20) rfl)
theorem pvW9_61 : ∀ w ∈ ([.methodLink RX4 172 yJ0_charAt_5068e, .instanceMethod yJ0_charAt_5068e, .selects RJ0 yJ0_charAt_5068e yJ0_charAt_5068e, .initialized RJ0] : List Cond), w ∈ vW9 := (List.forall_mem_cons.mpr ⟨mvW9_212, (List.forall_mem_cons.mpr ⟨mvW9_213, (List.forall_mem_cons.mpr ⟨mvW9_214, (List.forall_mem_cons.mpr ⟨mvW9_203, (fun _ h => absurd h List.not_mem_nil)⟩)⟩)⟩)⟩)
theorem mvW9_252 : (Cond.code yX4_isSame cX4_isSame 5 (some .boolean)) ∈ vW9 := vW9_p5 _ (List.mem_of_getElem? (i := 12) rfl)
theorem mvW9_251 : (Cond.selects RX4 yX4_isSame yX4_isSame) ∈ vW9 := vW9_p5 _ (List.mem_of_getElem? (i := 11) rfl)
theorem mvW9_250 : (Cond.instanceMethod yX4_isSame) ∈ vW9 := vW9_p5 _ (List.mem_of_getElem? (i := 10) rfl)
theorem mvW9_249 : (Cond.methodLink RX4 176 yX4_isSame) ∈ vW9 := vW9_p5 _ (List.mem_of_getElem? (i := 9) rfl)
theorem pvW9_62 : ∀ w ∈ ([.methodLink RX4 176 yX4_isSame, .instanceMethod yX4_isSame, .selects RX4 yX4_isSame yX4_isSame, .initialized RX4] : List Cond), w ∈ vW9 := (List.forall_mem_cons.mpr ⟨mvW9_249, (List.forall_mem_cons.mpr ⟨mvW9_250, (List.forall_mem_cons.mpr ⟨mvW9_251, (List.forall_mem_cons.mpr ⟨mvW9_160, (fun _ h => absurd h List.not_mem_nil)⟩)⟩)⟩)⟩)
theorem mvW9_366 : (Cond.code yX8_pack cX8_pack 4 (some .long)) ∈ vW9 := vW9_p7 _ (List.mem_of_getElem? (i := 30) rfl)
theorem mvW9_365 : (Cond.selects RX8 yX8_pack yX8_pack) ∈ vW9 := vW9_p7 _ (List.mem_of_getElem? (i := 29) rfl)
theorem mvW9_364 : (Cond.instanceMethod yX8_pack) ∈ vW9 := vW9_p7 _ (List.mem_of_getElem? (i := 28) rfl)
theorem mvW9_363 : (Cond.methodLink RX5 26 yX8_pack) ∈ vW9 := vW9_p7 _ (List.mem_of_getElem? (i := 27) rfl)
theorem pvW9_63 : ∀ w ∈ ([.methodLink RX5 26 yX8_pack, .instanceMethod yX8_pack, .selects RX8 yX8_pack yX8_pack, .initialized RX8] : List Cond), w ∈ vW9 := (List.forall_mem_cons.mpr ⟨mvW9_363, (List.forall_mem_cons.mpr ⟨mvW9_364, (List.forall_mem_cons.mpr ⟨mvW9_365, (List.forall_mem_cons.mpr ⟨mvW9_18, (fun _ h => absurd h List.not_mem_nil)⟩)⟩)⟩)⟩)
theorem mvW9_372 : (Cond.code yX0_mark cX0_mark 1 none) ∈ vW9 := vW9_p7 _ (List.mem_of_getElem? (i := 36) rfl)
theorem mvW9_30 : (Cond.initialized RX0) ∈ vW9 := vW9_p0 _ (List.mem_of_getElem? (i := 30) rfl)
theorem mvW9_371 : (Cond.selects RX0 yX0_mark yX0_mark) ∈ vW9 := vW9_p7 _ (List.mem_of_getElem? (i := 35) rfl)
theorem mvW9_370 : (Cond.instanceMethod yX0_mark) ∈ vW9 := vW9_p7 _ (List.mem_of_getElem? (i := 34) rfl)
theorem mvW9_369 : (Cond.methodLink RX5 32 yX0_mark) ∈ vW9 := vW9_p7 _ (List.mem_of_getElem? (i := 33) rfl)
theorem pvW9_64 : ∀ w ∈ ([.methodLink RX5 32 yX0_mark, .instanceMethod yX0_mark, .selects RX0 yX0_mark yX0_mark, .initialized RX0] : List Cond), w ∈ vW9 := (List.forall_mem_cons.mpr ⟨mvW9_369, (List.forall_mem_cons.mpr ⟨mvW9_370, (List.forall_mem_cons.mpr ⟨mvW9_371, (List.forall_mem_cons.mpr ⟨mvW9_30, (fun _ h => absurd h List.not_mem_nil)⟩)⟩)⟩)⟩)
theorem mvW9_382 : (Cond.code yX5_setWords cX5_setWords 3 none) ∈ vW9 := vW9_p7 _ (List.mem_of_getElem? (i := 46) rfl)
theorem mvW9_357 : (Cond.initialized RX5) ∈ vW9 := vW9_p7 _ (List.mem_of_getElem? (i := 21) rfl)
theorem mvW9_381 : (Cond.selects RX5 yX5_setWords yX5_setWords) ∈ vW9 := vW9_p7 _ (List.mem_of_getElem? (i := 45) rfl)
theorem mvW9_380 : (Cond.instanceMethod yX5_setWords) ∈ vW9 := vW9_p7 _ (List.mem_of_getElem? (i := 44) rfl)
theorem mvW9_379 : (Cond.methodLink RX5 45 yX5_setWords) ∈ vW9 := vW9_p7 _ (List.mem_of_getElem? (i := 43) rfl)
theorem pvW9_65 : ∀ w ∈ ([.methodLink RX5 45 yX5_setWords, .instanceMethod yX5_setWords, .selects RX5 yX5_setWords yX5_setWords, .initialized RX5] : List Cond), w ∈ vW9 := (List.forall_mem_cons.mpr ⟨mvW9_379, (List.forall_mem_cons.mpr ⟨mvW9_380, (List.forall_mem_cons.mpr ⟨mvW9_381, (List.forall_mem_cons.mpr ⟨mvW9_357, (fun _ h => absurd h List.not_mem_nil)⟩)⟩)⟩)⟩)
theorem mvW9_394 : (Cond.methodLink RX5 55 yX2_valueOf) ∈ vW9 := vW9_p8 _ (List.mem_of_getElem? (i := 10) rfl)
theorem pvW9_66 : ∀ w ∈ ([.methodLink RX5 55 yX2_valueOf, .instanceMethod yX2_valueOf, .selects RX2 yX2_valueOf yX2_valueOf, .initialized RX2] : List Cond), w ∈ vW9 := (List.forall_mem_cons.mpr ⟨mvW9_394, (List.forall_mem_cons.mpr ⟨mvW9_79, (List.forall_mem_cons.mpr ⟨mvW9_80, (List.forall_mem_cons.mpr ⟨mvW9_81, (fun _ h => absurd h List.not_mem_nil)⟩)⟩)⟩)⟩)
theorem mvW9_398 : (Cond.code yX8_act cX8_act 4 (some .int)) ∈ vW9 := vW9_p8 _ (List.mem_of_getElem? (i := 14) rfl)
theorem mvW9_397 : (Cond.selects RX8 yX8_act yX8_act) ∈ vW9 := vW9_p8 _ (List.mem_of_getElem? (i := 13) rfl)
theorem mvW9_396 : (Cond.instanceMethod yX8_act) ∈ vW9 := vW9_p8 _ (List.mem_of_getElem? (i := 12) rfl)
theorem mvW9_395 : (Cond.methodLink RX5 71 yX8_act) ∈ vW9 := vW9_p8 _ (List.mem_of_getElem? (i := 11) rfl)
theorem pvW9_67 : ∀ w ∈ ([.methodLink RX5 71 yX8_act, .instanceMethod yX8_act, .selects RX8 yX8_act yX8_act, .initialized RX8] : List Cond), w ∈ vW9 := (List.forall_mem_cons.mpr ⟨mvW9_395, (List.forall_mem_cons.mpr ⟨mvW9_396, (List.forall_mem_cons.mpr ⟨mvW9_397, (List.forall_mem_cons.mpr ⟨mvW9_18, (fun _ h => absurd h List.not_mem_nil)⟩)⟩)⟩)⟩)
theorem mvW9_432 : (Cond.code yX8_unpack cX8_unpack 6 none) ∈ vW9 := vW9_p9 _ (List.mem_of_getElem? (i := 0) rfl)
theorem mvW9_431 : (Cond.selects RX8 yX8_unpack yX8_unpack) ∈ vW9 := vW9_p8 _ (List.mem_of_getElem? (i := 47) rfl)
theorem mvW9_430 : (Cond.instanceMethod yX8_unpack) ∈ vW9 := vW9_p8 _ (List.mem_of_getElem? (i := 46) rfl)
theorem mvW9_429 : (Cond.methodLink RX5 75 yX8_unpack) ∈ vW9 := vW9_p8 _ (List.mem_of_getElem? (i := 45) rfl)
theorem pvW9_68 : ∀ w ∈ ([.methodLink RX5 75 yX8_unpack, .instanceMethod yX8_unpack, .selects RX8 yX8_unpack yX8_unpack, .initialized RX8] : List Cond), w ∈ vW9 := (List.forall_mem_cons.mpr ⟨mvW9_429, (List.forall_mem_cons.mpr ⟨mvW9_430, (List.forall_mem_cons.mpr ⟨mvW9_431, (List.forall_mem_cons.mpr ⟨mvW9_18, (fun _ h => absurd h List.not_mem_nil)⟩)⟩)⟩)⟩)
theorem mvW9_439 : (Cond.code yX0_backToMark cX0_backToMark 1 none) ∈ vW9 := vW9_p9 _ (List.mem_of_getElem? (i := 7) rfl)
theorem mvW9_438 : (Cond.selects RX0 yX0_backToMark yX0_backToMark) ∈ vW9 := vW9_p9 _ (List.mem_of_getElem? (i := 6) rfl)
theorem mvW9_437 : (Cond.instanceMethod yX0_backToMark) ∈ vW9 := vW9_p9 _ (List.mem_of_getElem? (i := 5) rfl)
theorem mvW9_436 : (Cond.methodLink RX5 79 yX0_backToMark) ∈ vW9 := vW9_p9 _ (List.mem_of_getElem? (i := 4) rfl)
theorem pvW9_69 : ∀ w ∈ ([.methodLink RX5 79 yX0_backToMark, .instanceMethod yX0_backToMark, .selects RX0 yX0_backToMark yX0_backToMark, .initialized RX0] : List Cond), w ∈ vW9 := (List.forall_mem_cons.mpr ⟨mvW9_436, (List.forall_mem_cons.mpr ⟨mvW9_437, (List.forall_mem_cons.mpr ⟨mvW9_438, (List.forall_mem_cons.mpr ⟨mvW9_30, (fun _ h => absurd h List.not_mem_nil)⟩)⟩)⟩)⟩)
theorem mvW9_443 : (Cond.code yX0_keep cX0_keep 4 none) ∈ vW9 := vW9_p9 _ (List.mem_of_getElem? (i := 11) rfl)
theorem mvW9_442 : (Cond.selects RX0 yX0_keep yX0_keep) ∈ vW9 := vW9_p9 _ (List.mem_of_getElem? (i := 10) rfl)
theorem mvW9_441 : (Cond.instanceMethod yX0_keep) ∈ vW9 := vW9_p9 _ (List.mem_of_getElem? (i := 9) rfl)
theorem mvW9_440 : (Cond.methodLink RX5 82 yX0_keep) ∈ vW9 := vW9_p9 _ (List.mem_of_getElem? (i := 8) rfl)
theorem pvW9_70 : ∀ w ∈ ([.methodLink RX5 82 yX0_keep, .instanceMethod yX0_keep, .selects RX0 yX0_keep yX0_keep, .initialized RX0] : List Cond), w ∈ vW9 := (List.forall_mem_cons.mpr ⟨mvW9_440, (List.forall_mem_cons.mpr ⟨mvW9_441, (List.forall_mem_cons.mpr ⟨mvW9_442, (List.forall_mem_cons.mpr ⟨mvW9_30, (fun _ h => absurd h List.not_mem_nil)⟩)⟩)⟩)⟩)
theorem mvW9_386 : (Cond.code yX8_gapCount cX8_gapCount 3 (some .int)) ∈ vW9 := vW9_p8 _ (List.mem_of_getElem? (i := 2) rfl)
theorem mvW9_385 : (Cond.selects RX8 yX8_gapCount yX8_gapCount) ∈ vW9 := vW9_p8 _ (List.mem_of_getElem? (i := 1) rfl)
theorem mvW9_384 : (Cond.instanceMethod yX8_gapCount) ∈ vW9 := vW9_p8 _ (List.mem_of_getElem? (i := 0) rfl)
theorem mvW9_383 : (Cond.methodLink RX5 92 yX8_gapCount) ∈ vW9 := vW9_p7 _ (List.mem_of_getElem? (i := 47) rfl)
theorem pvW9_71 : ∀ w ∈ ([.methodLink RX5 92 yX8_gapCount, .instanceMethod yX8_gapCount, .selects RX8 yX8_gapCount yX8_gapCount, .initialized RX8] : List Cond), w ∈ vW9 := (List.forall_mem_cons.mpr ⟨mvW9_383, (List.forall_mem_cons.mpr ⟨mvW9_384, (List.forall_mem_cons.mpr ⟨mvW9_385, (List.forall_mem_cons.mpr ⟨mvW9_18, (fun _ h => absurd h List.not_mem_nil)⟩)⟩)⟩)⟩)
theorem mvW9_393 : (Cond.methodLink RX5 96 yX8_tell) ∈ vW9 := vW9_p8 _ (List.mem_of_getElem? (i := 9) rfl)
theorem pvW9_72 : ∀ w ∈ ([.methodLink RX5 96 yX8_tell, .instanceMethod yX8_tell, .selects RX8 yX8_tell yX8_tell, .initialized RX8] : List Cond), w ∈ vW9 := (List.forall_mem_cons.mpr ⟨mvW9_393, (List.forall_mem_cons.mpr ⟨mvW9_99, (List.forall_mem_cons.mpr ⟨mvW9_100, (List.forall_mem_cons.mpr ⟨mvW9_18, (fun _ h => absurd h List.not_mem_nil)⟩)⟩)⟩)⟩)
theorem mvW9_658 : (Cond.methodLink RX6 50 yX8_pack) ∈ vW9 := vW9_p13 _ (List.mem_of_getElem? (i := 34) rfl)
theorem pvW9_73 : ∀ w ∈ ([.methodLink RX6 50 yX8_pack, .instanceMethod yX8_pack, .selects RX8 yX8_pack yX8_pack, .initialized RX8] : List Cond), w ∈ vW9 := (List.forall_mem_cons.mpr ⟨mvW9_658, (List.forall_mem_cons.mpr ⟨mvW9_364, (List.forall_mem_cons.mpr ⟨mvW9_365, (List.forall_mem_cons.mpr ⟨mvW9_18, (fun _ h => absurd h List.not_mem_nil)⟩)⟩)⟩)⟩)
theorem mvW9_659 : (Cond.methodLink RX6 54 yX8_unpack) ∈ vW9 := vW9_p13 _ (List.mem_of_getElem? (i := 35) rfl)
theorem pvW9_74 : ∀ w ∈ ([.methodLink RX6 54 yX8_unpack, .instanceMethod yX8_unpack, .selects RX8 yX8_unpack yX8_unpack, .initialized RX8] : List Cond), w ∈ vW9 := (List.forall_mem_cons.mpr ⟨mvW9_659, (List.forall_mem_cons.mpr ⟨mvW9_430, (List.forall_mem_cons.mpr ⟨mvW9_431, (List.forall_mem_cons.mpr ⟨mvW9_18, (fun _ h => absurd h List.not_mem_nil)⟩)⟩)⟩)⟩)
theorem mvW9_55 : (Cond.code yX6_isLaw cX6_isLaw 2 (some .boolean)) ∈ vW9 := vW9_p1 _ (List.mem_of_getElem? (i := 7) rfl)
theorem mvW9_49 : (Cond.initialized RX6) ∈ vW9 := vW9_p1 _ (List.mem_of_getElem? (i := 1) rfl)
theorem mvW9_54 : (Cond.selects RX6 yX6_isLaw yX6_isLaw) ∈ vW9 := vW9_p1 _ (List.mem_of_getElem? (i := 6) rfl)
theorem mvW9_53 : (Cond.instanceMethod yX6_isLaw) ∈ vW9 := vW9_p1 _ (List.mem_of_getElem? (i := 5) rfl)
theorem mvW9_52 : (Cond.methodLink RX6 61 yX6_isLaw) ∈ vW9 := vW9_p1 _ (List.mem_of_getElem? (i := 4) rfl)
theorem pvW9_75 : ∀ w ∈ ([.methodLink RX6 61 yX6_isLaw, .instanceMethod yX6_isLaw, .selects RX6 yX6_isLaw yX6_isLaw, .initialized RX6] : List Cond), w ∈ vW9 := (List.forall_mem_cons.mpr ⟨mvW9_52, (List.forall_mem_cons.mpr ⟨mvW9_53, (List.forall_mem_cons.mpr ⟨mvW9_54, (List.forall_mem_cons.mpr ⟨mvW9_49, (fun _ h => absurd h List.not_mem_nil)⟩)⟩)⟩)⟩)
theorem mvW9_623 : (Cond.code yX8_rankBehindTurn cX8_rankBehindTurn 4 (some .int)) ∈ vW9 := vW9_p12 _ (List.mem_of_getElem? (i := 47) rfl)
theorem mvW9_622 : (Cond.selects RX8 yX8_rankBehindTurn yX8_rankBehindTurn) ∈ vW9 := vW9_p12 _ (List.mem_of_getElem? (i := 46) rfl)
theorem mvW9_621 : (Cond.instanceMethod yX8_rankBehindTurn) ∈ vW9 := vW9_p12 _ (List.mem_of_getElem? (i := 45) rfl)
theorem mvW9_620 : (Cond.methodLink RX6 65 yX8_rankBehindTurn) ∈ vW9 := vW9_p12 _ (List.mem_of_getElem? (i := 44) rfl)
theorem pvW9_76 : ∀ w ∈ ([.methodLink RX6 65 yX8_rankBehindTurn, .instanceMethod yX8_rankBehindTurn, .selects RX8 yX8_rankBehindTurn yX8_rankBehindTurn, .initialized RX8] : List Cond), w ∈ vW9 := (List.forall_mem_cons.mpr ⟨mvW9_620, (List.forall_mem_cons.mpr ⟨mvW9_621, (List.forall_mem_cons.mpr ⟨mvW9_622, (List.forall_mem_cons.mpr ⟨mvW9_18, (fun _ h => absurd h List.not_mem_nil)⟩)⟩)⟩)⟩)
theorem mvW9_347 : (Cond.code yX7_init cX7_init 3 none) ∈ vW9 := vW9_p7 _ (List.mem_of_getElem? (i := 11) rfl)
theorem mvW9_281 : (Cond.fieldLink RX7 32 "TurnedFloors$Text" "code" "[I") ∈ vW9 := vW9_p5 _ (List.mem_of_getElem? (i := 41) rfl)
theorem mvW9_261 : (Cond.fieldLink RX7 29 "TurnedFloors$Text" "testTo" "[I") ∈ vW9 := vW9_p5 _ (List.mem_of_getElem? (i := 21) rfl)
theorem mvW9_260 : (Cond.fieldLink RX7 26 "TurnedFloors$Text" "testFrom" "[I") ∈ vW9 := vW9_p5 _ (List.mem_of_getElem? (i := 20) rfl)
theorem mvW9_259 : (Cond.fieldLink RX7 23 "TurnedFloors$Text" "sumFrom" "[I") ∈ vW9 := vW9_p5 _ (List.mem_of_getElem? (i := 19) rfl)
theorem mvW9_258 : (Cond.fieldLink RX7 20 "TurnedFloors$Text" "times" "[I") ∈ vW9 := vW9_p5 _ (List.mem_of_getElem? (i := 18) rfl)
theorem mvW9_257 : (Cond.fieldLink RX7 16 "TurnedFloors$Text" "kind" "[I") ∈ vW9 := vW9_p5 _ (List.mem_of_getElem? (i := 17) rfl)
theorem mvW9_351 : (Cond.arrayClass .int) ∈ vW9 := vW9_p7 _ (List.mem_of_getElem? (i := 15) rfl)
theorem mvW9_178 : (Cond.fieldLink RX7 13 "TurnedFloors$Text" "length" "I") ∈ vW9 := vW9_p3 _ (List.mem_of_getElem? (i := 34) rfl)
theorem mvW9_177 : (Cond.fieldLink RX7 7 "TurnedFloors$Text" "clauses" "I") ∈ vW9 := vW9_p3 _ (List.mem_of_getElem? (i := 33) rfl)
theorem mvW9_350 : (Cond.code objectInit ⟨#[0xb1]⟩ 1 none) ∈ vW9 := vW9_p7 _ (List.mem_of_getElem? (i := 14) rfl)
theorem mvW9_349 : (Cond.instanceMethod objectInit) ∈ vW9 := vW9_p7 _ (List.mem_of_getElem? (i := 13) rfl)
theorem mvW9_348 : (Cond.methodLink RX7 1 objectInit) ∈ vW9 := vW9_p7 _ (List.mem_of_getElem? (i := 12) rfl)
theorem mvW9_102 : (Cond.methodLink RX8 28 yX8_isFloor) ∈ vW9 := vW9_p2 _ (List.mem_of_getElem? (i := 6) rfl)
theorem pvW9_77 : ∀ w ∈ ([.methodLink RX8 28 yX8_isFloor, .instanceMethod yX8_isFloor, .selects RX8 yX8_isFloor yX8_isFloor, .initialized RX8] : List Cond), w ∈ vW9 := (List.forall_mem_cons.mpr ⟨mvW9_102, (List.forall_mem_cons.mpr ⟨mvW9_38, (List.forall_mem_cons.mpr ⟨mvW9_39, (List.forall_mem_cons.mpr ⟨mvW9_18, (fun _ h => absurd h List.not_mem_nil)⟩)⟩)⟩)⟩)
theorem mvW9_8 : (Cond.code yX9_isBit cX9_isBit 1 (some .boolean)) ∈ vW9 := vW9_p0 _ (List.mem_of_getElem? (i := 8) rfl)
theorem mvW9_402 : (Cond.code yX8_turnTop cX8_turnTop 6 (some .int)) ∈ vW9 := vW9_p8 _ (List.mem_of_getElem? (i := 18) rfl)
theorem mvW9_401 : (Cond.selects RX8 yX8_turnTop yX8_turnTop) ∈ vW9 := vW9_p8 _ (List.mem_of_getElem? (i := 17) rfl)
theorem mvW9_400 : (Cond.instanceMethod yX8_turnTop) ∈ vW9 := vW9_p8 _ (List.mem_of_getElem? (i := 16) rfl)
theorem mvW9_399 : (Cond.methodLink RX8 47 yX8_turnTop) ∈ vW9 := vW9_p8 _ (List.mem_of_getElem? (i := 15) rfl)
theorem pvW9_78 : ∀ w ∈ ([.methodLink RX8 47 yX8_turnTop, .instanceMethod yX8_turnTop, .selects RX8 yX8_turnTop yX8_turnTop, .initialized RX8] : List Cond), w ∈ vW9 := (List.forall_mem_cons.mpr ⟨mvW9_399, (List.forall_mem_cons.mpr ⟨mvW9_400, (List.forall_mem_cons.mpr ⟨mvW9_401, (List.forall_mem_cons.mpr ⟨mvW9_18, (fun _ h => absurd h List.not_mem_nil)⟩)⟩)⟩)⟩)
theorem mvW9_412 : (Cond.code yX8_rightAt cX8_rightAt 2 (some .int)) ∈ vW9 := vW9_p8 _ (List.mem_of_getElem? (i := 28) rfl)
theorem mvW9_411 : (Cond.selects RX8 yX8_rightAt yX8_rightAt) ∈ vW9 := vW9_p8 _ (List.mem_of_getElem? (i := 27) rfl)
theorem mvW9_410 : (Cond.instanceMethod yX8_rightAt) ∈ vW9 := vW9_p8 _ (List.mem_of_getElem? (i := 26) rfl)
theorem mvW9_409 : (Cond.methodLink RX8 51 yX8_rightAt) ∈ vW9 := vW9_p8 _ (List.mem_of_getElem? (i := 25) rfl)
theorem pvW9_79 : ∀ w ∈ ([.methodLink RX8 51 yX8_rightAt, .instanceMethod yX8_rightAt, .selects RX8 yX8_rightAt yX8_rightAt, .initialized RX8] : List Cond), w ∈ vW9 := (List.forall_mem_cons.mpr ⟨mvW9_409, (List.forall_mem_cons.mpr ⟨mvW9_410, (List.forall_mem_cons.mpr ⟨mvW9_411, (List.forall_mem_cons.mpr ⟨mvW9_18, (fun _ h => absurd h List.not_mem_nil)⟩)⟩)⟩)⟩)
theorem mvW9_416 : (Cond.code yX8_swapAt cX8_swapAt 2 (some .int)) ∈ vW9 := vW9_p8 _ (List.mem_of_getElem? (i := 32) rfl)
theorem mvW9_415 : (Cond.selects RX8 yX8_swapAt yX8_swapAt) ∈ vW9 := vW9_p8 _ (List.mem_of_getElem? (i := 31) rfl)
theorem mvW9_414 : (Cond.instanceMethod yX8_swapAt) ∈ vW9 := vW9_p8 _ (List.mem_of_getElem? (i := 30) rfl)
theorem mvW9_413 : (Cond.methodLink RX8 55 yX8_swapAt) ∈ vW9 := vW9_p8 _ (List.mem_of_getElem? (i := 29) rfl)
theorem pvW9_80 : ∀ w ∈ ([.methodLink RX8 55 yX8_swapAt, .instanceMethod yX8_swapAt, .selects RX8 yX8_swapAt yX8_swapAt, .initialized RX8] : List Cond), w ∈ vW9 := (List.forall_mem_cons.mpr ⟨mvW9_413, (List.forall_mem_cons.mpr ⟨mvW9_414, (List.forall_mem_cons.mpr ⟨mvW9_415, (List.forall_mem_cons.mpr ⟨mvW9_18, (fun _ h => absurd h List.not_mem_nil)⟩)⟩)⟩)⟩)
theorem mvW9_420 : (Cond.code yX8_passYear cX8_passYear 4 (some .int)) ∈ vW9 := vW9_p8 _ (List.mem_of_getElem? (i := 36) rfl)
theorem mvW9_419 : (Cond.selects RX8 yX8_passYear yX8_passYear) ∈ vW9 := vW9_p8 _ (List.mem_of_getElem? (i := 35) rfl)
theorem mvW9_418 : (Cond.instanceMethod yX8_passYear) ∈ vW9 := vW9_p8 _ (List.mem_of_getElem? (i := 34) rfl)
theorem mvW9_417 : (Cond.methodLink RX8 58 yX8_passYear) ∈ vW9 := vW9_p8 _ (List.mem_of_getElem? (i := 33) rfl)
theorem pvW9_81 : ∀ w ∈ ([.methodLink RX8 58 yX8_passYear, .instanceMethod yX8_passYear, .selects RX8 yX8_passYear yX8_passYear, .initialized RX8] : List Cond), w ∈ vW9 := (List.forall_mem_cons.mpr ⟨mvW9_417, (List.forall_mem_cons.mpr ⟨mvW9_418, (List.forall_mem_cons.mpr ⟨mvW9_419, (List.forall_mem_cons.mpr ⟨mvW9_18, (fun _ h => absurd h List.not_mem_nil)⟩)⟩)⟩)⟩)
theorem mvW9_127 : (Cond.code yX1_bars cX1_bars 3 (some .boolean)) ∈ vW9 := vW9_p2 _ (List.mem_of_getElem? (i := 31) rfl)
theorem mvW9_126 : (Cond.selects RX1 yX1_bars yX1_bars) ∈ vW9 := vW9_p2 _ (List.mem_of_getElem? (i := 30) rfl)
theorem mvW9_125 : (Cond.instanceMethod yX1_bars) ∈ vW9 := vW9_p2 _ (List.mem_of_getElem? (i := 29) rfl)
theorem mvW9_403 : (Cond.methodLink RX8 62 yX1_bars) ∈ vW9 := vW9_p8 _ (List.mem_of_getElem? (i := 19) rfl)
theorem pvW9_82 : ∀ w ∈ ([.methodLink RX8 62 yX1_bars, .instanceMethod yX1_bars, .selects RX1 yX1_bars yX1_bars, .initialized RX1] : List Cond), w ∈ vW9 := (List.forall_mem_cons.mpr ⟨mvW9_403, (List.forall_mem_cons.mpr ⟨mvW9_125, (List.forall_mem_cons.mpr ⟨mvW9_126, (List.forall_mem_cons.mpr ⟨mvW9_60, (fun _ h => absurd h List.not_mem_nil)⟩)⟩)⟩)⟩)
theorem mvW9_106 : (Cond.code yX1_payOf cX1_payOf 3 (some .int)) ∈ vW9 := vW9_p2 _ (List.mem_of_getElem? (i := 10) rfl)
theorem mvW9_105 : (Cond.selects RX1 yX1_payOf yX1_payOf) ∈ vW9 := vW9_p2 _ (List.mem_of_getElem? (i := 9) rfl)
theorem mvW9_104 : (Cond.instanceMethod yX1_payOf) ∈ vW9 := vW9_p2 _ (List.mem_of_getElem? (i := 8) rfl)
theorem mvW9_404 : (Cond.methodLink RX8 68 yX1_payOf) ∈ vW9 := vW9_p8 _ (List.mem_of_getElem? (i := 20) rfl)
theorem pvW9_83 : ∀ w ∈ ([.methodLink RX8 68 yX1_payOf, .instanceMethod yX1_payOf, .selects RX1 yX1_payOf yX1_payOf, .initialized RX1] : List Cond), w ∈ vW9 := (List.forall_mem_cons.mpr ⟨mvW9_404, (List.forall_mem_cons.mpr ⟨mvW9_104, (List.forall_mem_cons.mpr ⟨mvW9_105, (List.forall_mem_cons.mpr ⟨mvW9_60, (fun _ h => absurd h List.not_mem_nil)⟩)⟩)⟩)⟩)
theorem mvW9_408 : (Cond.code yX8_exchange cX8_exchange 5 none) ∈ vW9 := vW9_p8 _ (List.mem_of_getElem? (i := 24) rfl)
theorem mvW9_407 : (Cond.selects RX8 yX8_exchange yX8_exchange) ∈ vW9 := vW9_p8 _ (List.mem_of_getElem? (i := 23) rfl)
theorem mvW9_406 : (Cond.instanceMethod yX8_exchange) ∈ vW9 := vW9_p8 _ (List.mem_of_getElem? (i := 22) rfl)
theorem mvW9_405 : (Cond.methodLink RX8 72 yX8_exchange) ∈ vW9 := vW9_p8 _ (List.mem_of_getElem? (i := 21) rfl)
theorem pvW9_84 : ∀ w ∈ ([.methodLink RX8 72 yX8_exchange, .instanceMethod yX8_exchange, .selects RX8 yX8_exchange yX8_exchange, .initialized RX8] : List Cond), w ∈ vW9 := (List.forall_mem_cons.mpr ⟨mvW9_405, (List.forall_mem_cons.mpr ⟨mvW9_406, (List.forall_mem_cons.mpr ⟨mvW9_407, (List.forall_mem_cons.mpr ⟨mvW9_18, (fun _ h => absurd h List.not_mem_nil)⟩)⟩)⟩)⟩)
theorem mvW9_67 : (Cond.code yX1_tips cX1_tips 3 (some .boolean)) ∈ vW9 := vW9_p1 _ (List.mem_of_getElem? (i := 19) rfl)
theorem mvW9_66 : (Cond.selects RX1 yX1_tips yX1_tips) ∈ vW9 := vW9_p1 _ (List.mem_of_getElem? (i := 18) rfl)
theorem mvW9_65 : (Cond.instanceMethod yX1_tips) ∈ vW9 := vW9_p1 _ (List.mem_of_getElem? (i := 17) rfl)
theorem mvW9_421 : (Cond.methodLink RX8 76 yX1_tips) ∈ vW9 := vW9_p8 _ (List.mem_of_getElem? (i := 37) rfl)
theorem pvW9_85 : ∀ w ∈ ([.methodLink RX8 76 yX1_tips, .instanceMethod yX1_tips, .selects RX1 yX1_tips yX1_tips, .initialized RX1] : List Cond), w ∈ vW9 := (List.forall_mem_cons.mpr ⟨mvW9_421, (List.forall_mem_cons.mpr ⟨mvW9_65, (List.forall_mem_cons.mpr ⟨mvW9_66, (List.forall_mem_cons.mpr ⟨mvW9_60, (fun _ h => absurd h List.not_mem_nil)⟩)⟩)⟩)⟩)
theorem mvW9_428 : (Cond.constant RJ6 267 252645135) ∈ vW9 := vW9_p8 _ (List.mem_of_getElem? (i := 44) rfl)
theorem mvW9_427 : (Cond.constant RJ6 266 858993459) ∈ vW9 := vW9_p8 _ (List.mem_of_getElem? (i := 43) rfl)
theorem mvW9_426 : (Cond.constant RJ6 265 1431655765) ∈ vW9 := vW9_p8 _ (List.mem_of_getElem? (i := 42) rfl)
theorem mvW9_425 : (Cond.code yJ6_bitCount_0f7a4 cJ6_bitCount_0f7a4 1 (some .int)) ∈ vW9 := vW9_p8 _ (List.mem_of_getElem? (i := 41) rfl)
theorem mvW9_424 : (Cond.initialized RJ6) ∈ vW9 := vW9_p8 _ (List.mem_of_getElem? (i := 40) rfl)
theorem mvW9_423 : (Cond.static yJ6_bitCount_0f7a4) ∈ vW9 := vW9_p8 _ (List.mem_of_getElem? (i := 39) rfl)
theorem mvW9_422 : (Cond.methodLink RX8 83 yJ6_bitCount_0f7a4) ∈ vW9 := vW9_p8 _ (List.mem_of_getElem? (i := 38) rfl)
theorem pvW9_86 : ∀ w ∈ ([.methodLink RX8 83 yJ6_bitCount_0f7a4, .static yJ6_bitCount_0f7a4, .initialized yJ6_bitCount_0f7a4.cls] : List Cond), w ∈ vW9 := (List.forall_mem_cons.mpr ⟨mvW9_422, (List.forall_mem_cons.mpr ⟨mvW9_423, (List.forall_mem_cons.mpr ⟨mvW9_424, (fun _ h => absurd h List.not_mem_nil)⟩)⟩)⟩)
theorem mvW9_392 : (Cond.code yX8_anyBetween cX8_anyBetween 4 (some .boolean)) ∈ vW9 := vW9_p8 _ (List.mem_of_getElem? (i := 8) rfl)
theorem mvW9_391 : (Cond.selects RX8 yX8_anyBetween yX8_anyBetween) ∈ vW9 := vW9_p8 _ (List.mem_of_getElem? (i := 7) rfl)
theorem mvW9_390 : (Cond.instanceMethod yX8_anyBetween) ∈ vW9 := vW9_p8 _ (List.mem_of_getElem? (i := 6) rfl)
theorem mvW9_389 : (Cond.methodLink RX8 91 yX8_anyBetween) ∈ vW9 := vW9_p8 _ (List.mem_of_getElem? (i := 5) rfl)
theorem pvW9_87 : ∀ w ∈ ([.methodLink RX8 91 yX8_anyBetween, .instanceMethod yX8_anyBetween, .selects RX8 yX8_anyBetween yX8_anyBetween, .initialized RX8] : List Cond), w ∈ vW9 := (List.forall_mem_cons.mpr ⟨mvW9_389, (List.forall_mem_cons.mpr ⟨mvW9_390, (List.forall_mem_cons.mpr ⟨mvW9_391, (List.forall_mem_cons.mpr ⟨mvW9_18, (fun _ h => absurd h List.not_mem_nil)⟩)⟩)⟩)⟩)
theorem mvW9_632 : (Cond.methodLink RX8 95 yX8_rankBehindTurn) ∈ vW9 := vW9_p13 _ (List.mem_of_getElem? (i := 8) rfl)
theorem pvW9_88 : ∀ w ∈ ([.methodLink RX8 95 yX8_rankBehindTurn, .instanceMethod yX8_rankBehindTurn, .selects RX8 yX8_rankBehindTurn yX8_rankBehindTurn, .initialized RX8] : List Cond), w ∈ vW9 := (List.forall_mem_cons.mpr ⟨mvW9_632, (List.forall_mem_cons.mpr ⟨mvW9_621, (List.forall_mem_cons.mpr ⟨mvW9_622, (List.forall_mem_cons.mpr ⟨mvW9_18, (fun _ h => absurd h List.not_mem_nil)⟩)⟩)⟩)⟩)
theorem mvW9_5 : (Cond.code yX9_isRank cX9_isRank 1 (some .boolean)) ∈ vW9 := vW9_p0 _ (List.mem_of_getElem? (i := 5) rfl)
theorem mvW9_4 : (Cond.initialized RX9) ∈ vW9 := vW9_p0 _ (List.mem_of_getElem? (i := 4) rfl)
theorem mvW9_3 : (Cond.static yX9_isRank) ∈ vW9 := vW9_p0 _ (List.mem_of_getElem? (i := 3) rfl)
theorem mvW9_2 : (Cond.methodLink RX9 111 yX9_isRank) ∈ vW9 := vW9_p0 _ (List.mem_of_getElem? (i := 2) rfl)
theorem pvW9_89 : ∀ w ∈ ([.methodLink RX9 111 yX9_isRank, .static yX9_isRank, .initialized yX9_isRank.cls] : List Cond), w ∈ vW9 := (List.forall_mem_cons.mpr ⟨mvW9_2, (List.forall_mem_cons.mpr ⟨mvW9_3, (List.forall_mem_cons.mpr ⟨mvW9_4, (fun _ h => absurd h List.not_mem_nil)⟩)⟩)⟩)
theorem mvW9_7 : (Cond.static yX9_isBit) ∈ vW9 := vW9_p0 _ (List.mem_of_getElem? (i := 7) rfl)
theorem mvW9_6 : (Cond.methodLink RX9 115 yX9_isBit) ∈ vW9 := vW9_p0 _ (List.mem_of_getElem? (i := 6) rfl)
theorem pvW9_90 : ∀ w ∈ ([.methodLink RX9 115 yX9_isBit, .static yX9_isBit, .initialized yX9_isBit.cls] : List Cond), w ∈ vW9 := (List.forall_mem_cons.mpr ⟨mvW9_6, (List.forall_mem_cons.mpr ⟨mvW9_7, (List.forall_mem_cons.mpr ⟨mvW9_4, (fun _ h => absurd h List.not_mem_nil)⟩)⟩)⟩)
theorem mvW9_12 : (Cond.code yX9_refuse cX9_refuse 2 (some .int)) ∈ vW9 := vW9_p0 _ (List.mem_of_getElem? (i := 12) rfl)
theorem mvW9_11 : (Cond.selects RX9 yX9_refuse yX9_refuse) ∈ vW9 := vW9_p0 _ (List.mem_of_getElem? (i := 11) rfl)
theorem mvW9_10 : (Cond.instanceMethod yX9_refuse) ∈ vW9 := vW9_p0 _ (List.mem_of_getElem? (i := 10) rfl)
theorem mvW9_9 : (Cond.methodLink RX9 118 yX9_refuse) ∈ vW9 := vW9_p0 _ (List.mem_of_getElem? (i := 9) rfl)
theorem pvW9_91 : ∀ w ∈ ([.methodLink RX9 118 yX9_refuse, .instanceMethod yX9_refuse, .selects RX9 yX9_refuse yX9_refuse, .initialized RX9] : List Cond), w ∈ vW9 := (List.forall_mem_cons.mpr ⟨mvW9_9, (List.forall_mem_cons.mpr ⟨mvW9_10, (List.forall_mem_cons.mpr ⟨mvW9_11, (List.forall_mem_cons.mpr ⟨mvW9_4, (fun _ h => absurd h List.not_mem_nil)⟩)⟩)⟩)⟩)
theorem mvW9_15 : (Cond.methodLink RX9 125 yX8_has) ∈ vW9 := vW9_p0 _ (List.mem_of_getElem? (i := 15) rfl)
theorem pvW9_92 : ∀ w ∈ ([.methodLink RX9 125 yX8_has, .instanceMethod yX8_has, .selects RX8 yX8_has yX8_has, .initialized RX8] : List Cond), w ∈ vW9 := (List.forall_mem_cons.mpr ⟨mvW9_15, (List.forall_mem_cons.mpr ⟨mvW9_16, (List.forall_mem_cons.mpr ⟨mvW9_17, (List.forall_mem_cons.mpr ⟨mvW9_18, (fun _ h => absurd h List.not_mem_nil)⟩)⟩)⟩)⟩)
theorem mvW9_25 : (Cond.code yX8_add cX8_add 3 (some .boolean)) ∈ vW9 := vW9_p0 _ (List.mem_of_getElem? (i := 25) rfl)
theorem mvW9_24 : (Cond.selects RX8 yX8_add yX8_add) ∈ vW9 := vW9_p0 _ (List.mem_of_getElem? (i := 24) rfl)
theorem mvW9_23 : (Cond.instanceMethod yX8_add) ∈ vW9 := vW9_p0 _ (List.mem_of_getElem? (i := 23) rfl)
theorem mvW9_22 : (Cond.methodLink RX9 128 yX8_add) ∈ vW9 := vW9_p0 _ (List.mem_of_getElem? (i := 22) rfl)
theorem pvW9_93 : ∀ w ∈ ([.methodLink RX9 128 yX8_add, .instanceMethod yX8_add, .selects RX8 yX8_add yX8_add, .initialized RX8] : List Cond), w ∈ vW9 := (List.forall_mem_cons.mpr ⟨mvW9_22, (List.forall_mem_cons.mpr ⟨mvW9_23, (List.forall_mem_cons.mpr ⟨mvW9_24, (List.forall_mem_cons.mpr ⟨mvW9_18, (fun _ h => absurd h List.not_mem_nil)⟩)⟩)⟩)⟩)
theorem mvW9_31 : (Cond.code yX0_clear cX0_clear 1 none) ∈ vW9 := vW9_p0 _ (List.mem_of_getElem? (i := 31) rfl)
theorem mvW9_29 : (Cond.selects RX0 yX0_clear yX0_clear) ∈ vW9 := vW9_p0 _ (List.mem_of_getElem? (i := 29) rfl)
theorem mvW9_28 : (Cond.instanceMethod yX0_clear) ∈ vW9 := vW9_p0 _ (List.mem_of_getElem? (i := 28) rfl)
theorem mvW9_27 : (Cond.methodLink RX9 132 yX0_clear) ∈ vW9 := vW9_p0 _ (List.mem_of_getElem? (i := 27) rfl)
theorem pvW9_94 : ∀ w ∈ ([.methodLink RX9 132 yX0_clear, .instanceMethod yX0_clear, .selects RX0 yX0_clear yX0_clear, .initialized RX0] : List Cond), w ∈ vW9 := (List.forall_mem_cons.mpr ⟨mvW9_27, (List.forall_mem_cons.mpr ⟨mvW9_28, (List.forall_mem_cons.mpr ⟨mvW9_29, (List.forall_mem_cons.mpr ⟨mvW9_30, (fun _ h => absurd h List.not_mem_nil)⟩)⟩)⟩)⟩)
theorem mvW9_36 : (Cond.code yX9_accept cX9_accept 2 (some .int)) ∈ vW9 := vW9_p0 _ (List.mem_of_getElem? (i := 36) rfl)
theorem mvW9_35 : (Cond.selects RX9 yX9_accept yX9_accept) ∈ vW9 := vW9_p0 _ (List.mem_of_getElem? (i := 35) rfl)
theorem mvW9_34 : (Cond.instanceMethod yX9_accept) ∈ vW9 := vW9_p0 _ (List.mem_of_getElem? (i := 34) rfl)
theorem mvW9_33 : (Cond.methodLink RX9 138 yX9_accept) ∈ vW9 := vW9_p0 _ (List.mem_of_getElem? (i := 33) rfl)
theorem pvW9_95 : ∀ w ∈ ([.methodLink RX9 138 yX9_accept, .instanceMethod yX9_accept, .selects RX9 yX9_accept yX9_accept, .initialized RX9] : List Cond), w ∈ vW9 := (List.forall_mem_cons.mpr ⟨mvW9_33, (List.forall_mem_cons.mpr ⟨mvW9_34, (List.forall_mem_cons.mpr ⟨mvW9_35, (List.forall_mem_cons.mpr ⟨mvW9_4, (fun _ h => absurd h List.not_mem_nil)⟩)⟩)⟩)⟩)
theorem mvW9_37 : (Cond.methodLink RX9 141 yX8_isFloor) ∈ vW9 := vW9_p0 _ (List.mem_of_getElem? (i := 37) rfl)
theorem pvW9_96 : ∀ w ∈ ([.methodLink RX9 141 yX8_isFloor, .instanceMethod yX8_isFloor, .selects RX8 yX8_isFloor yX8_isFloor, .initialized RX8] : List Cond), w ∈ vW9 := (List.forall_mem_cons.mpr ⟨mvW9_37, (List.forall_mem_cons.mpr ⟨mvW9_38, (List.forall_mem_cons.mpr ⟨mvW9_39, (List.forall_mem_cons.mpr ⟨mvW9_18, (fun _ h => absurd h List.not_mem_nil)⟩)⟩)⟩)⟩)
theorem mvW9_44 : (Cond.code yX9_seated cX9_seated 1 (some (.object "TurnedFloors$Judge"))) ∈ vW9 := vW9_p0 _ (List.mem_of_getElem? (i := 44) rfl)
theorem mvW9_43 : (Cond.selects RX9 yX9_seated yX9_seated) ∈ vW9 := vW9_p0 _ (List.mem_of_getElem? (i := 43) rfl)
theorem mvW9_42 : (Cond.instanceMethod yX9_seated) ∈ vW9 := vW9_p0 _ (List.mem_of_getElem? (i := 42) rfl)
theorem mvW9_41 : (Cond.methodLink RX9 144 yX9_seated) ∈ vW9 := vW9_p0 _ (List.mem_of_getElem? (i := 41) rfl)
theorem pvW9_97 : ∀ w ∈ ([.methodLink RX9 144 yX9_seated, .instanceMethod yX9_seated, .selects RX9 yX9_seated yX9_seated, .initialized RX9] : List Cond), w ∈ vW9 := (List.forall_mem_cons.mpr ⟨mvW9_41, (List.forall_mem_cons.mpr ⟨mvW9_42, (List.forall_mem_cons.mpr ⟨mvW9_43, (List.forall_mem_cons.mpr ⟨mvW9_4, (fun _ h => absurd h List.not_mem_nil)⟩)⟩)⟩)⟩)
theorem mvW9_64 : (Cond.methodLink RX9 148 yX1_tips) ∈ vW9 := vW9_p1 _ (List.mem_of_getElem? (i := 16) rfl)
theorem pvW9_98 : ∀ w ∈ ([.methodLink RX9 148 yX1_tips, .instanceMethod yX1_tips, .selects RX1 yX1_tips yX1_tips, .initialized RX1] : List Cond), w ∈ vW9 := (List.forall_mem_cons.mpr ⟨mvW9_64, (List.forall_mem_cons.mpr ⟨mvW9_65, (List.forall_mem_cons.mpr ⟨mvW9_66, (List.forall_mem_cons.mpr ⟨mvW9_60, (fun _ h => absurd h List.not_mem_nil)⟩)⟩)⟩)⟩)
theorem mvW9_96 : (Cond.static yX9_bit) ∈ vW9 := vW9_p2 _ (List.mem_of_getElem? (i := 0) rfl)
theorem mvW9_95 : (Cond.methodLink RX9 152 yX9_bit) ∈ vW9 := vW9_p1 _ (List.mem_of_getElem? (i := 47) rfl)
theorem pvW9_99 : ∀ w ∈ ([.methodLink RX9 152 yX9_bit, .static yX9_bit, .initialized yX9_bit.cls] : List Cond), w ∈ vW9 := (List.forall_mem_cons.mpr ⟨mvW9_95, (List.forall_mem_cons.mpr ⟨mvW9_96, (List.forall_mem_cons.mpr ⟨mvW9_4, (fun _ h => absurd h List.not_mem_nil)⟩)⟩)⟩)
theorem mvW9_98 : (Cond.methodLink RX9 156 yX8_tell) ∈ vW9 := vW9_p2 _ (List.mem_of_getElem? (i := 2) rfl)
theorem pvW9_100 : ∀ w ∈ ([.methodLink RX9 156 yX8_tell, .instanceMethod yX8_tell, .selects RX8 yX8_tell yX8_tell, .initialized RX8] : List Cond), w ∈ vW9 := (List.forall_mem_cons.mpr ⟨mvW9_98, (List.forall_mem_cons.mpr ⟨mvW9_99, (List.forall_mem_cons.mpr ⟨mvW9_100, (List.forall_mem_cons.mpr ⟨mvW9_18, (fun _ h => absurd h List.not_mem_nil)⟩)⟩)⟩)⟩)
theorem mvW9_103 : (Cond.methodLink RX9 160 yX1_payOf) ∈ vW9 := vW9_p2 _ (List.mem_of_getElem? (i := 7) rfl)
theorem pvW9_101 : ∀ w ∈ ([.methodLink RX9 160 yX1_payOf, .instanceMethod yX1_payOf, .selects RX1 yX1_payOf yX1_payOf, .initialized RX1] : List Cond), w ∈ vW9 := (List.forall_mem_cons.mpr ⟨mvW9_103, (List.forall_mem_cons.mpr ⟨mvW9_104, (List.forall_mem_cons.mpr ⟨mvW9_105, (List.forall_mem_cons.mpr ⟨mvW9_60, (fun _ h => absurd h List.not_mem_nil)⟩)⟩)⟩)⟩)
theorem mvW9_124 : (Cond.methodLink RX9 164 yX1_bars) ∈ vW9 := vW9_p2 _ (List.mem_of_getElem? (i := 28) rfl)
theorem pvW9_102 : ∀ w ∈ ([.methodLink RX9 164 yX1_bars, .instanceMethod yX1_bars, .selects RX1 yX1_bars yX1_bars, .initialized RX1] : List Cond), w ∈ vW9 := (List.forall_mem_cons.mpr ⟨mvW9_124, (List.forall_mem_cons.mpr ⟨mvW9_125, (List.forall_mem_cons.mpr ⟨mvW9_126, (List.forall_mem_cons.mpr ⟨mvW9_60, (fun _ h => absurd h List.not_mem_nil)⟩)⟩)⟩)⟩)
theorem mvW9_130 : (Cond.code yX9_mostOfTerm cX9_mostOfTerm 1 (some .int)) ∈ vW9 := vW9_p2 _ (List.mem_of_getElem? (i := 34) rfl)
theorem mvW9_129 : (Cond.static yX9_mostOfTerm) ∈ vW9 := vW9_p2 _ (List.mem_of_getElem? (i := 33) rfl)
theorem mvW9_128 : (Cond.methodLink RX9 167 yX9_mostOfTerm) ∈ vW9 := vW9_p2 _ (List.mem_of_getElem? (i := 32) rfl)
theorem pvW9_103 : ∀ w ∈ ([.methodLink RX9 167 yX9_mostOfTerm, .static yX9_mostOfTerm, .initialized yX9_mostOfTerm.cls] : List Cond), w ∈ vW9 := (List.forall_mem_cons.mpr ⟨mvW9_128, (List.forall_mem_cons.mpr ⟨mvW9_129, (List.forall_mem_cons.mpr ⟨mvW9_4, (fun _ h => absurd h List.not_mem_nil)⟩)⟩)⟩)
theorem mvW9_134 : (Cond.code yX6_term cX6_term 2 (some .int)) ∈ vW9 := vW9_p2 _ (List.mem_of_getElem? (i := 38) rfl)
theorem mvW9_133 : (Cond.selects RX6 yX6_term yX6_term) ∈ vW9 := vW9_p2 _ (List.mem_of_getElem? (i := 37) rfl)
theorem mvW9_132 : (Cond.instanceMethod yX6_term) ∈ vW9 := vW9_p2 _ (List.mem_of_getElem? (i := 36) rfl)
theorem mvW9_131 : (Cond.methodLink RX9 170 yX6_term) ∈ vW9 := vW9_p2 _ (List.mem_of_getElem? (i := 35) rfl)
theorem pvW9_104 : ∀ w ∈ ([.methodLink RX9 170 yX6_term, .instanceMethod yX6_term, .selects RX6 yX6_term yX6_term, .initialized RX6] : List Cond), w ∈ vW9 := (List.forall_mem_cons.mpr ⟨mvW9_131, (List.forall_mem_cons.mpr ⟨mvW9_132, (List.forall_mem_cons.mpr ⟨mvW9_133, (List.forall_mem_cons.mpr ⟨mvW9_49, (fun _ h => absurd h List.not_mem_nil)⟩)⟩)⟩)⟩)
theorem mvW9_142 : (Cond.code yX6_setTerm cX6_setTerm 3 none) ∈ vW9 := vW9_p2 _ (List.mem_of_getElem? (i := 46) rfl)
theorem mvW9_141 : (Cond.selects RX6 yX6_setTerm yX6_setTerm) ∈ vW9 := vW9_p2 _ (List.mem_of_getElem? (i := 45) rfl)
theorem mvW9_140 : (Cond.instanceMethod yX6_setTerm) ∈ vW9 := vW9_p2 _ (List.mem_of_getElem? (i := 44) rfl)
theorem mvW9_139 : (Cond.methodLink RX9 173 yX6_setTerm) ∈ vW9 := vW9_p2 _ (List.mem_of_getElem? (i := 43) rfl)
theorem pvW9_105 : ∀ w ∈ ([.methodLink RX9 173 yX6_setTerm, .instanceMethod yX6_setTerm, .selects RX6 yX6_setTerm yX6_setTerm, .initialized RX6] : List Cond), w ∈ vW9 := (List.forall_mem_cons.mpr ⟨mvW9_139, (List.forall_mem_cons.mpr ⟨mvW9_140, (List.forall_mem_cons.mpr ⟨mvW9_141, (List.forall_mem_cons.mpr ⟨mvW9_49, (fun _ h => absurd h List.not_mem_nil)⟩)⟩)⟩)⟩)
theorem mvW9_147 : (Cond.code yX9_feedFour cX9_feedFour 3 none) ∈ vW9 := vW9_p3 _ (List.mem_of_getElem? (i := 3) rfl)
theorem mvW9_146 : (Cond.selects RX9 yX9_feedFour yX9_feedFour) ∈ vW9 := vW9_p3 _ (List.mem_of_getElem? (i := 2) rfl)
theorem mvW9_145 : (Cond.instanceMethod yX9_feedFour) ∈ vW9 := vW9_p3 _ (List.mem_of_getElem? (i := 1) rfl)
theorem mvW9_144 : (Cond.methodLink RX9 176 yX9_feedFour) ∈ vW9 := vW9_p3 _ (List.mem_of_getElem? (i := 0) rfl)
theorem pvW9_106 : ∀ w ∈ ([.methodLink RX9 176 yX9_feedFour, .instanceMethod yX9_feedFour, .selects RX9 yX9_feedFour yX9_feedFour, .initialized RX9] : List Cond), w ∈ vW9 := (List.forall_mem_cons.mpr ⟨mvW9_144, (List.forall_mem_cons.mpr ⟨mvW9_145, (List.forall_mem_cons.mpr ⟨mvW9_146, (List.forall_mem_cons.mpr ⟨mvW9_4, (fun _ h => absurd h List.not_mem_nil)⟩)⟩)⟩)⟩)
theorem mvW9_153 : (Cond.code yX9_isNewFloor cX9_isNewFloor 3 (some .boolean)) ∈ vW9 := vW9_p3 _ (List.mem_of_getElem? (i := 9) rfl)
theorem mvW9_152 : (Cond.selects RX9 yX9_isNewFloor yX9_isNewFloor) ∈ vW9 := vW9_p3 _ (List.mem_of_getElem? (i := 8) rfl)
theorem mvW9_151 : (Cond.instanceMethod yX9_isNewFloor) ∈ vW9 := vW9_p3 _ (List.mem_of_getElem? (i := 7) rfl)
theorem mvW9_150 : (Cond.methodLink RX9 180 yX9_isNewFloor) ∈ vW9 := vW9_p3 _ (List.mem_of_getElem? (i := 6) rfl)
theorem pvW9_107 : ∀ w ∈ ([.methodLink RX9 180 yX9_isNewFloor, .instanceMethod yX9_isNewFloor, .selects RX9 yX9_isNewFloor yX9_isNewFloor, .initialized RX9] : List Cond), w ∈ vW9 := (List.forall_mem_cons.mpr ⟨mvW9_150, (List.forall_mem_cons.mpr ⟨mvW9_151, (List.forall_mem_cons.mpr ⟨mvW9_152, (List.forall_mem_cons.mpr ⟨mvW9_4, (fun _ h => absurd h List.not_mem_nil)⟩)⟩)⟩)⟩)
theorem mvW9_161 : (Cond.code yX4_read cX4_read 6 (some .int)) ∈ vW9 := vW9_p3 _ (List.mem_of_getElem? (i := 17) rfl)
theorem mvW9_159 : (Cond.selects RX4 yX4_read yX4_read) ∈ vW9 := vW9_p3 _ (List.mem_of_getElem? (i := 15) rfl)
theorem mvW9_158 : (Cond.instanceMethod yX4_read) ∈ vW9 := vW9_p3 _ (List.mem_of_getElem? (i := 14) rfl)
theorem mvW9_157 : (Cond.methodLink RX9 186 yX4_read) ∈ vW9 := vW9_p3 _ (List.mem_of_getElem? (i := 13) rfl)
theorem pvW9_108 : ∀ w ∈ ([.methodLink RX9 186 yX4_read, .instanceMethod yX4_read, .selects RX4 yX4_read yX4_read, .initialized RX4] : List Cond), w ∈ vW9 := (List.forall_mem_cons.mpr ⟨mvW9_157, (List.forall_mem_cons.mpr ⟨mvW9_158, (List.forall_mem_cons.mpr ⟨mvW9_159, (List.forall_mem_cons.mpr ⟨mvW9_160, (fun _ h => absurd h List.not_mem_nil)⟩)⟩)⟩)⟩)
theorem mvW9_338 : (Cond.code yX7_copyOfIt cX7_copyOfIt 3 (some (.object "TurnedFloors$Text"))) ∈ vW9 := vW9_p7 _ (List.mem_of_getElem? (i := 2) rfl)
theorem mvW9_337 : (Cond.selects RX7 yX7_copyOfIt yX7_copyOfIt) ∈ vW9 := vW9_p7 _ (List.mem_of_getElem? (i := 1) rfl)
theorem mvW9_336 : (Cond.instanceMethod yX7_copyOfIt) ∈ vW9 := vW9_p7 _ (List.mem_of_getElem? (i := 0) rfl)
theorem mvW9_335 : (Cond.methodLink RX9 194 yX7_copyOfIt) ∈ vW9 := vW9_p6 _ (List.mem_of_getElem? (i := 47) rfl)
theorem pvW9_109 : ∀ w ∈ ([.methodLink RX9 194 yX7_copyOfIt, .instanceMethod yX7_copyOfIt, .selects RX7 yX7_copyOfIt yX7_copyOfIt, .initialized RX7] : List Cond), w ∈ vW9 := (List.forall_mem_cons.mpr ⟨mvW9_335, (List.forall_mem_cons.mpr ⟨mvW9_336, (List.forall_mem_cons.mpr ⟨mvW9_337, (List.forall_mem_cons.mpr ⟨mvW9_175, (fun _ h => absurd h List.not_mem_nil)⟩)⟩)⟩)⟩)
theorem mvW9_358 : (Cond.code yX5_run cX5_run 14 (some .int)) ∈ vW9 := vW9_p7 _ (List.mem_of_getElem? (i := 22) rfl)
theorem mvW9_356 : (Cond.selects RX5 yX5_run yX5_run) ∈ vW9 := vW9_p7 _ (List.mem_of_getElem? (i := 20) rfl)
theorem mvW9_355 : (Cond.instanceMethod yX5_run) ∈ vW9 := vW9_p7 _ (List.mem_of_getElem? (i := 19) rfl)
theorem mvW9_354 : (Cond.methodLink RX9 198 yX5_run) ∈ vW9 := vW9_p7 _ (List.mem_of_getElem? (i := 18) rfl)
theorem pvW9_110 : ∀ w ∈ ([.methodLink RX9 198 yX5_run, .instanceMethod yX5_run, .selects RX5 yX5_run yX5_run, .initialized RX5] : List Cond), w ∈ vW9 := (List.forall_mem_cons.mpr ⟨mvW9_354, (List.forall_mem_cons.mpr ⟨mvW9_355, (List.forall_mem_cons.mpr ⟨mvW9_356, (List.forall_mem_cons.mpr ⟨mvW9_357, (fun _ h => absurd h List.not_mem_nil)⟩)⟩)⟩)⟩)
theorem mvW9_444 : (Cond.methodLink RX9 205 yX6_isLaw) ∈ vW9 := vW9_p9 _ (List.mem_of_getElem? (i := 12) rfl)
theorem pvW9_111 : ∀ w ∈ ([.methodLink RX9 205 yX6_isLaw, .instanceMethod yX6_isLaw, .selects RX6 yX6_isLaw yX6_isLaw, .initialized RX6] : List Cond), w ∈ vW9 := (List.forall_mem_cons.mpr ⟨mvW9_444, (List.forall_mem_cons.mpr ⟨mvW9_53, (List.forall_mem_cons.mpr ⟨mvW9_54, (List.forall_mem_cons.mpr ⟨mvW9_49, (fun _ h => absurd h List.not_mem_nil)⟩)⟩)⟩)⟩)
theorem mvW9_448 : (Cond.code yX9_move cX9_move 6 (some .int)) ∈ vW9 := vW9_p9 _ (List.mem_of_getElem? (i := 16) rfl)
theorem mvW9_447 : (Cond.selects RX9 yX9_move yX9_move) ∈ vW9 := vW9_p9 _ (List.mem_of_getElem? (i := 15) rfl)
theorem mvW9_446 : (Cond.instanceMethod yX9_move) ∈ vW9 := vW9_p9 _ (List.mem_of_getElem? (i := 14) rfl)
theorem mvW9_445 : (Cond.methodLink RX9 211 yX9_move) ∈ vW9 := vW9_p9 _ (List.mem_of_getElem? (i := 13) rfl)
theorem pvW9_112 : ∀ w ∈ ([.methodLink RX9 211 yX9_move, .instanceMethod yX9_move, .selects RX9 yX9_move yX9_move, .initialized RX9] : List Cond), w ∈ vW9 := (List.forall_mem_cons.mpr ⟨mvW9_445, (List.forall_mem_cons.mpr ⟨mvW9_446, (List.forall_mem_cons.mpr ⟨mvW9_447, (List.forall_mem_cons.mpr ⟨mvW9_4, (fun _ h => absurd h List.not_mem_nil)⟩)⟩)⟩)⟩)
theorem mvW9_452 : (Cond.methodLink RX9 219 yX8_unpack) ∈ vW9 := vW9_p9 _ (List.mem_of_getElem? (i := 20) rfl)
theorem pvW9_113 : ∀ w ∈ ([.methodLink RX9 219 yX8_unpack, .instanceMethod yX8_unpack, .selects RX8 yX8_unpack yX8_unpack, .initialized RX8] : List Cond), w ∈ vW9 := (List.forall_mem_cons.mpr ⟨mvW9_452, (List.forall_mem_cons.mpr ⟨mvW9_430, (List.forall_mem_cons.mpr ⟨mvW9_431, (List.forall_mem_cons.mpr ⟨mvW9_18, (fun _ h => absurd h List.not_mem_nil)⟩)⟩)⟩)⟩)
theorem mvW9_457 : (Cond.code yX9_spread cX9_spread 2 none) ∈ vW9 := vW9_p9 _ (List.mem_of_getElem? (i := 25) rfl)
theorem mvW9_456 : (Cond.selects RX9 yX9_spread yX9_spread) ∈ vW9 := vW9_p9 _ (List.mem_of_getElem? (i := 24) rfl)
theorem mvW9_455 : (Cond.instanceMethod yX9_spread) ∈ vW9 := vW9_p9 _ (List.mem_of_getElem? (i := 23) rfl)
theorem mvW9_454 : (Cond.methodLink RX9 226 yX9_spread) ∈ vW9 := vW9_p9 _ (List.mem_of_getElem? (i := 22) rfl)
theorem pvW9_114 : ∀ w ∈ ([.methodLink RX9 226 yX9_spread, .instanceMethod yX9_spread, .selects RX9 yX9_spread yX9_spread, .initialized RX9] : List Cond), w ∈ vW9 := (List.forall_mem_cons.mpr ⟨mvW9_454, (List.forall_mem_cons.mpr ⟨mvW9_455, (List.forall_mem_cons.mpr ⟨mvW9_456, (List.forall_mem_cons.mpr ⟨mvW9_4, (fun _ h => absurd h List.not_mem_nil)⟩)⟩)⟩)⟩)
theorem mvW9_523 : (Cond.code yX3_turnsToOrder cX3_turnsToOrder 1 (some .int)) ∈ vW9 := vW9_p10 _ (List.mem_of_getElem? (i := 43) rfl)
theorem mvW9_522 : (Cond.selects RX3 yX3_turnsToOrder yX3_turnsToOrder) ∈ vW9 := vW9_p10 _ (List.mem_of_getElem? (i := 42) rfl)
theorem mvW9_521 : (Cond.instanceMethod yX3_turnsToOrder) ∈ vW9 := vW9_p10 _ (List.mem_of_getElem? (i := 41) rfl)
theorem mvW9_520 : (Cond.methodLink RX9 230 yX3_turnsToOrder) ∈ vW9 := vW9_p10 _ (List.mem_of_getElem? (i := 40) rfl)
theorem pvW9_115 : ∀ w ∈ ([.methodLink RX9 230 yX3_turnsToOrder, .instanceMethod yX3_turnsToOrder, .selects RX3 yX3_turnsToOrder yX3_turnsToOrder, .initialized RX3] : List Cond), w ∈ vW9 := (List.forall_mem_cons.mpr ⟨mvW9_520, (List.forall_mem_cons.mpr ⟨mvW9_521, (List.forall_mem_cons.mpr ⟨mvW9_522, (List.forall_mem_cons.mpr ⟨mvW9_461, (fun _ h => absurd h List.not_mem_nil)⟩)⟩)⟩)⟩)
theorem mvW9_550 : (Cond.code yX3_turnOfFirstRow cX3_turnOfFirstRow 4 (some .int)) ∈ vW9 := vW9_p11 _ (List.mem_of_getElem? (i := 22) rfl)
theorem mvW9_549 : (Cond.selects RX3 yX3_turnOfFirstRow yX3_turnOfFirstRow) ∈ vW9 := vW9_p11 _ (List.mem_of_getElem? (i := 21) rfl)
theorem mvW9_548 : (Cond.instanceMethod yX3_turnOfFirstRow) ∈ vW9 := vW9_p11 _ (List.mem_of_getElem? (i := 20) rfl)
theorem mvW9_547 : (Cond.methodLink RX9 234 yX3_turnOfFirstRow) ∈ vW9 := vW9_p11 _ (List.mem_of_getElem? (i := 19) rfl)
theorem pvW9_116 : ∀ w ∈ ([.methodLink RX9 234 yX3_turnOfFirstRow, .instanceMethod yX3_turnOfFirstRow, .selects RX3 yX3_turnOfFirstRow yX3_turnOfFirstRow, .initialized RX3] : List Cond), w ∈ vW9 := (List.forall_mem_cons.mpr ⟨mvW9_547, (List.forall_mem_cons.mpr ⟨mvW9_548, (List.forall_mem_cons.mpr ⟨mvW9_549, (List.forall_mem_cons.mpr ⟨mvW9_461, (fun _ h => absurd h List.not_mem_nil)⟩)⟩)⟩)⟩)
theorem mvW9_562 : (Cond.code yX3_rowsToOrder cX3_rowsToOrder 7 (some .int)) ∈ vW9 := vW9_p11 _ (List.mem_of_getElem? (i := 34) rfl)
theorem mvW9_561 : (Cond.selects RX3 yX3_rowsToOrder yX3_rowsToOrder) ∈ vW9 := vW9_p11 _ (List.mem_of_getElem? (i := 33) rfl)
theorem mvW9_560 : (Cond.instanceMethod yX3_rowsToOrder) ∈ vW9 := vW9_p11 _ (List.mem_of_getElem? (i := 32) rfl)
theorem mvW9_559 : (Cond.methodLink RX9 237 yX3_rowsToOrder) ∈ vW9 := vW9_p11 _ (List.mem_of_getElem? (i := 31) rfl)
theorem pvW9_117 : ∀ w ∈ ([.methodLink RX9 237 yX3_rowsToOrder, .instanceMethod yX3_rowsToOrder, .selects RX3 yX3_rowsToOrder yX3_rowsToOrder, .initialized RX3] : List Cond), w ∈ vW9 := (List.forall_mem_cons.mpr ⟨mvW9_559, (List.forall_mem_cons.mpr ⟨mvW9_560, (List.forall_mem_cons.mpr ⟨mvW9_561, (List.forall_mem_cons.mpr ⟨mvW9_461, (fun _ h => absurd h List.not_mem_nil)⟩)⟩)⟩)⟩)
theorem mvW9_567 : (Cond.code yX3_leastPaid cX3_leastPaid 8 (some .int)) ∈ vW9 := vW9_p11 _ (List.mem_of_getElem? (i := 39) rfl)
theorem mvW9_566 : (Cond.selects RX3 yX3_leastPaid yX3_leastPaid) ∈ vW9 := vW9_p11 _ (List.mem_of_getElem? (i := 38) rfl)
theorem mvW9_565 : (Cond.instanceMethod yX3_leastPaid) ∈ vW9 := vW9_p11 _ (List.mem_of_getElem? (i := 37) rfl)
theorem mvW9_564 : (Cond.methodLink RX9 243 yX3_leastPaid) ∈ vW9 := vW9_p11 _ (List.mem_of_getElem? (i := 36) rfl)
theorem pvW9_118 : ∀ w ∈ ([.methodLink RX9 243 yX3_leastPaid, .instanceMethod yX3_leastPaid, .selects RX3 yX3_leastPaid yX3_leastPaid, .initialized RX3] : List Cond), w ∈ vW9 := (List.forall_mem_cons.mpr ⟨mvW9_564, (List.forall_mem_cons.mpr ⟨mvW9_565, (List.forall_mem_cons.mpr ⟨mvW9_566, (List.forall_mem_cons.mpr ⟨mvW9_461, (fun _ h => absurd h List.not_mem_nil)⟩)⟩)⟩)⟩)
theorem mvW9_585 : (Cond.code yX3_worstTowers cX3_worstTowers 7 (some .int)) ∈ vW9 := vW9_p12 _ (List.mem_of_getElem? (i := 9) rfl)
theorem mvW9_584 : (Cond.selects RX3 yX3_worstTowers yX3_worstTowers) ∈ vW9 := vW9_p12 _ (List.mem_of_getElem? (i := 8) rfl)
theorem mvW9_583 : (Cond.instanceMethod yX3_worstTowers) ∈ vW9 := vW9_p12 _ (List.mem_of_getElem? (i := 7) rfl)
theorem mvW9_582 : (Cond.methodLink RX9 247 yX3_worstTowers) ∈ vW9 := vW9_p12 _ (List.mem_of_getElem? (i := 6) rfl)
theorem pvW9_119 : ∀ w ∈ ([.methodLink RX9 247 yX3_worstTowers, .instanceMethod yX3_worstTowers, .selects RX3 yX3_worstTowers yX3_worstTowers, .initialized RX3] : List Cond), w ∈ vW9 := (List.forall_mem_cons.mpr ⟨mvW9_582, (List.forall_mem_cons.mpr ⟨mvW9_583, (List.forall_mem_cons.mpr ⟨mvW9_584, (List.forall_mem_cons.mpr ⟨mvW9_461, (fun _ h => absurd h List.not_mem_nil)⟩)⟩)⟩)⟩)
theorem mvW9_589 : (Cond.code yX3_towersReached cX3_towersReached 1 (some .int)) ∈ vW9 := vW9_p12 _ (List.mem_of_getElem? (i := 13) rfl)
theorem mvW9_588 : (Cond.selects RX3 yX3_towersReached yX3_towersReached) ∈ vW9 := vW9_p12 _ (List.mem_of_getElem? (i := 12) rfl)
theorem mvW9_587 : (Cond.instanceMethod yX3_towersReached) ∈ vW9 := vW9_p12 _ (List.mem_of_getElem? (i := 11) rfl)
theorem mvW9_586 : (Cond.methodLink RX9 250 yX3_towersReached) ∈ vW9 := vW9_p12 _ (List.mem_of_getElem? (i := 10) rfl)
theorem pvW9_120 : ∀ w ∈ ([.methodLink RX9 250 yX3_towersReached, .instanceMethod yX3_towersReached, .selects RX3 yX3_towersReached yX3_towersReached, .initialized RX3] : List Cond), w ∈ vW9 := (List.forall_mem_cons.mpr ⟨mvW9_586, (List.forall_mem_cons.mpr ⟨mvW9_587, (List.forall_mem_cons.mpr ⟨mvW9_588, (List.forall_mem_cons.mpr ⟨mvW9_461, (fun _ h => absurd h List.not_mem_nil)⟩)⟩)⟩)⟩)
theorem mvW9_599 : (Cond.methodLink RX9 253 yX8_gapCount) ∈ vW9 := vW9_p12 _ (List.mem_of_getElem? (i := 23) rfl)
theorem pvW9_121 : ∀ w ∈ ([.methodLink RX9 253 yX8_gapCount, .instanceMethod yX8_gapCount, .selects RX8 yX8_gapCount yX8_gapCount, .initialized RX8] : List Cond), w ∈ vW9 := (List.forall_mem_cons.mpr ⟨mvW9_599, (List.forall_mem_cons.mpr ⟨mvW9_384, (List.forall_mem_cons.mpr ⟨mvW9_385, (List.forall_mem_cons.mpr ⟨mvW9_18, (fun _ h => absurd h List.not_mem_nil)⟩)⟩)⟩)⟩)
theorem mvW9_603 : (Cond.code yX3_turnsToNumber cX3_turnsToNumber 5 (some .int)) ∈ vW9 := vW9_p12 _ (List.mem_of_getElem? (i := 27) rfl)
theorem mvW9_602 : (Cond.selects RX3 yX3_turnsToNumber yX3_turnsToNumber) ∈ vW9 := vW9_p12 _ (List.mem_of_getElem? (i := 26) rfl)
theorem mvW9_601 : (Cond.instanceMethod yX3_turnsToNumber) ∈ vW9 := vW9_p12 _ (List.mem_of_getElem? (i := 25) rfl)
theorem mvW9_600 : (Cond.methodLink RX9 256 yX3_turnsToNumber) ∈ vW9 := vW9_p12 _ (List.mem_of_getElem? (i := 24) rfl)
theorem pvW9_122 : ∀ w ∈ ([.methodLink RX9 256 yX3_turnsToNumber, .instanceMethod yX3_turnsToNumber, .selects RX3 yX3_turnsToNumber yX3_turnsToNumber, .initialized RX3] : List Cond), w ∈ vW9 := (List.forall_mem_cons.mpr ⟨mvW9_600, (List.forall_mem_cons.mpr ⟨mvW9_601, (List.forall_mem_cons.mpr ⟨mvW9_602, (List.forall_mem_cons.mpr ⟨mvW9_461, (fun _ h => absurd h List.not_mem_nil)⟩)⟩)⟩)⟩)
theorem mvW9_607 : (Cond.code yX3_turnsToTop cX3_turnsToTop 2 (some .int)) ∈ vW9 := vW9_p12 _ (List.mem_of_getElem? (i := 31) rfl)
theorem mvW9_606 : (Cond.selects RX3 yX3_turnsToTop yX3_turnsToTop) ∈ vW9 := vW9_p12 _ (List.mem_of_getElem? (i := 30) rfl)
theorem mvW9_605 : (Cond.instanceMethod yX3_turnsToTop) ∈ vW9 := vW9_p12 _ (List.mem_of_getElem? (i := 29) rfl)
theorem mvW9_604 : (Cond.methodLink RX9 259 yX3_turnsToTop) ∈ vW9 := vW9_p12 _ (List.mem_of_getElem? (i := 28) rfl)
theorem pvW9_123 : ∀ w ∈ ([.methodLink RX9 259 yX3_turnsToTop, .instanceMethod yX3_turnsToTop, .selects RX3 yX3_turnsToTop yX3_turnsToTop, .initialized RX3] : List Cond), w ∈ vW9 := (List.forall_mem_cons.mpr ⟨mvW9_604, (List.forall_mem_cons.mpr ⟨mvW9_605, (List.forall_mem_cons.mpr ⟨mvW9_606, (List.forall_mem_cons.mpr ⟨mvW9_461, (fun _ h => absurd h List.not_mem_nil)⟩)⟩)⟩)⟩)
theorem mvW9_608 : (Cond.methodLink RX9 262 yJ6_bitCount_0f7a4) ∈ vW9 := vW9_p12 _ (List.mem_of_getElem? (i := 32) rfl)
theorem pvW9_124 : ∀ w ∈ ([.methodLink RX9 262 yJ6_bitCount_0f7a4, .static yJ6_bitCount_0f7a4, .initialized yJ6_bitCount_0f7a4.cls] : List Cond), w ∈ vW9 := (List.forall_mem_cons.mpr ⟨mvW9_608, (List.forall_mem_cons.mpr ⟨mvW9_423, (List.forall_mem_cons.mpr ⟨mvW9_424, (fun _ h => absurd h List.not_mem_nil)⟩)⟩)⟩)
theorem mvW9_612 : (Cond.code yX8_rises cX8_rises 5 (some .boolean)) ∈ vW9 := vW9_p12 _ (List.mem_of_getElem? (i := 36) rfl)
theorem mvW9_611 : (Cond.selects RX8 yX8_rises yX8_rises) ∈ vW9 := vW9_p12 _ (List.mem_of_getElem? (i := 35) rfl)
theorem mvW9_610 : (Cond.instanceMethod yX8_rises) ∈ vW9 := vW9_p12 _ (List.mem_of_getElem? (i := 34) rfl)
theorem mvW9_609 : (Cond.methodLink RX9 270 yX8_rises) ∈ vW9 := vW9_p12 _ (List.mem_of_getElem? (i := 33) rfl)
theorem pvW9_125 : ∀ w ∈ ([.methodLink RX9 270 yX8_rises, .instanceMethod yX8_rises, .selects RX8 yX8_rises yX8_rises, .initialized RX8] : List Cond), w ∈ vW9 := (List.forall_mem_cons.mpr ⟨mvW9_609, (List.forall_mem_cons.mpr ⟨mvW9_610, (List.forall_mem_cons.mpr ⟨mvW9_611, (List.forall_mem_cons.mpr ⟨mvW9_18, (fun _ h => absurd h List.not_mem_nil)⟩)⟩)⟩)⟩)
theorem mvW9_616 : (Cond.code yX6_agrees cX6_agrees 3 (some .boolean)) ∈ vW9 := vW9_p12 _ (List.mem_of_getElem? (i := 40) rfl)
theorem mvW9_615 : (Cond.selects RX6 yX6_agrees yX6_agrees) ∈ vW9 := vW9_p12 _ (List.mem_of_getElem? (i := 39) rfl)
theorem mvW9_614 : (Cond.instanceMethod yX6_agrees) ∈ vW9 := vW9_p12 _ (List.mem_of_getElem? (i := 38) rfl)
theorem mvW9_613 : (Cond.methodLink RX9 282 yX6_agrees) ∈ vW9 := vW9_p12 _ (List.mem_of_getElem? (i := 37) rfl)
theorem pvW9_126 : ∀ w ∈ ([.methodLink RX9 282 yX6_agrees, .instanceMethod yX6_agrees, .selects RX6 yX6_agrees yX6_agrees, .initialized RX6] : List Cond), w ∈ vW9 := (List.forall_mem_cons.mpr ⟨mvW9_613, (List.forall_mem_cons.mpr ⟨mvW9_614, (List.forall_mem_cons.mpr ⟨mvW9_615, (List.forall_mem_cons.mpr ⟨mvW9_49, (fun _ h => absurd h List.not_mem_nil)⟩)⟩)⟩)⟩)
theorem mvW9_627 : (Cond.code yX9_was cX9_was 4 (some .int)) ∈ vW9 := vW9_p13 _ (List.mem_of_getElem? (i := 3) rfl)
theorem mvW9_626 : (Cond.selects RX9 yX9_was yX9_was) ∈ vW9 := vW9_p13 _ (List.mem_of_getElem? (i := 2) rfl)
theorem mvW9_625 : (Cond.instanceMethod yX9_was) ∈ vW9 := vW9_p13 _ (List.mem_of_getElem? (i := 1) rfl)
theorem mvW9_624 : (Cond.methodLink RX9 285 yX9_was) ∈ vW9 := vW9_p13 _ (List.mem_of_getElem? (i := 0) rfl)
theorem pvW9_127 : ∀ w ∈ ([.methodLink RX9 285 yX9_was, .instanceMethod yX9_was, .selects RX9 yX9_was yX9_was, .initialized RX9] : List Cond), w ∈ vW9 := (List.forall_mem_cons.mpr ⟨mvW9_624, (List.forall_mem_cons.mpr ⟨mvW9_625, (List.forall_mem_cons.mpr ⟨mvW9_626, (List.forall_mem_cons.mpr ⟨mvW9_4, (fun _ h => absurd h List.not_mem_nil)⟩)⟩)⟩)⟩)
theorem mvW9_631 : (Cond.code yX8_mostAlike cX8_mostAlike 7 (some .int)) ∈ vW9 := vW9_p13 _ (List.mem_of_getElem? (i := 7) rfl)
theorem mvW9_630 : (Cond.selects RX8 yX8_mostAlike yX8_mostAlike) ∈ vW9 := vW9_p13 _ (List.mem_of_getElem? (i := 6) rfl)
theorem mvW9_629 : (Cond.instanceMethod yX8_mostAlike) ∈ vW9 := vW9_p13 _ (List.mem_of_getElem? (i := 5) rfl)
theorem mvW9_628 : (Cond.methodLink RX9 288 yX8_mostAlike) ∈ vW9 := vW9_p13 _ (List.mem_of_getElem? (i := 4) rfl)
theorem pvW9_128 : ∀ w ∈ ([.methodLink RX9 288 yX8_mostAlike, .instanceMethod yX8_mostAlike, .selects RX8 yX8_mostAlike yX8_mostAlike, .initialized RX8] : List Cond), w ∈ vW9 := (List.forall_mem_cons.mpr ⟨mvW9_628, (List.forall_mem_cons.mpr ⟨mvW9_629, (List.forall_mem_cons.mpr ⟨mvW9_630, (List.forall_mem_cons.mpr ⟨mvW9_18, (fun _ h => absurd h List.not_mem_nil)⟩)⟩)⟩)⟩)
theorem mvW9_639 : (Cond.code yJ7_fill_d0a16 cJ7_fill_d0a16 5 none) ∈ vW9 := vW9_p13 _ (List.mem_of_getElem? (i := 15) rfl)
theorem mvW9_638 : (Cond.static yJ7_fill_d0a16) ∈ vW9 := vW9_p13 _ (List.mem_of_getElem? (i := 14) rfl)
theorem mvW9_637 : (Cond.methodLink RX9 293 yJ7_fill_d0a16) ∈ vW9 := vW9_p13 _ (List.mem_of_getElem? (i := 13) rfl)
theorem pvW9_129 : ∀ w ∈ ([.methodLink RX9 293 yJ7_fill_d0a16, .static yJ7_fill_d0a16, .initialized yJ7_fill_d0a16.cls] : List Cond), w ∈ vW9 := (List.forall_mem_cons.mpr ⟨mvW9_637, (List.forall_mem_cons.mpr ⟨mvW9_638, (List.forall_mem_cons.mpr ⟨mvW9_511, (fun _ h => absurd h List.not_mem_nil)⟩)⟩)⟩)
theorem mvW9_50 : (Cond.code yX6_lawAt cX6_lawAt 2 (some (.object "TurnedFloors$Text"))) ∈ vW9 := vW9_p1 _ (List.mem_of_getElem? (i := 2) rfl)
theorem mvW9_48 : (Cond.selects RX6 yX6_lawAt yX6_lawAt) ∈ vW9 := vW9_p1 _ (List.mem_of_getElem? (i := 0) rfl)
theorem mvW9_47 : (Cond.instanceMethod yX6_lawAt) ∈ vW9 := vW9_p0 _ (List.mem_of_getElem? (i := 47) rfl)
theorem mvW9_46 : (Cond.methodLink RX9 306 yX6_lawAt) ∈ vW9 := vW9_p0 _ (List.mem_of_getElem? (i := 46) rfl)
theorem pvW9_130 : ∀ w ∈ ([.methodLink RX9 306 yX6_lawAt, .instanceMethod yX6_lawAt, .selects RX6 yX6_lawAt yX6_lawAt, .initialized RX6] : List Cond), w ∈ vW9 := (List.forall_mem_cons.mpr ⟨mvW9_46, (List.forall_mem_cons.mpr ⟨mvW9_47, (List.forall_mem_cons.mpr ⟨mvW9_48, (List.forall_mem_cons.mpr ⟨mvW9_49, (fun _ h => absurd h List.not_mem_nil)⟩)⟩)⟩)⟩)
theorem mvW9_61 : (Cond.code yX1_seat cX1_seat 3 none) ∈ vW9 := vW9_p1 _ (List.mem_of_getElem? (i := 13) rfl)
theorem mvW9_59 : (Cond.selects RX1 yX1_seat yX1_seat) ∈ vW9 := vW9_p1 _ (List.mem_of_getElem? (i := 11) rfl)
theorem mvW9_58 : (Cond.instanceMethod yX1_seat) ∈ vW9 := vW9_p1 _ (List.mem_of_getElem? (i := 10) rfl)
theorem mvW9_57 : (Cond.methodLink RX9 313 yX1_seat) ∈ vW9 := vW9_p1 _ (List.mem_of_getElem? (i := 9) rfl)
theorem pvW9_131 : ∀ w ∈ ([.methodLink RX9 313 yX1_seat, .instanceMethod yX1_seat, .selects RX1 yX1_seat yX1_seat, .initialized RX1] : List Cond), w ∈ vW9 := (List.forall_mem_cons.mpr ⟨mvW9_57, (List.forall_mem_cons.mpr ⟨mvW9_58, (List.forall_mem_cons.mpr ⟨mvW9_59, (List.forall_mem_cons.mpr ⟨mvW9_60, (fun _ h => absurd h List.not_mem_nil)⟩)⟩)⟩)⟩)
theorem mvW9_449 : (Cond.methodLink RX9 318 yX8_pack) ∈ vW9 := vW9_p9 _ (List.mem_of_getElem? (i := 17) rfl)
theorem pvW9_132 : ∀ w ∈ ([.methodLink RX9 318 yX8_pack, .instanceMethod yX8_pack, .selects RX8 yX8_pack yX8_pack, .initialized RX8] : List Cond), w ∈ vW9 := (List.forall_mem_cons.mpr ⟨mvW9_449, (List.forall_mem_cons.mpr ⟨mvW9_364, (List.forall_mem_cons.mpr ⟨mvW9_365, (List.forall_mem_cons.mpr ⟨mvW9_18, (fun _ h => absurd h List.not_mem_nil)⟩)⟩)⟩)⟩)
theorem mvW9_644 : (Cond.code yX9_nextDraw cX9_nextDraw 1 (some .int)) ∈ vW9 := vW9_p13 _ (List.mem_of_getElem? (i := 20) rfl)
theorem mvW9_643 : (Cond.static yX9_nextDraw) ∈ vW9 := vW9_p13 _ (List.mem_of_getElem? (i := 19) rfl)
theorem mvW9_642 : (Cond.methodLink RX9 322 yX9_nextDraw) ∈ vW9 := vW9_p13 _ (List.mem_of_getElem? (i := 18) rfl)
theorem pvW9_133 : ∀ w ∈ ([.methodLink RX9 322 yX9_nextDraw, .static yX9_nextDraw, .initialized yX9_nextDraw.cls] : List Cond), w ∈ vW9 := (List.forall_mem_cons.mpr ⟨mvW9_642, (List.forall_mem_cons.mpr ⟨mvW9_643, (List.forall_mem_cons.mpr ⟨mvW9_4, (fun _ h => absurd h List.not_mem_nil)⟩)⟩)⟩)
theorem mvW9_450 : (Cond.methodLink RX9 325 yX8_act) ∈ vW9 := vW9_p9 _ (List.mem_of_getElem? (i := 18) rfl)
theorem pvW9_134 : ∀ w ∈ ([.methodLink RX9 325 yX8_act, .instanceMethod yX8_act, .selects RX8 yX8_act yX8_act, .initialized RX8] : List Cond), w ∈ vW9 := (List.forall_mem_cons.mpr ⟨mvW9_450, (List.forall_mem_cons.mpr ⟨mvW9_396, (List.forall_mem_cons.mpr ⟨mvW9_397, (List.forall_mem_cons.mpr ⟨mvW9_18, (fun _ h => absurd h List.not_mem_nil)⟩)⟩)⟩)⟩)
theorem mvW9_652 : (Cond.code yX9_isImage cX9_isImage 1 (some .boolean)) ∈ vW9 := vW9_p13 _ (List.mem_of_getElem? (i := 28) rfl)
theorem mvW9_651 : (Cond.static yX9_isImage) ∈ vW9 := vW9_p13 _ (List.mem_of_getElem? (i := 27) rfl)
theorem mvW9_650 : (Cond.methodLink RX9 332 yX9_isImage) ∈ vW9 := vW9_p13 _ (List.mem_of_getElem? (i := 26) rfl)
theorem pvW9_135 : ∀ w ∈ ([.methodLink RX9 332 yX9_isImage, .static yX9_isImage, .initialized yX9_isImage.cls] : List Cond), w ∈ vW9 := (List.forall_mem_cons.mpr ⟨mvW9_650, (List.forall_mem_cons.mpr ⟨mvW9_651, (List.forall_mem_cons.mpr ⟨mvW9_4, (fun _ h => absurd h List.not_mem_nil)⟩)⟩)⟩)
theorem mvW9_656 : (Cond.code yX6_copyFrom cX6_copyFrom 3 none) ∈ vW9 := vW9_p13 _ (List.mem_of_getElem? (i := 32) rfl)
theorem mvW9_655 : (Cond.selects RX6 yX6_copyFrom yX6_copyFrom) ∈ vW9 := vW9_p13 _ (List.mem_of_getElem? (i := 31) rfl)
theorem mvW9_654 : (Cond.instanceMethod yX6_copyFrom) ∈ vW9 := vW9_p13 _ (List.mem_of_getElem? (i := 30) rfl)
theorem mvW9_653 : (Cond.methodLink RX9 335 yX6_copyFrom) ∈ vW9 := vW9_p13 _ (List.mem_of_getElem? (i := 29) rfl)
theorem pvW9_136 : ∀ w ∈ ([.methodLink RX9 335 yX6_copyFrom, .instanceMethod yX6_copyFrom, .selects RX6 yX6_copyFrom yX6_copyFrom, .initialized RX6] : List Cond), w ∈ vW9 := (List.forall_mem_cons.mpr ⟨mvW9_653, (List.forall_mem_cons.mpr ⟨mvW9_654, (List.forall_mem_cons.mpr ⟨mvW9_655, (List.forall_mem_cons.mpr ⟨mvW9_49, (fun _ h => absurd h List.not_mem_nil)⟩)⟩)⟩)⟩)
theorem mvW9_663 : (Cond.code yX8_onHeads cX8_onHeads 3 (some .int)) ∈ vW9 := vW9_p13 _ (List.mem_of_getElem? (i := 39) rfl)
theorem mvW9_662 : (Cond.selects RX8 yX8_onHeads yX8_onHeads) ∈ vW9 := vW9_p13 _ (List.mem_of_getElem? (i := 38) rfl)
theorem mvW9_661 : (Cond.instanceMethod yX8_onHeads) ∈ vW9 := vW9_p13 _ (List.mem_of_getElem? (i := 37) rfl)
theorem mvW9_660 : (Cond.methodLink RX9 339 yX8_onHeads) ∈ vW9 := vW9_p13 _ (List.mem_of_getElem? (i := 36) rfl)
theorem pvW9_137 : ∀ w ∈ ([.methodLink RX9 339 yX8_onHeads, .instanceMethod yX8_onHeads, .selects RX8 yX8_onHeads yX8_onHeads, .initialized RX8] : List Cond), w ∈ vW9 := (List.forall_mem_cons.mpr ⟨mvW9_660, (List.forall_mem_cons.mpr ⟨mvW9_661, (List.forall_mem_cons.mpr ⟨mvW9_662, (List.forall_mem_cons.mpr ⟨mvW9_18, (fun _ h => absurd h List.not_mem_nil)⟩)⟩)⟩)⟩)
theorem mvW9_451 : (Cond.methodLink RX9 342 yX0_keep) ∈ vW9 := vW9_p9 _ (List.mem_of_getElem? (i := 19) rfl)
theorem pvW9_138 : ∀ w ∈ ([.methodLink RX9 342 yX0_keep, .instanceMethod yX0_keep, .selects RX0 yX0_keep yX0_keep, .initialized RX0] : List Cond), w ∈ vW9 := (List.forall_mem_cons.mpr ⟨mvW9_451, (List.forall_mem_cons.mpr ⟨mvW9_441, (List.forall_mem_cons.mpr ⟨mvW9_442, (List.forall_mem_cons.mpr ⟨mvW9_30, (fun _ h => absurd h List.not_mem_nil)⟩)⟩)⟩)⟩)
theorem mvW9_462 : (Cond.code yX3_lay cX3_lay 7 none) ∈ vW9 := vW9_p9 _ (List.mem_of_getElem? (i := 30) rfl)
theorem mvW9_460 : (Cond.selects RX3 yX3_lay yX3_lay) ∈ vW9 := vW9_p9 _ (List.mem_of_getElem? (i := 28) rfl)
theorem mvW9_459 : (Cond.instanceMethod yX3_lay) ∈ vW9 := vW9_p9 _ (List.mem_of_getElem? (i := 27) rfl)
theorem mvW9_458 : (Cond.methodLink RX9 346 yX3_lay) ∈ vW9 := vW9_p9 _ (List.mem_of_getElem? (i := 26) rfl)
theorem pvW9_139 : ∀ w ∈ ([.methodLink RX9 346 yX3_lay, .instanceMethod yX3_lay, .selects RX3 yX3_lay yX3_lay, .initialized RX3] : List Cond), w ∈ vW9 := (List.forall_mem_cons.mpr ⟨mvW9_458, (List.forall_mem_cons.mpr ⟨mvW9_459, (List.forall_mem_cons.mpr ⟨mvW9_460, (List.forall_mem_cons.mpr ⟨mvW9_461, (fun _ h => absurd h List.not_mem_nil)⟩)⟩)⟩)⟩)
theorem mvW10_37 : (Cond.code yX10_good cX10_good 2 (some .int)) ∈ vW10 := vW10_p0 _ (List.mem_of_getElem? (i := 37) rfl)
theorem mvW10_2 : (Cond.initialized RX10) ∈ vW10 := vW10_p0 _ (List.mem_of_getElem? (i := 2) rfl)
theorem mvW10_36 : (Cond.selects RX10 yX10_good yX10_good) ∈ vW10 := vW10_p0 _ (List.mem_of_getElem? (i := 36) rfl)
theorem mvW10_35 : (Cond.instanceMethod yX10_good) ∈ vW10 := vW10_p0 _ (List.mem_of_getElem? (i := 35) rfl)
theorem mvW10_34 : (Cond.methodLink RX10 14 yX10_good) ∈ vW10 := vW10_p0 _ (List.mem_of_getElem? (i := 34) rfl)
theorem pvW10_140 : ∀ w ∈ ([.methodLink RX10 14 yX10_good, .instanceMethod yX10_good, .selects RX10 yX10_good yX10_good, .initialized RX10] : List Cond), w ∈ vW10 := (List.forall_mem_cons.mpr ⟨mvW10_34, (List.forall_mem_cons.mpr ⟨mvW10_35, (List.forall_mem_cons.mpr ⟨mvW10_36, (List.forall_mem_cons.mpr ⟨mvW10_2, (fun _ h => absurd h List.not_mem_nil)⟩)⟩)⟩)⟩)
theorem mvW10_6 : (Cond.code yX10_lies cX10_lies 3 (some .boolean)) ∈ vW10 := vW10_p0 _ (List.mem_of_getElem? (i := 6) rfl)
theorem mvW10_5 : (Cond.static yX10_lies) ∈ vW10 := vW10_p0 _ (List.mem_of_getElem? (i := 5) rfl)
theorem mvW10_4 : (Cond.methodLink RX10 18 yX10_lies) ∈ vW10 := vW10_p0 _ (List.mem_of_getElem? (i := 4) rfl)
theorem pvW10_141 : ∀ w ∈ ([.methodLink RX10 18 yX10_lies, .static yX10_lies, .initialized yX10_lies.cls] : List Cond), w ∈ vW10 := (List.forall_mem_cons.mpr ⟨mvW10_4, (List.forall_mem_cons.mpr ⟨mvW10_5, (List.forall_mem_cons.mpr ⟨mvW10_2, (fun _ h => absurd h List.not_mem_nil)⟩)⟩)⟩)
theorem mvW10_13 : (Cond.code yX10_refuses cX10_refuses 2 (some .int)) ∈ vW10 := vW10_p0 _ (List.mem_of_getElem? (i := 13) rfl)
theorem mvW10_12 : (Cond.selects RX10 yX10_refuses yX10_refuses) ∈ vW10 := vW10_p0 _ (List.mem_of_getElem? (i := 12) rfl)
theorem mvW10_11 : (Cond.instanceMethod yX10_refuses) ∈ vW10 := vW10_p0 _ (List.mem_of_getElem? (i := 11) rfl)
theorem mvW10_10 : (Cond.methodLink RX10 119 yX10_refuses) ∈ vW10 := vW10_p0 _ (List.mem_of_getElem? (i := 10) rfl)
theorem pvW10_142 : ∀ w ∈ ([.methodLink RX10 119 yX10_refuses, .instanceMethod yX10_refuses, .selects RX10 yX10_refuses yX10_refuses, .initialized RX10] : List Cond), w ∈ vW10 := (List.forall_mem_cons.mpr ⟨mvW10_10, (List.forall_mem_cons.mpr ⟨mvW10_11, (List.forall_mem_cons.mpr ⟨mvW10_12, (List.forall_mem_cons.mpr ⟨mvW10_2, (fun _ h => absurd h List.not_mem_nil)⟩)⟩)⟩)⟩)
theorem mvW10_32 : (Cond.code yX10_settled cX10_settled 2 (some .int)) ∈ vW10 := vW10_p0 _ (List.mem_of_getElem? (i := 32) rfl)
theorem mvW10_31 : (Cond.selects RX10 yX10_settled yX10_settled) ∈ vW10 := vW10_p0 _ (List.mem_of_getElem? (i := 31) rfl)
theorem mvW10_30 : (Cond.instanceMethod yX10_settled) ∈ vW10 := vW10_p0 _ (List.mem_of_getElem? (i := 30) rfl)
theorem mvW10_29 : (Cond.methodLink RX10 122 yX10_settled) ∈ vW10 := vW10_p0 _ (List.mem_of_getElem? (i := 29) rfl)
theorem pvW10_143 : ∀ w ∈ ([.methodLink RX10 122 yX10_settled, .instanceMethod yX10_settled, .selects RX10 yX10_settled yX10_settled, .initialized RX10] : List Cond), w ∈ vW10 := (List.forall_mem_cons.mpr ⟨mvW10_29, (List.forall_mem_cons.mpr ⟨mvW10_30, (List.forall_mem_cons.mpr ⟨mvW10_31, (List.forall_mem_cons.mpr ⟨mvW10_2, (fun _ h => absurd h List.not_mem_nil)⟩)⟩)⟩)⟩)
theorem mvW10_24 : (Cond.code yX10_size cX10_size 1 (some .int)) ∈ vW10 := vW10_p0 _ (List.mem_of_getElem? (i := 24) rfl)
theorem mvW10_23 : (Cond.selects RX10 yX10_size yX10_size) ∈ vW10 := vW10_p0 _ (List.mem_of_getElem? (i := 23) rfl)
theorem mvW10_22 : (Cond.instanceMethod yX10_size) ∈ vW10 := vW10_p0 _ (List.mem_of_getElem? (i := 22) rfl)
theorem mvW10_21 : (Cond.methodLink RX10 125 yX10_size) ∈ vW10 := vW10_p0 _ (List.mem_of_getElem? (i := 21) rfl)
theorem pvW10_144 : ∀ w ∈ ([.methodLink RX10 125 yX10_size, .instanceMethod yX10_size, .selects RX10 yX10_size yX10_size, .initialized RX10] : List Cond), w ∈ vW10 := (List.forall_mem_cons.mpr ⟨mvW10_21, (List.forall_mem_cons.mpr ⟨mvW10_22, (List.forall_mem_cons.mpr ⟨mvW10_23, (List.forall_mem_cons.mpr ⟨mvW10_2, (fun _ h => absurd h List.not_mem_nil)⟩)⟩)⟩)⟩)
theorem mvW10_3 : (Cond.code yX10_isRank cX10_isRank 1 (some .boolean)) ∈ vW10 := vW10_p0 _ (List.mem_of_getElem? (i := 3) rfl)
theorem mvW10_1 : (Cond.static yX10_isRank) ∈ vW10 := vW10_p0 _ (List.mem_of_getElem? (i := 1) rfl)
theorem mvW10_0 : (Cond.methodLink RX10 129 yX10_isRank) ∈ vW10 := vW10_p0 _ (List.mem_of_getElem? (i := 0) rfl)
theorem pvW10_145 : ∀ w ∈ ([.methodLink RX10 129 yX10_isRank, .static yX10_isRank, .initialized yX10_isRank.cls] : List Cond), w ∈ vW10 := (List.forall_mem_cons.mpr ⟨mvW10_0, (List.forall_mem_cons.mpr ⟨mvW10_1, (List.forall_mem_cons.mpr ⟨mvW10_2, (fun _ h => absurd h List.not_mem_nil)⟩)⟩)⟩)
theorem mvW10_9 : (Cond.code yX10_isBit cX10_isBit 1 (some .boolean)) ∈ vW10 := vW10_p0 _ (List.mem_of_getElem? (i := 9) rfl)
theorem mvW10_8 : (Cond.static yX10_isBit) ∈ vW10 := vW10_p0 _ (List.mem_of_getElem? (i := 8) rfl)
theorem mvW10_7 : (Cond.methodLink RX10 133 yX10_isBit) ∈ vW10 := vW10_p0 _ (List.mem_of_getElem? (i := 7) rfl)
theorem pvW10_146 : ∀ w ∈ ([.methodLink RX10 133 yX10_isBit, .static yX10_isBit, .initialized yX10_isBit.cls] : List Cond), w ∈ vW10 := (List.forall_mem_cons.mpr ⟨mvW10_7, (List.forall_mem_cons.mpr ⟨mvW10_8, (List.forall_mem_cons.mpr ⟨mvW10_2, (fun _ h => absurd h List.not_mem_nil)⟩)⟩)⟩)
theorem mvW10_19 : (Cond.code yX10_placeOf cX10_placeOf 4 (some .int)) ∈ vW10 := vW10_p0 _ (List.mem_of_getElem? (i := 19) rfl)
theorem mvW10_18 : (Cond.selects RX10 yX10_placeOf yX10_placeOf) ∈ vW10 := vW10_p0 _ (List.mem_of_getElem? (i := 18) rfl)
theorem mvW10_17 : (Cond.instanceMethod yX10_placeOf) ∈ vW10 := vW10_p0 _ (List.mem_of_getElem? (i := 17) rfl)
theorem mvW10_16 : (Cond.methodLink RX10 136 yX10_placeOf) ∈ vW10 := vW10_p0 _ (List.mem_of_getElem? (i := 16) rfl)
theorem pvW10_147 : ∀ w ∈ ([.methodLink RX10 136 yX10_placeOf, .instanceMethod yX10_placeOf, .selects RX10 yX10_placeOf yX10_placeOf, .initialized RX10] : List Cond), w ∈ vW10 := (List.forall_mem_cons.mpr ⟨mvW10_16, (List.forall_mem_cons.mpr ⟨mvW10_17, (List.forall_mem_cons.mpr ⟨mvW10_18, (List.forall_mem_cons.mpr ⟨mvW10_2, (fun _ h => absurd h List.not_mem_nil)⟩)⟩)⟩)⟩)
theorem mvW10_28 : (Cond.code yX10_adds cX10_adds 3 none) ∈ vW10 := vW10_p0 _ (List.mem_of_getElem? (i := 28) rfl)
theorem mvW10_27 : (Cond.selects RX10 yX10_adds yX10_adds) ∈ vW10 := vW10_p0 _ (List.mem_of_getElem? (i := 27) rfl)
theorem mvW10_26 : (Cond.instanceMethod yX10_adds) ∈ vW10 := vW10_p0 _ (List.mem_of_getElem? (i := 26) rfl)
theorem mvW10_25 : (Cond.methodLink RX10 139 yX10_adds) ∈ vW10 := vW10_p0 _ (List.mem_of_getElem? (i := 25) rfl)
theorem pvW10_148 : ∀ w ∈ ([.methodLink RX10 139 yX10_adds, .instanceMethod yX10_adds, .selects RX10 yX10_adds yX10_adds, .initialized RX10] : List Cond), w ∈ vW10 := (List.forall_mem_cons.mpr ⟨mvW10_25, (List.forall_mem_cons.mpr ⟨mvW10_26, (List.forall_mem_cons.mpr ⟨mvW10_27, (List.forall_mem_cons.mpr ⟨mvW10_2, (fun _ h => absurd h List.not_mem_nil)⟩)⟩)⟩)⟩)
theorem mvW10_41 : (Cond.code yX10_isPlace cX10_isPlace 2 (some .boolean)) ∈ vW10 := vW10_p0 _ (List.mem_of_getElem? (i := 41) rfl)
theorem mvW10_40 : (Cond.selects RX10 yX10_isPlace yX10_isPlace) ∈ vW10 := vW10_p0 _ (List.mem_of_getElem? (i := 40) rfl)
theorem mvW10_39 : (Cond.instanceMethod yX10_isPlace) ∈ vW10 := vW10_p0 _ (List.mem_of_getElem? (i := 39) rfl)
theorem mvW10_38 : (Cond.methodLink RX10 143 yX10_isPlace) ∈ vW10 := vW10_p0 _ (List.mem_of_getElem? (i := 38) rfl)
theorem pvW10_149 : ∀ w ∈ ([.methodLink RX10 143 yX10_isPlace, .instanceMethod yX10_isPlace, .selects RX10 yX10_isPlace yX10_isPlace, .initialized RX10] : List Cond), w ∈ vW10 := (List.forall_mem_cons.mpr ⟨mvW10_38, (List.forall_mem_cons.mpr ⟨mvW10_39, (List.forall_mem_cons.mpr ⟨mvW10_40, (List.forall_mem_cons.mpr ⟨mvW10_2, (fun _ h => absurd h List.not_mem_nil)⟩)⟩)⟩)⟩)
theorem mvW10_45 : (Cond.code yX10_tipsAt cX10_tipsAt 2 (some .boolean)) ∈ vW10 := vW10_p0 _ (List.mem_of_getElem? (i := 45) rfl)
theorem mvW10_44 : (Cond.selects RX10 yX10_tipsAt yX10_tipsAt) ∈ vW10 := vW10_p0 _ (List.mem_of_getElem? (i := 44) rfl)
theorem mvW10_43 : (Cond.instanceMethod yX10_tipsAt) ∈ vW10 := vW10_p0 _ (List.mem_of_getElem? (i := 43) rfl)
theorem mvW10_42 : (Cond.methodLink RX10 146 yX10_tipsAt) ∈ vW10 := vW10_p0 _ (List.mem_of_getElem? (i := 42) rfl)
theorem pvW10_150 : ∀ w ∈ ([.methodLink RX10 146 yX10_tipsAt, .instanceMethod yX10_tipsAt, .selects RX10 yX10_tipsAt yX10_tipsAt, .initialized RX10] : List Cond), w ∈ vW10 := (List.forall_mem_cons.mpr ⟨mvW10_42, (List.forall_mem_cons.mpr ⟨mvW10_43, (List.forall_mem_cons.mpr ⟨mvW10_44, (List.forall_mem_cons.mpr ⟨mvW10_2, (fun _ h => absurd h List.not_mem_nil)⟩)⟩)⟩)⟩)
theorem mvW10_130 : (Cond.code yX10_rankBelow cX10_rankBelow 2 (some .int)) ∈ vW10 := vW10_p2 _ (List.mem_of_getElem? (i := 34) rfl)
theorem mvW10_129 : (Cond.selects RX10 yX10_rankBelow yX10_rankBelow) ∈ vW10 := vW10_p2 _ (List.mem_of_getElem? (i := 33) rfl)
theorem mvW10_128 : (Cond.instanceMethod yX10_rankBelow) ∈ vW10 := vW10_p2 _ (List.mem_of_getElem? (i := 32) rfl)
theorem mvW10_127 : (Cond.methodLink RX10 149 yX10_rankBelow) ∈ vW10 := vW10_p2 _ (List.mem_of_getElem? (i := 31) rfl)
theorem pvW10_151 : ∀ w ∈ ([.methodLink RX10 149 yX10_rankBelow, .instanceMethod yX10_rankBelow, .selects RX10 yX10_rankBelow yX10_rankBelow, .initialized RX10] : List Cond), w ∈ vW10 := (List.forall_mem_cons.mpr ⟨mvW10_127, (List.forall_mem_cons.mpr ⟨mvW10_128, (List.forall_mem_cons.mpr ⟨mvW10_129, (List.forall_mem_cons.mpr ⟨mvW10_2, (fun _ h => absurd h List.not_mem_nil)⟩)⟩)⟩)⟩)
theorem mvW10_134 : (Cond.code yX10_setsTurn cX10_setsTurn 5 none) ∈ vW10 := vW10_p2 _ (List.mem_of_getElem? (i := 38) rfl)
theorem mvW10_133 : (Cond.selects RX10 yX10_setsTurn yX10_setsTurn) ∈ vW10 := vW10_p2 _ (List.mem_of_getElem? (i := 37) rfl)
theorem mvW10_132 : (Cond.instanceMethod yX10_setsTurn) ∈ vW10 := vW10_p2 _ (List.mem_of_getElem? (i := 36) rfl)
theorem mvW10_131 : (Cond.methodLink RX10 152 yX10_setsTurn) ∈ vW10 := vW10_p2 _ (List.mem_of_getElem? (i := 35) rfl)
theorem pvW10_152 : ∀ w ∈ ([.methodLink RX10 152 yX10_setsTurn, .instanceMethod yX10_setsTurn, .selects RX10 yX10_setsTurn yX10_setsTurn, .initialized RX10] : List Cond), w ∈ vW10 := (List.forall_mem_cons.mpr ⟨mvW10_131, (List.forall_mem_cons.mpr ⟨mvW10_132, (List.forall_mem_cons.mpr ⟨mvW10_133, (List.forall_mem_cons.mpr ⟨mvW10_2, (fun _ h => absurd h List.not_mem_nil)⟩)⟩)⟩)⟩)
theorem mvW10_138 : (Cond.code yX10_paysNow cX10_paysNow 1 (some .int)) ∈ vW10 := vW10_p2 _ (List.mem_of_getElem? (i := 42) rfl)
theorem mvW10_137 : (Cond.selects RX10 yX10_paysNow yX10_paysNow) ∈ vW10 := vW10_p2 _ (List.mem_of_getElem? (i := 41) rfl)
theorem mvW10_136 : (Cond.instanceMethod yX10_paysNow) ∈ vW10 := vW10_p2 _ (List.mem_of_getElem? (i := 40) rfl)
theorem mvW10_135 : (Cond.methodLink RX10 156 yX10_paysNow) ∈ vW10 := vW10_p2 _ (List.mem_of_getElem? (i := 39) rfl)
theorem pvW10_153 : ∀ w ∈ ([.methodLink RX10 156 yX10_paysNow, .instanceMethod yX10_paysNow, .selects RX10 yX10_paysNow yX10_paysNow, .initialized RX10] : List Cond), w ∈ vW10 := (List.forall_mem_cons.mpr ⟨mvW10_135, (List.forall_mem_cons.mpr ⟨mvW10_136, (List.forall_mem_cons.mpr ⟨mvW10_137, (List.forall_mem_cons.mpr ⟨mvW10_2, (fun _ h => absurd h List.not_mem_nil)⟩)⟩)⟩)⟩)
theorem mvW10_58 : (Cond.code yX10_isNow cX10_isNow 2 (some .boolean)) ∈ vW10 := vW10_p1 _ (List.mem_of_getElem? (i := 10) rfl)
theorem mvW10_57 : (Cond.selects RX10 yX10_isNow yX10_isNow) ∈ vW10 := vW10_p1 _ (List.mem_of_getElem? (i := 9) rfl)
theorem mvW10_56 : (Cond.instanceMethod yX10_isNow) ∈ vW10 := vW10_p1 _ (List.mem_of_getElem? (i := 8) rfl)
theorem mvW10_55 : (Cond.methodLink RX10 159 yX10_isNow) ∈ vW10 := vW10_p1 _ (List.mem_of_getElem? (i := 7) rfl)
theorem pvW10_154 : ∀ w ∈ ([.methodLink RX10 159 yX10_isNow, .instanceMethod yX10_isNow, .selects RX10 yX10_isNow yX10_isNow, .initialized RX10] : List Cond), w ∈ vW10 := (List.forall_mem_cons.mpr ⟨mvW10_55, (List.forall_mem_cons.mpr ⟨mvW10_56, (List.forall_mem_cons.mpr ⟨mvW10_57, (List.forall_mem_cons.mpr ⟨mvW10_2, (fun _ h => absurd h List.not_mem_nil)⟩)⟩)⟩)⟩)
theorem mvW10_141 : (Cond.code yX10_isTerm cX10_isTerm 2 (some .boolean)) ∈ vW10 := vW10_p2 _ (List.mem_of_getElem? (i := 45) rfl)
theorem mvW10_140 : (Cond.static yX10_isTerm) ∈ vW10 := vW10_p2 _ (List.mem_of_getElem? (i := 44) rfl)
theorem mvW10_139 : (Cond.methodLink RX10 162 yX10_isTerm) ∈ vW10 := vW10_p2 _ (List.mem_of_getElem? (i := 43) rfl)
theorem pvW10_155 : ∀ w ∈ ([.methodLink RX10 162 yX10_isTerm, .static yX10_isTerm, .initialized yX10_isTerm.cls] : List Cond), w ∈ vW10 := (List.forall_mem_cons.mpr ⟨mvW10_139, (List.forall_mem_cons.mpr ⟨mvW10_140, (List.forall_mem_cons.mpr ⟨mvW10_2, (fun _ h => absurd h List.not_mem_nil)⟩)⟩)⟩)
theorem mvW10_144 : (Cond.code yX10_termAt cX10_termAt 1 (some .int)) ∈ vW10 := vW10_p3 _ (List.mem_of_getElem? (i := 0) rfl)
theorem mvW10_143 : (Cond.static yX10_termAt) ∈ vW10 := vW10_p2 _ (List.mem_of_getElem? (i := 47) rfl)
theorem mvW10_142 : (Cond.methodLink RX10 166 yX10_termAt) ∈ vW10 := vW10_p2 _ (List.mem_of_getElem? (i := 46) rfl)
theorem pvW10_156 : ∀ w ∈ ([.methodLink RX10 166 yX10_termAt, .static yX10_termAt, .initialized yX10_termAt.cls] : List Cond), w ∈ vW10 := (List.forall_mem_cons.mpr ⟨mvW10_142, (List.forall_mem_cons.mpr ⟨mvW10_143, (List.forall_mem_cons.mpr ⟨mvW10_2, (fun _ h => absurd h List.not_mem_nil)⟩)⟩)⟩)
theorem mvW10_175 : (Cond.code yX10_isSmall cX10_isSmall 1 (some .boolean)) ∈ vW10 := vW10_p3 _ (List.mem_of_getElem? (i := 31) rfl)
theorem mvW10_174 : (Cond.static yX10_isSmall) ∈ vW10 := vW10_p3 _ (List.mem_of_getElem? (i := 30) rfl)
theorem mvW10_173 : (Cond.methodLink RX10 178 yX10_isSmall) ∈ vW10 := vW10_p3 _ (List.mem_of_getElem? (i := 29) rfl)
theorem pvW10_157 : ∀ w ∈ ([.methodLink RX10 178 yX10_isSmall, .static yX10_isSmall, .initialized yX10_isSmall.cls] : List Cond), w ∈ vW10 := (List.forall_mem_cons.mpr ⟨mvW10_173, (List.forall_mem_cons.mpr ⟨mvW10_174, (List.forall_mem_cons.mpr ⟨mvW10_2, (fun _ h => absurd h List.not_mem_nil)⟩)⟩)⟩)
theorem mvW10_178 : (Cond.code yX10_isDigit cX10_isDigit 1 (some .boolean)) ∈ vW10 := vW10_p3 _ (List.mem_of_getElem? (i := 34) rfl)
theorem mvW10_177 : (Cond.static yX10_isDigit) ∈ vW10 := vW10_p3 _ (List.mem_of_getElem? (i := 33) rfl)
theorem mvW10_176 : (Cond.methodLink RX10 181 yX10_isDigit) ∈ vW10 := vW10_p3 _ (List.mem_of_getElem? (i := 32) rfl)
theorem pvW10_158 : ∀ w ∈ ([.methodLink RX10 181 yX10_isDigit, .static yX10_isDigit, .initialized yX10_isDigit.cls] : List Cond), w ∈ vW10 := (List.forall_mem_cons.mpr ⟨mvW10_176, (List.forall_mem_cons.mpr ⟨mvW10_177, (List.forall_mem_cons.mpr ⟨mvW10_2, (fun _ h => absurd h List.not_mem_nil)⟩)⟩)⟩)
theorem mvW10_182 : (Cond.code yX10_wordOf cX10_wordOf 8 (some .int)) ∈ vW10 := vW10_p3 _ (List.mem_of_getElem? (i := 38) rfl)
theorem mvW10_181 : (Cond.selects RX10 yX10_wordOf yX10_wordOf) ∈ vW10 := vW10_p3 _ (List.mem_of_getElem? (i := 37) rfl)
theorem mvW10_180 : (Cond.instanceMethod yX10_wordOf) ∈ vW10 := vW10_p3 _ (List.mem_of_getElem? (i := 36) rfl)
theorem mvW10_179 : (Cond.methodLink RX10 184 yX10_wordOf) ∈ vW10 := vW10_p3 _ (List.mem_of_getElem? (i := 35) rfl)
theorem pvW10_159 : ∀ w ∈ ([.methodLink RX10 184 yX10_wordOf, .instanceMethod yX10_wordOf, .selects RX10 yX10_wordOf yX10_wordOf, .initialized RX10] : List Cond), w ∈ vW10 := (List.forall_mem_cons.mpr ⟨mvW10_179, (List.forall_mem_cons.mpr ⟨mvW10_180, (List.forall_mem_cons.mpr ⟨mvW10_181, (List.forall_mem_cons.mpr ⟨mvW10_2, (fun _ h => absurd h List.not_mem_nil)⟩)⟩)⟩)⟩)
theorem mvW10_199 : (Cond.code yX10_fine cX10_fine 1 (some .boolean)) ∈ vW10 := vW10_p4 _ (List.mem_of_getElem? (i := 7) rfl)
theorem mvW10_198 : (Cond.selects RX10 yX10_fine yX10_fine) ∈ vW10 := vW10_p4 _ (List.mem_of_getElem? (i := 6) rfl)
theorem mvW10_197 : (Cond.instanceMethod yX10_fine) ∈ vW10 := vW10_p4 _ (List.mem_of_getElem? (i := 5) rfl)
theorem mvW10_196 : (Cond.methodLink RX10 192 yX10_fine) ∈ vW10 := vW10_p4 _ (List.mem_of_getElem? (i := 4) rfl)
theorem pvW10_160 : ∀ w ∈ ([.methodLink RX10 192 yX10_fine, .instanceMethod yX10_fine, .selects RX10 yX10_fine yX10_fine, .initialized RX10] : List Cond), w ∈ vW10 := (List.forall_mem_cons.mpr ⟨mvW10_196, (List.forall_mem_cons.mpr ⟨mvW10_197, (List.forall_mem_cons.mpr ⟨mvW10_198, (List.forall_mem_cons.mpr ⟨mvW10_2, (fun _ h => absurd h List.not_mem_nil)⟩)⟩)⟩)⟩)
theorem mvW10_195 : (Cond.code yX10_takes0 cX10_takes0 3 (some .boolean)) ∈ vW10 := vW10_p4 _ (List.mem_of_getElem? (i := 3) rfl)
theorem mvW10_194 : (Cond.selects RX10 yX10_takes0 yX10_takes0) ∈ vW10 := vW10_p4 _ (List.mem_of_getElem? (i := 2) rfl)
theorem mvW10_193 : (Cond.instanceMethod yX10_takes0) ∈ vW10 := vW10_p4 _ (List.mem_of_getElem? (i := 1) rfl)
theorem mvW10_192 : (Cond.methodLink RX10 199 yX10_takes0) ∈ vW10 := vW10_p4 _ (List.mem_of_getElem? (i := 0) rfl)
theorem pvW10_161 : ∀ w ∈ ([.methodLink RX10 199 yX10_takes0, .instanceMethod yX10_takes0, .selects RX10 yX10_takes0 yX10_takes0, .initialized RX10] : List Cond), w ∈ vW10 := (List.forall_mem_cons.mpr ⟨mvW10_192, (List.forall_mem_cons.mpr ⟨mvW10_193, (List.forall_mem_cons.mpr ⟨mvW10_194, (List.forall_mem_cons.mpr ⟨mvW10_2, (fun _ h => absurd h List.not_mem_nil)⟩)⟩)⟩)⟩)
theorem mvW10_211 : (Cond.code yX10_faults cX10_faults 1 none) ∈ vW10 := vW10_p4 _ (List.mem_of_getElem? (i := 19) rfl)
theorem mvW10_210 : (Cond.selects RX10 yX10_faults yX10_faults) ∈ vW10 := vW10_p4 _ (List.mem_of_getElem? (i := 18) rfl)
theorem mvW10_209 : (Cond.instanceMethod yX10_faults) ∈ vW10 := vW10_p4 _ (List.mem_of_getElem? (i := 17) rfl)
theorem mvW10_208 : (Cond.methodLink RX10 202 yX10_faults) ∈ vW10 := vW10_p4 _ (List.mem_of_getElem? (i := 16) rfl)
theorem pvW10_162 : ∀ w ∈ ([.methodLink RX10 202 yX10_faults, .instanceMethod yX10_faults, .selects RX10 yX10_faults yX10_faults, .initialized RX10] : List Cond), w ∈ vW10 := (List.forall_mem_cons.mpr ⟨mvW10_208, (List.forall_mem_cons.mpr ⟨mvW10_209, (List.forall_mem_cons.mpr ⟨mvW10_210, (List.forall_mem_cons.mpr ⟨mvW10_2, (fun _ h => absurd h List.not_mem_nil)⟩)⟩)⟩)⟩)
theorem mvW10_203 : (Cond.code yX10_readSum cX10_readSum 2 none) ∈ vW10 := vW10_p4 _ (List.mem_of_getElem? (i := 11) rfl)
theorem mvW10_202 : (Cond.selects RX10 yX10_readSum yX10_readSum) ∈ vW10 := vW10_p4 _ (List.mem_of_getElem? (i := 10) rfl)
theorem mvW10_201 : (Cond.instanceMethod yX10_readSum) ∈ vW10 := vW10_p4 _ (List.mem_of_getElem? (i := 9) rfl)
theorem mvW10_200 : (Cond.methodLink RX10 208 yX10_readSum) ∈ vW10 := vW10_p4 _ (List.mem_of_getElem? (i := 8) rfl)
theorem pvW10_163 : ∀ w ∈ ([.methodLink RX10 208 yX10_readSum, .instanceMethod yX10_readSum, .selects RX10 yX10_readSum yX10_readSum, .initialized RX10] : List Cond), w ∈ vW10 := (List.forall_mem_cons.mpr ⟨mvW10_200, (List.forall_mem_cons.mpr ⟨mvW10_201, (List.forall_mem_cons.mpr ⟨mvW10_202, (List.forall_mem_cons.mpr ⟨mvW10_2, (fun _ h => absurd h List.not_mem_nil)⟩)⟩)⟩)⟩)
theorem mvW10_215 : (Cond.code yX10_must cX10_must 2 none) ∈ vW10 := vW10_p4 _ (List.mem_of_getElem? (i := 23) rfl)
theorem mvW10_214 : (Cond.selects RX10 yX10_must yX10_must) ∈ vW10 := vW10_p4 _ (List.mem_of_getElem? (i := 22) rfl)
theorem mvW10_213 : (Cond.instanceMethod yX10_must) ∈ vW10 := vW10_p4 _ (List.mem_of_getElem? (i := 21) rfl)
theorem mvW10_212 : (Cond.methodLink RX10 212 yX10_must) ∈ vW10 := vW10_p4 _ (List.mem_of_getElem? (i := 20) rfl)
theorem pvW10_164 : ∀ w ∈ ([.methodLink RX10 212 yX10_must, .instanceMethod yX10_must, .selects RX10 yX10_must yX10_must, .initialized RX10] : List Cond), w ∈ vW10 := (List.forall_mem_cons.mpr ⟨mvW10_212, (List.forall_mem_cons.mpr ⟨mvW10_213, (List.forall_mem_cons.mpr ⟨mvW10_214, (List.forall_mem_cons.mpr ⟨mvW10_2, (fun _ h => absurd h List.not_mem_nil)⟩)⟩)⟩)⟩)
theorem mvW10_231 : (Cond.code yX10_readTest cX10_readTest 2 none) ∈ vW10 := vW10_p4 _ (List.mem_of_getElem? (i := 39) rfl)
theorem mvW10_230 : (Cond.selects RX10 yX10_readTest yX10_readTest) ∈ vW10 := vW10_p4 _ (List.mem_of_getElem? (i := 38) rfl)
theorem mvW10_229 : (Cond.instanceMethod yX10_readTest) ∈ vW10 := vW10_p4 _ (List.mem_of_getElem? (i := 37) rfl)
theorem mvW10_228 : (Cond.methodLink RX10 215 yX10_readTest) ∈ vW10 := vW10_p4 _ (List.mem_of_getElem? (i := 36) rfl)
theorem pvW10_165 : ∀ w ∈ ([.methodLink RX10 215 yX10_readTest, .instanceMethod yX10_readTest, .selects RX10 yX10_readTest yX10_readTest, .initialized RX10] : List Cond), w ∈ vW10 := (List.forall_mem_cons.mpr ⟨mvW10_228, (List.forall_mem_cons.mpr ⟨mvW10_229, (List.forall_mem_cons.mpr ⟨mvW10_230, (List.forall_mem_cons.mpr ⟨mvW10_2, (fun _ h => absurd h List.not_mem_nil)⟩)⟩)⟩)⟩)
theorem mvW10_223 : (Cond.code yX10_mustNumber cX10_mustNumber 3 none) ∈ vW10 := vW10_p4 _ (List.mem_of_getElem? (i := 31) rfl)
theorem mvW10_222 : (Cond.selects RX10 yX10_mustNumber yX10_mustNumber) ∈ vW10 := vW10_p4 _ (List.mem_of_getElem? (i := 30) rfl)
theorem mvW10_221 : (Cond.instanceMethod yX10_mustNumber) ∈ vW10 := vW10_p4 _ (List.mem_of_getElem? (i := 29) rfl)
theorem mvW10_220 : (Cond.methodLink RX10 218 yX10_mustNumber) ∈ vW10 := vW10_p4 _ (List.mem_of_getElem? (i := 28) rfl)
theorem pvW10_166 : ∀ w ∈ ([.methodLink RX10 218 yX10_mustNumber, .instanceMethod yX10_mustNumber, .selects RX10 yX10_mustNumber yX10_mustNumber, .initialized RX10] : List Cond), w ∈ vW10 := (List.forall_mem_cons.mpr ⟨mvW10_220, (List.forall_mem_cons.mpr ⟨mvW10_221, (List.forall_mem_cons.mpr ⟨mvW10_222, (List.forall_mem_cons.mpr ⟨mvW10_2, (fun _ h => absurd h List.not_mem_nil)⟩)⟩)⟩)⟩)
theorem mvW10_191 : (Cond.code yX10_readOrder cX10_readOrder 1 none) ∈ vW10 := vW10_p3 _ (List.mem_of_getElem? (i := 47) rfl)
theorem mvW10_190 : (Cond.selects RX10 yX10_readOrder yX10_readOrder) ∈ vW10 := vW10_p3 _ (List.mem_of_getElem? (i := 46) rfl)
theorem mvW10_189 : (Cond.instanceMethod yX10_readOrder) ∈ vW10 := vW10_p3 _ (List.mem_of_getElem? (i := 45) rfl)
theorem mvW10_188 : (Cond.methodLink RX10 225 yX10_readOrder) ∈ vW10 := vW10_p3 _ (List.mem_of_getElem? (i := 44) rfl)
theorem pvW10_167 : ∀ w ∈ ([.methodLink RX10 225 yX10_readOrder, .instanceMethod yX10_readOrder, .selects RX10 yX10_readOrder yX10_readOrder, .initialized RX10] : List Cond), w ∈ vW10 := (List.forall_mem_cons.mpr ⟨mvW10_188, (List.forall_mem_cons.mpr ⟨mvW10_189, (List.forall_mem_cons.mpr ⟨mvW10_190, (List.forall_mem_cons.mpr ⟨mvW10_2, (fun _ h => absurd h List.not_mem_nil)⟩)⟩)⟩)⟩)
theorem mvW10_243 : (Cond.code yX10_readClause cX10_readClause 1 none) ∈ vW10 := vW10_p5 _ (List.mem_of_getElem? (i := 3) rfl)
theorem mvW10_242 : (Cond.selects RX10 yX10_readClause yX10_readClause) ∈ vW10 := vW10_p5 _ (List.mem_of_getElem? (i := 2) rfl)
theorem mvW10_241 : (Cond.instanceMethod yX10_readClause) ∈ vW10 := vW10_p5 _ (List.mem_of_getElem? (i := 1) rfl)
theorem mvW10_240 : (Cond.methodLink RX10 228 yX10_readClause) ∈ vW10 := vW10_p5 _ (List.mem_of_getElem? (i := 0) rfl)
theorem pvW10_168 : ∀ w ∈ ([.methodLink RX10 228 yX10_readClause, .instanceMethod yX10_readClause, .selects RX10 yX10_readClause yX10_readClause, .initialized RX10] : List Cond), w ∈ vW10 := (List.forall_mem_cons.mpr ⟨mvW10_240, (List.forall_mem_cons.mpr ⟨mvW10_241, (List.forall_mem_cons.mpr ⟨mvW10_242, (List.forall_mem_cons.mpr ⟨mvW10_2, (fun _ h => absurd h List.not_mem_nil)⟩)⟩)⟩)⟩)
theorem mvW10_235 : (Cond.code yX10_readBoth cX10_readBoth 2 none) ∈ vW10 := vW10_p4 _ (List.mem_of_getElem? (i := 43) rfl)
theorem mvW10_234 : (Cond.selects RX10 yX10_readBoth yX10_readBoth) ∈ vW10 := vW10_p4 _ (List.mem_of_getElem? (i := 42) rfl)
theorem mvW10_233 : (Cond.instanceMethod yX10_readBoth) ∈ vW10 := vW10_p4 _ (List.mem_of_getElem? (i := 41) rfl)
theorem mvW10_232 : (Cond.methodLink RX10 231 yX10_readBoth) ∈ vW10 := vW10_p4 _ (List.mem_of_getElem? (i := 40) rfl)
theorem pvW10_169 : ∀ w ∈ ([.methodLink RX10 231 yX10_readBoth, .instanceMethod yX10_readBoth, .selects RX10 yX10_readBoth yX10_readBoth, .initialized RX10] : List Cond), w ∈ vW10 := (List.forall_mem_cons.mpr ⟨mvW10_232, (List.forall_mem_cons.mpr ⟨mvW10_233, (List.forall_mem_cons.mpr ⟨mvW10_234, (List.forall_mem_cons.mpr ⟨mvW10_2, (fun _ h => absurd h List.not_mem_nil)⟩)⟩)⟩)⟩)
theorem mvW10_239 : (Cond.code yX10_readPlain cX10_readPlain 4 none) ∈ vW10 := vW10_p4 _ (List.mem_of_getElem? (i := 47) rfl)
theorem mvW10_238 : (Cond.selects RX10 yX10_readPlain yX10_readPlain) ∈ vW10 := vW10_p4 _ (List.mem_of_getElem? (i := 46) rfl)
theorem mvW10_237 : (Cond.instanceMethod yX10_readPlain) ∈ vW10 := vW10_p4 _ (List.mem_of_getElem? (i := 45) rfl)
theorem mvW10_236 : (Cond.methodLink RX10 234 yX10_readPlain) ∈ vW10 := vW10_p4 _ (List.mem_of_getElem? (i := 44) rfl)
theorem pvW10_170 : ∀ w ∈ ([.methodLink RX10 234 yX10_readPlain, .instanceMethod yX10_readPlain, .selects RX10 yX10_readPlain yX10_readPlain, .initialized RX10] : List Cond), w ∈ vW10 := (List.forall_mem_cons.mpr ⟨mvW10_236, (List.forall_mem_cons.mpr ⟨mvW10_237, (List.forall_mem_cons.mpr ⟨mvW10_238, (List.forall_mem_cons.mpr ⟨mvW10_2, (fun _ h => absurd h List.not_mem_nil)⟩)⟩)⟩)⟩)
theorem mvW10_81 : (Cond.code yX10_sign cX10_sign 1 (some .int)) ∈ vW10 := vW10_p1 _ (List.mem_of_getElem? (i := 33) rfl)
theorem mvW10_80 : (Cond.static yX10_sign) ∈ vW10 := vW10_p1 _ (List.mem_of_getElem? (i := 32) rfl)
theorem mvW10_79 : (Cond.methodLink RX10 237 yX10_sign) ∈ vW10 := vW10_p1 _ (List.mem_of_getElem? (i := 31) rfl)
theorem pvW10_171 : ∀ w ∈ ([.methodLink RX10 237 yX10_sign, .static yX10_sign, .initialized yX10_sign.cls] : List Cond), w ∈ vW10 := (List.forall_mem_cons.mpr ⟨mvW10_79, (List.forall_mem_cons.mpr ⟨mvW10_80, (List.forall_mem_cons.mpr ⟨mvW10_2, (fun _ h => absurd h List.not_mem_nil)⟩)⟩)⟩)
theorem mvW10_224 : (Cond.code yX10_readTerm cX10_readTerm 2 none) ∈ vW10 := vW10_p4 _ (List.mem_of_getElem? (i := 32) rfl)
theorem mvW10_206 : (Cond.selects RX10 yX10_readTerm yX10_readTerm) ∈ vW10 := vW10_p4 _ (List.mem_of_getElem? (i := 14) rfl)
theorem mvW10_205 : (Cond.instanceMethod yX10_readTerm) ∈ vW10 := vW10_p4 _ (List.mem_of_getElem? (i := 13) rfl)
theorem mvW10_204 : (Cond.methodLink RX10 241 yX10_readTerm) ∈ vW10 := vW10_p4 _ (List.mem_of_getElem? (i := 12) rfl)
theorem pvW10_172 : ∀ w ∈ ([.methodLink RX10 241 yX10_readTerm, .instanceMethod yX10_readTerm, .selects RX10 yX10_readTerm yX10_readTerm, .initialized RX10] : List Cond), w ∈ vW10 := (List.forall_mem_cons.mpr ⟨mvW10_204, (List.forall_mem_cons.mpr ⟨mvW10_205, (List.forall_mem_cons.mpr ⟨mvW10_206, (List.forall_mem_cons.mpr ⟨mvW10_2, (fun _ h => absurd h List.not_mem_nil)⟩)⟩)⟩)⟩)
theorem mvW10_207 : (Cond.code yX10_readPart cX10_readPart 3 none) ∈ vW10 := vW10_p4 _ (List.mem_of_getElem? (i := 15) rfl)
theorem mvW10_227 : (Cond.selects RX10 yX10_readPart yX10_readPart) ∈ vW10 := vW10_p4 _ (List.mem_of_getElem? (i := 35) rfl)
theorem mvW10_226 : (Cond.instanceMethod yX10_readPart) ∈ vW10 := vW10_p4 _ (List.mem_of_getElem? (i := 34) rfl)
theorem mvW10_225 : (Cond.methodLink RX10 244 yX10_readPart) ∈ vW10 := vW10_p4 _ (List.mem_of_getElem? (i := 33) rfl)
theorem pvW10_173 : ∀ w ∈ ([.methodLink RX10 244 yX10_readPart, .instanceMethod yX10_readPart, .selects RX10 yX10_readPart yX10_readPart, .initialized RX10] : List Cond), w ∈ vW10 := (List.forall_mem_cons.mpr ⟨mvW10_225, (List.forall_mem_cons.mpr ⟨mvW10_226, (List.forall_mem_cons.mpr ⟨mvW10_227, (List.forall_mem_cons.mpr ⟨mvW10_2, (fun _ h => absurd h List.not_mem_nil)⟩)⟩)⟩)⟩)
theorem mvW10_219 : (Cond.code yX10_leaf cX10_leaf 1 none) ∈ vW10 := vW10_p4 _ (List.mem_of_getElem? (i := 27) rfl)
theorem mvW10_218 : (Cond.selects RX10 yX10_leaf yX10_leaf) ∈ vW10 := vW10_p4 _ (List.mem_of_getElem? (i := 26) rfl)
theorem mvW10_217 : (Cond.instanceMethod yX10_leaf) ∈ vW10 := vW10_p4 _ (List.mem_of_getElem? (i := 25) rfl)
theorem mvW10_216 : (Cond.methodLink RX10 253 yX10_leaf) ∈ vW10 := vW10_p4 _ (List.mem_of_getElem? (i := 24) rfl)
theorem pvW10_174 : ∀ w ∈ ([.methodLink RX10 253 yX10_leaf, .instanceMethod yX10_leaf, .selects RX10 yX10_leaf yX10_leaf, .initialized RX10] : List Cond), w ∈ vW10 := (List.forall_mem_cons.mpr ⟨mvW10_216, (List.forall_mem_cons.mpr ⟨mvW10_217, (List.forall_mem_cons.mpr ⟨mvW10_218, (List.forall_mem_cons.mpr ⟨mvW10_2, (fun _ h => absurd h List.not_mem_nil)⟩)⟩)⟩)⟩)
theorem mvW10_168 : (Cond.code yX10_splits cX10_splits 6 none) ∈ vW10 := vW10_p3 _ (List.mem_of_getElem? (i := 24) rfl)
theorem mvW10_167 : (Cond.selects RX10 yX10_splits yX10_splits) ∈ vW10 := vW10_p3 _ (List.mem_of_getElem? (i := 23) rfl)
theorem mvW10_166 : (Cond.instanceMethod yX10_splits) ∈ vW10 := vW10_p3 _ (List.mem_of_getElem? (i := 22) rfl)
theorem mvW10_165 : (Cond.methodLink RX10 256 yX10_splits) ∈ vW10 := vW10_p3 _ (List.mem_of_getElem? (i := 21) rfl)
theorem pvW10_175 : ∀ w ∈ ([.methodLink RX10 256 yX10_splits, .instanceMethod yX10_splits, .selects RX10 yX10_splits yX10_splits, .initialized RX10] : List Cond), w ∈ vW10 := (List.forall_mem_cons.mpr ⟨mvW10_165, (List.forall_mem_cons.mpr ⟨mvW10_166, (List.forall_mem_cons.mpr ⟨mvW10_167, (List.forall_mem_cons.mpr ⟨mvW10_2, (fun _ h => absurd h List.not_mem_nil)⟩)⟩)⟩)⟩)
theorem mvW10_187 : (Cond.code yX10_readOne cX10_readOne 1 none) ∈ vW10 := vW10_p3 _ (List.mem_of_getElem? (i := 43) rfl)
theorem mvW10_186 : (Cond.selects RX10 yX10_readOne yX10_readOne) ∈ vW10 := vW10_p3 _ (List.mem_of_getElem? (i := 42) rfl)
theorem mvW10_185 : (Cond.instanceMethod yX10_readOne) ∈ vW10 := vW10_p3 _ (List.mem_of_getElem? (i := 41) rfl)
theorem mvW10_184 : (Cond.methodLink RX10 259 yX10_readOne) ∈ vW10 := vW10_p3 _ (List.mem_of_getElem? (i := 40) rfl)
theorem pvW10_176 : ∀ w ∈ ([.methodLink RX10 259 yX10_readOne, .instanceMethod yX10_readOne, .selects RX10 yX10_readOne yX10_readOne, .initialized RX10] : List Cond), w ∈ vW10 := (List.forall_mem_cons.mpr ⟨mvW10_184, (List.forall_mem_cons.mpr ⟨mvW10_185, (List.forall_mem_cons.mpr ⟨mvW10_186, (List.forall_mem_cons.mpr ⟨mvW10_2, (fun _ h => absurd h List.not_mem_nil)⟩)⟩)⟩)⟩)
theorem mvW10_159 : (Cond.code yX10_reads cX10_reads 2 (some .boolean)) ∈ vW10 := vW10_p3 _ (List.mem_of_getElem? (i := 15) rfl)
theorem mvW10_158 : (Cond.selects RX10 yX10_reads yX10_reads) ∈ vW10 := vW10_p3 _ (List.mem_of_getElem? (i := 14) rfl)
theorem mvW10_157 : (Cond.instanceMethod yX10_reads) ∈ vW10 := vW10_p3 _ (List.mem_of_getElem? (i := 13) rfl)
theorem mvW10_156 : (Cond.methodLink RX10 262 yX10_reads) ∈ vW10 := vW10_p3 _ (List.mem_of_getElem? (i := 12) rfl)
theorem pvW10_177 : ∀ w ∈ ([.methodLink RX10 262 yX10_reads, .instanceMethod yX10_reads, .selects RX10 yX10_reads yX10_reads, .initialized RX10] : List Cond), w ∈ vW10 := (List.forall_mem_cons.mpr ⟨mvW10_156, (List.forall_mem_cons.mpr ⟨mvW10_157, (List.forall_mem_cons.mpr ⟨mvW10_158, (List.forall_mem_cons.mpr ⟨mvW10_2, (fun _ h => absurd h List.not_mem_nil)⟩)⟩)⟩)⟩)
theorem mvW10_152 : (Cond.code yX10_readsAs cX10_readsAs 2 (some .boolean)) ∈ vW10 := vW10_p3 _ (List.mem_of_getElem? (i := 8) rfl)
theorem mvW10_151 : (Cond.selects RX10 yX10_readsAs yX10_readsAs) ∈ vW10 := vW10_p3 _ (List.mem_of_getElem? (i := 7) rfl)
theorem mvW10_150 : (Cond.instanceMethod yX10_readsAs) ∈ vW10 := vW10_p3 _ (List.mem_of_getElem? (i := 6) rfl)
theorem mvW10_149 : (Cond.methodLink RX10 265 yX10_readsAs) ∈ vW10 := vW10_p3 _ (List.mem_of_getElem? (i := 5) rfl)
theorem pvW10_178 : ∀ w ∈ ([.methodLink RX10 265 yX10_readsAs, .instanceMethod yX10_readsAs, .selects RX10 yX10_readsAs yX10_readsAs, .initialized RX10] : List Cond), w ∈ vW10 := (List.forall_mem_cons.mpr ⟨mvW10_149, (List.forall_mem_cons.mpr ⟨mvW10_150, (List.forall_mem_cons.mpr ⟨mvW10_151, (List.forall_mem_cons.mpr ⟨mvW10_2, (fun _ h => absurd h List.not_mem_nil)⟩)⟩)⟩)⟩)
theorem mvW10_247 : (Cond.code yX10_lays cX10_lays 3 none) ∈ vW10 := vW10_p5 _ (List.mem_of_getElem? (i := 7) rfl)
theorem mvW10_246 : (Cond.selects RX10 yX10_lays yX10_lays) ∈ vW10 := vW10_p5 _ (List.mem_of_getElem? (i := 6) rfl)
theorem mvW10_245 : (Cond.instanceMethod yX10_lays) ∈ vW10 := vW10_p5 _ (List.mem_of_getElem? (i := 5) rfl)
theorem mvW10_244 : (Cond.methodLink RX10 269 yX10_lays) ∈ vW10 := vW10_p5 _ (List.mem_of_getElem? (i := 4) rfl)
theorem pvW10_179 : ∀ w ∈ ([.methodLink RX10 269 yX10_lays, .instanceMethod yX10_lays, .selects RX10 yX10_lays yX10_lays, .initialized RX10] : List Cond), w ∈ vW10 := (List.forall_mem_cons.mpr ⟨mvW10_244, (List.forall_mem_cons.mpr ⟨mvW10_245, (List.forall_mem_cons.mpr ⟨mvW10_246, (List.forall_mem_cons.mpr ⟨mvW10_2, (fun _ h => absurd h List.not_mem_nil)⟩)⟩)⟩)⟩)
theorem mvW10_325 : (Cond.code yX10_isLaw cX10_isLaw 2 (some .boolean)) ∈ vW10 := vW10_p6 _ (List.mem_of_getElem? (i := 37) rfl)
theorem mvW10_324 : (Cond.selects RX10 yX10_isLaw yX10_isLaw) ∈ vW10 := vW10_p6 _ (List.mem_of_getElem? (i := 36) rfl)
theorem mvW10_323 : (Cond.instanceMethod yX10_isLaw) ∈ vW10 := vW10_p6 _ (List.mem_of_getElem? (i := 35) rfl)
theorem mvW10_322 : (Cond.methodLink RX10 272 yX10_isLaw) ∈ vW10 := vW10_p6 _ (List.mem_of_getElem? (i := 34) rfl)
theorem pvW10_180 : ∀ w ∈ ([.methodLink RX10 272 yX10_isLaw, .instanceMethod yX10_isLaw, .selects RX10 yX10_isLaw yX10_isLaw, .initialized RX10] : List Cond), w ∈ vW10 := (List.forall_mem_cons.mpr ⟨mvW10_322, (List.forall_mem_cons.mpr ⟨mvW10_323, (List.forall_mem_cons.mpr ⟨mvW10_324, (List.forall_mem_cons.mpr ⟨mvW10_2, (fun _ h => absurd h List.not_mem_nil)⟩)⟩)⟩)⟩)
theorem mvW10_71 : (Cond.code yX10_codeAt cX10_codeAt 2 (some .int)) ∈ vW10 := vW10_p1 _ (List.mem_of_getElem? (i := 23) rfl)
theorem mvW10_70 : (Cond.selects RX10 yX10_codeAt yX10_codeAt) ∈ vW10 := vW10_p1 _ (List.mem_of_getElem? (i := 22) rfl)
theorem mvW10_69 : (Cond.instanceMethod yX10_codeAt) ∈ vW10 := vW10_p1 _ (List.mem_of_getElem? (i := 21) rfl)
theorem mvW10_68 : (Cond.methodLink RX10 281 yX10_codeAt) ∈ vW10 := vW10_p1 _ (List.mem_of_getElem? (i := 20) rfl)
theorem pvW10_181 : ∀ w ∈ ([.methodLink RX10 281 yX10_codeAt, .instanceMethod yX10_codeAt, .selects RX10 yX10_codeAt yX10_codeAt, .initialized RX10] : List Cond), w ∈ vW10 := (List.forall_mem_cons.mpr ⟨mvW10_68, (List.forall_mem_cons.mpr ⟨mvW10_69, (List.forall_mem_cons.mpr ⟨mvW10_70, (List.forall_mem_cons.mpr ⟨mvW10_2, (fun _ h => absurd h List.not_mem_nil)⟩)⟩)⟩)⟩)
theorem mvW10_107 : (Cond.code yX10_termOf cX10_termOf 7 (some .long)) ∈ vW10 := vW10_p2 _ (List.mem_of_getElem? (i := 11) rfl)
theorem mvW10_78 : (Cond.selects RX10 yX10_termOf yX10_termOf) ∈ vW10 := vW10_p1 _ (List.mem_of_getElem? (i := 30) rfl)
theorem mvW10_77 : (Cond.instanceMethod yX10_termOf) ∈ vW10 := vW10_p1 _ (List.mem_of_getElem? (i := 29) rfl)
theorem mvW10_76 : (Cond.methodLink RX10 291 yX10_termOf) ∈ vW10 := vW10_p1 _ (List.mem_of_getElem? (i := 28) rfl)
theorem pvW10_182 : ∀ w ∈ ([.methodLink RX10 291 yX10_termOf, .instanceMethod yX10_termOf, .selects RX10 yX10_termOf yX10_termOf, .initialized RX10] : List Cond), w ∈ vW10 := (List.forall_mem_cons.mpr ⟨mvW10_76, (List.forall_mem_cons.mpr ⟨mvW10_77, (List.forall_mem_cons.mpr ⟨mvW10_78, (List.forall_mem_cons.mpr ⟨mvW10_2, (fun _ h => absurd h List.not_mem_nil)⟩)⟩)⟩)⟩)
theorem mvW10_85 : (Cond.code yX10_bounded cX10_bounded 4 (some .long)) ∈ vW10 := vW10_p1 _ (List.mem_of_getElem? (i := 37) rfl)
theorem mvW10_84 : (Cond.selects RX10 yX10_bounded yX10_bounded) ∈ vW10 := vW10_p1 _ (List.mem_of_getElem? (i := 36) rfl)
theorem mvW10_83 : (Cond.instanceMethod yX10_bounded) ∈ vW10 := vW10_p1 _ (List.mem_of_getElem? (i := 35) rfl)
theorem mvW10_82 : (Cond.methodLink RX10 295 yX10_bounded) ∈ vW10 := vW10_p1 _ (List.mem_of_getElem? (i := 34) rfl)
theorem pvW10_183 : ∀ w ∈ ([.methodLink RX10 295 yX10_bounded, .instanceMethod yX10_bounded, .selects RX10 yX10_bounded yX10_bounded, .initialized RX10] : List Cond), w ∈ vW10 := (List.forall_mem_cons.mpr ⟨mvW10_82, (List.forall_mem_cons.mpr ⟨mvW10_83, (List.forall_mem_cons.mpr ⟨mvW10_84, (List.forall_mem_cons.mpr ⟨mvW10_2, (fun _ h => absurd h List.not_mem_nil)⟩)⟩)⟩)⟩)
theorem mvW10_88 : (Cond.code yX10_partOf cX10_partOf 4 (some .long)) ∈ vW10 := vW10_p1 _ (List.mem_of_getElem? (i := 40) rfl)
theorem mvW10_110 : (Cond.selects RX10 yX10_partOf yX10_partOf) ∈ vW10 := vW10_p2 _ (List.mem_of_getElem? (i := 14) rfl)
theorem mvW10_109 : (Cond.instanceMethod yX10_partOf) ∈ vW10 := vW10_p2 _ (List.mem_of_getElem? (i := 13) rfl)
theorem mvW10_108 : (Cond.methodLink RX10 299 yX10_partOf) ∈ vW10 := vW10_p2 _ (List.mem_of_getElem? (i := 12) rfl)
theorem pvW10_184 : ∀ w ∈ ([.methodLink RX10 299 yX10_partOf, .instanceMethod yX10_partOf, .selects RX10 yX10_partOf yX10_partOf, .initialized RX10] : List Cond), w ∈ vW10 := (List.forall_mem_cons.mpr ⟨mvW10_108, (List.forall_mem_cons.mpr ⟨mvW10_109, (List.forall_mem_cons.mpr ⟨mvW10_110, (List.forall_mem_cons.mpr ⟨mvW10_2, (fun _ h => absurd h List.not_mem_nil)⟩)⟩)⟩)⟩)
theorem mvW10_92 : (Cond.code yX10_passes0 cX10_passes0 3 (some .boolean)) ∈ vW10 := vW10_p1 _ (List.mem_of_getElem? (i := 44) rfl)
theorem mvW10_91 : (Cond.selects RX10 yX10_passes0 yX10_passes0) ∈ vW10 := vW10_p1 _ (List.mem_of_getElem? (i := 43) rfl)
theorem mvW10_90 : (Cond.instanceMethod yX10_passes0) ∈ vW10 := vW10_p1 _ (List.mem_of_getElem? (i := 42) rfl)
theorem mvW10_89 : (Cond.methodLink RX10 302 yX10_passes0) ∈ vW10 := vW10_p1 _ (List.mem_of_getElem? (i := 41) rfl)
theorem pvW10_185 : ∀ w ∈ ([.methodLink RX10 302 yX10_passes0, .instanceMethod yX10_passes0, .selects RX10 yX10_passes0 yX10_passes0, .initialized RX10] : List Cond), w ∈ vW10 := (List.forall_mem_cons.mpr ⟨mvW10_89, (List.forall_mem_cons.mpr ⟨mvW10_90, (List.forall_mem_cons.mpr ⟨mvW10_91, (List.forall_mem_cons.mpr ⟨mvW10_2, (fun _ h => absurd h List.not_mem_nil)⟩)⟩)⟩)⟩)
theorem mvW10_75 : (Cond.code yX10_sumOf cX10_sumOf 7 (some .long)) ∈ vW10 := vW10_p1 _ (List.mem_of_getElem? (i := 27) rfl)
theorem mvW10_74 : (Cond.selects RX10 yX10_sumOf yX10_sumOf) ∈ vW10 := vW10_p1 _ (List.mem_of_getElem? (i := 26) rfl)
theorem mvW10_73 : (Cond.instanceMethod yX10_sumOf) ∈ vW10 := vW10_p1 _ (List.mem_of_getElem? (i := 25) rfl)
theorem mvW10_72 : (Cond.methodLink RX10 305 yX10_sumOf) ∈ vW10 := vW10_p1 _ (List.mem_of_getElem? (i := 24) rfl)
theorem pvW10_186 : ∀ w ∈ ([.methodLink RX10 305 yX10_sumOf, .instanceMethod yX10_sumOf, .selects RX10 yX10_sumOf yX10_sumOf, .initialized RX10] : List Cond), w ∈ vW10 := (List.forall_mem_cons.mpr ⟨mvW10_72, (List.forall_mem_cons.mpr ⟨mvW10_73, (List.forall_mem_cons.mpr ⟨mvW10_74, (List.forall_mem_cons.mpr ⟨mvW10_2, (fun _ h => absurd h List.not_mem_nil)⟩)⟩)⟩)⟩)
theorem mvW10_96 : (Cond.code yX10_orderValue cX10_orderValue 3 (some .int)) ∈ vW10 := vW10_p2 _ (List.mem_of_getElem? (i := 0) rfl)
theorem mvW10_95 : (Cond.selects RX10 yX10_orderValue yX10_orderValue) ∈ vW10 := vW10_p1 _ (List.mem_of_getElem? (i := 47) rfl)
theorem mvW10_94 : (Cond.instanceMethod yX10_orderValue) ∈ vW10 := vW10_p1 _ (List.mem_of_getElem? (i := 46) rfl)
theorem mvW10_93 : (Cond.methodLink RX10 311 yX10_orderValue) ∈ vW10 := vW10_p1 _ (List.mem_of_getElem? (i := 45) rfl)
theorem pvW10_187 : ∀ w ∈ ([.methodLink RX10 311 yX10_orderValue, .instanceMethod yX10_orderValue, .selects RX10 yX10_orderValue yX10_orderValue, .initialized RX10] : List Cond), w ∈ vW10 := (List.forall_mem_cons.mpr ⟨mvW10_93, (List.forall_mem_cons.mpr ⟨mvW10_94, (List.forall_mem_cons.mpr ⟨mvW10_95, (List.forall_mem_cons.mpr ⟨mvW10_2, (fun _ h => absurd h List.not_mem_nil)⟩)⟩)⟩)⟩)
theorem mvW10_102 : (Cond.code yX10_gaps cX10_gaps 4 (some .int)) ∈ vW10 := vW10_p2 _ (List.mem_of_getElem? (i := 6) rfl)
theorem mvW10_101 : (Cond.selects RX10 yX10_gaps yX10_gaps) ∈ vW10 := vW10_p2 _ (List.mem_of_getElem? (i := 5) rfl)
theorem mvW10_100 : (Cond.instanceMethod yX10_gaps) ∈ vW10 := vW10_p2 _ (List.mem_of_getElem? (i := 4) rfl)
theorem mvW10_99 : (Cond.methodLink RX10 320 yX10_gaps) ∈ vW10 := vW10_p2 _ (List.mem_of_getElem? (i := 3) rfl)
theorem pvW10_188 : ∀ w ∈ ([.methodLink RX10 320 yX10_gaps, .instanceMethod yX10_gaps, .selects RX10 yX10_gaps yX10_gaps, .initialized RX10] : List Cond), w ∈ vW10 := (List.forall_mem_cons.mpr ⟨mvW10_99, (List.forall_mem_cons.mpr ⟨mvW10_100, (List.forall_mem_cons.mpr ⟨mvW10_101, (List.forall_mem_cons.mpr ⟨mvW10_2, (fun _ h => absurd h List.not_mem_nil)⟩)⟩)⟩)⟩)
theorem mvW10_118 : (Cond.code yX10_bothOf cX10_bothOf 4 (some .boolean)) ∈ vW10 := vW10_p2 _ (List.mem_of_getElem? (i := 22) rfl)
theorem mvW10_117 : (Cond.selects RX10 yX10_bothOf yX10_bothOf) ∈ vW10 := vW10_p2 _ (List.mem_of_getElem? (i := 21) rfl)
theorem mvW10_116 : (Cond.instanceMethod yX10_bothOf) ∈ vW10 := vW10_p2 _ (List.mem_of_getElem? (i := 20) rfl)
theorem mvW10_115 : (Cond.methodLink RX10 323 yX10_bothOf) ∈ vW10 := vW10_p2 _ (List.mem_of_getElem? (i := 19) rfl)
theorem pvW10_189 : ∀ w ∈ ([.methodLink RX10 323 yX10_bothOf, .instanceMethod yX10_bothOf, .selects RX10 yX10_bothOf yX10_bothOf, .initialized RX10] : List Cond), w ∈ vW10 := (List.forall_mem_cons.mpr ⟨mvW10_115, (List.forall_mem_cons.mpr ⟨mvW10_116, (List.forall_mem_cons.mpr ⟨mvW10_117, (List.forall_mem_cons.mpr ⟨mvW10_2, (fun _ h => absurd h List.not_mem_nil)⟩)⟩)⟩)⟩)
theorem mvW10_122 : (Cond.code yX10_plainOf cX10_plainOf 3 (some .boolean)) ∈ vW10 := vW10_p2 _ (List.mem_of_getElem? (i := 26) rfl)
theorem mvW10_121 : (Cond.selects RX10 yX10_plainOf yX10_plainOf) ∈ vW10 := vW10_p2 _ (List.mem_of_getElem? (i := 25) rfl)
theorem mvW10_120 : (Cond.instanceMethod yX10_plainOf) ∈ vW10 := vW10_p2 _ (List.mem_of_getElem? (i := 24) rfl)
theorem mvW10_119 : (Cond.methodLink RX10 326 yX10_plainOf) ∈ vW10 := vW10_p2 _ (List.mem_of_getElem? (i := 23) rfl)
theorem pvW10_190 : ∀ w ∈ ([.methodLink RX10 326 yX10_plainOf, .instanceMethod yX10_plainOf, .selects RX10 yX10_plainOf yX10_plainOf, .initialized RX10] : List Cond), w ∈ vW10 := (List.forall_mem_cons.mpr ⟨mvW10_119, (List.forall_mem_cons.mpr ⟨mvW10_120, (List.forall_mem_cons.mpr ⟨mvW10_121, (List.forall_mem_cons.mpr ⟨mvW10_2, (fun _ h => absurd h List.not_mem_nil)⟩)⟩)⟩)⟩)
theorem mvW10_126 : (Cond.code yX10_positiveOf cX10_positiveOf 7 (some .boolean)) ∈ vW10 := vW10_p2 _ (List.mem_of_getElem? (i := 30) rfl)
theorem mvW10_125 : (Cond.selects RX10 yX10_positiveOf yX10_positiveOf) ∈ vW10 := vW10_p2 _ (List.mem_of_getElem? (i := 29) rfl)
theorem mvW10_124 : (Cond.instanceMethod yX10_positiveOf) ∈ vW10 := vW10_p2 _ (List.mem_of_getElem? (i := 28) rfl)
theorem mvW10_123 : (Cond.methodLink RX10 329 yX10_positiveOf) ∈ vW10 := vW10_p2 _ (List.mem_of_getElem? (i := 27) rfl)
theorem pvW10_191 : ∀ w ∈ ([.methodLink RX10 329 yX10_positiveOf, .instanceMethod yX10_positiveOf, .selects RX10 yX10_positiveOf yX10_positiveOf, .initialized RX10] : List Cond), w ∈ vW10 := (List.forall_mem_cons.mpr ⟨mvW10_123, (List.forall_mem_cons.mpr ⟨mvW10_124, (List.forall_mem_cons.mpr ⟨mvW10_125, (List.forall_mem_cons.mpr ⟨mvW10_2, (fun _ h => absurd h List.not_mem_nil)⟩)⟩)⟩)⟩)
theorem mvW10_114 : (Cond.code yX10_testOf cX10_testOf 4 (some .boolean)) ∈ vW10 := vW10_p2 _ (List.mem_of_getElem? (i := 18) rfl)
theorem mvW10_113 : (Cond.selects RX10 yX10_testOf yX10_testOf) ∈ vW10 := vW10_p2 _ (List.mem_of_getElem? (i := 17) rfl)
theorem mvW10_112 : (Cond.instanceMethod yX10_testOf) ∈ vW10 := vW10_p2 _ (List.mem_of_getElem? (i := 16) rfl)
theorem mvW10_111 : (Cond.methodLink RX10 332 yX10_testOf) ∈ vW10 := vW10_p2 _ (List.mem_of_getElem? (i := 15) rfl)
theorem pvW10_192 : ∀ w ∈ ([.methodLink RX10 332 yX10_testOf, .instanceMethod yX10_testOf, .selects RX10 yX10_testOf yX10_testOf, .initialized RX10] : List Cond), w ∈ vW10 := (List.forall_mem_cons.mpr ⟨mvW10_111, (List.forall_mem_cons.mpr ⟨mvW10_112, (List.forall_mem_cons.mpr ⟨mvW10_113, (List.forall_mem_cons.mpr ⟨mvW10_2, (fun _ h => absurd h List.not_mem_nil)⟩)⟩)⟩)⟩)
theorem mvW10_54 : (Cond.code yX10_setsAsked cX10_setsAsked 4 none) ∈ vW10 := vW10_p1 _ (List.mem_of_getElem? (i := 6) rfl)
theorem mvW10_53 : (Cond.selects RX10 yX10_setsAsked yX10_setsAsked) ∈ vW10 := vW10_p1 _ (List.mem_of_getElem? (i := 5) rfl)
theorem mvW10_52 : (Cond.instanceMethod yX10_setsAsked) ∈ vW10 := vW10_p1 _ (List.mem_of_getElem? (i := 4) rfl)
theorem mvW10_51 : (Cond.methodLink RX10 335 yX10_setsAsked) ∈ vW10 := vW10_p1 _ (List.mem_of_getElem? (i := 3) rfl)
theorem pvW10_193 : ∀ w ∈ ([.methodLink RX10 335 yX10_setsAsked, .instanceMethod yX10_setsAsked, .selects RX10 yX10_setsAsked yX10_setsAsked, .initialized RX10] : List Cond), w ∈ vW10 := (List.forall_mem_cons.mpr ⟨mvW10_51, (List.forall_mem_cons.mpr ⟨mvW10_52, (List.forall_mem_cons.mpr ⟨mvW10_53, (List.forall_mem_cons.mpr ⟨mvW10_2, (fun _ h => absurd h List.not_mem_nil)⟩)⟩)⟩)⟩)
theorem mvW10_62 : (Cond.code yX10_tells cX10_tells 10 (some .int)) ∈ vW10 := vW10_p1 _ (List.mem_of_getElem? (i := 14) rfl)
theorem mvW10_61 : (Cond.selects RX10 yX10_tells yX10_tells) ∈ vW10 := vW10_p1 _ (List.mem_of_getElem? (i := 13) rfl)
theorem mvW10_60 : (Cond.instanceMethod yX10_tells) ∈ vW10 := vW10_p1 _ (List.mem_of_getElem? (i := 12) rfl)
theorem mvW10_59 : (Cond.methodLink RX10 341 yX10_tells) ∈ vW10 := vW10_p1 _ (List.mem_of_getElem? (i := 11) rfl)
theorem pvW10_194 : ∀ w ∈ ([.methodLink RX10 341 yX10_tells, .instanceMethod yX10_tells, .selects RX10 yX10_tells yX10_tells, .initialized RX10] : List Cond), w ∈ vW10 := (List.forall_mem_cons.mpr ⟨mvW10_59, (List.forall_mem_cons.mpr ⟨mvW10_60, (List.forall_mem_cons.mpr ⟨mvW10_61, (List.forall_mem_cons.mpr ⟨mvW10_2, (fun _ h => absurd h List.not_mem_nil)⟩)⟩)⟩)⟩)
theorem mvW10_49 : (Cond.code yX10_setsFloor cX10_setsFloor 2 none) ∈ vW10 := vW10_p1 _ (List.mem_of_getElem? (i := 1) rfl)
theorem mvW10_48 : (Cond.selects RX10 yX10_setsFloor yX10_setsFloor) ∈ vW10 := vW10_p1 _ (List.mem_of_getElem? (i := 0) rfl)
theorem mvW10_47 : (Cond.instanceMethod yX10_setsFloor) ∈ vW10 := vW10_p0 _ (List.mem_of_getElem? (i := 47) rfl)
theorem mvW10_46 : (Cond.methodLink RX10 344 yX10_setsFloor) ∈ vW10 := vW10_p0 _ (List.mem_of_getElem? (i := 46) rfl)
theorem pvW10_195 : ∀ w ∈ ([.methodLink RX10 344 yX10_setsFloor, .instanceMethod yX10_setsFloor, .selects RX10 yX10_setsFloor yX10_setsFloor, .initialized RX10] : List Cond), w ∈ vW10 := (List.forall_mem_cons.mpr ⟨mvW10_46, (List.forall_mem_cons.mpr ⟨mvW10_47, (List.forall_mem_cons.mpr ⟨mvW10_48, (List.forall_mem_cons.mpr ⟨mvW10_2, (fun _ h => absurd h List.not_mem_nil)⟩)⟩)⟩)⟩)
theorem mvW10_293 : (Cond.code yX10_exchanges cX10_exchanges 5 none) ∈ vW10 := vW10_p6 _ (List.mem_of_getElem? (i := 5) rfl)
theorem mvW10_292 : (Cond.selects RX10 yX10_exchanges yX10_exchanges) ∈ vW10 := vW10_p6 _ (List.mem_of_getElem? (i := 4) rfl)
theorem mvW10_291 : (Cond.instanceMethod yX10_exchanges) ∈ vW10 := vW10_p6 _ (List.mem_of_getElem? (i := 3) rfl)
theorem mvW10_290 : (Cond.methodLink RX10 347 yX10_exchanges) ∈ vW10 := vW10_p6 _ (List.mem_of_getElem? (i := 2) rfl)
theorem pvW10_196 : ∀ w ∈ ([.methodLink RX10 347 yX10_exchanges, .instanceMethod yX10_exchanges, .selects RX10 yX10_exchanges yX10_exchanges, .initialized RX10] : List Cond), w ∈ vW10 := (List.forall_mem_cons.mpr ⟨mvW10_290, (List.forall_mem_cons.mpr ⟨mvW10_291, (List.forall_mem_cons.mpr ⟨mvW10_292, (List.forall_mem_cons.mpr ⟨mvW10_2, (fun _ h => absurd h List.not_mem_nil)⟩)⟩)⟩)⟩)
theorem mvW10_317 : (Cond.code yX10_lesser cX10_lesser 2 (some .int)) ∈ vW10 := vW10_p6 _ (List.mem_of_getElem? (i := 29) rfl)
theorem mvW10_316 : (Cond.static yX10_lesser) ∈ vW10 := vW10_p6 _ (List.mem_of_getElem? (i := 28) rfl)
theorem mvW10_315 : (Cond.methodLink RX10 350 yX10_lesser) ∈ vW10 := vW10_p6 _ (List.mem_of_getElem? (i := 27) rfl)
theorem pvW10_197 : ∀ w ∈ ([.methodLink RX10 350 yX10_lesser, .static yX10_lesser, .initialized yX10_lesser.cls] : List Cond), w ∈ vW10 := (List.forall_mem_cons.mpr ⟨mvW10_315, (List.forall_mem_cons.mpr ⟨mvW10_316, (List.forall_mem_cons.mpr ⟨mvW10_2, (fun _ h => absurd h List.not_mem_nil)⟩)⟩)⟩)
theorem mvW10_310 : (Cond.code yX10_canTurn cX10_canTurn 2 (some .boolean)) ∈ vW10 := vW10_p6 _ (List.mem_of_getElem? (i := 22) rfl)
theorem mvW10_309 : (Cond.selects RX10 yX10_canTurn yX10_canTurn) ∈ vW10 := vW10_p6 _ (List.mem_of_getElem? (i := 21) rfl)
theorem mvW10_308 : (Cond.instanceMethod yX10_canTurn) ∈ vW10 := vW10_p6 _ (List.mem_of_getElem? (i := 20) rfl)
theorem mvW10_307 : (Cond.methodLink RX10 353 yX10_canTurn) ∈ vW10 := vW10_p6 _ (List.mem_of_getElem? (i := 19) rfl)
theorem pvW10_198 : ∀ w ∈ ([.methodLink RX10 353 yX10_canTurn, .instanceMethod yX10_canTurn, .selects RX10 yX10_canTurn yX10_canTurn, .initialized RX10] : List Cond), w ∈ vW10 := (List.forall_mem_cons.mpr ⟨mvW10_307, (List.forall_mem_cons.mpr ⟨mvW10_308, (List.forall_mem_cons.mpr ⟨mvW10_309, (List.forall_mem_cons.mpr ⟨mvW10_2, (fun _ h => absurd h List.not_mem_nil)⟩)⟩)⟩)⟩)
theorem mvW10_285 : (Cond.code yX10_keeps cX10_keeps 4 none) ∈ vW10 := vW10_p5 _ (List.mem_of_getElem? (i := 45) rfl)
theorem mvW10_284 : (Cond.selects RX10 yX10_keeps yX10_keeps) ∈ vW10 := vW10_p5 _ (List.mem_of_getElem? (i := 44) rfl)
theorem mvW10_283 : (Cond.instanceMethod yX10_keeps) ∈ vW10 := vW10_p5 _ (List.mem_of_getElem? (i := 43) rfl)
theorem mvW10_282 : (Cond.methodLink RX10 356 yX10_keeps) ∈ vW10 := vW10_p5 _ (List.mem_of_getElem? (i := 42) rfl)
theorem pvW10_199 : ∀ w ∈ ([.methodLink RX10 356 yX10_keeps, .instanceMethod yX10_keeps, .selects RX10 yX10_keeps yX10_keeps, .initialized RX10] : List Cond), w ∈ vW10 := (List.forall_mem_cons.mpr ⟨mvW10_282, (List.forall_mem_cons.mpr ⟨mvW10_283, (List.forall_mem_cons.mpr ⟨mvW10_284, (List.forall_mem_cons.mpr ⟨mvW10_2, (fun _ h => absurd h List.not_mem_nil)⟩)⟩)⟩)⟩)
theorem mvW10_314 : (Cond.code yX10_turns cX10_turns 4 (some .int)) ∈ vW10 := vW10_p6 _ (List.mem_of_getElem? (i := 26) rfl)
theorem mvW10_313 : (Cond.selects RX10 yX10_turns yX10_turns) ∈ vW10 := vW10_p6 _ (List.mem_of_getElem? (i := 25) rfl)
theorem mvW10_312 : (Cond.instanceMethod yX10_turns) ∈ vW10 := vW10_p6 _ (List.mem_of_getElem? (i := 24) rfl)
theorem mvW10_311 : (Cond.methodLink RX10 359 yX10_turns) ∈ vW10 := vW10_p6 _ (List.mem_of_getElem? (i := 23) rfl)
theorem pvW10_200 : ∀ w ∈ ([.methodLink RX10 359 yX10_turns, .instanceMethod yX10_turns, .selects RX10 yX10_turns yX10_turns, .initialized RX10] : List Cond), w ∈ vW10 := (List.forall_mem_cons.mpr ⟨mvW10_311, (List.forall_mem_cons.mpr ⟨mvW10_312, (List.forall_mem_cons.mpr ⟨mvW10_313, (List.forall_mem_cons.mpr ⟨mvW10_2, (fun _ h => absurd h List.not_mem_nil)⟩)⟩)⟩)⟩)
theorem mvW10_301 : (Cond.code yX10_yearPasses cX10_yearPasses 3 (some .int)) ∈ vW10 := vW10_p6 _ (List.mem_of_getElem? (i := 13) rfl)
theorem mvW10_300 : (Cond.selects RX10 yX10_yearPasses yX10_yearPasses) ∈ vW10 := vW10_p6 _ (List.mem_of_getElem? (i := 12) rfl)
theorem mvW10_299 : (Cond.instanceMethod yX10_yearPasses) ∈ vW10 := vW10_p6 _ (List.mem_of_getElem? (i := 11) rfl)
theorem mvW10_298 : (Cond.methodLink RX10 362 yX10_yearPasses) ∈ vW10 := vW10_p6 _ (List.mem_of_getElem? (i := 10) rfl)
theorem pvW10_201 : ∀ w ∈ ([.methodLink RX10 362 yX10_yearPasses, .instanceMethod yX10_yearPasses, .selects RX10 yX10_yearPasses yX10_yearPasses, .initialized RX10] : List Cond), w ∈ vW10 := (List.forall_mem_cons.mpr ⟨mvW10_298, (List.forall_mem_cons.mpr ⟨mvW10_299, (List.forall_mem_cons.mpr ⟨mvW10_300, (List.forall_mem_cons.mpr ⟨mvW10_2, (fun _ h => absurd h List.not_mem_nil)⟩)⟩)⟩)⟩)
theorem mvW10_306 : (Cond.code yX10_turnsKept cX10_turnsKept 2 (some .int)) ∈ vW10 := vW10_p6 _ (List.mem_of_getElem? (i := 18) rfl)
theorem mvW10_305 : (Cond.selects RX10 yX10_turnsKept yX10_turnsKept) ∈ vW10 := vW10_p6 _ (List.mem_of_getElem? (i := 17) rfl)
theorem mvW10_304 : (Cond.instanceMethod yX10_turnsKept) ∈ vW10 := vW10_p6 _ (List.mem_of_getElem? (i := 16) rfl)
theorem mvW10_303 : (Cond.methodLink RX10 365 yX10_turnsKept) ∈ vW10 := vW10_p6 _ (List.mem_of_getElem? (i := 15) rfl)
theorem pvW10_202 : ∀ w ∈ ([.methodLink RX10 365 yX10_turnsKept, .instanceMethod yX10_turnsKept, .selects RX10 yX10_turnsKept yX10_turnsKept, .initialized RX10] : List Cond), w ∈ vW10 := (List.forall_mem_cons.mpr ⟨mvW10_303, (List.forall_mem_cons.mpr ⟨mvW10_304, (List.forall_mem_cons.mpr ⟨mvW10_305, (List.forall_mem_cons.mpr ⟨mvW10_2, (fun _ h => absurd h List.not_mem_nil)⟩)⟩)⟩)⟩)
theorem mvW10_329 : (Cond.code yX10_goodOr cX10_goodOr 2 (some .int)) ∈ vW10 := vW10_p6 _ (List.mem_of_getElem? (i := 41) rfl)
theorem mvW10_328 : (Cond.selects RX10 yX10_goodOr yX10_goodOr) ∈ vW10 := vW10_p6 _ (List.mem_of_getElem? (i := 40) rfl)
theorem mvW10_327 : (Cond.instanceMethod yX10_goodOr) ∈ vW10 := vW10_p6 _ (List.mem_of_getElem? (i := 39) rfl)
theorem mvW10_326 : (Cond.methodLink RX10 368 yX10_goodOr) ∈ vW10 := vW10_p6 _ (List.mem_of_getElem? (i := 38) rfl)
theorem pvW10_203 : ∀ w ∈ ([.methodLink RX10 368 yX10_goodOr, .instanceMethod yX10_goodOr, .selects RX10 yX10_goodOr yX10_goodOr, .initialized RX10] : List Cond), w ∈ vW10 := (List.forall_mem_cons.mpr ⟨mvW10_326, (List.forall_mem_cons.mpr ⟨mvW10_327, (List.forall_mem_cons.mpr ⟨mvW10_328, (List.forall_mem_cons.mpr ⟨mvW10_2, (fun _ h => absurd h List.not_mem_nil)⟩)⟩)⟩)⟩)
theorem mvW10_281 : (Cond.code yX10_rightsKept cX10_rightsKept 2 (some .int)) ∈ vW10 := vW10_p5 _ (List.mem_of_getElem? (i := 41) rfl)
theorem mvW10_280 : (Cond.selects RX10 yX10_rightsKept yX10_rightsKept) ∈ vW10 := vW10_p5 _ (List.mem_of_getElem? (i := 40) rfl)
theorem mvW10_279 : (Cond.instanceMethod yX10_rightsKept) ∈ vW10 := vW10_p5 _ (List.mem_of_getElem? (i := 39) rfl)
theorem mvW10_278 : (Cond.methodLink RX10 371 yX10_rightsKept) ∈ vW10 := vW10_p5 _ (List.mem_of_getElem? (i := 38) rfl)
theorem pvW10_204 : ∀ w ∈ ([.methodLink RX10 371 yX10_rightsKept, .instanceMethod yX10_rightsKept, .selects RX10 yX10_rightsKept yX10_rightsKept, .initialized RX10] : List Cond), w ∈ vW10 := (List.forall_mem_cons.mpr ⟨mvW10_278, (List.forall_mem_cons.mpr ⟨mvW10_279, (List.forall_mem_cons.mpr ⟨mvW10_280, (List.forall_mem_cons.mpr ⟨mvW10_2, (fun _ h => absurd h List.not_mem_nil)⟩)⟩)⟩)⟩)
theorem mvW10_289 : (Cond.code yX10_swapsKept cX10_swapsKept 2 (some .int)) ∈ vW10 := vW10_p6 _ (List.mem_of_getElem? (i := 1) rfl)
theorem mvW10_288 : (Cond.selects RX10 yX10_swapsKept yX10_swapsKept) ∈ vW10 := vW10_p6 _ (List.mem_of_getElem? (i := 0) rfl)
theorem mvW10_287 : (Cond.instanceMethod yX10_swapsKept) ∈ vW10 := vW10_p5 _ (List.mem_of_getElem? (i := 47) rfl)
theorem mvW10_286 : (Cond.methodLink RX10 374 yX10_swapsKept) ∈ vW10 := vW10_p5 _ (List.mem_of_getElem? (i := 46) rfl)
theorem pvW10_205 : ∀ w ∈ ([.methodLink RX10 374 yX10_swapsKept, .instanceMethod yX10_swapsKept, .selects RX10 yX10_swapsKept yX10_swapsKept, .initialized RX10] : List Cond), w ∈ vW10 := (List.forall_mem_cons.mpr ⟨mvW10_286, (List.forall_mem_cons.mpr ⟨mvW10_287, (List.forall_mem_cons.mpr ⟨mvW10_288, (List.forall_mem_cons.mpr ⟨mvW10_2, (fun _ h => absurd h List.not_mem_nil)⟩)⟩)⟩)⟩)
theorem mvW10_297 : (Cond.code yX10_passesKept cX10_passesKept 1 (some .int)) ∈ vW10 := vW10_p6 _ (List.mem_of_getElem? (i := 9) rfl)
theorem mvW10_296 : (Cond.selects RX10 yX10_passesKept yX10_passesKept) ∈ vW10 := vW10_p6 _ (List.mem_of_getElem? (i := 8) rfl)
theorem mvW10_295 : (Cond.instanceMethod yX10_passesKept) ∈ vW10 := vW10_p6 _ (List.mem_of_getElem? (i := 7) rfl)
theorem mvW10_294 : (Cond.methodLink RX10 377 yX10_passesKept) ∈ vW10 := vW10_p6 _ (List.mem_of_getElem? (i := 6) rfl)
theorem pvW10_206 : ∀ w ∈ ([.methodLink RX10 377 yX10_passesKept, .instanceMethod yX10_passesKept, .selects RX10 yX10_passesKept yX10_passesKept, .initialized RX10] : List Cond), w ∈ vW10 := (List.forall_mem_cons.mpr ⟨mvW10_294, (List.forall_mem_cons.mpr ⟨mvW10_295, (List.forall_mem_cons.mpr ⟨mvW10_296, (List.forall_mem_cons.mpr ⟨mvW10_2, (fun _ h => absurd h List.not_mem_nil)⟩)⟩)⟩)⟩)
theorem mvW10_355 : (Cond.code yX10_allOrders cX10_allOrders 3 (some .int)) ∈ vW10 := vW10_p7 _ (List.mem_of_getElem? (i := 19) rfl)
theorem mvW10_354 : (Cond.static yX10_allOrders) ∈ vW10 := vW10_p7 _ (List.mem_of_getElem? (i := 18) rfl)
theorem mvW10_353 : (Cond.methodLink RX10 380 yX10_allOrders) ∈ vW10 := vW10_p7 _ (List.mem_of_getElem? (i := 17) rfl)
theorem pvW10_207 : ∀ w ∈ ([.methodLink RX10 380 yX10_allOrders, .static yX10_allOrders, .initialized yX10_allOrders.cls] : List Cond), w ∈ vW10 := (List.forall_mem_cons.mpr ⟨mvW10_353, (List.forall_mem_cons.mpr ⟨mvW10_354, (List.forall_mem_cons.mpr ⟨mvW10_2, (fun _ h => absurd h List.not_mem_nil)⟩)⟩)⟩)
theorem mvW10_362 : (Cond.code yX10_isIn cX10_isIn 2 (some .boolean)) ∈ vW10 := vW10_p7 _ (List.mem_of_getElem? (i := 26) rfl)
theorem mvW10_361 : (Cond.static yX10_isIn) ∈ vW10 := vW10_p7 _ (List.mem_of_getElem? (i := 25) rfl)
theorem mvW10_360 : (Cond.methodLink RX10 383 yX10_isIn) ∈ vW10 := vW10_p7 _ (List.mem_of_getElem? (i := 24) rfl)
theorem pvW10_208 : ∀ w ∈ ([.methodLink RX10 383 yX10_isIn, .static yX10_isIn, .initialized yX10_isIn.cls] : List Cond), w ∈ vW10 := (List.forall_mem_cons.mpr ⟨mvW10_360, (List.forall_mem_cons.mpr ⟨mvW10_361, (List.forall_mem_cons.mpr ⟨mvW10_2, (fun _ h => absurd h List.not_mem_nil)⟩)⟩)⟩)
theorem mvW10_359 : (Cond.code yX10_laysOrder cX10_laysOrder 8 none) ∈ vW10 := vW10_p7 _ (List.mem_of_getElem? (i := 23) rfl)
theorem mvW10_358 : (Cond.selects RX10 yX10_laysOrder yX10_laysOrder) ∈ vW10 := vW10_p7 _ (List.mem_of_getElem? (i := 22) rfl)
theorem mvW10_357 : (Cond.instanceMethod yX10_laysOrder) ∈ vW10 := vW10_p7 _ (List.mem_of_getElem? (i := 21) rfl)
theorem mvW10_356 : (Cond.methodLink RX10 392 yX10_laysOrder) ∈ vW10 := vW10_p7 _ (List.mem_of_getElem? (i := 20) rfl)
theorem pvW10_209 : ∀ w ∈ ([.methodLink RX10 392 yX10_laysOrder, .instanceMethod yX10_laysOrder, .selects RX10 yX10_laysOrder yX10_laysOrder, .initialized RX10] : List Cond), w ∈ vW10 := (List.forall_mem_cons.mpr ⟨mvW10_356, (List.forall_mem_cons.mpr ⟨mvW10_357, (List.forall_mem_cons.mpr ⟨mvW10_358, (List.forall_mem_cons.mpr ⟨mvW10_2, (fun _ h => absurd h List.not_mem_nil)⟩)⟩)⟩)⟩)
theorem mvW10_366 : (Cond.code yX10_numberOf cX10_numberOf 5 (some .int)) ∈ vW10 := vW10_p7 _ (List.mem_of_getElem? (i := 30) rfl)
theorem mvW10_365 : (Cond.selects RX10 yX10_numberOf yX10_numberOf) ∈ vW10 := vW10_p7 _ (List.mem_of_getElem? (i := 29) rfl)
theorem mvW10_364 : (Cond.instanceMethod yX10_numberOf) ∈ vW10 := vW10_p7 _ (List.mem_of_getElem? (i := 28) rfl)
theorem mvW10_363 : (Cond.methodLink RX10 395 yX10_numberOf) ∈ vW10 := vW10_p7 _ (List.mem_of_getElem? (i := 27) rfl)
theorem pvW10_210 : ∀ w ∈ ([.methodLink RX10 395 yX10_numberOf, .instanceMethod yX10_numberOf, .selects RX10 yX10_numberOf yX10_numberOf, .initialized RX10] : List Cond), w ∈ vW10 := (List.forall_mem_cons.mpr ⟨mvW10_363, (List.forall_mem_cons.mpr ⟨mvW10_364, (List.forall_mem_cons.mpr ⟨mvW10_365, (List.forall_mem_cons.mpr ⟨mvW10_2, (fun _ h => absurd h List.not_mem_nil)⟩)⟩)⟩)⟩)
theorem mvW10_370 : (Cond.code yX10_headsBehind cX10_headsBehind 5 (some .int)) ∈ vW10 := vW10_p7 _ (List.mem_of_getElem? (i := 34) rfl)
theorem mvW10_369 : (Cond.selects RX10 yX10_headsBehind yX10_headsBehind) ∈ vW10 := vW10_p7 _ (List.mem_of_getElem? (i := 33) rfl)
theorem mvW10_368 : (Cond.instanceMethod yX10_headsBehind) ∈ vW10 := vW10_p7 _ (List.mem_of_getElem? (i := 32) rfl)
theorem mvW10_367 : (Cond.methodLink RX10 398 yX10_headsBehind) ∈ vW10 := vW10_p7 _ (List.mem_of_getElem? (i := 31) rfl)
theorem pvW10_211 : ∀ w ∈ ([.methodLink RX10 398 yX10_headsBehind, .instanceMethod yX10_headsBehind, .selects RX10 yX10_headsBehind yX10_headsBehind, .initialized RX10] : List Cond), w ∈ vW10 := (List.forall_mem_cons.mpr ⟨mvW10_367, (List.forall_mem_cons.mpr ⟨mvW10_368, (List.forall_mem_cons.mpr ⟨mvW10_369, (List.forall_mem_cons.mpr ⟨mvW10_2, (fun _ h => absurd h List.not_mem_nil)⟩)⟩)⟩)⟩)
theorem mvW10_106 : (Cond.code yX10_lessThan cX10_lessThan 4 (some .int)) ∈ vW10 := vW10_p2 _ (List.mem_of_getElem? (i := 10) rfl)
theorem mvW10_105 : (Cond.selects RX10 yX10_lessThan yX10_lessThan) ∈ vW10 := vW10_p2 _ (List.mem_of_getElem? (i := 9) rfl)
theorem mvW10_104 : (Cond.instanceMethod yX10_lessThan) ∈ vW10 := vW10_p2 _ (List.mem_of_getElem? (i := 8) rfl)
theorem mvW10_103 : (Cond.methodLink RX10 401 yX10_lessThan) ∈ vW10 := vW10_p2 _ (List.mem_of_getElem? (i := 7) rfl)
theorem pvW10_212 : ∀ w ∈ ([.methodLink RX10 401 yX10_lessThan, .instanceMethod yX10_lessThan, .selects RX10 yX10_lessThan yX10_lessThan, .initialized RX10] : List Cond), w ∈ vW10 := (List.forall_mem_cons.mpr ⟨mvW10_103, (List.forall_mem_cons.mpr ⟨mvW10_104, (List.forall_mem_cons.mpr ⟨mvW10_105, (List.forall_mem_cons.mpr ⟨mvW10_2, (fun _ h => absurd h List.not_mem_nil)⟩)⟩)⟩)⟩)
theorem mvW10_347 : (Cond.code yX10_laysTables cX10_laysTables 4 none) ∈ vW10 := vW10_p7 _ (List.mem_of_getElem? (i := 11) rfl)
theorem mvW10_346 : (Cond.selects RX10 yX10_laysTables yX10_laysTables) ∈ vW10 := vW10_p7 _ (List.mem_of_getElem? (i := 10) rfl)
theorem mvW10_345 : (Cond.instanceMethod yX10_laysTables) ∈ vW10 := vW10_p7 _ (List.mem_of_getElem? (i := 9) rfl)
theorem mvW10_344 : (Cond.methodLink RX10 404 yX10_laysTables) ∈ vW10 := vW10_p7 _ (List.mem_of_getElem? (i := 8) rfl)
theorem pvW10_213 : ∀ w ∈ ([.methodLink RX10 404 yX10_laysTables, .instanceMethod yX10_laysTables, .selects RX10 yX10_laysTables yX10_laysTables, .initialized RX10] : List Cond), w ∈ vW10 := (List.forall_mem_cons.mpr ⟨mvW10_344, (List.forall_mem_cons.mpr ⟨mvW10_345, (List.forall_mem_cons.mpr ⟨mvW10_346, (List.forall_mem_cons.mpr ⟨mvW10_2, (fun _ h => absurd h List.not_mem_nil)⟩)⟩)⟩)⟩)
theorem mvW10_374 : (Cond.code yX10_rankOf cX10_rankOf 4 (some .int)) ∈ vW10 := vW10_p7 _ (List.mem_of_getElem? (i := 38) rfl)
theorem mvW10_373 : (Cond.selects RX10 yX10_rankOf yX10_rankOf) ∈ vW10 := vW10_p7 _ (List.mem_of_getElem? (i := 37) rfl)
theorem mvW10_372 : (Cond.instanceMethod yX10_rankOf) ∈ vW10 := vW10_p7 _ (List.mem_of_getElem? (i := 36) rfl)
theorem mvW10_371 : (Cond.methodLink RX10 407 yX10_rankOf) ∈ vW10 := vW10_p7 _ (List.mem_of_getElem? (i := 35) rfl)
theorem pvW10_214 : ∀ w ∈ ([.methodLink RX10 407 yX10_rankOf, .instanceMethod yX10_rankOf, .selects RX10 yX10_rankOf yX10_rankOf, .initialized RX10] : List Cond), w ∈ vW10 := (List.forall_mem_cons.mpr ⟨mvW10_371, (List.forall_mem_cons.mpr ⟨mvW10_372, (List.forall_mem_cons.mpr ⟨mvW10_373, (List.forall_mem_cons.mpr ⟨mvW10_2, (fun _ h => absurd h List.not_mem_nil)⟩)⟩)⟩)⟩)
theorem mvW10_377 : (Cond.code yX10_askedAt cX10_askedAt 4 (some .int)) ∈ vW10 := vW10_p7 _ (List.mem_of_getElem? (i := 41) rfl)
theorem mvW10_376 : (Cond.static yX10_askedAt) ∈ vW10 := vW10_p7 _ (List.mem_of_getElem? (i := 40) rfl)
theorem mvW10_375 : (Cond.methodLink RX10 410 yX10_askedAt) ∈ vW10 := vW10_p7 _ (List.mem_of_getElem? (i := 39) rfl)
theorem pvW10_215 : ∀ w ∈ ([.methodLink RX10 410 yX10_askedAt, .static yX10_askedAt, .initialized yX10_askedAt.cls] : List Cond), w ∈ vW10 := (List.forall_mem_cons.mpr ⟨mvW10_375, (List.forall_mem_cons.mpr ⟨mvW10_376, (List.forall_mem_cons.mpr ⟨mvW10_2, (fun _ h => absurd h List.not_mem_nil)⟩)⟩)⟩)
theorem mvW10_342 : (Cond.code yX10_laysPrices cX10_laysPrices 5 none) ∈ vW10 := vW10_p7 _ (List.mem_of_getElem? (i := 6) rfl)
theorem mvW10_341 : (Cond.selects RX10 yX10_laysPrices yX10_laysPrices) ∈ vW10 := vW10_p7 _ (List.mem_of_getElem? (i := 5) rfl)
theorem mvW10_340 : (Cond.instanceMethod yX10_laysPrices) ∈ vW10 := vW10_p7 _ (List.mem_of_getElem? (i := 4) rfl)
theorem mvW10_339 : (Cond.methodLink RX10 414 yX10_laysPrices) ∈ vW10 := vW10_p7 _ (List.mem_of_getElem? (i := 3) rfl)
theorem pvW10_216 : ∀ w ∈ ([.methodLink RX10 414 yX10_laysPrices, .instanceMethod yX10_laysPrices, .selects RX10 yX10_laysPrices yX10_laysPrices, .initialized RX10] : List Cond), w ∈ vW10 := (List.forall_mem_cons.mpr ⟨mvW10_339, (List.forall_mem_cons.mpr ⟨mvW10_340, (List.forall_mem_cons.mpr ⟨mvW10_341, (List.forall_mem_cons.mpr ⟨mvW10_2, (fun _ h => absurd h List.not_mem_nil)⟩)⟩)⟩)⟩)
theorem mvW10_381 : (Cond.code yX10_isThere cX10_isThere 2 (some .boolean)) ∈ vW10 := vW10_p7 _ (List.mem_of_getElem? (i := 45) rfl)
theorem mvW10_380 : (Cond.selects RX10 yX10_isThere yX10_isThere) ∈ vW10 := vW10_p7 _ (List.mem_of_getElem? (i := 44) rfl)
theorem mvW10_379 : (Cond.instanceMethod yX10_isThere) ∈ vW10 := vW10_p7 _ (List.mem_of_getElem? (i := 43) rfl)
theorem mvW10_378 : (Cond.methodLink RX10 417 yX10_isThere) ∈ vW10 := vW10_p7 _ (List.mem_of_getElem? (i := 42) rfl)
theorem pvW10_217 : ∀ w ∈ ([.methodLink RX10 417 yX10_isThere, .instanceMethod yX10_isThere, .selects RX10 yX10_isThere yX10_isThere, .initialized RX10] : List Cond), w ∈ vW10 := (List.forall_mem_cons.mpr ⟨mvW10_378, (List.forall_mem_cons.mpr ⟨mvW10_379, (List.forall_mem_cons.mpr ⟨mvW10_380, (List.forall_mem_cons.mpr ⟨mvW10_2, (fun _ h => absurd h List.not_mem_nil)⟩)⟩)⟩)⟩)
theorem mvW10_385 : (Cond.code yX10_isOrdered cX10_isOrdered 2 (some .boolean)) ∈ vW10 := vW10_p8 _ (List.mem_of_getElem? (i := 1) rfl)
theorem mvW10_384 : (Cond.selects RX10 yX10_isOrdered yX10_isOrdered) ∈ vW10 := vW10_p8 _ (List.mem_of_getElem? (i := 0) rfl)
theorem mvW10_383 : (Cond.instanceMethod yX10_isOrdered) ∈ vW10 := vW10_p7 _ (List.mem_of_getElem? (i := 47) rfl)
theorem mvW10_382 : (Cond.methodLink RX10 420 yX10_isOrdered) ∈ vW10 := vW10_p7 _ (List.mem_of_getElem? (i := 46) rfl)
theorem pvW10_218 : ∀ w ∈ ([.methodLink RX10 420 yX10_isOrdered, .instanceMethod yX10_isOrdered, .selects RX10 yX10_isOrdered yX10_isOrdered, .initialized RX10] : List Cond), w ∈ vW10 := (List.forall_mem_cons.mpr ⟨mvW10_382, (List.forall_mem_cons.mpr ⟨mvW10_383, (List.forall_mem_cons.mpr ⟨mvW10_384, (List.forall_mem_cons.mpr ⟨mvW10_2, (fun _ h => absurd h List.not_mem_nil)⟩)⟩)⟩)⟩)
theorem mvW10_389 : (Cond.code yX10_behind cX10_behind 3 (some .int)) ∈ vW10 := vW10_p8 _ (List.mem_of_getElem? (i := 5) rfl)
theorem mvW10_388 : (Cond.selects RX10 yX10_behind yX10_behind) ∈ vW10 := vW10_p8 _ (List.mem_of_getElem? (i := 4) rfl)
theorem mvW10_387 : (Cond.instanceMethod yX10_behind) ∈ vW10 := vW10_p8 _ (List.mem_of_getElem? (i := 3) rfl)
theorem mvW10_386 : (Cond.methodLink RX10 423 yX10_behind) ∈ vW10 := vW10_p8 _ (List.mem_of_getElem? (i := 2) rfl)
theorem pvW10_219 : ∀ w ∈ ([.methodLink RX10 423 yX10_behind, .instanceMethod yX10_behind, .selects RX10 yX10_behind yX10_behind, .initialized RX10] : List Cond), w ∈ vW10 := (List.forall_mem_cons.mpr ⟨mvW10_386, (List.forall_mem_cons.mpr ⟨mvW10_387, (List.forall_mem_cons.mpr ⟨mvW10_388, (List.forall_mem_cons.mpr ⟨mvW10_2, (fun _ h => absurd h List.not_mem_nil)⟩)⟩)⟩)⟩)
theorem mvW10_393 : (Cond.code yX10_priceOf cX10_priceOf 4 (some .int)) ∈ vW10 := vW10_p8 _ (List.mem_of_getElem? (i := 9) rfl)
theorem mvW10_392 : (Cond.selects RX10 yX10_priceOf yX10_priceOf) ∈ vW10 := vW10_p8 _ (List.mem_of_getElem? (i := 8) rfl)
theorem mvW10_391 : (Cond.instanceMethod yX10_priceOf) ∈ vW10 := vW10_p8 _ (List.mem_of_getElem? (i := 7) rfl)
theorem mvW10_390 : (Cond.methodLink RX10 426 yX10_priceOf) ∈ vW10 := vW10_p8 _ (List.mem_of_getElem? (i := 6) rfl)
theorem pvW10_220 : ∀ w ∈ ([.methodLink RX10 426 yX10_priceOf, .instanceMethod yX10_priceOf, .selects RX10 yX10_priceOf yX10_priceOf, .initialized RX10] : List Cond), w ∈ vW10 := (List.forall_mem_cons.mpr ⟨mvW10_390, (List.forall_mem_cons.mpr ⟨mvW10_391, (List.forall_mem_cons.mpr ⟨mvW10_392, (List.forall_mem_cons.mpr ⟨mvW10_2, (fun _ h => absurd h List.not_mem_nil)⟩)⟩)⟩)⟩)
theorem mvW10_334 : (Cond.code yX10_laysDist cX10_laysDist 6 none) ∈ vW10 := vW10_p6 _ (List.mem_of_getElem? (i := 46) rfl)
theorem mvW10_333 : (Cond.selects RX10 yX10_laysDist yX10_laysDist) ∈ vW10 := vW10_p6 _ (List.mem_of_getElem? (i := 45) rfl)
theorem mvW10_332 : (Cond.instanceMethod yX10_laysDist) ∈ vW10 := vW10_p6 _ (List.mem_of_getElem? (i := 44) rfl)
theorem mvW10_331 : (Cond.methodLink RX10 430 yX10_laysDist) ∈ vW10 := vW10_p6 _ (List.mem_of_getElem? (i := 43) rfl)
theorem pvW10_221 : ∀ w ∈ ([.methodLink RX10 430 yX10_laysDist, .instanceMethod yX10_laysDist, .selects RX10 yX10_laysDist yX10_laysDist, .initialized RX10] : List Cond), w ∈ vW10 := (List.forall_mem_cons.mpr ⟨mvW10_331, (List.forall_mem_cons.mpr ⟨mvW10_332, (List.forall_mem_cons.mpr ⟨mvW10_333, (List.forall_mem_cons.mpr ⟨mvW10_2, (fun _ h => absurd h List.not_mem_nil)⟩)⟩)⟩)⟩)
theorem mvW10_397 : (Cond.code yX10_towerNow cX10_towerNow 3 (some .int)) ∈ vW10 := vW10_p8 _ (List.mem_of_getElem? (i := 13) rfl)
theorem mvW10_396 : (Cond.selects RX10 yX10_towerNow yX10_towerNow) ∈ vW10 := vW10_p8 _ (List.mem_of_getElem? (i := 12) rfl)
theorem mvW10_395 : (Cond.instanceMethod yX10_towerNow) ∈ vW10 := vW10_p8 _ (List.mem_of_getElem? (i := 11) rfl)
theorem mvW10_394 : (Cond.methodLink RX10 433 yX10_towerNow) ∈ vW10 := vW10_p8 _ (List.mem_of_getElem? (i := 10) rfl)
theorem pvW10_222 : ∀ w ∈ ([.methodLink RX10 433 yX10_towerNow, .instanceMethod yX10_towerNow, .selects RX10 yX10_towerNow yX10_towerNow, .initialized RX10] : List Cond), w ∈ vW10 := (List.forall_mem_cons.mpr ⟨mvW10_394, (List.forall_mem_cons.mpr ⟨mvW10_395, (List.forall_mem_cons.mpr ⟨mvW10_396, (List.forall_mem_cons.mpr ⟨mvW10_2, (fun _ h => absurd h List.not_mem_nil)⟩)⟩)⟩)⟩)
theorem mvW10_442 : (Cond.code yX10_fewest cX10_fewest 5 (some .int)) ∈ vW10 := vW10_p9 _ (List.mem_of_getElem? (i := 10) rfl)
theorem mvW10_441 : (Cond.selects RX10 yX10_fewest yX10_fewest) ∈ vW10 := vW10_p9 _ (List.mem_of_getElem? (i := 9) rfl)
theorem mvW10_440 : (Cond.instanceMethod yX10_fewest) ∈ vW10 := vW10_p9 _ (List.mem_of_getElem? (i := 8) rfl)
theorem mvW10_439 : (Cond.methodLink RX10 436 yX10_fewest) ∈ vW10 := vW10_p9 _ (List.mem_of_getElem? (i := 7) rfl)
theorem pvW10_223 : ∀ w ∈ ([.methodLink RX10 436 yX10_fewest, .instanceMethod yX10_fewest, .selects RX10 yX10_fewest yX10_fewest, .initialized RX10] : List Cond), w ∈ vW10 := (List.forall_mem_cons.mpr ⟨mvW10_439, (List.forall_mem_cons.mpr ⟨mvW10_440, (List.forall_mem_cons.mpr ⟨mvW10_441, (List.forall_mem_cons.mpr ⟨mvW10_2, (fun _ h => absurd h List.not_mem_nil)⟩)⟩)⟩)⟩)
theorem mvW10_402 : (Cond.code yX10_greater cX10_greater 2 (some .int)) ∈ vW10 := vW10_p8 _ (List.mem_of_getElem? (i := 18) rfl)
theorem mvW10_401 : (Cond.static yX10_greater) ∈ vW10 := vW10_p8 _ (List.mem_of_getElem? (i := 17) rfl)
theorem mvW10_400 : (Cond.methodLink RX10 439 yX10_greater) ∈ vW10 := vW10_p8 _ (List.mem_of_getElem? (i := 16) rfl)
theorem pvW10_224 : ∀ w ∈ ([.methodLink RX10 439 yX10_greater, .static yX10_greater, .initialized yX10_greater.cls] : List Cond), w ∈ vW10 := (List.forall_mem_cons.mpr ⟨mvW10_400, (List.forall_mem_cons.mpr ⟨mvW10_401, (List.forall_mem_cons.mpr ⟨mvW10_2, (fun _ h => absurd h List.not_mem_nil)⟩)⟩)⟩)
theorem mvW10_406 : (Cond.code yX10_laysReach cX10_laysReach 5 (some .int)) ∈ vW10 := vW10_p8 _ (List.mem_of_getElem? (i := 22) rfl)
theorem mvW10_405 : (Cond.selects RX10 yX10_laysReach yX10_laysReach) ∈ vW10 := vW10_p8 _ (List.mem_of_getElem? (i := 21) rfl)
theorem mvW10_404 : (Cond.instanceMethod yX10_laysReach) ∈ vW10 := vW10_p8 _ (List.mem_of_getElem? (i := 20) rfl)
theorem mvW10_403 : (Cond.methodLink RX10 442 yX10_laysReach) ∈ vW10 := vW10_p8 _ (List.mem_of_getElem? (i := 19) rfl)
theorem pvW10_225 : ∀ w ∈ ([.methodLink RX10 442 yX10_laysReach, .instanceMethod yX10_laysReach, .selects RX10 yX10_laysReach yX10_laysReach, .initialized RX10] : List Cond), w ∈ vW10 := (List.forall_mem_cons.mpr ⟨mvW10_403, (List.forall_mem_cons.mpr ⟨mvW10_404, (List.forall_mem_cons.mpr ⟨mvW10_405, (List.forall_mem_cons.mpr ⟨mvW10_2, (fun _ h => absurd h List.not_mem_nil)⟩)⟩)⟩)⟩)
theorem mvW10_410 : (Cond.code yX10_isOrder cX10_isOrder 6 (some .boolean)) ∈ vW10 := vW10_p8 _ (List.mem_of_getElem? (i := 26) rfl)
theorem mvW10_409 : (Cond.selects RX10 yX10_isOrder yX10_isOrder) ∈ vW10 := vW10_p8 _ (List.mem_of_getElem? (i := 25) rfl)
theorem mvW10_408 : (Cond.instanceMethod yX10_isOrder) ∈ vW10 := vW10_p8 _ (List.mem_of_getElem? (i := 24) rfl)
theorem mvW10_407 : (Cond.methodLink RX10 445 yX10_isOrder) ∈ vW10 := vW10_p8 _ (List.mem_of_getElem? (i := 23) rfl)
theorem pvW10_226 : ∀ w ∈ ([.methodLink RX10 445 yX10_isOrder, .instanceMethod yX10_isOrder, .selects RX10 yX10_isOrder yX10_isOrder, .initialized RX10] : List Cond), w ∈ vW10 := (List.forall_mem_cons.mpr ⟨mvW10_407, (List.forall_mem_cons.mpr ⟨mvW10_408, (List.forall_mem_cons.mpr ⟨mvW10_409, (List.forall_mem_cons.mpr ⟨mvW10_2, (fun _ h => absurd h List.not_mem_nil)⟩)⟩)⟩)⟩)
theorem mvW10_413 : (Cond.code yX10_ones cX10_ones 3 (some .int)) ∈ vW10 := vW10_p8 _ (List.mem_of_getElem? (i := 29) rfl)
theorem mvW10_412 : (Cond.static yX10_ones) ∈ vW10 := vW10_p8 _ (List.mem_of_getElem? (i := 28) rfl)
theorem mvW10_411 : (Cond.methodLink RX10 448 yX10_ones) ∈ vW10 := vW10_p8 _ (List.mem_of_getElem? (i := 27) rfl)
theorem pvW10_227 : ∀ w ∈ ([.methodLink RX10 448 yX10_ones, .static yX10_ones, .initialized yX10_ones.cls] : List Cond), w ∈ vW10 := (List.forall_mem_cons.mpr ⟨mvW10_411, (List.forall_mem_cons.mpr ⟨mvW10_412, (List.forall_mem_cons.mpr ⟨mvW10_2, (fun _ h => absurd h List.not_mem_nil)⟩)⟩)⟩)
theorem mvW10_417 : (Cond.code yX10_canStay cX10_canStay 5 (some .boolean)) ∈ vW10 := vW10_p8 _ (List.mem_of_getElem? (i := 33) rfl)
theorem mvW10_416 : (Cond.selects RX10 yX10_canStay yX10_canStay) ∈ vW10 := vW10_p8 _ (List.mem_of_getElem? (i := 32) rfl)
theorem mvW10_415 : (Cond.instanceMethod yX10_canStay) ∈ vW10 := vW10_p8 _ (List.mem_of_getElem? (i := 31) rfl)
theorem mvW10_414 : (Cond.methodLink RX10 451 yX10_canStay) ∈ vW10 := vW10_p8 _ (List.mem_of_getElem? (i := 30) rfl)
theorem pvW10_228 : ∀ w ∈ ([.methodLink RX10 451 yX10_canStay, .instanceMethod yX10_canStay, .selects RX10 yX10_canStay yX10_canStay, .initialized RX10] : List Cond), w ∈ vW10 := (List.forall_mem_cons.mpr ⟨mvW10_414, (List.forall_mem_cons.mpr ⟨mvW10_415, (List.forall_mem_cons.mpr ⟨mvW10_416, (List.forall_mem_cons.mpr ⟨mvW10_2, (fun _ h => absurd h List.not_mem_nil)⟩)⟩)⟩)⟩)
theorem mvW10_425 : (Cond.code yX10_rankBehind cX10_rankBehind 3 (some .int)) ∈ vW10 := vW10_p8 _ (List.mem_of_getElem? (i := 41) rfl)
theorem mvW10_424 : (Cond.selects RX10 yX10_rankBehind yX10_rankBehind) ∈ vW10 := vW10_p8 _ (List.mem_of_getElem? (i := 40) rfl)
theorem mvW10_423 : (Cond.instanceMethod yX10_rankBehind) ∈ vW10 := vW10_p8 _ (List.mem_of_getElem? (i := 39) rfl)
theorem mvW10_422 : (Cond.methodLink RX10 454 yX10_rankBehind) ∈ vW10 := vW10_p8 _ (List.mem_of_getElem? (i := 38) rfl)
theorem pvW10_229 : ∀ w ∈ ([.methodLink RX10 454 yX10_rankBehind, .instanceMethod yX10_rankBehind, .selects RX10 yX10_rankBehind yX10_rankBehind, .initialized RX10] : List Cond), w ∈ vW10 := (List.forall_mem_cons.mpr ⟨mvW10_422, (List.forall_mem_cons.mpr ⟨mvW10_423, (List.forall_mem_cons.mpr ⟨mvW10_424, (List.forall_mem_cons.mpr ⟨mvW10_2, (fun _ h => absurd h List.not_mem_nil)⟩)⟩)⟩)⟩)
theorem mvW10_421 : (Cond.code yX10_itWas cX10_itWas 4 (some .boolean)) ∈ vW10 := vW10_p8 _ (List.mem_of_getElem? (i := 37) rfl)
theorem mvW10_420 : (Cond.selects RX10 yX10_itWas yX10_itWas) ∈ vW10 := vW10_p8 _ (List.mem_of_getElem? (i := 36) rfl)
theorem mvW10_419 : (Cond.instanceMethod yX10_itWas) ∈ vW10 := vW10_p8 _ (List.mem_of_getElem? (i := 35) rfl)
theorem mvW10_418 : (Cond.methodLink RX10 457 yX10_itWas) ∈ vW10 := vW10_p8 _ (List.mem_of_getElem? (i := 34) rfl)
theorem pvW10_230 : ∀ w ∈ ([.methodLink RX10 457 yX10_itWas, .instanceMethod yX10_itWas, .selects RX10 yX10_itWas yX10_itWas, .initialized RX10] : List Cond), w ∈ vW10 := (List.forall_mem_cons.mpr ⟨mvW10_418, (List.forall_mem_cons.mpr ⟨mvW10_419, (List.forall_mem_cons.mpr ⟨mvW10_420, (List.forall_mem_cons.mpr ⟨mvW10_2, (fun _ h => absurd h List.not_mem_nil)⟩)⟩)⟩)⟩)
theorem mvW10_429 : (Cond.code yX10_was cX10_was 3 (some .int)) ∈ vW10 := vW10_p8 _ (List.mem_of_getElem? (i := 45) rfl)
theorem mvW10_428 : (Cond.selects RX10 yX10_was yX10_was) ∈ vW10 := vW10_p8 _ (List.mem_of_getElem? (i := 44) rfl)
theorem mvW10_427 : (Cond.instanceMethod yX10_was) ∈ vW10 := vW10_p8 _ (List.mem_of_getElem? (i := 43) rfl)
theorem mvW10_426 : (Cond.methodLink RX10 460 yX10_was) ∈ vW10 := vW10_p8 _ (List.mem_of_getElem? (i := 42) rfl)
theorem pvW10_231 : ∀ w ∈ ([.methodLink RX10 460 yX10_was, .instanceMethod yX10_was, .selects RX10 yX10_was yX10_was, .initialized RX10] : List Cond), w ∈ vW10 := (List.forall_mem_cons.mpr ⟨mvW10_426, (List.forall_mem_cons.mpr ⟨mvW10_427, (List.forall_mem_cons.mpr ⟨mvW10_428, (List.forall_mem_cons.mpr ⟨mvW10_2, (fun _ h => absurd h List.not_mem_nil)⟩)⟩)⟩)⟩)
theorem mvW10_433 : (Cond.code yX10_mostAlike cX10_mostAlike 6 (some .int)) ∈ vW10 := vW10_p9 _ (List.mem_of_getElem? (i := 1) rfl)
theorem mvW10_432 : (Cond.selects RX10 yX10_mostAlike yX10_mostAlike) ∈ vW10 := vW10_p9 _ (List.mem_of_getElem? (i := 0) rfl)
theorem mvW10_431 : (Cond.instanceMethod yX10_mostAlike) ∈ vW10 := vW10_p8 _ (List.mem_of_getElem? (i := 47) rfl)
theorem mvW10_430 : (Cond.methodLink RX10 463 yX10_mostAlike) ∈ vW10 := vW10_p8 _ (List.mem_of_getElem? (i := 46) rfl)
theorem pvW10_232 : ∀ w ∈ ([.methodLink RX10 463 yX10_mostAlike, .instanceMethod yX10_mostAlike, .selects RX10 yX10_mostAlike yX10_mostAlike, .initialized RX10] : List Cond), w ∈ vW10 := (List.forall_mem_cons.mpr ⟨mvW10_430, (List.forall_mem_cons.mpr ⟨mvW10_431, (List.forall_mem_cons.mpr ⟨mvW10_432, (List.forall_mem_cons.mpr ⟨mvW10_2, (fun _ h => absurd h List.not_mem_nil)⟩)⟩)⟩)⟩)
theorem mvW10_255 : (Cond.code yX10_laysAside cX10_laysAside 3 none) ∈ vW10 := vW10_p5 _ (List.mem_of_getElem? (i := 15) rfl)
theorem mvW10_254 : (Cond.selects RX10 yX10_laysAside yX10_laysAside) ∈ vW10 := vW10_p5 _ (List.mem_of_getElem? (i := 14) rfl)
theorem mvW10_253 : (Cond.instanceMethod yX10_laysAside) ∈ vW10 := vW10_p5 _ (List.mem_of_getElem? (i := 13) rfl)
theorem mvW10_252 : (Cond.methodLink RX10 472 yX10_laysAside) ∈ vW10 := vW10_p5 _ (List.mem_of_getElem? (i := 12) rfl)
theorem pvW10_233 : ∀ w ∈ ([.methodLink RX10 472 yX10_laysAside, .instanceMethod yX10_laysAside, .selects RX10 yX10_laysAside yX10_laysAside, .initialized RX10] : List Cond), w ∈ vW10 := (List.forall_mem_cons.mpr ⟨mvW10_252, (List.forall_mem_cons.mpr ⟨mvW10_253, (List.forall_mem_cons.mpr ⟨mvW10_254, (List.forall_mem_cons.mpr ⟨mvW10_2, (fun _ h => absurd h List.not_mem_nil)⟩)⟩)⟩)⟩)
theorem mvW10_260 : (Cond.code yX10_runs cX10_runs 5 (some .boolean)) ∈ vW10 := vW10_p5 _ (List.mem_of_getElem? (i := 20) rfl)
theorem mvW10_259 : (Cond.selects RX10 yX10_runs yX10_runs) ∈ vW10 := vW10_p5 _ (List.mem_of_getElem? (i := 19) rfl)
theorem mvW10_258 : (Cond.instanceMethod yX10_runs) ∈ vW10 := vW10_p5 _ (List.mem_of_getElem? (i := 18) rfl)
theorem mvW10_257 : (Cond.methodLink RX10 478 yX10_runs) ∈ vW10 := vW10_p5 _ (List.mem_of_getElem? (i := 17) rfl)
theorem pvW10_234 : ∀ w ∈ ([.methodLink RX10 478 yX10_runs, .instanceMethod yX10_runs, .selects RX10 yX10_runs yX10_runs, .initialized RX10] : List Cond), w ∈ vW10 := (List.forall_mem_cons.mpr ⟨mvW10_257, (List.forall_mem_cons.mpr ⟨mvW10_258, (List.forall_mem_cons.mpr ⟨mvW10_259, (List.forall_mem_cons.mpr ⟨mvW10_2, (fun _ h => absurd h List.not_mem_nil)⟩)⟩)⟩)⟩)
theorem mvW10_321 : (Cond.code yX10_takesBack cX10_takesBack 3 none) ∈ vW10 := vW10_p6 _ (List.mem_of_getElem? (i := 33) rfl)
theorem mvW10_320 : (Cond.selects RX10 yX10_takesBack yX10_takesBack) ∈ vW10 := vW10_p6 _ (List.mem_of_getElem? (i := 32) rfl)
theorem mvW10_319 : (Cond.instanceMethod yX10_takesBack) ∈ vW10 := vW10_p6 _ (List.mem_of_getElem? (i := 31) rfl)
theorem mvW10_318 : (Cond.methodLink RX10 481 yX10_takesBack) ∈ vW10 := vW10_p6 _ (List.mem_of_getElem? (i := 30) rfl)
theorem pvW10_235 : ∀ w ∈ ([.methodLink RX10 481 yX10_takesBack, .instanceMethod yX10_takesBack, .selects RX10 yX10_takesBack yX10_takesBack, .initialized RX10] : List Cond), w ∈ vW10 := (List.forall_mem_cons.mpr ⟨mvW10_318, (List.forall_mem_cons.mpr ⟨mvW10_319, (List.forall_mem_cons.mpr ⟨mvW10_320, (List.forall_mem_cons.mpr ⟨mvW10_2, (fun _ h => absurd h List.not_mem_nil)⟩)⟩)⟩)⟩)
theorem mvW10_276 : (Cond.code yX10_small cX10_small 2 (some .int)) ∈ vW10 := vW10_p5 _ (List.mem_of_getElem? (i := 36) rfl)
theorem mvW10_275 : (Cond.static yX10_small) ∈ vW10 := vW10_p5 _ (List.mem_of_getElem? (i := 35) rfl)
theorem mvW10_274 : (Cond.methodLink RX10 502 yX10_small) ∈ vW10 := vW10_p5 _ (List.mem_of_getElem? (i := 34) rfl)
theorem pvW10_236 : ∀ w ∈ ([.methodLink RX10 502 yX10_small, .static yX10_small, .initialized yX10_small.cls] : List Cond), w ∈ vW10 := (List.forall_mem_cons.mpr ⟨mvW10_274, (List.forall_mem_cons.mpr ⟨mvW10_275, (List.forall_mem_cons.mpr ⟨mvW10_2, (fun _ h => absurd h List.not_mem_nil)⟩)⟩)⟩)
theorem mvW10_267 : (Cond.code yX10_goesAlong cX10_goesAlong 3 none) ∈ vW10 := vW10_p5 _ (List.mem_of_getElem? (i := 27) rfl)
theorem mvW10_266 : (Cond.selects RX10 yX10_goesAlong yX10_goesAlong) ∈ vW10 := vW10_p5 _ (List.mem_of_getElem? (i := 26) rfl)
theorem mvW10_265 : (Cond.instanceMethod yX10_goesAlong) ∈ vW10 := vW10_p5 _ (List.mem_of_getElem? (i := 25) rfl)
theorem mvW10_264 : (Cond.methodLink RX10 506 yX10_goesAlong) ∈ vW10 := vW10_p5 _ (List.mem_of_getElem? (i := 24) rfl)
theorem pvW10_237 : ∀ w ∈ ([.methodLink RX10 506 yX10_goesAlong, .instanceMethod yX10_goesAlong, .selects RX10 yX10_goesAlong yX10_goesAlong, .initialized RX10] : List Cond), w ∈ vW10 := (List.forall_mem_cons.mpr ⟨mvW10_264, (List.forall_mem_cons.mpr ⟨mvW10_265, (List.forall_mem_cons.mpr ⟨mvW10_266, (List.forall_mem_cons.mpr ⟨mvW10_2, (fun _ h => absurd h List.not_mem_nil)⟩)⟩)⟩)⟩)
theorem mvW10_273 : (Cond.code yX10_obeys cX10_obeys 2 (some .int)) ∈ vW10 := vW10_p5 _ (List.mem_of_getElem? (i := 33) rfl)
theorem mvW10_272 : (Cond.selects RX10 yX10_obeys yX10_obeys) ∈ vW10 := vW10_p5 _ (List.mem_of_getElem? (i := 32) rfl)
theorem mvW10_271 : (Cond.instanceMethod yX10_obeys) ∈ vW10 := vW10_p5 _ (List.mem_of_getElem? (i := 31) rfl)
theorem mvW10_270 : (Cond.methodLink RX10 510 yX10_obeys) ∈ vW10 := vW10_p5 _ (List.mem_of_getElem? (i := 30) rfl)
theorem pvW10_238 : ∀ w ∈ ([.methodLink RX10 510 yX10_obeys, .instanceMethod yX10_obeys, .selects RX10 yX10_obeys yX10_obeys, .initialized RX10] : List Cond), w ∈ vW10 := (List.forall_mem_cons.mpr ⟨mvW10_270, (List.forall_mem_cons.mpr ⟨mvW10_271, (List.forall_mem_cons.mpr ⟨mvW10_272, (List.forall_mem_cons.mpr ⟨mvW10_2, (fun _ h => absurd h List.not_mem_nil)⟩)⟩)⟩)⟩)
theorem mvW10_449 : (Cond.code yX10_draws cX10_draws 2 (some .int)) ∈ vW10 := vW10_p9 _ (List.mem_of_getElem? (i := 17) rfl)
theorem mvW10_448 : (Cond.selects RX10 yX10_draws yX10_draws) ∈ vW10 := vW10_p9 _ (List.mem_of_getElem? (i := 16) rfl)
theorem mvW10_447 : (Cond.instanceMethod yX10_draws) ∈ vW10 := vW10_p9 _ (List.mem_of_getElem? (i := 15) rfl)
theorem mvW10_446 : (Cond.methodLink RX10 522 yX10_draws) ∈ vW10 := vW10_p9 _ (List.mem_of_getElem? (i := 14) rfl)
theorem pvW10_239 : ∀ w ∈ ([.methodLink RX10 522 yX10_draws, .instanceMethod yX10_draws, .selects RX10 yX10_draws yX10_draws, .initialized RX10] : List Cond), w ∈ vW10 := (List.forall_mem_cons.mpr ⟨mvW10_446, (List.forall_mem_cons.mpr ⟨mvW10_447, (List.forall_mem_cons.mpr ⟨mvW10_448, (List.forall_mem_cons.mpr ⟨mvW10_2, (fun _ h => absurd h List.not_mem_nil)⟩)⟩)⟩)⟩)
theorem mvW10_458 : (Cond.code yX10_onHeads cX10_onHeads 3 (some .int)) ∈ vW10 := vW10_p9 _ (List.mem_of_getElem? (i := 26) rfl)
theorem mvW10_457 : (Cond.selects RX10 yX10_onHeads yX10_onHeads) ∈ vW10 := vW10_p9 _ (List.mem_of_getElem? (i := 25) rfl)
theorem mvW10_456 : (Cond.instanceMethod yX10_onHeads) ∈ vW10 := vW10_p9 _ (List.mem_of_getElem? (i := 24) rfl)
theorem mvW10_455 : (Cond.methodLink RX10 525 yX10_onHeads) ∈ vW10 := vW10_p9 _ (List.mem_of_getElem? (i := 23) rfl)
theorem pvW10_240 : ∀ w ∈ ([.methodLink RX10 525 yX10_onHeads, .instanceMethod yX10_onHeads, .selects RX10 yX10_onHeads yX10_onHeads, .initialized RX10] : List Cond), w ∈ vW10 := (List.forall_mem_cons.mpr ⟨mvW10_455, (List.forall_mem_cons.mpr ⟨mvW10_456, (List.forall_mem_cons.mpr ⟨mvW10_457, (List.forall_mem_cons.mpr ⟨mvW10_2, (fun _ h => absurd h List.not_mem_nil)⟩)⟩)⟩)⟩)
theorem mvW10_462 : (Cond.code yX10_isOrderedNow cX10_isOrderedNow 1 (some .boolean)) ∈ vW10 := vW10_p9 _ (List.mem_of_getElem? (i := 30) rfl)
theorem mvW10_461 : (Cond.selects RX10 yX10_isOrderedNow yX10_isOrderedNow) ∈ vW10 := vW10_p9 _ (List.mem_of_getElem? (i := 29) rfl)
theorem mvW10_460 : (Cond.instanceMethod yX10_isOrderedNow) ∈ vW10 := vW10_p9 _ (List.mem_of_getElem? (i := 28) rfl)
theorem mvW10_459 : (Cond.methodLink RX10 528 yX10_isOrderedNow) ∈ vW10 := vW10_p9 _ (List.mem_of_getElem? (i := 27) rfl)
theorem pvW10_241 : ∀ w ∈ ([.methodLink RX10 528 yX10_isOrderedNow, .instanceMethod yX10_isOrderedNow, .selects RX10 yX10_isOrderedNow yX10_isOrderedNow, .initialized RX10] : List Cond), w ∈ vW10 := (List.forall_mem_cons.mpr ⟨mvW10_459, (List.forall_mem_cons.mpr ⟨mvW10_460, (List.forall_mem_cons.mpr ⟨mvW10_461, (List.forall_mem_cons.mpr ⟨mvW10_2, (fun _ h => absurd h List.not_mem_nil)⟩)⟩)⟩)⟩)
theorem mvW10_14 : (Cond.fieldLink RX10 3 "TurnedFloorsModel" "status" "I") ∈ vW10 := vW10_p0 _ (List.mem_of_getElem? (i := 14) rfl)
theorem mvW10_15 : (Cond.fieldLink RX10 7 "TurnedFloorsModel" "refused" "[I") ∈ vW10 := vW10_p0 _ (List.mem_of_getElem? (i := 15) rfl)
theorem mvW10_33 : (Cond.fieldLink RX10 11 "TurnedFloorsModel" "undoMany" "I") ∈ vW10 := vW10_p0 _ (List.mem_of_getElem? (i := 33) rfl)
theorem mvW10_256 : (Cond.fieldLink RX10 38 "TurnedFloorsModel" "aside" "[I") ∈ vW10 := vW10_p5 _ (List.mem_of_getElem? (i := 16) rfl)
theorem mvW10_20 : (Cond.fieldLink RX10 28 "TurnedFloorsModel" "kept" "[I") ∈ vW10 := vW10_p0 _ (List.mem_of_getElem? (i := 20) rfl)
theorem mvW10_454 : (Cond.fieldLink RX10 34 "TurnedFloorsModel" "hasImage" "[Z") ∈ vW10 := vW10_p9 _ (List.mem_of_getElem? (i := 22) rfl)
theorem mvW10_453 : (Cond.fieldLink RX10 31 "TurnedFloorsModel" "images" "[I") ∈ vW10 := vW10_p9 _ (List.mem_of_getElem? (i := 21) rfl)
theorem mvW10_50 : (Cond.fieldLink RX10 63 "TurnedFloorsModel" "asked" "[I") ∈ vW10 := vW10_p1 _ (List.mem_of_getElem? (i := 2) rfl)
theorem pd_0 : (parseMethodDescriptor "(I)I").map (fun d => d.parameters.length) = some 1 := by decide +kernel
theorem pc_1 : RX10 ≠ "java/lang/invoke/MethodHandle" ∧ RX10 ≠ "java/lang/invoke/VarHandle" := by decide +kernel
theorem hd_X10_good_v : yX10_good.cls = RX10 ∧ yX10_good.cls ≠ "java/lang/invoke/MethodHandle" ∧ yX10_good.cls ≠ "java/lang/invoke/VarHandle" ∧ (parseMethodDescriptor yX10_good.desc).map (fun d => d.parameters.length) = some 1 := ⟨rfl, pc_1.1, pc_1.2, pd_0⟩
theorem pd_3 : (parseMethodDescriptor "(III)Z").map (fun d => d.parameters.length) = some 3 := by decide +kernel
theorem hd_X10_lies : yX10_lies.cls ≠ "java/lang/invoke/MethodHandle" ∧ yX10_lies.cls ≠ "java/lang/invoke/VarHandle" ∧ (parseMethodDescriptor yX10_lies.desc).map (fun d => d.parameters.length) = some 3 := ⟨pc_1.1, pc_1.2, pd_3⟩
theorem hd_X10_refuses_v : yX10_refuses.cls = RX10 ∧ yX10_refuses.cls ≠ "java/lang/invoke/MethodHandle" ∧ yX10_refuses.cls ≠ "java/lang/invoke/VarHandle" ∧ (parseMethodDescriptor yX10_refuses.desc).map (fun d => d.parameters.length) = some 1 := ⟨rfl, pc_1.1, pc_1.2, pd_0⟩
theorem hd_X10_settled_v : yX10_settled.cls = RX10 ∧ yX10_settled.cls ≠ "java/lang/invoke/MethodHandle" ∧ yX10_settled.cls ≠ "java/lang/invoke/VarHandle" ∧ (parseMethodDescriptor yX10_settled.desc).map (fun d => d.parameters.length) = some 1 := ⟨rfl, pc_1.1, pc_1.2, pd_0⟩
theorem pd_7 : (parseMethodDescriptor "()I").map (fun d => d.parameters.length) = some 0 := by decide +kernel
theorem hd_X10_size_v : yX10_size.cls = RX10 ∧ yX10_size.cls ≠ "java/lang/invoke/MethodHandle" ∧ yX10_size.cls ≠ "java/lang/invoke/VarHandle" ∧ (parseMethodDescriptor yX10_size.desc).map (fun d => d.parameters.length) = some 0 := ⟨rfl, pc_1.1, pc_1.2, pd_7⟩
theorem pd_9 : (parseMethodDescriptor "(I)Z").map (fun d => d.parameters.length) = some 1 := by decide +kernel
theorem hd_X10_isRank : yX10_isRank.cls ≠ "java/lang/invoke/MethodHandle" ∧ yX10_isRank.cls ≠ "java/lang/invoke/VarHandle" ∧ (parseMethodDescriptor yX10_isRank.desc).map (fun d => d.parameters.length) = some 1 := ⟨pc_1.1, pc_1.2, pd_9⟩
theorem hd_X10_isBit : yX10_isBit.cls ≠ "java/lang/invoke/MethodHandle" ∧ yX10_isBit.cls ≠ "java/lang/invoke/VarHandle" ∧ (parseMethodDescriptor yX10_isBit.desc).map (fun d => d.parameters.length) = some 1 := ⟨pc_1.1, pc_1.2, pd_9⟩
theorem hd_X10_placeOf_v : yX10_placeOf.cls = RX10 ∧ yX10_placeOf.cls ≠ "java/lang/invoke/MethodHandle" ∧ yX10_placeOf.cls ≠ "java/lang/invoke/VarHandle" ∧ (parseMethodDescriptor yX10_placeOf.desc).map (fun d => d.parameters.length) = some 1 := ⟨rfl, pc_1.1, pc_1.2, pd_0⟩
theorem pd_13 : (parseMethodDescriptor "(II)V").map (fun d => d.parameters.length) = some 2 := by decide +kernel
theorem hd_X10_adds_v : yX10_adds.cls = RX10 ∧ yX10_adds.cls ≠ "java/lang/invoke/MethodHandle" ∧ yX10_adds.cls ≠ "java/lang/invoke/VarHandle" ∧ (parseMethodDescriptor yX10_adds.desc).map (fun d => d.parameters.length) = some 2 := ⟨rfl, pc_1.1, pc_1.2, pd_13⟩
theorem mvW10_65 : (Cond.fieldLink RX10 275 "TurnedFloorsModel" "goEnd" "I") ∈ vW10 := vW10_p1 _ (List.mem_of_getElem? (i := 17) rfl)
theorem mvW10_64 : (Cond.fieldLink RX10 278 "TurnedFloorsModel" "go" "I") ∈ vW10 := vW10_p1 _ (List.mem_of_getElem? (i := 16) rfl)
theorem mvW10_97 : (Cond.fieldLink RX10 314 "TurnedFloorsModel" "orderDone" "I") ∈ vW10 := vW10_p2 _ (List.mem_of_getElem? (i := 1) rfl)
theorem mvW10_98 : (Cond.fieldLink RX10 317 "TurnedFloorsModel" "orderLatest" "I") ∈ vW10 := vW10_p2 _ (List.mem_of_getElem? (i := 2) rfl)
theorem mvW10_66 : (Cond.fieldLink RX10 288 "TurnedFloorsModel" "broken" "Z") ∈ vW10 := vW10_p1 _ (List.mem_of_getElem? (i := 18) rfl)
theorem mvW10_63 : (Cond.fieldLink RX10 308 "TurnedFloorsModel" "inOrders" "Z") ∈ vW10 := vW10_p1 _ (List.mem_of_getElem? (i := 15) rfl)
theorem mvW10_86 : (Cond.constantLong RX10 284 1000000000) ∈ vW10 := vW10_p1 _ (List.mem_of_getElem? (i := 38) rfl)
theorem mvW10_87 : (Cond.constantLong RX10 286 (-1000000000)) ∈ vW10 := vW10_p1 _ (List.mem_of_getElem? (i := 39) rfl)
theorem pd_15 : (parseMethodDescriptor "(III)V").map (fun d => d.parameters.length) = some 3 := by decide +kernel
theorem hd_X10_setsAsked_v : yX10_setsAsked.cls = RX10 ∧ yX10_setsAsked.cls ≠ "java/lang/invoke/MethodHandle" ∧ yX10_setsAsked.cls ≠ "java/lang/invoke/VarHandle" ∧ (parseMethodDescriptor yX10_setsAsked.desc).map (fun d => d.parameters.length) = some 3 := ⟨rfl, pc_1.1, pc_1.2, pd_15⟩
theorem hd_X10_codeAt_v : yX10_codeAt.cls = RX10 ∧ yX10_codeAt.cls ≠ "java/lang/invoke/MethodHandle" ∧ yX10_codeAt.cls ≠ "java/lang/invoke/VarHandle" ∧ (parseMethodDescriptor yX10_codeAt.desc).map (fun d => d.parameters.length) = some 1 := ⟨rfl, pc_1.1, pc_1.2, pd_0⟩
theorem hd_X10_lessThan_v : yX10_lessThan.cls = RX10 ∧ yX10_lessThan.cls ≠ "java/lang/invoke/MethodHandle" ∧ yX10_lessThan.cls ≠ "java/lang/invoke/VarHandle" ∧ (parseMethodDescriptor yX10_lessThan.desc).map (fun d => d.parameters.length) = some 1 := ⟨rfl, pc_1.1, pc_1.2, pd_0⟩
theorem hd_X10_isPlace_v : yX10_isPlace.cls = RX10 ∧ yX10_isPlace.cls ≠ "java/lang/invoke/MethodHandle" ∧ yX10_isPlace.cls ≠ "java/lang/invoke/VarHandle" ∧ (parseMethodDescriptor yX10_isPlace.desc).map (fun d => d.parameters.length) = some 1 := ⟨rfl, pc_1.1, pc_1.2, pd_9⟩
theorem hd_X10_gaps_v : yX10_gaps.cls = RX10 ∧ yX10_gaps.cls ≠ "java/lang/invoke/MethodHandle" ∧ yX10_gaps.cls ≠ "java/lang/invoke/VarHandle" ∧ (parseMethodDescriptor yX10_gaps.desc).map (fun d => d.parameters.length) = some 0 := ⟨rfl, pc_1.1, pc_1.2, pd_7⟩
theorem pd_21 : (parseMethodDescriptor "(II)I").map (fun d => d.parameters.length) = some 2 := by decide +kernel
theorem hd_X10_orderValue_v : yX10_orderValue.cls = RX10 ∧ yX10_orderValue.cls ≠ "java/lang/invoke/MethodHandle" ∧ yX10_orderValue.cls ≠ "java/lang/invoke/VarHandle" ∧ (parseMethodDescriptor yX10_orderValue.desc).map (fun d => d.parameters.length) = some 2 := ⟨rfl, pc_1.1, pc_1.2, pd_21⟩
theorem pd_23 : (parseMethodDescriptor "(C)I").map (fun d => d.parameters.length) = some 1 := by decide +kernel
theorem hd_X10_sign : yX10_sign.cls ≠ "java/lang/invoke/MethodHandle" ∧ yX10_sign.cls ≠ "java/lang/invoke/VarHandle" ∧ (parseMethodDescriptor yX10_sign.desc).map (fun d => d.parameters.length) = some 1 := ⟨pc_1.1, pc_1.2, pd_23⟩
theorem hd_X10_passes0_v : yX10_passes0.cls = RX10 ∧ yX10_passes0.cls ≠ "java/lang/invoke/MethodHandle" ∧ yX10_passes0.cls ≠ "java/lang/invoke/VarHandle" ∧ (parseMethodDescriptor yX10_passes0.desc).map (fun d => d.parameters.length) = some 1 := ⟨rfl, pc_1.1, pc_1.2, pd_9⟩
theorem pd_26 : (parseMethodDescriptor "(Z)J").map (fun d => d.parameters.length) = some 1 := by decide +kernel
theorem hd_X10_sumOf_v : yX10_sumOf.cls = RX10 ∧ yX10_sumOf.cls ≠ "java/lang/invoke/MethodHandle" ∧ yX10_sumOf.cls ≠ "java/lang/invoke/VarHandle" ∧ (parseMethodDescriptor yX10_sumOf.desc).map (fun d => d.parameters.length) = some 1 := ⟨rfl, pc_1.1, pc_1.2, pd_26⟩
theorem pd_28 : (parseMethodDescriptor "(JZ)J").map (fun d => d.parameters.length) = some 2 := by decide +kernel
theorem hd_X10_bounded_v : yX10_bounded.cls = RX10 ∧ yX10_bounded.cls ≠ "java/lang/invoke/MethodHandle" ∧ yX10_bounded.cls ≠ "java/lang/invoke/VarHandle" ∧ (parseMethodDescriptor yX10_bounded.desc).map (fun d => d.parameters.length) = some 2 := ⟨rfl, pc_1.1, pc_1.2, pd_28⟩
theorem hd_X10_partOf_v : yX10_partOf.cls = RX10 ∧ yX10_partOf.cls ≠ "java/lang/invoke/MethodHandle" ∧ yX10_partOf.cls ≠ "java/lang/invoke/VarHandle" ∧ (parseMethodDescriptor yX10_partOf.desc).map (fun d => d.parameters.length) = some 1 := ⟨rfl, pc_1.1, pc_1.2, pd_26⟩
theorem hd_X10_termOf_v : yX10_termOf.cls = RX10 ∧ yX10_termOf.cls ≠ "java/lang/invoke/MethodHandle" ∧ yX10_termOf.cls ≠ "java/lang/invoke/VarHandle" ∧ (parseMethodDescriptor yX10_termOf.desc).map (fun d => d.parameters.length) = some 1 := ⟨rfl, pc_1.1, pc_1.2, pd_26⟩
theorem pd_32 : (parseMethodDescriptor "(Z)Z").map (fun d => d.parameters.length) = some 1 := by decide +kernel
theorem hd_X10_testOf_v : yX10_testOf.cls = RX10 ∧ yX10_testOf.cls ≠ "java/lang/invoke/MethodHandle" ∧ yX10_testOf.cls ≠ "java/lang/invoke/VarHandle" ∧ (parseMethodDescriptor yX10_testOf.desc).map (fun d => d.parameters.length) = some 1 := ⟨rfl, pc_1.1, pc_1.2, pd_32⟩
theorem hd_X10_positiveOf_v : yX10_positiveOf.cls = RX10 ∧ yX10_positiveOf.cls ≠ "java/lang/invoke/MethodHandle" ∧ yX10_positiveOf.cls ≠ "java/lang/invoke/VarHandle" ∧ (parseMethodDescriptor yX10_positiveOf.desc).map (fun d => d.parameters.length) = some 1 := ⟨rfl, pc_1.1, pc_1.2, pd_32⟩
theorem hd_X10_plainOf_v : yX10_plainOf.cls = RX10 ∧ yX10_plainOf.cls ≠ "java/lang/invoke/MethodHandle" ∧ yX10_plainOf.cls ≠ "java/lang/invoke/VarHandle" ∧ (parseMethodDescriptor yX10_plainOf.desc).map (fun d => d.parameters.length) = some 1 := ⟨rfl, pc_1.1, pc_1.2, pd_32⟩
theorem mvW10_67 : (Cond.constantLong RX10 339 99) ∈ vW10 := vW10_p1 _ (List.mem_of_getElem? (i := 19) rfl)
theorem hd_X10_bothOf_v : yX10_bothOf.cls = RX10 ∧ yX10_bothOf.cls ≠ "java/lang/invoke/MethodHandle" ∧ yX10_bothOf.cls ≠ "java/lang/invoke/VarHandle" ∧ (parseMethodDescriptor yX10_bothOf.desc).map (fun d => d.parameters.length) = some 1 := ⟨rfl, pc_1.1, pc_1.2, pd_32⟩
theorem hd_X10_tells_v : yX10_tells.cls = RX10 ∧ yX10_tells.cls ≠ "java/lang/invoke/MethodHandle" ∧ yX10_tells.cls ≠ "java/lang/invoke/VarHandle" ∧ (parseMethodDescriptor yX10_tells.desc).map (fun d => d.parameters.length) = some 2 := ⟨rfl, pc_1.1, pc_1.2, pd_21⟩
theorem pd_38 : (parseMethodDescriptor "(I)V").map (fun d => d.parameters.length) = some 1 := by decide +kernel
theorem hd_X10_setsFloor_v : yX10_setsFloor.cls = RX10 ∧ yX10_setsFloor.cls ≠ "java/lang/invoke/MethodHandle" ∧ yX10_setsFloor.cls ≠ "java/lang/invoke/VarHandle" ∧ (parseMethodDescriptor yX10_setsFloor.desc).map (fun d => d.parameters.length) = some 1 := ⟨rfl, pc_1.1, pc_1.2, pd_38⟩
theorem hd_X10_isNow_v : yX10_isNow.cls = RX10 ∧ yX10_isNow.cls ≠ "java/lang/invoke/MethodHandle" ∧ yX10_isNow.cls ≠ "java/lang/invoke/VarHandle" ∧ (parseMethodDescriptor yX10_isNow.desc).map (fun d => d.parameters.length) = some 1 := ⟨rfl, pc_1.1, pc_1.2, pd_9⟩
theorem hd_X10_tipsAt_v : yX10_tipsAt.cls = RX10 ∧ yX10_tipsAt.cls ≠ "java/lang/invoke/MethodHandle" ∧ yX10_tipsAt.cls ≠ "java/lang/invoke/VarHandle" ∧ (parseMethodDescriptor yX10_tipsAt.desc).map (fun d => d.parameters.length) = some 1 := ⟨rfl, pc_1.1, pc_1.2, pd_9⟩
theorem hd_X10_rankBelow_v : yX10_rankBelow.cls = RX10 ∧ yX10_rankBelow.cls ≠ "java/lang/invoke/MethodHandle" ∧ yX10_rankBelow.cls ≠ "java/lang/invoke/VarHandle" ∧ (parseMethodDescriptor yX10_rankBelow.desc).map (fun d => d.parameters.length) = some 1 := ⟨rfl, pc_1.1, pc_1.2, pd_0⟩
theorem pd_43 : (parseMethodDescriptor "(IIII)V").map (fun d => d.parameters.length) = some 4 := by decide +kernel
theorem hd_X10_setsTurn_v : yX10_setsTurn.cls = RX10 ∧ yX10_setsTurn.cls ≠ "java/lang/invoke/MethodHandle" ∧ yX10_setsTurn.cls ≠ "java/lang/invoke/VarHandle" ∧ (parseMethodDescriptor yX10_setsTurn.desc).map (fun d => d.parameters.length) = some 4 := ⟨rfl, pc_1.1, pc_1.2, pd_43⟩
theorem hd_X10_paysNow_v : yX10_paysNow.cls = RX10 ∧ yX10_paysNow.cls ≠ "java/lang/invoke/MethodHandle" ∧ yX10_paysNow.cls ≠ "java/lang/invoke/VarHandle" ∧ (parseMethodDescriptor yX10_paysNow.desc).map (fun d => d.parameters.length) = some 0 := ⟨rfl, pc_1.1, pc_1.2, pd_7⟩
theorem pd_46 : (parseMethodDescriptor "(II)Z").map (fun d => d.parameters.length) = some 2 := by decide +kernel
theorem hd_X10_isTerm : yX10_isTerm.cls ≠ "java/lang/invoke/MethodHandle" ∧ yX10_isTerm.cls ≠ "java/lang/invoke/VarHandle" ∧ (parseMethodDescriptor yX10_isTerm.desc).map (fun d => d.parameters.length) = some 2 := ⟨pc_1.1, pc_1.2, pd_46⟩
theorem hd_X10_termAt : yX10_termAt.cls ≠ "java/lang/invoke/MethodHandle" ∧ yX10_termAt.cls ≠ "java/lang/invoke/VarHandle" ∧ (parseMethodDescriptor yX10_termAt.desc).map (fun d => d.parameters.length) = some 1 := ⟨pc_1.1, pc_1.2, pd_0⟩
theorem mvW10_148 : (Cond.fieldLink RX10 172 "TurnedFloorsModel" "bricks0" "I") ∈ vW10 := vW10_p3 _ (List.mem_of_getElem? (i := 4) rfl)
theorem mvW10_147 : (Cond.fieldLink RX10 45 "TurnedFloorsModel" "tape" "[B") ∈ vW10 := vW10_p3 _ (List.mem_of_getElem? (i := 3) rfl)
theorem mvW10_145 : (Cond.fieldLink RX10 169 "TurnedFloorsModel" "taped" "I") ∈ vW10 := vW10_p3 _ (List.mem_of_getElem? (i := 1) rfl)
theorem mvW10_146 : (Cond.fieldLink RX10 48 "TurnedFloorsModel" "five" "[I") ∈ vW10 := vW10_p3 _ (List.mem_of_getElem? (i := 2) rfl)
theorem mvW10_183 : (Cond.fieldLink RX10 41 "TurnedFloorsModel" "words" "[B") ∈ vW10 := vW10_p3 _ (List.mem_of_getElem? (i := 39) rfl)
theorem mvW10_163 : (Cond.fieldLink RX10 175 "TurnedFloorsModel" "tokens" "I") ∈ vW10 := vW10_p3 _ (List.mem_of_getElem? (i := 19) rfl)
theorem mvW10_170 : (Cond.fieldLink RX10 57 "TurnedFloorsModel" "value" "[I") ∈ vW10 := vW10_p3 _ (List.mem_of_getElem? (i := 26) rfl)
theorem mvW10_172 : (Cond.constant RX10 188 1000000) ∈ vW10 := vW10_p3 _ (List.mem_of_getElem? (i := 28) rfl)
theorem mvW10_169 : (Cond.fieldLink RX10 60 "TurnedFloorsModel" "placed" "[I") ∈ vW10 := vW10_p3 _ (List.mem_of_getElem? (i := 25) rfl)
theorem mvW10_171 : (Cond.fieldLink RX10 54 "TurnedFloorsModel" "code" "[I") ∈ vW10 := vW10_p3 _ (List.mem_of_getElem? (i := 27) rfl)
theorem mvW10_162 : (Cond.fieldLink RX10 189 "TurnedFloorsModel" "bad" "I") ∈ vW10 := vW10_p3 _ (List.mem_of_getElem? (i := 18) rfl)
theorem mvW10_160 : (Cond.fieldLink RX10 196 "TurnedFloorsModel" "token" "I") ∈ vW10 := vW10_p3 _ (List.mem_of_getElem? (i := 16) rfl)
theorem mvW10_161 : (Cond.fieldLink RX10 205 "TurnedFloorsModel" "leaves" "I") ∈ vW10 := vW10_p3 _ (List.mem_of_getElem? (i := 17) rfl)
theorem hd_X10_isDigit : yX10_isDigit.cls ≠ "java/lang/invoke/MethodHandle" ∧ yX10_isDigit.cls ≠ "java/lang/invoke/VarHandle" ∧ (parseMethodDescriptor yX10_isDigit.desc).map (fun d => d.parameters.length) = some 1 := ⟨pc_1.1, pc_1.2, pd_9⟩
theorem hd_X10_isSmall : yX10_isSmall.cls ≠ "java/lang/invoke/MethodHandle" ∧ yX10_isSmall.cls ≠ "java/lang/invoke/VarHandle" ∧ (parseMethodDescriptor yX10_isSmall.desc).map (fun d => d.parameters.length) = some 1 := ⟨pc_1.1, pc_1.2, pd_9⟩
theorem hd_X10_wordOf_v : yX10_wordOf.cls = RX10 ∧ yX10_wordOf.cls ≠ "java/lang/invoke/MethodHandle" ∧ yX10_wordOf.cls ≠ "java/lang/invoke/VarHandle" ∧ (parseMethodDescriptor yX10_wordOf.desc).map (fun d => d.parameters.length) = some 2 := ⟨rfl, pc_1.1, pc_1.2, pd_21⟩
theorem pd_52 : (parseMethodDescriptor "()Z").map (fun d => d.parameters.length) = some 0 := by decide +kernel
theorem hd_X10_fine_v : yX10_fine.cls = RX10 ∧ yX10_fine.cls ≠ "java/lang/invoke/MethodHandle" ∧ yX10_fine.cls ≠ "java/lang/invoke/VarHandle" ∧ (parseMethodDescriptor yX10_fine.desc).map (fun d => d.parameters.length) = some 0 := ⟨rfl, pc_1.1, pc_1.2, pd_52⟩
theorem hd_X10_takes0_v : yX10_takes0.cls = RX10 ∧ yX10_takes0.cls ≠ "java/lang/invoke/MethodHandle" ∧ yX10_takes0.cls ≠ "java/lang/invoke/VarHandle" ∧ (parseMethodDescriptor yX10_takes0.desc).map (fun d => d.parameters.length) = some 1 := ⟨rfl, pc_1.1, pc_1.2, pd_9⟩
theorem pd_55 : (parseMethodDescriptor "()V").map (fun d => d.parameters.length) = some 0 := by decide +kernel
theorem hd_X10_faults_v : yX10_faults.cls = RX10 ∧ yX10_faults.cls ≠ "java/lang/invoke/MethodHandle" ∧ yX10_faults.cls ≠ "java/lang/invoke/VarHandle" ∧ (parseMethodDescriptor yX10_faults.desc).map (fun d => d.parameters.length) = some 0 := ⟨rfl, pc_1.1, pc_1.2, pd_55⟩
theorem mvW10_153 : (Cond.fieldLink RX10 221 "TurnedFloorsModel" "isOrders" "Z") ∈ vW10 := vW10_p3 _ (List.mem_of_getElem? (i := 9) rfl)
theorem mvW10_154 : (Cond.fieldLink RX10 247 "TurnedFloorsModel" "firstWord" "I") ∈ vW10 := vW10_p3 _ (List.mem_of_getElem? (i := 10) rfl)
theorem mvW10_155 : (Cond.fieldLink RX10 250 "TurnedFloorsModel" "lastWord" "I") ∈ vW10 := vW10_p3 _ (List.mem_of_getElem? (i := 11) rfl)
theorem hd_X10_mustNumber_v : yX10_mustNumber.cls = RX10 ∧ yX10_mustNumber.cls ≠ "java/lang/invoke/MethodHandle" ∧ yX10_mustNumber.cls ≠ "java/lang/invoke/VarHandle" ∧ (parseMethodDescriptor yX10_mustNumber.desc).map (fun d => d.parameters.length) = some 2 := ⟨rfl, pc_1.1, pc_1.2, pd_13⟩
theorem hd_X10_leaf_v : yX10_leaf.cls = RX10 ∧ yX10_leaf.cls ≠ "java/lang/invoke/MethodHandle" ∧ yX10_leaf.cls ≠ "java/lang/invoke/VarHandle" ∧ (parseMethodDescriptor yX10_leaf.desc).map (fun d => d.parameters.length) = some 0 := ⟨rfl, pc_1.1, pc_1.2, pd_55⟩
theorem hd_X10_readSum_v : yX10_readSum.cls = RX10 ∧ yX10_readSum.cls ≠ "java/lang/invoke/MethodHandle" ∧ yX10_readSum.cls ≠ "java/lang/invoke/VarHandle" ∧ (parseMethodDescriptor yX10_readSum.desc).map (fun d => d.parameters.length) = some 1 := ⟨rfl, pc_1.1, pc_1.2, pd_38⟩
theorem hd_X10_must_v : yX10_must.cls = RX10 ∧ yX10_must.cls ≠ "java/lang/invoke/MethodHandle" ∧ yX10_must.cls ≠ "java/lang/invoke/VarHandle" ∧ (parseMethodDescriptor yX10_must.desc).map (fun d => d.parameters.length) = some 1 := ⟨rfl, pc_1.1, pc_1.2, pd_38⟩
theorem hd_X10_readPart_v : yX10_readPart.cls = RX10 ∧ yX10_readPart.cls ≠ "java/lang/invoke/MethodHandle" ∧ yX10_readPart.cls ≠ "java/lang/invoke/VarHandle" ∧ (parseMethodDescriptor yX10_readPart.desc).map (fun d => d.parameters.length) = some 1 := ⟨rfl, pc_1.1, pc_1.2, pd_38⟩
theorem hd_X10_readTerm_v : yX10_readTerm.cls = RX10 ∧ yX10_readTerm.cls ≠ "java/lang/invoke/MethodHandle" ∧ yX10_readTerm.cls ≠ "java/lang/invoke/VarHandle" ∧ (parseMethodDescriptor yX10_readTerm.desc).map (fun d => d.parameters.length) = some 1 := ⟨rfl, pc_1.1, pc_1.2, pd_38⟩
theorem hd_X10_readTest_v : yX10_readTest.cls = RX10 ∧ yX10_readTest.cls ≠ "java/lang/invoke/MethodHandle" ∧ yX10_readTest.cls ≠ "java/lang/invoke/VarHandle" ∧ (parseMethodDescriptor yX10_readTest.desc).map (fun d => d.parameters.length) = some 1 := ⟨rfl, pc_1.1, pc_1.2, pd_38⟩
theorem hd_X10_readPlain_v : yX10_readPlain.cls = RX10 ∧ yX10_readPlain.cls ≠ "java/lang/invoke/MethodHandle" ∧ yX10_readPlain.cls ≠ "java/lang/invoke/VarHandle" ∧ (parseMethodDescriptor yX10_readPlain.desc).map (fun d => d.parameters.length) = some 1 := ⟨rfl, pc_1.1, pc_1.2, pd_38⟩
theorem hd_X10_readBoth_v : yX10_readBoth.cls = RX10 ∧ yX10_readBoth.cls ≠ "java/lang/invoke/MethodHandle" ∧ yX10_readBoth.cls ≠ "java/lang/invoke/VarHandle" ∧ (parseMethodDescriptor yX10_readBoth.desc).map (fun d => d.parameters.length) = some 1 := ⟨rfl, pc_1.1, pc_1.2, pd_38⟩
theorem mvW10_164 : (Cond.fieldLink RX10 51 "TurnedFloorsModel" "fault" "I") ∈ vW10 := vW10_p3 _ (List.mem_of_getElem? (i := 20) rfl)
theorem hd_X10_readClause_v : yX10_readClause.cls = RX10 ∧ yX10_readClause.cls ≠ "java/lang/invoke/MethodHandle" ∧ yX10_readClause.cls ≠ "java/lang/invoke/VarHandle" ∧ (parseMethodDescriptor yX10_readClause.desc).map (fun d => d.parameters.length) = some 0 := ⟨rfl, pc_1.1, pc_1.2, pd_55⟩
theorem hd_X10_readOrder_v : yX10_readOrder.cls = RX10 ∧ yX10_readOrder.cls ≠ "java/lang/invoke/MethodHandle" ∧ yX10_readOrder.cls ≠ "java/lang/invoke/VarHandle" ∧ (parseMethodDescriptor yX10_readOrder.desc).map (fun d => d.parameters.length) = some 0 := ⟨rfl, pc_1.1, pc_1.2, pd_55⟩
theorem hd_X10_readOne_v : yX10_readOne.cls = RX10 ∧ yX10_readOne.cls ≠ "java/lang/invoke/MethodHandle" ∧ yX10_readOne.cls ≠ "java/lang/invoke/VarHandle" ∧ (parseMethodDescriptor yX10_readOne.desc).map (fun d => d.parameters.length) = some 0 := ⟨rfl, pc_1.1, pc_1.2, pd_55⟩
theorem hd_X10_splits_v : yX10_splits.cls = RX10 ∧ yX10_splits.cls ≠ "java/lang/invoke/MethodHandle" ∧ yX10_splits.cls ≠ "java/lang/invoke/VarHandle" ∧ (parseMethodDescriptor yX10_splits.desc).map (fun d => d.parameters.length) = some 1 := ⟨rfl, pc_1.1, pc_1.2, pd_38⟩
theorem hd_X10_reads_v : yX10_reads.cls = RX10 ∧ yX10_reads.cls ≠ "java/lang/invoke/MethodHandle" ∧ yX10_reads.cls ≠ "java/lang/invoke/VarHandle" ∧ (parseMethodDescriptor yX10_reads.desc).map (fun d => d.parameters.length) = some 0 := ⟨rfl, pc_1.1, pc_1.2, pd_52⟩
theorem hd_X10_readsAs_v : yX10_readsAs.cls = RX10 ∧ yX10_readsAs.cls ≠ "java/lang/invoke/MethodHandle" ∧ yX10_readsAs.cls ≠ "java/lang/invoke/VarHandle" ∧ (parseMethodDescriptor yX10_readsAs.desc).map (fun d => d.parameters.length) = some 1 := ⟨rfl, pc_1.1, pc_1.2, pd_32⟩
theorem hd_X10_lays_v : yX10_lays.cls = RX10 ∧ yX10_lays.cls ≠ "java/lang/invoke/MethodHandle" ∧ yX10_lays.cls ≠ "java/lang/invoke/VarHandle" ∧ (parseMethodDescriptor yX10_lays.desc).map (fun d => d.parameters.length) = some 1 := ⟨rfl, pc_1.1, pc_1.2, pd_38⟩
theorem hd_X10_isLaw_v : yX10_isLaw.cls = RX10 ∧ yX10_isLaw.cls ≠ "java/lang/invoke/MethodHandle" ∧ yX10_isLaw.cls ≠ "java/lang/invoke/VarHandle" ∧ (parseMethodDescriptor yX10_isLaw.desc).map (fun d => d.parameters.length) = some 1 := ⟨rfl, pc_1.1, pc_1.2, pd_9⟩
theorem hd_X10_lesser : yX10_lesser.cls ≠ "java/lang/invoke/MethodHandle" ∧ yX10_lesser.cls ≠ "java/lang/invoke/VarHandle" ∧ (parseMethodDescriptor yX10_lesser.desc).map (fun d => d.parameters.length) = some 2 := ⟨pc_1.1, pc_1.2, pd_21⟩
theorem hd_X10_exchanges_v : yX10_exchanges.cls = RX10 ∧ yX10_exchanges.cls ≠ "java/lang/invoke/MethodHandle" ∧ yX10_exchanges.cls ≠ "java/lang/invoke/VarHandle" ∧ (parseMethodDescriptor yX10_exchanges.desc).map (fun d => d.parameters.length) = some 2 := ⟨rfl, pc_1.1, pc_1.2, pd_13⟩
theorem mvW10_302 : (Cond.fieldLink RX10 66 "TurnedFloorsModel" "tipping" "[Z") ∈ vW10 := vW10_p6 _ (List.mem_of_getElem? (i := 14) rfl)
theorem mvW10_250 : (Cond.fieldLink RX10 69 "TurnedFloorsModel" "left0" "[I") ∈ vW10 := vW10_p5 _ (List.mem_of_getElem? (i := 10) rfl)
theorem hd_X10_canTurn_v : yX10_canTurn.cls = RX10 ∧ yX10_canTurn.cls ≠ "java/lang/invoke/MethodHandle" ∧ yX10_canTurn.cls ≠ "java/lang/invoke/VarHandle" ∧ (parseMethodDescriptor yX10_canTurn.desc).map (fun d => d.parameters.length) = some 1 := ⟨rfl, pc_1.1, pc_1.2, pd_9⟩
theorem hd_X10_keeps_v : yX10_keeps.cls = RX10 ∧ yX10_keeps.cls ≠ "java/lang/invoke/MethodHandle" ∧ yX10_keeps.cls ≠ "java/lang/invoke/VarHandle" ∧ (parseMethodDescriptor yX10_keeps.desc).map (fun d => d.parameters.length) = some 1 := ⟨rfl, pc_1.1, pc_1.2, pd_38⟩
theorem hd_X10_turns_v : yX10_turns.cls = RX10 ∧ yX10_turns.cls ≠ "java/lang/invoke/MethodHandle" ∧ yX10_turns.cls ≠ "java/lang/invoke/VarHandle" ∧ (parseMethodDescriptor yX10_turns.desc).map (fun d => d.parameters.length) = some 1 := ⟨rfl, pc_1.1, pc_1.2, pd_0⟩
theorem hd_X10_yearPasses_v : yX10_yearPasses.cls = RX10 ∧ yX10_yearPasses.cls ≠ "java/lang/invoke/MethodHandle" ∧ yX10_yearPasses.cls ≠ "java/lang/invoke/VarHandle" ∧ (parseMethodDescriptor yX10_yearPasses.desc).map (fun d => d.parameters.length) = some 0 := ⟨rfl, pc_1.1, pc_1.2, pd_7⟩
theorem hd_X10_turnsKept_v : yX10_turnsKept.cls = RX10 ∧ yX10_turnsKept.cls ≠ "java/lang/invoke/MethodHandle" ∧ yX10_turnsKept.cls ≠ "java/lang/invoke/VarHandle" ∧ (parseMethodDescriptor yX10_turnsKept.desc).map (fun d => d.parameters.length) = some 1 := ⟨rfl, pc_1.1, pc_1.2, pd_0⟩
theorem hd_X10_goodOr_v : yX10_goodOr.cls = RX10 ∧ yX10_goodOr.cls ≠ "java/lang/invoke/MethodHandle" ∧ yX10_goodOr.cls ≠ "java/lang/invoke/VarHandle" ∧ (parseMethodDescriptor yX10_goodOr.desc).map (fun d => d.parameters.length) = some 1 := ⟨rfl, pc_1.1, pc_1.2, pd_0⟩
theorem hd_X10_rightsKept_v : yX10_rightsKept.cls = RX10 ∧ yX10_rightsKept.cls ≠ "java/lang/invoke/MethodHandle" ∧ yX10_rightsKept.cls ≠ "java/lang/invoke/VarHandle" ∧ (parseMethodDescriptor yX10_rightsKept.desc).map (fun d => d.parameters.length) = some 1 := ⟨rfl, pc_1.1, pc_1.2, pd_0⟩
theorem hd_X10_swapsKept_v : yX10_swapsKept.cls = RX10 ∧ yX10_swapsKept.cls ≠ "java/lang/invoke/MethodHandle" ∧ yX10_swapsKept.cls ≠ "java/lang/invoke/VarHandle" ∧ (parseMethodDescriptor yX10_swapsKept.desc).map (fun d => d.parameters.length) = some 1 := ⟨rfl, pc_1.1, pc_1.2, pd_0⟩
theorem hd_X10_passesKept_v : yX10_passesKept.cls = RX10 ∧ yX10_passesKept.cls ≠ "java/lang/invoke/MethodHandle" ∧ yX10_passesKept.cls ≠ "java/lang/invoke/VarHandle" ∧ (parseMethodDescriptor yX10_passesKept.desc).map (fun d => d.parameters.length) = some 0 := ⟨rfl, pc_1.1, pc_1.2, pd_7⟩
theorem mvW10_349 : (Cond.fieldLink RX10 84 "TurnedFloorsModel" "line" "[I") ∈ vW10 := vW10_p7 _ (List.mem_of_getElem? (i := 13) rfl)
theorem mvW10_350 : (Cond.fieldLink RX10 75 "TurnedFloorsModel" "rankAt" "[I") ∈ vW10 := vW10_p7 _ (List.mem_of_getElem? (i := 14) rfl)
theorem mvW10_352 : (Cond.fieldLink RX10 81 "TurnedFloorsModel" "headsBy" "[I") ∈ vW10 := vW10_p7 _ (List.mem_of_getElem? (i := 16) rfl)
theorem mvW10_348 : (Cond.fieldLink RX10 389 "TurnedFloorsModel" "headMany" "I") ∈ vW10 := vW10_p7 _ (List.mem_of_getElem? (i := 12) rfl)
theorem mvW10_351 : (Cond.fieldLink RX10 78 "TurnedFloorsModel" "orderBy" "[I") ∈ vW10 := vW10_p7 _ (List.mem_of_getElem? (i := 15) rfl)
theorem mvW10_335 : (Cond.fieldLink RX10 386 "TurnedFloorsModel" "orderMany" "I") ∈ vW10 := vW10_p6 _ (List.mem_of_getElem? (i := 47) rfl)
theorem hd_X10_isIn : yX10_isIn.cls ≠ "java/lang/invoke/MethodHandle" ∧ yX10_isIn.cls ≠ "java/lang/invoke/VarHandle" ∧ (parseMethodDescriptor yX10_isIn.desc).map (fun d => d.parameters.length) = some 2 := ⟨pc_1.1, pc_1.2, pd_46⟩
theorem hd_X10_allOrders : yX10_allOrders.cls ≠ "java/lang/invoke/MethodHandle" ∧ yX10_allOrders.cls ≠ "java/lang/invoke/VarHandle" ∧ (parseMethodDescriptor yX10_allOrders.desc).map (fun d => d.parameters.length) = some 1 := ⟨pc_1.1, pc_1.2, pd_0⟩
theorem hd_X10_headsBehind_v : yX10_headsBehind.cls = RX10 ∧ yX10_headsBehind.cls ≠ "java/lang/invoke/MethodHandle" ∧ yX10_headsBehind.cls ≠ "java/lang/invoke/VarHandle" ∧ (parseMethodDescriptor yX10_headsBehind.desc).map (fun d => d.parameters.length) = some 2 := ⟨rfl, pc_1.1, pc_1.2, pd_21⟩
theorem hd_X10_numberOf_v : yX10_numberOf.cls = RX10 ∧ yX10_numberOf.cls ≠ "java/lang/invoke/MethodHandle" ∧ yX10_numberOf.cls ≠ "java/lang/invoke/VarHandle" ∧ (parseMethodDescriptor yX10_numberOf.desc).map (fun d => d.parameters.length) = some 0 := ⟨rfl, pc_1.1, pc_1.2, pd_7⟩
theorem hd_X10_laysOrder_v : yX10_laysOrder.cls = RX10 ∧ yX10_laysOrder.cls ≠ "java/lang/invoke/MethodHandle" ∧ yX10_laysOrder.cls ≠ "java/lang/invoke/VarHandle" ∧ (parseMethodDescriptor yX10_laysOrder.desc).map (fun d => d.parameters.length) = some 1 := ⟨rfl, pc_1.1, pc_1.2, pd_38⟩
theorem mvW10_343 : (Cond.fieldLink RX10 87 "TurnedFloorsModel" "price" "[I") ∈ vW10 := vW10_p7 _ (List.mem_of_getElem? (i := 7) rfl)
theorem pd_90 : (parseMethodDescriptor "(IIII)I").map (fun d => d.parameters.length) = some 4 := by decide +kernel
theorem hd_X10_askedAt : yX10_askedAt.cls ≠ "java/lang/invoke/MethodHandle" ∧ yX10_askedAt.cls ≠ "java/lang/invoke/VarHandle" ∧ (parseMethodDescriptor yX10_askedAt.desc).map (fun d => d.parameters.length) = some 4 := ⟨pc_1.1, pc_1.2, pd_90⟩
theorem hd_X10_rankOf_v : yX10_rankOf.cls = RX10 ∧ yX10_rankOf.cls ≠ "java/lang/invoke/MethodHandle" ∧ yX10_rankOf.cls ≠ "java/lang/invoke/VarHandle" ∧ (parseMethodDescriptor yX10_rankOf.desc).map (fun d => d.parameters.length) = some 1 := ⟨rfl, pc_1.1, pc_1.2, pd_0⟩
theorem hd_X10_laysTables_v : yX10_laysTables.cls = RX10 ∧ yX10_laysTables.cls ≠ "java/lang/invoke/MethodHandle" ∧ yX10_laysTables.cls ≠ "java/lang/invoke/VarHandle" ∧ (parseMethodDescriptor yX10_laysTables.desc).map (fun d => d.parameters.length) = some 0 := ⟨rfl, pc_1.1, pc_1.2, pd_55⟩
theorem mvW10_336 : (Cond.fieldLink RX10 94 "TurnedFloorsModel" "rowMany" "[I") ∈ vW10 := vW10_p7 _ (List.mem_of_getElem? (i := 0) rfl)
theorem mvW10_338 : (Cond.constant RX10 429 1000000000) ∈ vW10 := vW10_p7 _ (List.mem_of_getElem? (i := 2) rfl)
theorem mvW10_330 : (Cond.fieldLink RX10 91 "TurnedFloorsModel" "dist" "[I") ∈ vW10 := vW10_p6 _ (List.mem_of_getElem? (i := 42) rfl)
theorem mvW10_337 : (Cond.fieldLink RX10 97 "TurnedFloorsModel" "queue" "[I") ∈ vW10 := vW10_p7 _ (List.mem_of_getElem? (i := 1) rfl)
theorem hd_X10_behind_v : yX10_behind.cls = RX10 ∧ yX10_behind.cls ≠ "java/lang/invoke/MethodHandle" ∧ yX10_behind.cls ≠ "java/lang/invoke/VarHandle" ∧ (parseMethodDescriptor yX10_behind.desc).map (fun d => d.parameters.length) = some 2 := ⟨rfl, pc_1.1, pc_1.2, pd_21⟩
theorem hd_X10_priceOf_v : yX10_priceOf.cls = RX10 ∧ yX10_priceOf.cls ≠ "java/lang/invoke/MethodHandle" ∧ yX10_priceOf.cls ≠ "java/lang/invoke/VarHandle" ∧ (parseMethodDescriptor yX10_priceOf.desc).map (fun d => d.parameters.length) = some 2 := ⟨rfl, pc_1.1, pc_1.2, pd_21⟩
theorem hd_X10_isThere_v : yX10_isThere.cls = RX10 ∧ yX10_isThere.cls ≠ "java/lang/invoke/MethodHandle" ∧ yX10_isThere.cls ≠ "java/lang/invoke/VarHandle" ∧ (parseMethodDescriptor yX10_isThere.desc).map (fun d => d.parameters.length) = some 1 := ⟨rfl, pc_1.1, pc_1.2, pd_9⟩
theorem hd_X10_isOrdered_v : yX10_isOrdered.cls = RX10 ∧ yX10_isOrdered.cls ≠ "java/lang/invoke/MethodHandle" ∧ yX10_isOrdered.cls ≠ "java/lang/invoke/VarHandle" ∧ (parseMethodDescriptor yX10_isOrdered.desc).map (fun d => d.parameters.length) = some 1 := ⟨rfl, pc_1.1, pc_1.2, pd_9⟩
theorem hd_X10_laysPrices_v : yX10_laysPrices.cls = RX10 ∧ yX10_laysPrices.cls ≠ "java/lang/invoke/MethodHandle" ∧ yX10_laysPrices.cls ≠ "java/lang/invoke/VarHandle" ∧ (parseMethodDescriptor yX10_laysPrices.desc).map (fun d => d.parameters.length) = some 0 := ⟨rfl, pc_1.1, pc_1.2, pd_55⟩
theorem hd_X10_laysDist_v : yX10_laysDist.cls = RX10 ∧ yX10_laysDist.cls ≠ "java/lang/invoke/MethodHandle" ∧ yX10_laysDist.cls ≠ "java/lang/invoke/VarHandle" ∧ (parseMethodDescriptor yX10_laysDist.desc).map (fun d => d.parameters.length) = some 0 := ⟨rfl, pc_1.1, pc_1.2, pd_55⟩
theorem hd_X10_towerNow_v : yX10_towerNow.cls = RX10 ∧ yX10_towerNow.cls ≠ "java/lang/invoke/MethodHandle" ∧ yX10_towerNow.cls ≠ "java/lang/invoke/VarHandle" ∧ (parseMethodDescriptor yX10_towerNow.desc).map (fun d => d.parameters.length) = some 0 := ⟨rfl, pc_1.1, pc_1.2, pd_7⟩
theorem hd_X10_fewest_v : yX10_fewest.cls = RX10 ∧ yX10_fewest.cls ≠ "java/lang/invoke/MethodHandle" ∧ yX10_fewest.cls ≠ "java/lang/invoke/VarHandle" ∧ (parseMethodDescriptor yX10_fewest.desc).map (fun d => d.parameters.length) = some 1 := ⟨rfl, pc_1.1, pc_1.2, pd_0⟩
theorem hd_X10_greater : yX10_greater.cls ≠ "java/lang/invoke/MethodHandle" ∧ yX10_greater.cls ≠ "java/lang/invoke/VarHandle" ∧ (parseMethodDescriptor yX10_greater.desc).map (fun d => d.parameters.length) = some 2 := ⟨pc_1.1, pc_1.2, pd_21⟩
theorem mvW10_398 : (Cond.fieldLink RX10 100 "TurnedFloorsModel" "waits" "[Z") ∈ vW10 := vW10_p8 _ (List.mem_of_getElem? (i := 14) rfl)
theorem mvW10_399 : (Cond.constant RX10 90 46080) ∈ vW10 := vW10_p8 _ (List.mem_of_getElem? (i := 15) rfl)
theorem hd_X10_laysReach_v : yX10_laysReach.cls = RX10 ∧ yX10_laysReach.cls ≠ "java/lang/invoke/MethodHandle" ∧ yX10_laysReach.cls ≠ "java/lang/invoke/VarHandle" ∧ (parseMethodDescriptor yX10_laysReach.desc).map (fun d => d.parameters.length) = some 0 := ⟨rfl, pc_1.1, pc_1.2, pd_7⟩
theorem hd_X10_isOrder_v : yX10_isOrder.cls = RX10 ∧ yX10_isOrder.cls ≠ "java/lang/invoke/MethodHandle" ∧ yX10_isOrder.cls ≠ "java/lang/invoke/VarHandle" ∧ (parseMethodDescriptor yX10_isOrder.desc).map (fun d => d.parameters.length) = some 1 := ⟨rfl, pc_1.1, pc_1.2, pd_9⟩
theorem mvW10_434 : (Cond.fieldLink RX10 103 "TurnedFloorsModel" "alike" "[I") ∈ vW10 := vW10_p9 _ (List.mem_of_getElem? (i := 2) rfl)
theorem hd_X10_ones : yX10_ones.cls ≠ "java/lang/invoke/MethodHandle" ∧ yX10_ones.cls ≠ "java/lang/invoke/VarHandle" ∧ (parseMethodDescriptor yX10_ones.desc).map (fun d => d.parameters.length) = some 1 := ⟨pc_1.1, pc_1.2, pd_0⟩
theorem hd_X10_canStay_v : yX10_canStay.cls = RX10 ∧ yX10_canStay.cls ≠ "java/lang/invoke/MethodHandle" ∧ yX10_canStay.cls ≠ "java/lang/invoke/VarHandle" ∧ (parseMethodDescriptor yX10_canStay.desc).map (fun d => d.parameters.length) = some 1 := ⟨rfl, pc_1.1, pc_1.2, pd_9⟩
theorem hd_X10_rankBehind_v : yX10_rankBehind.cls = RX10 ∧ yX10_rankBehind.cls ≠ "java/lang/invoke/MethodHandle" ∧ yX10_rankBehind.cls ≠ "java/lang/invoke/VarHandle" ∧ (parseMethodDescriptor yX10_rankBehind.desc).map (fun d => d.parameters.length) = some 2 := ⟨rfl, pc_1.1, pc_1.2, pd_21⟩
theorem hd_X10_itWas_v : yX10_itWas.cls = RX10 ∧ yX10_itWas.cls ≠ "java/lang/invoke/MethodHandle" ∧ yX10_itWas.cls ≠ "java/lang/invoke/VarHandle" ∧ (parseMethodDescriptor yX10_itWas.desc).map (fun d => d.parameters.length) = some 1 := ⟨rfl, pc_1.1, pc_1.2, pd_9⟩
theorem mvW10_436 : (Cond.fieldLink RX10 106 "TurnedFloorsModel" "shares" "[J") ∈ vW10 := vW10_p9 _ (List.mem_of_getElem? (i := 4) rfl)
theorem mvW10_438 : (Cond.constantLong RX10 470 10) ∈ vW10 := vW10_p9 _ (List.mem_of_getElem? (i := 6) rfl)
theorem mvW10_437 : (Cond.constantLong RX10 468 1000000000000) ∈ vW10 := vW10_p9 _ (List.mem_of_getElem? (i := 5) rfl)
theorem mvW10_435 : (Cond.constantLong RX10 466 (-1)) ∈ vW10 := vW10_p9 _ (List.mem_of_getElem? (i := 3) rfl)
theorem mvW10_248 : (Cond.fieldLink RX10 110 "TurnedFloorsModel" "stopped0" "I") ∈ vW10 := vW10_p5 _ (List.mem_of_getElem? (i := 8) rfl)
theorem mvW10_262 : (Cond.fieldLink RX10 497 "TurnedFloorsModel" "testIs" "Z") ∈ vW10 := vW10_p5 _ (List.mem_of_getElem? (i := 22) rfl)
theorem mvW10_263 : (Cond.fieldLink RX10 491 "TurnedFloorsModel" "sumsAre" "Z") ∈ vW10 := vW10_p5 _ (List.mem_of_getElem? (i := 23) rfl)
theorem mvW10_261 : (Cond.fieldLink RX10 494 "TurnedFloorsModel" "howOften" "I") ∈ vW10 := vW10_p5 _ (List.mem_of_getElem? (i := 21) rfl)
theorem mvW10_269 : (Cond.fieldLink RX10 487 "TurnedFloorsModel" "sumNow" "J") ∈ vW10 := vW10_p5 _ (List.mem_of_getElem? (i := 29) rfl)
theorem mvW10_251 : (Cond.fieldLink RX10 475 "TurnedFloorsModel" "orderAt" "I") ∈ vW10 := vW10_p5 _ (List.mem_of_getElem? (i := 11) rfl)
theorem mvW10_268 : (Cond.fieldLink RX10 484 "TurnedFloorsModel" "head" "I") ∈ vW10 := vW10_p5 _ (List.mem_of_getElem? (i := 28) rfl)
theorem mvW10_277 : (Cond.constantLong RX10 500 1000000) ∈ vW10 := vW10_p5 _ (List.mem_of_getElem? (i := 37) rfl)
theorem hd_X10_mostAlike_v : yX10_mostAlike.cls = RX10 ∧ yX10_mostAlike.cls ≠ "java/lang/invoke/MethodHandle" ∧ yX10_mostAlike.cls ≠ "java/lang/invoke/VarHandle" ∧ (parseMethodDescriptor yX10_mostAlike.desc).map (fun d => d.parameters.length) = some 2 := ⟨rfl, pc_1.1, pc_1.2, pd_21⟩
theorem hd_X10_was_v : yX10_was.cls = RX10 ∧ yX10_was.cls ≠ "java/lang/invoke/MethodHandle" ∧ yX10_was.cls ≠ "java/lang/invoke/VarHandle" ∧ (parseMethodDescriptor yX10_was.desc).map (fun d => d.parameters.length) = some 0 := ⟨rfl, pc_1.1, pc_1.2, pd_7⟩
theorem pd_111 : (parseMethodDescriptor "(J)I").map (fun d => d.parameters.length) = some 1 := by decide +kernel
theorem hd_X10_small : yX10_small.cls ≠ "java/lang/invoke/MethodHandle" ∧ yX10_small.cls ≠ "java/lang/invoke/VarHandle" ∧ (parseMethodDescriptor yX10_small.desc).map (fun d => d.parameters.length) = some 1 := ⟨pc_1.1, pc_1.2, pd_111⟩
theorem pd_113 : (parseMethodDescriptor "(IZ)V").map (fun d => d.parameters.length) = some 2 := by decide +kernel
theorem hd_X10_goesAlong_v : yX10_goesAlong.cls = RX10 ∧ yX10_goesAlong.cls ≠ "java/lang/invoke/MethodHandle" ∧ yX10_goesAlong.cls ≠ "java/lang/invoke/VarHandle" ∧ (parseMethodDescriptor yX10_goesAlong.desc).map (fun d => d.parameters.length) = some 2 := ⟨rfl, pc_1.1, pc_1.2, pd_113⟩
theorem hd_X10_obeys_v : yX10_obeys.cls = RX10 ∧ yX10_obeys.cls ≠ "java/lang/invoke/MethodHandle" ∧ yX10_obeys.cls ≠ "java/lang/invoke/VarHandle" ∧ (parseMethodDescriptor yX10_obeys.desc).map (fun d => d.parameters.length) = some 0 := ⟨rfl, pc_1.1, pc_1.2, pd_7⟩
theorem mvW10_249 : (Cond.fieldLink RX10 72 "TurnedFloorsModel" "leftAhead" "[I") ∈ vW10 := vW10_p5 _ (List.mem_of_getElem? (i := 9) rfl)
theorem mvW10_450 : (Cond.constantLong RX10 513 1103) ∈ vW10 := vW10_p9 _ (List.mem_of_getElem? (i := 18) rfl)
theorem mvW10_443 : (Cond.fieldLink RX10 515 "TurnedFloorsModel" "latest" "I") ∈ vW10 := vW10_p9 _ (List.mem_of_getElem? (i := 11) rfl)
theorem mvW10_451 : (Cond.constantLong RX10 518 12345) ∈ vW10 := vW10_p9 _ (List.mem_of_getElem? (i := 19) rfl)
theorem mvW10_452 : (Cond.constantLong RX10 520 1000003) ∈ vW10 := vW10_p9 _ (List.mem_of_getElem? (i := 20) rfl)
theorem mvW10_445 : (Cond.fieldLink RX10 113 "TurnedFloorsModel" "drawnMoved" "[I") ∈ vW10 := vW10_p9 _ (List.mem_of_getElem? (i := 13) rfl)
theorem mvW10_444 : (Cond.fieldLink RX10 116 "TurnedFloorsModel" "drawnMany" "I") ∈ vW10 := vW10_p9 _ (List.mem_of_getElem? (i := 12) rfl)
theorem hd_X10_runs_v : yX10_runs.cls = RX10 ∧ yX10_runs.cls ≠ "java/lang/invoke/MethodHandle" ∧ yX10_runs.cls ≠ "java/lang/invoke/VarHandle" ∧ (parseMethodDescriptor yX10_runs.desc).map (fun d => d.parameters.length) = some 1 := ⟨rfl, pc_1.1, pc_1.2, pd_9⟩
theorem hd_X10_takesBack_v : yX10_takesBack.cls = RX10 ∧ yX10_takesBack.cls ≠ "java/lang/invoke/MethodHandle" ∧ yX10_takesBack.cls ≠ "java/lang/invoke/VarHandle" ∧ (parseMethodDescriptor yX10_takesBack.desc).map (fun d => d.parameters.length) = some 1 := ⟨rfl, pc_1.1, pc_1.2, pd_38⟩
theorem hd_X10_laysAside_v : yX10_laysAside.cls = RX10 ∧ yX10_laysAside.cls ≠ "java/lang/invoke/MethodHandle" ∧ yX10_laysAside.cls ≠ "java/lang/invoke/VarHandle" ∧ (parseMethodDescriptor yX10_laysAside.desc).map (fun d => d.parameters.length) = some 1 := ⟨rfl, pc_1.1, pc_1.2, pd_38⟩
theorem hd_X10_draws_v : yX10_draws.cls = RX10 ∧ yX10_draws.cls ≠ "java/lang/invoke/MethodHandle" ∧ yX10_draws.cls ≠ "java/lang/invoke/VarHandle" ∧ (parseMethodDescriptor yX10_draws.desc).map (fun d => d.parameters.length) = some 1 := ⟨rfl, pc_1.1, pc_1.2, pd_0⟩
theorem hd_X10_onHeads_v : yX10_onHeads.cls = RX10 ∧ yX10_onHeads.cls ≠ "java/lang/invoke/MethodHandle" ∧ yX10_onHeads.cls ≠ "java/lang/invoke/VarHandle" ∧ (parseMethodDescriptor yX10_onHeads.desc).map (fun d => d.parameters.length) = some 0 := ⟨rfl, pc_1.1, pc_1.2, pd_7⟩
theorem hd_X10_isOrderedNow_v : yX10_isOrderedNow.cls = RX10 ∧ yX10_isOrderedNow.cls ≠ "java/lang/invoke/MethodHandle" ∧ yX10_isOrderedNow.cls ≠ "java/lang/invoke/VarHandle" ∧ (parseMethodDescriptor yX10_isOrderedNow.desc).map (fun d => d.parameters.length) = some 0 := ⟨rfl, pc_1.1, pc_1.2, pd_52⟩
theorem pd_122 : (parseMethodDescriptor "(IILjava/util/function/BiFunction;)I").map (fun d => d.parameters.length) = some 3 := by decide +kernel
theorem pc_123 : RJ3 ≠ "java/lang/invoke/MethodHandle" ∧ RJ3 ≠ "java/lang/invoke/VarHandle" := by decide +kernel
theorem hd_J3_checkIndex_8e157 : yJ3_checkIndex_8e157.cls ≠ "java/lang/invoke/MethodHandle" ∧ yJ3_checkIndex_8e157.cls ≠ "java/lang/invoke/VarHandle" ∧ (parseMethodDescriptor yJ3_checkIndex_8e157.desc).map (fun d => d.parameters.length) = some 3 := ⟨pc_123.1, pc_123.2, pd_122⟩
theorem pc_125 : RJ0 ≠ "java/lang/invoke/MethodHandle" ∧ RJ0 ≠ "java/lang/invoke/VarHandle" := by decide +kernel
theorem hd_J0_checkIndex_df160 : yJ0_checkIndex_df160.cls ≠ "java/lang/invoke/MethodHandle" ∧ yJ0_checkIndex_df160.cls ≠ "java/lang/invoke/VarHandle" ∧ (parseMethodDescriptor yJ0_checkIndex_df160.desc).map (fun d => d.parameters.length) = some 2 := ⟨pc_125.1, pc_125.2, pd_13⟩
theorem hd_J0_isLatin1_aae02_v : yJ0_isLatin1_aae02.cls = RJ0 ∧ yJ0_isLatin1_aae02.cls ≠ "java/lang/invoke/MethodHandle" ∧ yJ0_isLatin1_aae02.cls ≠ "java/lang/invoke/VarHandle" ∧ (parseMethodDescriptor yJ0_isLatin1_aae02.desc).map (fun d => d.parameters.length) = some 0 := ⟨rfl, pc_125.1, pc_125.2, pd_52⟩
theorem pd_128 : (parseMethodDescriptor "([BI)C").map (fun d => d.parameters.length) = some 2 := by decide +kernel
theorem pc_129 : RJ1 ≠ "java/lang/invoke/MethodHandle" ∧ RJ1 ≠ "java/lang/invoke/VarHandle" := by decide +kernel
theorem hd_J1_charAt_3b067 : yJ1_charAt_3b067.cls ≠ "java/lang/invoke/MethodHandle" ∧ yJ1_charAt_3b067.cls ≠ "java/lang/invoke/VarHandle" ∧ (parseMethodDescriptor yJ1_charAt_3b067.desc).map (fun d => d.parameters.length) = some 2 := ⟨pc_129.1, pc_129.2, pd_128⟩
theorem pd_131 : (parseMethodDescriptor "()B").map (fun d => d.parameters.length) = some 0 := by decide +kernel
theorem hd_J0_coder_7d493_v : yJ0_coder_7d493.cls = RJ0 ∧ yJ0_coder_7d493.cls ≠ "java/lang/invoke/MethodHandle" ∧ yJ0_coder_7d493.cls ≠ "java/lang/invoke/VarHandle" ∧ (parseMethodDescriptor yJ0_coder_7d493.desc).map (fun d => d.parameters.length) = some 0 := ⟨rfl, pc_125.1, pc_125.2, pd_131⟩
theorem mvW9_20 : (Cond.fieldLink RX8 18 "TurnedFloors$Tower" "floors" "I") ∈ vW9 := vW9_p0 _ (List.mem_of_getElem? (i := 20) rfl)
theorem mvW9_21 : (Cond.fieldLink RX8 9 "TurnedFloors$Tower" "rank" "[I") ∈ vW9 := vW9_p0 _ (List.mem_of_getElem? (i := 21) rfl)
theorem mvW9_26 : (Cond.fieldLink RX8 15 "TurnedFloors$Tower" "head" "[I") ∈ vW9 := vW9_p0 _ (List.mem_of_getElem? (i := 26) rfl)
theorem mvW9_32 : (Cond.fieldLink RX0 19 "TurnedFloors$History" "kept" "I") ∈ vW9 := vW9_p0 _ (List.mem_of_getElem? (i := 32) rfl)
theorem mvW9_13 : (Cond.fieldLink RX9 108 "TurnedFloors" "latestStatus" "I") ∈ vW9 := vW9_p0 _ (List.mem_of_getElem? (i := 13) rfl)
theorem mvW9_14 : (Cond.fieldLink RX9 105 "TurnedFloors" "refusals" "[I") ∈ vW9 := vW9_p0 _ (List.mem_of_getElem? (i := 14) rfl)
theorem mvW9_0 : (Cond.fieldLink RX9 10 "TurnedFloors" "state" "LTurnedFloors$State;") ∈ vW9 := vW9_p0 _ (List.mem_of_getElem? (i := 0) rfl)
theorem mvW9_1 : (Cond.fieldLink RX9 27 "TurnedFloors" "history" "LTurnedFloors$History;") ∈ vW9 := vW9_p0 _ (List.mem_of_getElem? (i := 1) rfl)
theorem mvW9_56 : (Cond.fieldLink RX6 44 "TurnedFloors$State" "lawCount" "I") ∈ vW9 := vW9_p1 _ (List.mem_of_getElem? (i := 8) rfl)
theorem mvW9_51 : (Cond.fieldLink RX6 40 "TurnedFloors$State" "laws" "[LTurnedFloors$Text;") ∈ vW9 := vW9_p1 _ (List.mem_of_getElem? (i := 3) rfl)
theorem mvW9_62 : (Cond.fieldLink RX1 15 "TurnedFloors$Judge" "law" "LTurnedFloors$Text;") ∈ vW9 := vW9_p1 _ (List.mem_of_getElem? (i := 14) rfl)
theorem mvW9_63 : (Cond.fieldLink RX1 11 "TurnedFloors$Judge" "words" "[I") ∈ vW9 := vW9_p1 _ (List.mem_of_getElem? (i := 15) rfl)
theorem mvW9_45 : (Cond.fieldLink RX9 50 "TurnedFloors" "judge" "LTurnedFloors$Judge;") ∈ vW9 := vW9_p0 _ (List.mem_of_getElem? (i := 45) rfl)
theorem pc_133 : RX9 ≠ "java/lang/invoke/MethodHandle" ∧ RX9 ≠ "java/lang/invoke/VarHandle" := by decide +kernel
theorem hd_X9_refuse_v : yX9_refuse.cls = RX9 ∧ yX9_refuse.cls ≠ "java/lang/invoke/MethodHandle" ∧ yX9_refuse.cls ≠ "java/lang/invoke/VarHandle" ∧ (parseMethodDescriptor yX9_refuse.desc).map (fun d => d.parameters.length) = some 1 := ⟨rfl, pc_133.1, pc_133.2, pd_0⟩
theorem hd_X9_isRank : yX9_isRank.cls ≠ "java/lang/invoke/MethodHandle" ∧ yX9_isRank.cls ≠ "java/lang/invoke/VarHandle" ∧ (parseMethodDescriptor yX9_isRank.desc).map (fun d => d.parameters.length) = some 1 := ⟨pc_133.1, pc_133.2, pd_9⟩
theorem hd_X9_isBit : yX9_isBit.cls ≠ "java/lang/invoke/MethodHandle" ∧ yX9_isBit.cls ≠ "java/lang/invoke/VarHandle" ∧ (parseMethodDescriptor yX9_isBit.desc).map (fun d => d.parameters.length) = some 1 := ⟨pc_133.1, pc_133.2, pd_9⟩
theorem pc_137 : RX8 ≠ "java/lang/invoke/MethodHandle" ∧ RX8 ≠ "java/lang/invoke/VarHandle" := by decide +kernel
theorem hd_X8_has_v : yX8_has.cls = RX8 ∧ yX8_has.cls ≠ "java/lang/invoke/MethodHandle" ∧ yX8_has.cls ≠ "java/lang/invoke/VarHandle" ∧ (parseMethodDescriptor yX8_has.desc).map (fun d => d.parameters.length) = some 1 := ⟨rfl, pc_137.1, pc_137.2, pd_9⟩
theorem hd_X8_add_v : yX8_add.cls = RX8 ∧ yX8_add.cls ≠ "java/lang/invoke/MethodHandle" ∧ yX8_add.cls ≠ "java/lang/invoke/VarHandle" ∧ (parseMethodDescriptor yX8_add.desc).map (fun d => d.parameters.length) = some 2 := ⟨rfl, pc_137.1, pc_137.2, pd_46⟩
theorem pc_140 : RX0 ≠ "java/lang/invoke/MethodHandle" ∧ RX0 ≠ "java/lang/invoke/VarHandle" := by decide +kernel
theorem hd_X0_clear_v : yX0_clear.cls = RX0 ∧ yX0_clear.cls ≠ "java/lang/invoke/MethodHandle" ∧ yX0_clear.cls ≠ "java/lang/invoke/VarHandle" ∧ (parseMethodDescriptor yX0_clear.desc).map (fun d => d.parameters.length) = some 0 := ⟨rfl, pc_140.1, pc_140.2, pd_55⟩
theorem hd_X9_accept_v : yX9_accept.cls = RX9 ∧ yX9_accept.cls ≠ "java/lang/invoke/MethodHandle" ∧ yX9_accept.cls ≠ "java/lang/invoke/VarHandle" ∧ (parseMethodDescriptor yX9_accept.desc).map (fun d => d.parameters.length) = some 1 := ⟨rfl, pc_133.1, pc_133.2, pd_0⟩
theorem hd_X8_isFloor_v : yX8_isFloor.cls = RX8 ∧ yX8_isFloor.cls ≠ "java/lang/invoke/MethodHandle" ∧ yX8_isFloor.cls ≠ "java/lang/invoke/VarHandle" ∧ (parseMethodDescriptor yX8_isFloor.desc).map (fun d => d.parameters.length) = some 1 := ⟨rfl, pc_137.1, pc_137.2, pd_9⟩
theorem pc_144 : RX6 ≠ "java/lang/invoke/MethodHandle" ∧ RX6 ≠ "java/lang/invoke/VarHandle" := by decide +kernel
theorem hd_X6_isLaw_v : yX6_isLaw.cls = RX6 ∧ yX6_isLaw.cls ≠ "java/lang/invoke/MethodHandle" ∧ yX6_isLaw.cls ≠ "java/lang/invoke/VarHandle" ∧ (parseMethodDescriptor yX6_isLaw.desc).map (fun d => d.parameters.length) = some 1 := ⟨rfl, pc_144.1, pc_144.2, pd_9⟩
theorem pd_146 : (parseMethodDescriptor "(I)LTurnedFloors$Text;").map (fun d => d.parameters.length) = some 1 := by decide +kernel
theorem hd_X6_lawAt_v : yX6_lawAt.cls = RX6 ∧ yX6_lawAt.cls ≠ "java/lang/invoke/MethodHandle" ∧ yX6_lawAt.cls ≠ "java/lang/invoke/VarHandle" ∧ (parseMethodDescriptor yX6_lawAt.desc).map (fun d => d.parameters.length) = some 1 := ⟨rfl, pc_144.1, pc_144.2, pd_146⟩
theorem pd_148 : (parseMethodDescriptor "(LTurnedFloors$Text;I)V").map (fun d => d.parameters.length) = some 2 := by decide +kernel
theorem pc_149 : RX1 ≠ "java/lang/invoke/MethodHandle" ∧ RX1 ≠ "java/lang/invoke/VarHandle" := by decide +kernel
theorem hd_X1_seat_v : yX1_seat.cls = RX1 ∧ yX1_seat.cls ≠ "java/lang/invoke/MethodHandle" ∧ yX1_seat.cls ≠ "java/lang/invoke/VarHandle" ∧ (parseMethodDescriptor yX1_seat.desc).map (fun d => d.parameters.length) = some 2 := ⟨rfl, pc_149.1, pc_149.2, pd_148⟩
theorem mvW9_83 : (Cond.fieldLink RX2 13 "TurnedFloors$Machine" "broken" "Z") ∈ vW9 := vW9_p1 _ (List.mem_of_getElem? (i := 35) rfl)
theorem mvW9_93 : (Cond.constantLong RX2 32 1000000000) ∈ vW9 := vW9_p1 _ (List.mem_of_getElem? (i := 45) rfl)
theorem mvW9_94 : (Cond.constantLong RX2 34 (-1000000000)) ∈ vW9 := vW9_p1 _ (List.mem_of_getElem? (i := 46) rfl)
theorem mvW9_84 : (Cond.fieldLink RX2 9 "TurnedFloors$Machine" "stack" "[I") ∈ vW9 := vW9_p1 _ (List.mem_of_getElem? (i := 36) rfl)
theorem mvW9_85 : (Cond.methodLink RX2 22 Lib.Math.min.name) ∈ vW9 := vW9_p1 _ (List.mem_of_getElem? (i := 37) rfl)
theorem mvW9_86 : (Cond.static Lib.Math.min.name) ∈ vW9 := vW9_p1 _ (List.mem_of_getElem? (i := 38) rfl)
theorem mvW9_87 : (Cond.initialized "java/lang/Math") ∈ vW9 := vW9_p1 _ (List.mem_of_getElem? (i := 39) rfl)
theorem mvW9_88 : (Cond.code Lib.Math.min.name Lib.Math.min.code 2 (some .int)) ∈ vW9 := vW9_p1 _ (List.mem_of_getElem? (i := 40) rfl)
theorem pd_151 : (parseMethodDescriptor "(IJJ)I").map (fun d => d.parameters.length) = some 3 := by decide +kernel
theorem pc_152 : RX2 ≠ "java/lang/invoke/MethodHandle" ∧ RX2 ≠ "java/lang/invoke/VarHandle" := by decide +kernel
theorem hd_X2_join_v : yX2_join.cls = RX2 ∧ yX2_join.cls ≠ "java/lang/invoke/MethodHandle" ∧ yX2_join.cls ≠ "java/lang/invoke/VarHandle" ∧ (parseMethodDescriptor yX2_join.desc).map (fun d => d.parameters.length) = some 3 := ⟨rfl, pc_152.1, pc_152.2, pd_151⟩
theorem mvW9_77 : (Cond.fieldLink RX1 19 "TurnedFloors$Judge" "machine" "LTurnedFloors$Machine;") ∈ vW9 := vW9_p1 _ (List.mem_of_getElem? (i := 29) rfl)
theorem mvW9_120 : (Cond.methodLink RX1 92 Lib.Math.min.name) ∈ vW9 := vW9_p2 _ (List.mem_of_getElem? (i := 24) rfl)
theorem mvW9_121 : (Cond.methodLink RX1 97 Lib.Math.max.name) ∈ vW9 := vW9_p2 _ (List.mem_of_getElem? (i := 25) rfl)
theorem mvW9_122 : (Cond.static Lib.Math.max.name) ∈ vW9 := vW9_p2 _ (List.mem_of_getElem? (i := 26) rfl)
theorem mvW9_123 : (Cond.code Lib.Math.max.name Lib.Math.max.code 2 (some .int)) ∈ vW9 := vW9_p2 _ (List.mem_of_getElem? (i := 27) rfl)
theorem pd_154 : (parseMethodDescriptor "(LTurnedFloors$Text;II[I)I").map (fun d => d.parameters.length) = some 4 := by decide +kernel
theorem hd_X2_valueOf_v : yX2_valueOf.cls = RX2 ∧ yX2_valueOf.cls ≠ "java/lang/invoke/MethodHandle" ∧ yX2_valueOf.cls ≠ "java/lang/invoke/VarHandle" ∧ (parseMethodDescriptor yX2_valueOf.desc).map (fun d => d.parameters.length) = some 4 := ⟨rfl, pc_152.1, pc_152.2, pd_154⟩
theorem hd_X1_setCommon_v : yX1_setCommon.cls = RX1 ∧ yX1_setCommon.cls ≠ "java/lang/invoke/MethodHandle" ∧ yX1_setCommon.cls ≠ "java/lang/invoke/VarHandle" ∧ (parseMethodDescriptor yX1_setCommon.desc).map (fun d => d.parameters.length) = some 2 := ⟨rfl, pc_149.1, pc_149.2, pd_13⟩
theorem hd_X1_anyHolds_v : yX1_anyHolds.cls = RX1 ∧ yX1_anyHolds.cls ≠ "java/lang/invoke/MethodHandle" ∧ yX1_anyHolds.cls ≠ "java/lang/invoke/VarHandle" ∧ (parseMethodDescriptor yX1_anyHolds.desc).map (fun d => d.parameters.length) = some 1 := ⟨rfl, pc_149.1, pc_149.2, pd_9⟩
theorem hd_X8_tell_v : yX8_tell.cls = RX8 ∧ yX8_tell.cls ≠ "java/lang/invoke/MethodHandle" ∧ yX8_tell.cls ≠ "java/lang/invoke/VarHandle" ∧ (parseMethodDescriptor yX8_tell.desc).map (fun d => d.parameters.length) = some 2 := ⟨rfl, pc_137.1, pc_137.2, pd_21⟩
theorem pd_159 : (parseMethodDescriptor "()LTurnedFloors$Judge;").map (fun d => d.parameters.length) = some 0 := by decide +kernel
theorem hd_X9_seated_v : yX9_seated.cls = RX9 ∧ yX9_seated.cls ≠ "java/lang/invoke/MethodHandle" ∧ yX9_seated.cls ≠ "java/lang/invoke/VarHandle" ∧ (parseMethodDescriptor yX9_seated.desc).map (fun d => d.parameters.length) = some 0 := ⟨rfl, pc_133.1, pc_133.2, pd_159⟩
theorem pd_161 : (parseMethodDescriptor "(LTurnedFloors$Tower;I)Z").map (fun d => d.parameters.length) = some 2 := by decide +kernel
theorem hd_X1_tips_v : yX1_tips.cls = RX1 ∧ yX1_tips.cls ≠ "java/lang/invoke/MethodHandle" ∧ yX1_tips.cls ≠ "java/lang/invoke/VarHandle" ∧ (parseMethodDescriptor yX1_tips.desc).map (fun d => d.parameters.length) = some 2 := ⟨rfl, pc_149.1, pc_149.2, pd_161⟩
theorem pd_163 : (parseMethodDescriptor "(Z)I").map (fun d => d.parameters.length) = some 1 := by decide +kernel
theorem hd_X9_bit : yX9_bit.cls ≠ "java/lang/invoke/MethodHandle" ∧ yX9_bit.cls ≠ "java/lang/invoke/VarHandle" ∧ (parseMethodDescriptor yX9_bit.desc).map (fun d => d.parameters.length) = some 1 := ⟨pc_133.1, pc_133.2, pd_163⟩
theorem hd_X1_setGrip_v : yX1_setGrip.cls = RX1 ∧ yX1_setGrip.cls ≠ "java/lang/invoke/MethodHandle" ∧ yX1_setGrip.cls ≠ "java/lang/invoke/VarHandle" ∧ (parseMethodDescriptor yX1_setGrip.desc).map (fun d => d.parameters.length) = some 4 := ⟨rfl, pc_149.1, pc_149.2, pd_43⟩
theorem pd_166 : (parseMethodDescriptor "(LTurnedFloors$Tower;I)V").map (fun d => d.parameters.length) = some 2 := by decide +kernel
theorem hd_X1_setTurn_v : yX1_setTurn.cls = RX1 ∧ yX1_setTurn.cls ≠ "java/lang/invoke/MethodHandle" ∧ yX1_setTurn.cls ≠ "java/lang/invoke/VarHandle" ∧ (parseMethodDescriptor yX1_setTurn.desc).map (fun d => d.parameters.length) = some 2 := ⟨rfl, pc_149.1, pc_149.2, pd_166⟩
theorem hd_X1_pay_v : yX1_pay.cls = RX1 ∧ yX1_pay.cls ≠ "java/lang/invoke/MethodHandle" ∧ yX1_pay.cls ≠ "java/lang/invoke/VarHandle" ∧ (parseMethodDescriptor yX1_pay.desc).map (fun d => d.parameters.length) = some 0 := ⟨rfl, pc_149.1, pc_149.2, pd_7⟩
theorem mvW9_135 : (Cond.fieldLink RX6 12 "TurnedFloors$State" "tower" "LTurnedFloors$Tower;") ∈ vW9 := vW9_p2 _ (List.mem_of_getElem? (i := 39) rfl)
theorem mvW9_136 : (Cond.fieldLink RX6 18 "TurnedFloors$State" "slips" "I") ∈ vW9 := vW9_p2 _ (List.mem_of_getElem? (i := 40) rfl)
theorem mvW9_137 : (Cond.fieldLink RX6 22 "TurnedFloors$State" "mood" "I") ∈ vW9 := vW9_p2 _ (List.mem_of_getElem? (i := 41) rfl)
theorem mvW9_138 : (Cond.fieldLink RX6 25 "TurnedFloors$State" "headsMatter" "I") ∈ vW9 := vW9_p2 _ (List.mem_of_getElem? (i := 42) rfl)
theorem mvW9_143 : (Cond.fieldLink RX9 88 "TurnedFloors" "tapeLength" "I") ∈ vW9 := vW9_p2 _ (List.mem_of_getElem? (i := 47) rfl)
theorem mvW9_148 : (Cond.fieldLink RX9 84 "TurnedFloors" "tape" "[I") ∈ vW9 := vW9_p3 _ (List.mem_of_getElem? (i := 4) rfl)
theorem mvW9_149 : (Cond.fieldLink RX9 95 "TurnedFloors" "brickCount" "I") ∈ vW9 := vW9_p3 _ (List.mem_of_getElem? (i := 5) rfl)
theorem hd_X1_bars_v : yX1_bars.cls = RX1 ∧ yX1_bars.cls ≠ "java/lang/invoke/MethodHandle" ∧ yX1_bars.cls ≠ "java/lang/invoke/VarHandle" ∧ (parseMethodDescriptor yX1_bars.desc).map (fun d => d.parameters.length) = some 2 := ⟨rfl, pc_149.1, pc_149.2, pd_161⟩
theorem pd_170 : (parseMethodDescriptor "(LTurnedFloors$Tower;I)I").map (fun d => d.parameters.length) = some 2 := by decide +kernel
theorem hd_X1_payOf_v : yX1_payOf.cls = RX1 ∧ yX1_payOf.cls ≠ "java/lang/invoke/MethodHandle" ∧ yX1_payOf.cls ≠ "java/lang/invoke/VarHandle" ∧ (parseMethodDescriptor yX1_payOf.desc).map (fun d => d.parameters.length) = some 2 := ⟨rfl, pc_149.1, pc_149.2, pd_170⟩
theorem hd_X9_mostOfTerm : yX9_mostOfTerm.cls ≠ "java/lang/invoke/MethodHandle" ∧ yX9_mostOfTerm.cls ≠ "java/lang/invoke/VarHandle" ∧ (parseMethodDescriptor yX9_mostOfTerm.desc).map (fun d => d.parameters.length) = some 1 := ⟨pc_133.1, pc_133.2, pd_0⟩
theorem hd_X6_term_v : yX6_term.cls = RX6 ∧ yX6_term.cls ≠ "java/lang/invoke/MethodHandle" ∧ yX6_term.cls ≠ "java/lang/invoke/VarHandle" ∧ (parseMethodDescriptor yX6_term.desc).map (fun d => d.parameters.length) = some 1 := ⟨rfl, pc_144.1, pc_144.2, pd_0⟩
theorem hd_X6_setTerm_v : yX6_setTerm.cls = RX6 ∧ yX6_setTerm.cls ≠ "java/lang/invoke/MethodHandle" ∧ yX6_setTerm.cls ≠ "java/lang/invoke/VarHandle" ∧ (parseMethodDescriptor yX6_setTerm.desc).map (fun d => d.parameters.length) = some 2 := ⟨rfl, pc_144.1, pc_144.2, pd_13⟩
theorem hd_X9_feedFour_v : yX9_feedFour.cls = RX9 ∧ yX9_feedFour.cls ≠ "java/lang/invoke/MethodHandle" ∧ yX9_feedFour.cls ≠ "java/lang/invoke/VarHandle" ∧ (parseMethodDescriptor yX9_feedFour.desc).map (fun d => d.parameters.length) = some 1 := ⟨rfl, pc_133.1, pc_133.2, pd_38⟩
theorem hd_X9_isNewFloor_v : yX9_isNewFloor.cls = RX9 ∧ yX9_isNewFloor.cls ≠ "java/lang/invoke/MethodHandle" ∧ yX9_isNewFloor.cls ≠ "java/lang/invoke/VarHandle" ∧ (parseMethodDescriptor yX9_isNewFloor.desc).map (fun d => d.parameters.length) = some 2 := ⟨rfl, pc_133.1, pc_133.2, pd_46⟩
theorem mvW9_167 : (Cond.fieldLink RX4 33 "TurnedFloors$Reader" "stop" "I") ∈ vW9 := vW9_p3 _ (List.mem_of_getElem? (i := 23) rfl)
theorem mvW9_171 : (Cond.fieldLink RX4 27 "TurnedFloors$Reader" "token" "I") ∈ vW9 := vW9_p3 _ (List.mem_of_getElem? (i := 27) rfl)
theorem mvW9_184 : (Cond.fieldLink RX4 36 "TurnedFloors$Reader" "number" "I") ∈ vW9 := vW9_p3 _ (List.mem_of_getElem? (i := 40) rfl)
theorem mvW9_162 : (Cond.fieldLink RX4 9 "TurnedFloors$Reader" "bytes" "[I") ∈ vW9 := vW9_p3 _ (List.mem_of_getElem? (i := 18) rfl)
theorem mvW9_163 : (Cond.methodLink RX4 48 Lib.Math.min.name) ∈ vW9 := vW9_p3 _ (List.mem_of_getElem? (i := 19) rfl)
theorem mvW9_183 : (Cond.fieldLink RX4 30 "TurnedFloors$Reader" "start" "I") ∈ vW9 := vW9_p3 _ (List.mem_of_getElem? (i := 39) rfl)
theorem mvW9_164 : (Cond.fieldLink RX4 15 "TurnedFloors$Reader" "length" "I") ∈ vW9 := vW9_p3 _ (List.mem_of_getElem? (i := 20) rfl)
theorem mvW9_170 : (Cond.fieldLink RX4 45 "TurnedFloors$Reader" "faultAt" "I") ∈ vW9 := vW9_p3 _ (List.mem_of_getElem? (i := 26) rfl)
theorem pc_177 : RX4 ≠ "java/lang/invoke/MethodHandle" ∧ RX4 ≠ "java/lang/invoke/VarHandle" := by decide +kernel
theorem hd_X4_tokenOf : yX4_tokenOf.cls ≠ "java/lang/invoke/MethodHandle" ∧ yX4_tokenOf.cls ≠ "java/lang/invoke/VarHandle" ∧ (parseMethodDescriptor yX4_tokenOf.desc).map (fun d => d.parameters.length) = some 1 := ⟨pc_177.1, pc_177.2, pd_0⟩
theorem pd_179 : (parseMethodDescriptor "(I)C").map (fun d => d.parameters.length) = some 1 := by decide +kernel
theorem hd_J0_charAt_5068e_v : yJ0_charAt_5068e.cls = RJ0 ∧ yJ0_charAt_5068e.cls ≠ "java/lang/invoke/MethodHandle" ∧ yJ0_charAt_5068e.cls ≠ "java/lang/invoke/VarHandle" ∧ (parseMethodDescriptor yJ0_charAt_5068e.desc).map (fun d => d.parameters.length) = some 1 := ⟨rfl, pc_125.1, pc_125.2, pd_179⟩
theorem hd_J0_length_8abf5_v : yJ0_length_8abf5.cls = RJ0 ∧ yJ0_length_8abf5.cls ≠ "java/lang/invoke/MethodHandle" ∧ yJ0_length_8abf5.cls ≠ "java/lang/invoke/VarHandle" ∧ (parseMethodDescriptor yJ0_length_8abf5.desc).map (fun d => d.parameters.length) = some 0 := ⟨rfl, pc_125.1, pc_125.2, pd_7⟩
theorem pd_182 : (parseMethodDescriptor "(Ljava/lang/String;II)Z").map (fun d => d.parameters.length) = some 3 := by decide +kernel
theorem hd_X4_isSame_v : yX4_isSame.cls = RX4 ∧ yX4_isSame.cls ≠ "java/lang/invoke/MethodHandle" ∧ yX4_isSame.cls ≠ "java/lang/invoke/VarHandle" ∧ (parseMethodDescriptor yX4_isSame.desc).map (fun d => d.parameters.length) = some 3 := ⟨rfl, pc_177.1, pc_177.2, pd_182⟩
theorem mvW9_169 : (Cond.fieldLink RX4 42 "TurnedFloors$Reader" "open" "I") ∈ vW9 := vW9_p3 _ (List.mem_of_getElem? (i := 25) rfl)
theorem hd_X4_step_v : yX4_step.cls = RX4 ∧ yX4_step.cls ≠ "java/lang/invoke/MethodHandle" ∧ yX4_step.cls ≠ "java/lang/invoke/VarHandle" ∧ (parseMethodDescriptor yX4_step.desc).map (fun d => d.parameters.length) = some 0 := ⟨rfl, pc_177.1, pc_177.2, pd_55⟩
theorem hd_X4_fail_v : yX4_fail.cls = RX4 ∧ yX4_fail.cls ≠ "java/lang/invoke/MethodHandle" ∧ yX4_fail.cls ≠ "java/lang/invoke/VarHandle" ∧ (parseMethodDescriptor yX4_fail.desc).map (fun d => d.parameters.length) = some 0 := ⟨rfl, pc_177.1, pc_177.2, pd_55⟩
theorem pd_186 : (parseMethodDescriptor "(C)Z").map (fun d => d.parameters.length) = some 1 := by decide +kernel
theorem hd_X4_isSign_v : yX4_isSign.cls = RX4 ∧ yX4_isSign.cls ≠ "java/lang/invoke/MethodHandle" ∧ yX4_isSign.cls ≠ "java/lang/invoke/VarHandle" ∧ (parseMethodDescriptor yX4_isSign.desc).map (fun d => d.parameters.length) = some 1 := ⟨rfl, pc_177.1, pc_177.2, pd_186⟩
theorem mvW9_166 : (Cond.fieldLink RX4 23 "TurnedFloors$Reader" "text" "LTurnedFloors$Text;") ∈ vW9 := vW9_p3 _ (List.mem_of_getElem? (i := 22) rfl)
theorem mvW9_168 : (Cond.fieldLink RX4 39 "TurnedFloors$Reader" "parts" "I") ∈ vW9 := vW9_p3 _ (List.mem_of_getElem? (i := 24) rfl)
theorem mvW9_165 : (Cond.fieldLink RX4 19 "TurnedFloors$Reader" "ofOrders" "Z") ∈ vW9 := vW9_p3 _ (List.mem_of_getElem? (i := 21) rfl)
theorem pc_188 : RX7 ≠ "java/lang/invoke/MethodHandle" ∧ RX7 ≠ "java/lang/invoke/VarHandle" := by decide +kernel
theorem hd_X7_emit_v : yX7_emit.cls = RX7 ∧ yX7_emit.cls ≠ "java/lang/invoke/MethodHandle" ∧ yX7_emit.cls ≠ "java/lang/invoke/VarHandle" ∧ (parseMethodDescriptor yX7_emit.desc).map (fun d => d.parameters.length) = some 2 := ⟨rfl, pc_188.1, pc_188.2, pd_13⟩
theorem hd_X4_readPlace_v : yX4_readPlace.cls = RX4 ∧ yX4_readPlace.cls ≠ "java/lang/invoke/MethodHandle" ∧ yX4_readPlace.cls ≠ "java/lang/invoke/VarHandle" ∧ (parseMethodDescriptor yX4_readPlace.desc).map (fun d => d.parameters.length) = some 1 := ⟨rfl, pc_177.1, pc_177.2, pd_38⟩
theorem pd_191 : (parseMethodDescriptor "(Ljava/lang/String;)I").map (fun d => d.parameters.length) = some 1 := by decide +kernel
theorem hd_X4_wordIn_v : yX4_wordIn.cls = RX4 ∧ yX4_wordIn.cls ≠ "java/lang/invoke/MethodHandle" ∧ yX4_wordIn.cls ≠ "java/lang/invoke/VarHandle" ∧ (parseMethodDescriptor yX4_wordIn.desc).map (fun d => d.parameters.length) = some 1 := ⟨rfl, pc_177.1, pc_177.2, pd_191⟩
theorem hd_X4_openBracket_v : yX4_openBracket.cls = RX4 ∧ yX4_openBracket.cls ≠ "java/lang/invoke/MethodHandle" ∧ yX4_openBracket.cls ≠ "java/lang/invoke/VarHandle" ∧ (parseMethodDescriptor yX4_openBracket.desc).map (fun d => d.parameters.length) = some 0 := ⟨rfl, pc_177.1, pc_177.2, pd_52⟩
theorem hd_X4_readSum_v : yX4_readSum.cls = RX4 ∧ yX4_readSum.cls ≠ "java/lang/invoke/MethodHandle" ∧ yX4_readSum.cls ≠ "java/lang/invoke/VarHandle" ∧ (parseMethodDescriptor yX4_readSum.desc).map (fun d => d.parameters.length) = some 0 := ⟨rfl, pc_177.1, pc_177.2, pd_55⟩
theorem pd_195 : (parseMethodDescriptor "(C)V").map (fun d => d.parameters.length) = some 1 := by decide +kernel
theorem hd_X4_expectSign_v : yX4_expectSign.cls = RX4 ∧ yX4_expectSign.cls ≠ "java/lang/invoke/MethodHandle" ∧ yX4_expectSign.cls ≠ "java/lang/invoke/VarHandle" ∧ (parseMethodDescriptor yX4_expectSign.desc).map (fun d => d.parameters.length) = some 1 := ⟨rfl, pc_177.1, pc_177.2, pd_195⟩
theorem pd_197 : (parseMethodDescriptor "(Ljava/lang/String;I)I").map (fun d => d.parameters.length) = some 2 := by decide +kernel
theorem hd_X4_signIn_v : yX4_signIn.cls = RX4 ∧ yX4_signIn.cls ≠ "java/lang/invoke/MethodHandle" ∧ yX4_signIn.cls ≠ "java/lang/invoke/VarHandle" ∧ (parseMethodDescriptor yX4_signIn.desc).map (fun d => d.parameters.length) = some 2 := ⟨rfl, pc_177.1, pc_177.2, pd_197⟩
theorem hd_X4_readPart_v : yX4_readPart.cls = RX4 ∧ yX4_readPart.cls ≠ "java/lang/invoke/MethodHandle" ∧ yX4_readPart.cls ≠ "java/lang/invoke/VarHandle" ∧ (parseMethodDescriptor yX4_readPart.desc).map (fun d => d.parameters.length) = some 0 := ⟨rfl, pc_177.1, pc_177.2, pd_55⟩
theorem hd_X4_readTerm_v : yX4_readTerm.cls = RX4 ∧ yX4_readTerm.cls ≠ "java/lang/invoke/MethodHandle" ∧ yX4_readTerm.cls ≠ "java/lang/invoke/VarHandle" ∧ (parseMethodDescriptor yX4_readTerm.desc).map (fun d => d.parameters.length) = some 0 := ⟨rfl, pc_177.1, pc_177.2, pd_55⟩
theorem hd_X7_setTimes_v : yX7_setTimes.cls = RX7 ∧ yX7_setTimes.cls ≠ "java/lang/invoke/MethodHandle" ∧ yX7_setTimes.cls ≠ "java/lang/invoke/VarHandle" ∧ (parseMethodDescriptor yX7_setTimes.desc).map (fun d => d.parameters.length) = some 1 := ⟨rfl, pc_188.1, pc_188.2, pd_38⟩
theorem hd_X4_readTest_v : yX4_readTest.cls = RX4 ∧ yX4_readTest.cls ≠ "java/lang/invoke/MethodHandle" ∧ yX4_readTest.cls ≠ "java/lang/invoke/VarHandle" ∧ (parseMethodDescriptor yX4_readTest.desc).map (fun d => d.parameters.length) = some 0 := ⟨rfl, pc_177.1, pc_177.2, pd_55⟩
theorem pd_203 : (parseMethodDescriptor "(Ljava/lang/String;)Z").map (fun d => d.parameters.length) = some 1 := by decide +kernel
theorem hd_X4_isWord_v : yX4_isWord.cls = RX4 ∧ yX4_isWord.cls ≠ "java/lang/invoke/MethodHandle" ∧ yX4_isWord.cls ≠ "java/lang/invoke/VarHandle" ∧ (parseMethodDescriptor yX4_isWord.desc).map (fun d => d.parameters.length) = some 1 := ⟨rfl, pc_177.1, pc_177.2, pd_203⟩
theorem hd_X4_readPlain_v : yX4_readPlain.cls = RX4 ∧ yX4_readPlain.cls ≠ "java/lang/invoke/MethodHandle" ∧ yX4_readPlain.cls ≠ "java/lang/invoke/VarHandle" ∧ (parseMethodDescriptor yX4_readPlain.desc).map (fun d => d.parameters.length) = some 0 := ⟨rfl, pc_177.1, pc_177.2, pd_55⟩
theorem hd_X7_leapHere_v : yX7_leapHere.cls = RX7 ∧ yX7_leapHere.cls ≠ "java/lang/invoke/MethodHandle" ∧ yX7_leapHere.cls ≠ "java/lang/invoke/VarHandle" ∧ (parseMethodDescriptor yX7_leapHere.desc).map (fun d => d.parameters.length) = some 2 := ⟨rfl, pc_188.1, pc_188.2, pd_13⟩
theorem hd_X4_readBoth_v : yX4_readBoth.cls = RX4 ∧ yX4_readBoth.cls ≠ "java/lang/invoke/MethodHandle" ∧ yX4_readBoth.cls ≠ "java/lang/invoke/VarHandle" ∧ (parseMethodDescriptor yX4_readBoth.desc).map (fun d => d.parameters.length) = some 0 := ⟨rfl, pc_177.1, pc_177.2, pd_55⟩
theorem hd_X7_endTest_v : yX7_endTest.cls = RX7 ∧ yX7_endTest.cls ≠ "java/lang/invoke/MethodHandle" ∧ yX7_endTest.cls ≠ "java/lang/invoke/VarHandle" ∧ (parseMethodDescriptor yX7_endTest.desc).map (fun d => d.parameters.length) = some 0 := ⟨rfl, pc_188.1, pc_188.2, pd_55⟩
theorem hd_X4_readTimes_v : yX4_readTimes.cls = RX4 ∧ yX4_readTimes.cls ≠ "java/lang/invoke/MethodHandle" ∧ yX4_readTimes.cls ≠ "java/lang/invoke/VarHandle" ∧ (parseMethodDescriptor yX4_readTimes.desc).map (fun d => d.parameters.length) = some 0 := ⟨rfl, pc_177.1, pc_177.2, pd_55⟩
theorem hd_X7_endSum_v : yX7_endSum.cls = RX7 ∧ yX7_endSum.cls ≠ "java/lang/invoke/MethodHandle" ∧ yX7_endSum.cls ≠ "java/lang/invoke/VarHandle" ∧ (parseMethodDescriptor yX7_endSum.desc).map (fun d => d.parameters.length) = some 0 := ⟨rfl, pc_188.1, pc_188.2, pd_55⟩
theorem hd_X7_beginClause_v : yX7_beginClause.cls = RX7 ∧ yX7_beginClause.cls ≠ "java/lang/invoke/MethodHandle" ∧ yX7_beginClause.cls ≠ "java/lang/invoke/VarHandle" ∧ (parseMethodDescriptor yX7_beginClause.desc).map (fun d => d.parameters.length) = some 1 := ⟨rfl, pc_188.1, pc_188.2, pd_38⟩
theorem hd_X4_readClause_v : yX4_readClause.cls = RX4 ∧ yX4_readClause.cls ≠ "java/lang/invoke/MethodHandle" ∧ yX4_readClause.cls ≠ "java/lang/invoke/VarHandle" ∧ (parseMethodDescriptor yX4_readClause.desc).map (fun d => d.parameters.length) = some 0 := ⟨rfl, pc_177.1, pc_177.2, pd_55⟩
theorem hd_X7_clear_v : yX7_clear.cls = RX7 ∧ yX7_clear.cls ≠ "java/lang/invoke/MethodHandle" ∧ yX7_clear.cls ≠ "java/lang/invoke/VarHandle" ∧ (parseMethodDescriptor yX7_clear.desc).map (fun d => d.parameters.length) = some 0 := ⟨rfl, pc_188.1, pc_188.2, pd_55⟩
theorem mvW9_339 : (Cond.classLink RX7 8 RX7) ∈ vW9 := vW9_p7 _ (List.mem_of_getElem? (i := 3) rfl)
theorem mvW9_340 : (Cond.instantiable RX7 8) ∈ vW9 := vW9_p7 _ (List.mem_of_getElem? (i := 4) rfl)
theorem mvW9_345 : (Cond.methodLink RX7 35 yX7_init) ∈ vW9 := vW9_p7 _ (List.mem_of_getElem? (i := 9) rfl)
theorem mvW9_346 : (Cond.instanceMethod yX7_init) ∈ vW9 := vW9_p7 _ (List.mem_of_getElem? (i := 10) rfl)
theorem mvW9_154 : (Cond.fieldLink RX9 64 "TurnedFloors" "reader" "LTurnedFloors$Reader;") ∈ vW9 := vW9_p3 _ (List.mem_of_getElem? (i := 10) rfl)
theorem mvW9_155 : (Cond.fieldLink RX9 73 "TurnedFloors" "draft" "LTurnedFloors$Text;") ∈ vW9 := vW9_p3 _ (List.mem_of_getElem? (i := 11) rfl)
theorem mvW9_156 : (Cond.fieldLink RX9 92 "TurnedFloors" "faultPlace" "I") ∈ vW9 := vW9_p3 _ (List.mem_of_getElem? (i := 12) rfl)
theorem mvW9_367 : (Cond.fieldLink RX8 22 "TurnedFloors$Tower" "paid" "I") ∈ vW9 := vW9_p7 _ (List.mem_of_getElem? (i := 31) rfl)
theorem mvW9_368 : (Cond.fieldLink RX8 25 "TurnedFloors$Tower" "year" "I") ∈ vW9 := vW9_p7 _ (List.mem_of_getElem? (i := 32) rfl)
theorem mvW9_373 : (Cond.fieldLink RX0 9 "TurnedFloors$History" "towers" "[J") ∈ vW9 := vW9_p7 _ (List.mem_of_getElem? (i := 37) rfl)
theorem mvW9_374 : (Cond.fieldLink RX0 23 "TurnedFloors$History" "markedTowers" "[J") ∈ vW9 := vW9_p7 _ (List.mem_of_getElem? (i := 38) rfl)
theorem mvW9_375 : (Cond.methodLink RX0 32 arraycopyName) ∈ vW9 := vW9_p7 _ (List.mem_of_getElem? (i := 39) rfl)
theorem mvW9_342 : (Cond.native arraycopyName) ∈ vW9 := vW9_p7 _ (List.mem_of_getElem? (i := 6) rfl)
theorem mvW9_343 : (Cond.static arraycopyName) ∈ vW9 := vW9_p7 _ (List.mem_of_getElem? (i := 7) rfl)
theorem mvW9_344 : (Cond.initialized "java/lang/System") ∈ vW9 := vW9_p7 _ (List.mem_of_getElem? (i := 8) rfl)
theorem mvW9_376 : (Cond.fieldLink RX0 15 "TurnedFloors$History" "kinds" "[I") ∈ vW9 := vW9_p7 _ (List.mem_of_getElem? (i := 40) rfl)
theorem mvW9_377 : (Cond.fieldLink RX0 26 "TurnedFloors$History" "markedKinds" "[I") ∈ vW9 := vW9_p7 _ (List.mem_of_getElem? (i := 41) rfl)
theorem mvW9_378 : (Cond.fieldLink RX0 29 "TurnedFloors$History" "markedKept" "I") ∈ vW9 := vW9_p7 _ (List.mem_of_getElem? (i := 42) rfl)
theorem mvW9_387 : (Cond.methodLink RX8 41 Lib.Math.min.name) ∈ vW9 := vW9_p8 _ (List.mem_of_getElem? (i := 3) rfl)
theorem mvW9_388 : (Cond.methodLink RX8 88 Lib.Math.max.name) ∈ vW9 := vW9_p8 _ (List.mem_of_getElem? (i := 4) rfl)
theorem pd_214 : (parseMethodDescriptor "([IIZLTurnedFloors$Text;)I").map (fun d => d.parameters.length) = some 4 := by decide +kernel
theorem hd_X4_read_v : yX4_read.cls = RX4 ∧ yX4_read.cls ≠ "java/lang/invoke/MethodHandle" ∧ yX4_read.cls ≠ "java/lang/invoke/VarHandle" ∧ (parseMethodDescriptor yX4_read.desc).map (fun d => d.parameters.length) = some 4 := ⟨rfl, pc_177.1, pc_177.2, pd_214⟩
theorem pd_216 : (parseMethodDescriptor "()LTurnedFloors$Text;").map (fun d => d.parameters.length) = some 0 := by decide +kernel
theorem hd_X7_copyOfIt_v : yX7_copyOfIt.cls = RX7 ∧ yX7_copyOfIt.cls ≠ "java/lang/invoke/MethodHandle" ∧ yX7_copyOfIt.cls ≠ "java/lang/invoke/VarHandle" ∧ (parseMethodDescriptor yX7_copyOfIt.desc).map (fun d => d.parameters.length) = some 0 := ⟨rfl, pc_188.1, pc_188.2, pd_216⟩
theorem hd_X8_anyBetween_v : yX8_anyBetween.cls = RX8 ∧ yX8_anyBetween.cls ≠ "java/lang/invoke/MethodHandle" ∧ yX8_anyBetween.cls ≠ "java/lang/invoke/VarHandle" ∧ (parseMethodDescriptor yX8_anyBetween.desc).map (fun d => d.parameters.length) = some 2 := ⟨rfl, pc_137.1, pc_137.2, pd_46⟩
theorem mvW9_362 : (Cond.fieldLink RX5 11 "TurnedFloors$Runner" "words" "[I") ∈ vW9 := vW9_p7 _ (List.mem_of_getElem? (i := 26) rfl)
theorem mvW9_359 : (Cond.fieldLink RX5 15 "TurnedFloors$Runner" "done" "I") ∈ vW9 := vW9_p7 _ (List.mem_of_getElem? (i := 23) rfl)
theorem mvW9_360 : (Cond.fieldLink RX5 19 "TurnedFloors$Runner" "latest" "I") ∈ vW9 := vW9_p7 _ (List.mem_of_getElem? (i := 24) rfl)
theorem hd_X8_gapCount_v : yX8_gapCount.cls = RX8 ∧ yX8_gapCount.cls ≠ "java/lang/invoke/MethodHandle" ∧ yX8_gapCount.cls ≠ "java/lang/invoke/VarHandle" ∧ (parseMethodDescriptor yX8_gapCount.desc).map (fun d => d.parameters.length) = some 0 := ⟨rfl, pc_137.1, pc_137.2, pd_7⟩
theorem mvW9_435 : (Cond.constantLong RX8 39 7) ∈ vW9 := vW9_p9 _ (List.mem_of_getElem? (i := 3) rfl)
theorem mvW9_433 : (Cond.constantLong RX8 35 1023) ∈ vW9 := vW9_p9 _ (List.mem_of_getElem? (i := 1) rfl)
theorem mvW9_434 : (Cond.constantLong RX8 37 16383) ∈ vW9 := vW9_p9 _ (List.mem_of_getElem? (i := 2) rfl)
theorem hd_X8_exchange_v : yX8_exchange.cls = RX8 ∧ yX8_exchange.cls ≠ "java/lang/invoke/MethodHandle" ∧ yX8_exchange.cls ≠ "java/lang/invoke/VarHandle" ∧ (parseMethodDescriptor yX8_exchange.desc).map (fun d => d.parameters.length) = some 2 := ⟨rfl, pc_137.1, pc_137.2, pd_13⟩
theorem pc_221 : RJ6 ≠ "java/lang/invoke/MethodHandle" ∧ RJ6 ≠ "java/lang/invoke/VarHandle" := by decide +kernel
theorem hd_J6_bitCount_0f7a4 : yJ6_bitCount_0f7a4.cls ≠ "java/lang/invoke/MethodHandle" ∧ yJ6_bitCount_0f7a4.cls ≠ "java/lang/invoke/VarHandle" ∧ (parseMethodDescriptor yJ6_bitCount_0f7a4.desc).map (fun d => d.parameters.length) = some 1 := ⟨pc_221.1, pc_221.2, pd_0⟩
theorem pd_223 : (parseMethodDescriptor "(ILTurnedFloors$Judge;)I").map (fun d => d.parameters.length) = some 2 := by decide +kernel
theorem hd_X8_turnTop_v : yX8_turnTop.cls = RX8 ∧ yX8_turnTop.cls ≠ "java/lang/invoke/MethodHandle" ∧ yX8_turnTop.cls ≠ "java/lang/invoke/VarHandle" ∧ (parseMethodDescriptor yX8_turnTop.desc).map (fun d => d.parameters.length) = some 2 := ⟨rfl, pc_137.1, pc_137.2, pd_223⟩
theorem hd_X8_rightAt_v : yX8_rightAt.cls = RX8 ∧ yX8_rightAt.cls ≠ "java/lang/invoke/MethodHandle" ∧ yX8_rightAt.cls ≠ "java/lang/invoke/VarHandle" ∧ (parseMethodDescriptor yX8_rightAt.desc).map (fun d => d.parameters.length) = some 1 := ⟨rfl, pc_137.1, pc_137.2, pd_0⟩
theorem hd_X8_swapAt_v : yX8_swapAt.cls = RX8 ∧ yX8_swapAt.cls ≠ "java/lang/invoke/MethodHandle" ∧ yX8_swapAt.cls ≠ "java/lang/invoke/VarHandle" ∧ (parseMethodDescriptor yX8_swapAt.desc).map (fun d => d.parameters.length) = some 1 := ⟨rfl, pc_137.1, pc_137.2, pd_0⟩
theorem pd_227 : (parseMethodDescriptor "(LTurnedFloors$Judge;)I").map (fun d => d.parameters.length) = some 1 := by decide +kernel
theorem hd_X8_passYear_v : yX8_passYear.cls = RX8 ∧ yX8_passYear.cls ≠ "java/lang/invoke/MethodHandle" ∧ yX8_passYear.cls ≠ "java/lang/invoke/VarHandle" ∧ (parseMethodDescriptor yX8_passYear.desc).map (fun d => d.parameters.length) = some 1 := ⟨rfl, pc_137.1, pc_137.2, pd_227⟩
theorem mvW9_361 : (Cond.fieldLink RX5 22 "TurnedFloors$Runner" "machine" "LTurnedFloors$Machine;") ∈ vW9 := vW9_p7 _ (List.mem_of_getElem? (i := 25) rfl)
theorem mvW9_352 : (Cond.fieldLink RX9 98 "TurnedFloors" "stoppedClause" "I") ∈ vW9 := vW9_p7 _ (List.mem_of_getElem? (i := 16) rfl)
theorem mvW9_353 : (Cond.fieldLink RX9 57 "TurnedFloors" "runner" "LTurnedFloors$Runner;") ∈ vW9 := vW9_p7 _ (List.mem_of_getElem? (i := 17) rfl)
theorem pd_229 : (parseMethodDescriptor "(IJ)V").map (fun d => d.parameters.length) = some 2 := by decide +kernel
theorem hd_X0_keep_v : yX0_keep.cls = RX0 ∧ yX0_keep.cls ≠ "java/lang/invoke/MethodHandle" ∧ yX0_keep.cls ≠ "java/lang/invoke/VarHandle" ∧ (parseMethodDescriptor yX0_keep.desc).map (fun d => d.parameters.length) = some 2 := ⟨rfl, pc_140.1, pc_140.2, pd_229⟩
theorem pd_231 : (parseMethodDescriptor "(J)V").map (fun d => d.parameters.length) = some 1 := by decide +kernel
theorem hd_X8_unpack_v : yX8_unpack.cls = RX8 ∧ yX8_unpack.cls ≠ "java/lang/invoke/MethodHandle" ∧ yX8_unpack.cls ≠ "java/lang/invoke/VarHandle" ∧ (parseMethodDescriptor yX8_unpack.desc).map (fun d => d.parameters.length) = some 1 := ⟨rfl, pc_137.1, pc_137.2, pd_231⟩
theorem hd_X0_backToMark_v : yX0_backToMark.cls = RX0 ∧ yX0_backToMark.cls ≠ "java/lang/invoke/MethodHandle" ∧ yX0_backToMark.cls ≠ "java/lang/invoke/VarHandle" ∧ (parseMethodDescriptor yX0_backToMark.desc).map (fun d => d.parameters.length) = some 0 := ⟨rfl, pc_140.1, pc_140.2, pd_55⟩
theorem pd_234 : (parseMethodDescriptor "(LTurnedFloors$Tower;)V").map (fun d => d.parameters.length) = some 1 := by decide +kernel
theorem pc_235 : RX5 ≠ "java/lang/invoke/MethodHandle" ∧ RX5 ≠ "java/lang/invoke/VarHandle" := by decide +kernel
theorem hd_X5_setWords_v : yX5_setWords.cls = RX5 ∧ yX5_setWords.cls ≠ "java/lang/invoke/MethodHandle" ∧ yX5_setWords.cls ≠ "java/lang/invoke/VarHandle" ∧ (parseMethodDescriptor yX5_setWords.desc).map (fun d => d.parameters.length) = some 1 := ⟨rfl, pc_235.1, pc_235.2, pd_234⟩
theorem pd_237 : (parseMethodDescriptor "()J").map (fun d => d.parameters.length) = some 0 := by decide +kernel
theorem hd_X8_pack_v : yX8_pack.cls = RX8 ∧ yX8_pack.cls ≠ "java/lang/invoke/MethodHandle" ∧ yX8_pack.cls ≠ "java/lang/invoke/VarHandle" ∧ (parseMethodDescriptor yX8_pack.desc).map (fun d => d.parameters.length) = some 0 := ⟨rfl, pc_137.1, pc_137.2, pd_237⟩
theorem pd_239 : (parseMethodDescriptor "(IILTurnedFloors$Judge;)I").map (fun d => d.parameters.length) = some 3 := by decide +kernel
theorem hd_X8_act_v : yX8_act.cls = RX8 ∧ yX8_act.cls ≠ "java/lang/invoke/MethodHandle" ∧ yX8_act.cls ≠ "java/lang/invoke/VarHandle" ∧ (parseMethodDescriptor yX8_act.desc).map (fun d => d.parameters.length) = some 3 := ⟨rfl, pc_137.1, pc_137.2, pd_239⟩
theorem hd_X0_mark_v : yX0_mark.cls = RX0 ∧ yX0_mark.cls ≠ "java/lang/invoke/MethodHandle" ∧ yX0_mark.cls ≠ "java/lang/invoke/VarHandle" ∧ (parseMethodDescriptor yX0_mark.desc).map (fun d => d.parameters.length) = some 0 := ⟨rfl, pc_140.1, pc_140.2, pd_55⟩
theorem pd_242 : (parseMethodDescriptor "(LTurnedFloors$Text;LTurnedFloors$Tower;LTurnedFloors$Judge;LTurnedFloors$History;)I").map (fun d => d.parameters.length) = some 4 := by decide +kernel
theorem hd_X5_run_v : yX5_run.cls = RX5 ∧ yX5_run.cls ≠ "java/lang/invoke/MethodHandle" ∧ yX5_run.cls ≠ "java/lang/invoke/VarHandle" ∧ (parseMethodDescriptor yX5_run.desc).map (fun d => d.parameters.length) = some 4 := ⟨rfl, pc_235.1, pc_235.2, pd_242⟩
theorem hd_X9_move_v : yX9_move.cls = RX9 ∧ yX9_move.cls ≠ "java/lang/invoke/MethodHandle" ∧ yX9_move.cls ≠ "java/lang/invoke/VarHandle" ∧ (parseMethodDescriptor yX9_move.desc).map (fun d => d.parameters.length) = some 2 := ⟨rfl, pc_133.1, pc_133.2, pd_21⟩
theorem mvW9_469 : (Cond.fieldLink RX3 15 "TurnedFloors$Paper" "digits" "[I") ∈ vW9 := vW9_p9 _ (List.mem_of_getElem? (i := 37) rfl)
theorem mvW9_465 : (Cond.fieldLink RX3 76 "TurnedFloors$Paper" "FACTORIALS" "[I") ∈ vW9 := vW9_p9 _ (List.mem_of_getElem? (i := 33) rfl)
theorem mvW9_480 : (Cond.fieldLink RX3 33 "TurnedFloors$Paper" "turnedOrders" "[I") ∈ vW9 := vW9_p10 _ (List.mem_of_getElem? (i := 0) rfl)
theorem mvW9_463 : (Cond.fieldLink RX3 51 "TurnedFloors$Paper" "floors" "I") ∈ vW9 := vW9_p9 _ (List.mem_of_getElem? (i := 31) rfl)
theorem mvW9_479 : (Cond.fieldLink RX3 30 "TurnedFloors$Paper" "orders" "[I") ∈ vW9 := vW9_p9 _ (List.mem_of_getElem? (i := 47) rfl)
theorem pc_245 : RX3 ≠ "java/lang/invoke/MethodHandle" ∧ RX3 ≠ "java/lang/invoke/VarHandle" := by decide +kernel
theorem hd_X3_numberOfOrder_v : yX3_numberOfOrder.cls = RX3 ∧ yX3_numberOfOrder.cls ≠ "java/lang/invoke/MethodHandle" ∧ yX3_numberOfOrder.cls ≠ "java/lang/invoke/VarHandle" ∧ (parseMethodDescriptor yX3_numberOfOrder.desc).map (fun d => d.parameters.length) = some 0 := ⟨rfl, pc_245.1, pc_245.2, pd_7⟩
theorem hd_X3_setDigits_v : yX3_setDigits.cls = RX3 ∧ yX3_setDigits.cls ≠ "java/lang/invoke/MethodHandle" ∧ yX3_setDigits.cls ≠ "java/lang/invoke/VarHandle" ∧ (parseMethodDescriptor yX3_setDigits.desc).map (fun d => d.parameters.length) = some 1 := ⟨rfl, pc_245.1, pc_245.2, pd_38⟩
theorem mvW9_481 : (Cond.fieldLink RX3 36 "TurnedFloors$Paper" "turnedHeads" "[I") ∈ vW9 := vW9_p10 _ (List.mem_of_getElem? (i := 1) rfl)
theorem mvW9_466 : (Cond.fieldLink RX3 55 "TurnedFloors$Paper" "size" "I") ∈ vW9 := vW9_p9 _ (List.mem_of_getElem? (i := 34) rfl)
theorem mvW9_467 : (Cond.fieldLink RX3 39 "TurnedFloors$Paper" "toOrder" "[I") ∈ vW9 := vW9_p9 _ (List.mem_of_getElem? (i := 35) rfl)
theorem mvW9_476 : (Cond.fieldLink RX3 42 "TurnedFloors$Paper" "marks" "[I") ∈ vW9 := vW9_p9 _ (List.mem_of_getElem? (i := 44) rfl)
theorem mvW9_477 : (Cond.fieldLink RX3 45 "TurnedFloors$Paper" "line" "[I") ∈ vW9 := vW9_p9 _ (List.mem_of_getElem? (i := 45) rfl)
theorem mvW9_478 : (Cond.fieldLink RX3 48 "TurnedFloors$Paper" "links" "[I") ∈ vW9 := vW9_p9 _ (List.mem_of_getElem? (i := 46) rfl)
theorem mvW9_482 : (Cond.fieldLink RX3 64 "TurnedFloors$Paper" "measuredFloors" "I") ∈ vW9 := vW9_p10 _ (List.mem_of_getElem? (i := 2) rfl)
theorem hd_X3_headsTurned : yX3_headsTurned.cls ≠ "java/lang/invoke/MethodHandle" ∧ yX3_headsTurned.cls ≠ "java/lang/invoke/VarHandle" ∧ (parseMethodDescriptor yX3_headsTurned.desc).map (fun d => d.parameters.length) = some 2 := ⟨pc_245.1, pc_245.2, pd_21⟩
theorem hd_X3_listOrder_v : yX3_listOrder.cls = RX3 ∧ yX3_listOrder.cls ≠ "java/lang/invoke/MethodHandle" ∧ yX3_listOrder.cls ≠ "java/lang/invoke/VarHandle" ∧ (parseMethodDescriptor yX3_listOrder.desc).map (fun d => d.parameters.length) = some 1 := ⟨rfl, pc_245.1, pc_245.2, pd_38⟩
theorem mvW9_468 : (Cond.fieldLink RX3 9 "TurnedFloors$Paper" "ranks" "[I") ∈ vW9 := vW9_p9 _ (List.mem_of_getElem? (i := 36) rfl)
theorem mvW9_507 : (Cond.fieldLink RX3 18 "TurnedFloors$Paper" "barred" "[I") ∈ vW9 := vW9_p10 _ (List.mem_of_getElem? (i := 27) rfl)
theorem hd_X3_caseNumber : yX3_caseNumber.cls ≠ "java/lang/invoke/MethodHandle" ∧ yX3_caseNumber.cls ≠ "java/lang/invoke/VarHandle" ∧ (parseMethodDescriptor yX3_caseNumber.desc).map (fun d => d.parameters.length) = some 4 := ⟨pc_245.1, pc_245.2, pd_90⟩
theorem pd_251 : (parseMethodDescriptor "([II)V").map (fun d => d.parameters.length) = some 2 := by decide +kernel
theorem pc_252 : RJ7 ≠ "java/lang/invoke/MethodHandle" ∧ RJ7 ≠ "java/lang/invoke/VarHandle" := by decide +kernel
theorem hd_J7_fill_53178 : yJ7_fill_53178.cls ≠ "java/lang/invoke/MethodHandle" ∧ yJ7_fill_53178.cls ≠ "java/lang/invoke/VarHandle" ∧ (parseMethodDescriptor yJ7_fill_53178.desc).map (fun d => d.parameters.length) = some 2 := ⟨pc_252.1, pc_252.2, pd_251⟩
theorem mvW9_470 : (Cond.methodLink RX3 100 Lib.Math.min.name) ∈ vW9 := vW9_p9 _ (List.mem_of_getElem? (i := 38) rfl)
theorem mvW9_471 : (Cond.fieldLink RX3 58 "TurnedFloors$Paper" "start" "I") ∈ vW9 := vW9_p9 _ (List.mem_of_getElem? (i := 39) rfl)
theorem mvW9_464 : (Cond.fieldLink RX3 61 "TurnedFloors$Paper" "headsMatter" "I") ∈ vW9 := vW9_p9 _ (List.mem_of_getElem? (i := 32) rfl)
theorem mvW9_453 : (Cond.fieldLink RX9 80 "TurnedFloors" "paper" "LTurnedFloors$Paper;") ∈ vW9 := vW9_p9 _ (List.mem_of_getElem? (i := 21) rfl)
theorem mvW9_529 : (Cond.fieldLink RX3 24 "TurnedFloors$Paper" "measuredBarred" "[I") ∈ vW9 := vW9_p11 _ (List.mem_of_getElem? (i := 1) rfl)
theorem pd_254 : (parseMethodDescriptor "(LTurnedFloors$Judge;II)V").map (fun d => d.parameters.length) = some 3 := by decide +kernel
theorem hd_X3_askCases_v : yX3_askCases.cls = RX3 ∧ yX3_askCases.cls ≠ "java/lang/invoke/MethodHandle" ∧ yX3_askCases.cls ≠ "java/lang/invoke/VarHandle" ∧ (parseMethodDescriptor yX3_askCases.desc).map (fun d => d.parameters.length) = some 3 := ⟨rfl, pc_245.1, pc_245.2, pd_254⟩
theorem hd_X3_indexOfRank_v : yX3_indexOfRank.cls = RX3 ∧ yX3_indexOfRank.cls ≠ "java/lang/invoke/MethodHandle" ∧ yX3_indexOfRank.cls ≠ "java/lang/invoke/VarHandle" ∧ (parseMethodDescriptor yX3_indexOfRank.desc).map (fun d => d.parameters.length) = some 1 := ⟨rfl, pc_245.1, pc_245.2, pd_0⟩
theorem hd_X3_makeRoom_v : yX3_makeRoom.cls = RX3 ∧ yX3_makeRoom.cls ≠ "java/lang/invoke/MethodHandle" ∧ yX3_makeRoom.cls ≠ "java/lang/invoke/VarHandle" ∧ (parseMethodDescriptor yX3_makeRoom.desc).map (fun d => d.parameters.length) = some 0 := ⟨rfl, pc_245.1, pc_245.2, pd_55⟩
theorem pd_258 : (parseMethodDescriptor "(LTurnedFloors$Tower;LTurnedFloors$Judge;I)V").map (fun d => d.parameters.length) = some 3 := by decide +kernel
theorem hd_X3_lay_v : yX3_lay.cls = RX3 ∧ yX3_lay.cls ≠ "java/lang/invoke/MethodHandle" ∧ yX3_lay.cls ≠ "java/lang/invoke/VarHandle" ∧ (parseMethodDescriptor yX3_lay.desc).map (fun d => d.parameters.length) = some 3 := ⟨rfl, pc_245.1, pc_245.2, pd_258⟩
theorem mvW9_528 : (Cond.fieldLink RX3 67 "TurnedFloors$Paper" "measuredHeads" "I") ∈ vW9 := vW9_p11 _ (List.mem_of_getElem? (i := 0) rfl)
theorem mvW9_530 : (Cond.methodLink RX3 165 arraycopyName) ∈ vW9 := vW9_p11 _ (List.mem_of_getElem? (i := 2) rfl)
theorem hd_X3_turned_v : yX3_turned.cls = RX3 ∧ yX3_turned.cls ≠ "java/lang/invoke/MethodHandle" ∧ yX3_turned.cls ≠ "java/lang/invoke/VarHandle" ∧ (parseMethodDescriptor yX3_turned.desc).map (fun d => d.parameters.length) = some 2 := ⟨rfl, pc_245.1, pc_245.2, pd_21⟩
theorem hd_X3_caseOf_v : yX3_caseOf.cls = RX3 ∧ yX3_caseOf.cls ≠ "java/lang/invoke/MethodHandle" ∧ yX3_caseOf.cls ≠ "java/lang/invoke/VarHandle" ∧ (parseMethodDescriptor yX3_caseOf.desc).map (fun d => d.parameters.length) = some 2 := ⟨rfl, pc_245.1, pc_245.2, pd_21⟩
theorem hd_X3_isOrdered_v : yX3_isOrdered.cls = RX3 ∧ yX3_isOrdered.cls ≠ "java/lang/invoke/MethodHandle" ∧ yX3_isOrdered.cls ≠ "java/lang/invoke/VarHandle" ∧ (parseMethodDescriptor yX3_isOrdered.desc).map (fun d => d.parameters.length) = some 1 := ⟨rfl, pc_245.1, pc_245.2, pd_9⟩
theorem hd_X3_sameBars_v : yX3_sameBars.cls = RX3 ∧ yX3_sameBars.cls ≠ "java/lang/invoke/MethodHandle" ∧ yX3_sameBars.cls ≠ "java/lang/invoke/VarHandle" ∧ (parseMethodDescriptor yX3_sameBars.desc).map (fun d => d.parameters.length) = some 0 := ⟨rfl, pc_245.1, pc_245.2, pd_52⟩
theorem hd_X3_isCloser_v : yX3_isCloser.cls = RX3 ∧ yX3_isCloser.cls ≠ "java/lang/invoke/MethodHandle" ∧ yX3_isCloser.cls ≠ "java/lang/invoke/VarHandle" ∧ (parseMethodDescriptor yX3_isCloser.desc).map (fun d => d.parameters.length) = some 2 := ⟨rfl, pc_245.1, pc_245.2, pd_46⟩
theorem hd_X3_firstCloser_v : yX3_firstCloser.cls = RX3 ∧ yX3_firstCloser.cls ≠ "java/lang/invoke/MethodHandle" ∧ yX3_firstCloser.cls ≠ "java/lang/invoke/VarHandle" ∧ (parseMethodDescriptor yX3_firstCloser.desc).map (fun d => d.parameters.length) = some 1 := ⟨rfl, pc_245.1, pc_245.2, pd_0⟩
theorem hd_X3_measure_v : yX3_measure.cls = RX3 ∧ yX3_measure.cls ≠ "java/lang/invoke/MethodHandle" ∧ yX3_measure.cls ≠ "java/lang/invoke/VarHandle" ∧ (parseMethodDescriptor yX3_measure.desc).map (fun d => d.parameters.length) = some 0 := ⟨rfl, pc_245.1, pc_245.2, pd_55⟩
theorem pd_267 : (parseMethodDescriptor "(LTurnedFloors$Judge;)V").map (fun d => d.parameters.length) = some 1 := by decide +kernel
theorem hd_X9_spread_v : yX9_spread.cls = RX9 ∧ yX9_spread.cls ≠ "java/lang/invoke/MethodHandle" ∧ yX9_spread.cls ≠ "java/lang/invoke/VarHandle" ∧ (parseMethodDescriptor yX9_spread.desc).map (fun d => d.parameters.length) = some 1 := ⟨rfl, pc_133.1, pc_133.2, pd_267⟩
theorem hd_X3_turnOfFirstRow_v : yX3_turnOfFirstRow.cls = RX3 ∧ yX3_turnOfFirstRow.cls ≠ "java/lang/invoke/MethodHandle" ∧ yX3_turnOfFirstRow.cls ≠ "java/lang/invoke/VarHandle" ∧ (parseMethodDescriptor yX3_turnOfFirstRow.desc).map (fun d => d.parameters.length) = some 1 := ⟨rfl, pc_245.1, pc_245.2, pd_0⟩
theorem hd_X3_turnsToOrder_v : yX3_turnsToOrder.cls = RX3 ∧ yX3_turnsToOrder.cls ≠ "java/lang/invoke/MethodHandle" ∧ yX3_turnsToOrder.cls ≠ "java/lang/invoke/VarHandle" ∧ (parseMethodDescriptor yX3_turnsToOrder.desc).map (fun d => d.parameters.length) = some 0 := ⟨rfl, pc_245.1, pc_245.2, pd_7⟩
theorem mvW9_563 : (Cond.constant RX3 128 1000000000) ∈ vW9 := vW9_p11 _ (List.mem_of_getElem? (i := 35) rfl)
theorem hd_X3_rowsToOrder_v : yX3_rowsToOrder.cls = RX3 ∧ yX3_rowsToOrder.cls ≠ "java/lang/invoke/MethodHandle" ∧ yX3_rowsToOrder.cls ≠ "java/lang/invoke/VarHandle" ∧ (parseMethodDescriptor yX3_rowsToOrder.desc).map (fun d => d.parameters.length) = some 0 := ⟨rfl, pc_245.1, pc_245.2, pd_7⟩
theorem mvW9_508 : (Cond.fieldLink RX3 21 "TurnedFloors$Paper" "pays" "[I") ∈ vW9 := vW9_p10 _ (List.mem_of_getElem? (i := 28) rfl)
theorem mvW9_569 : (Cond.fieldLink RX3 27 "TurnedFloors$Paper" "buckets" "[I") ∈ vW9 := vW9_p11 _ (List.mem_of_getElem? (i := 41) rfl)
theorem mvW9_568 : (Cond.constant RX3 140 2000000000) ∈ vW9 := vW9_p11 _ (List.mem_of_getElem? (i := 40) rfl)
theorem hd_X3_putInBucket_v : yX3_putInBucket.cls = RX3 ∧ yX3_putInBucket.cls ≠ "java/lang/invoke/MethodHandle" ∧ yX3_putInBucket.cls ≠ "java/lang/invoke/VarHandle" ∧ (parseMethodDescriptor yX3_putInBucket.desc).map (fun d => d.parameters.length) = some 1 := ⟨rfl, pc_245.1, pc_245.2, pd_38⟩
theorem hd_X3_takeFromBucket_v : yX3_takeFromBucket.cls = RX3 ∧ yX3_takeFromBucket.cls ≠ "java/lang/invoke/MethodHandle" ∧ yX3_takeFromBucket.cls ≠ "java/lang/invoke/VarHandle" ∧ (parseMethodDescriptor yX3_takeFromBucket.desc).map (fun d => d.parameters.length) = some 1 := ⟨rfl, pc_245.1, pc_245.2, pd_38⟩
theorem hd_X3_offerTurns_v : yX3_offerTurns.cls = RX3 ∧ yX3_offerTurns.cls ≠ "java/lang/invoke/MethodHandle" ∧ yX3_offerTurns.cls ≠ "java/lang/invoke/VarHandle" ∧ (parseMethodDescriptor yX3_offerTurns.desc).map (fun d => d.parameters.length) = some 1 := ⟨rfl, pc_245.1, pc_245.2, pd_0⟩
theorem pd_275 : (parseMethodDescriptor "(LTurnedFloors$Judge;I)I").map (fun d => d.parameters.length) = some 2 := by decide +kernel
theorem hd_X3_leastPaid_v : yX3_leastPaid.cls = RX3 ∧ yX3_leastPaid.cls ≠ "java/lang/invoke/MethodHandle" ∧ yX3_leastPaid.cls ≠ "java/lang/invoke/VarHandle" ∧ (parseMethodDescriptor yX3_leastPaid.desc).map (fun d => d.parameters.length) = some 2 := ⟨rfl, pc_245.1, pc_245.2, pd_275⟩
theorem hd_X3_worstTowers_v : yX3_worstTowers.cls = RX3 ∧ yX3_worstTowers.cls ≠ "java/lang/invoke/MethodHandle" ∧ yX3_worstTowers.cls ≠ "java/lang/invoke/VarHandle" ∧ (parseMethodDescriptor yX3_worstTowers.desc).map (fun d => d.parameters.length) = some 1 := ⟨rfl, pc_245.1, pc_245.2, pd_0⟩
theorem mvW9_590 : (Cond.fieldLink RX3 70 "TurnedFloors$Paper" "visited" "I") ∈ vW9 := vW9_p12 _ (List.mem_of_getElem? (i := 14) rfl)
theorem hd_X3_fits_v : yX3_fits.cls = RX3 ∧ yX3_fits.cls ≠ "java/lang/invoke/MethodHandle" ∧ yX3_fits.cls ≠ "java/lang/invoke/VarHandle" ∧ (parseMethodDescriptor yX3_fits.desc).map (fun d => d.parameters.length) = some 3 := ⟨rfl, pc_245.1, pc_245.2, pd_3⟩
theorem hd_X3_nearest_v : yX3_nearest.cls = RX3 ∧ yX3_nearest.cls ≠ "java/lang/invoke/MethodHandle" ∧ yX3_nearest.cls ≠ "java/lang/invoke/VarHandle" ∧ (parseMethodDescriptor yX3_nearest.desc).map (fun d => d.parameters.length) = some 2 := ⟨rfl, pc_245.1, pc_245.2, pd_21⟩
theorem hd_X3_towersReached_v : yX3_towersReached.cls = RX3 ∧ yX3_towersReached.cls ≠ "java/lang/invoke/MethodHandle" ∧ yX3_towersReached.cls ≠ "java/lang/invoke/VarHandle" ∧ (parseMethodDescriptor yX3_towersReached.desc).map (fun d => d.parameters.length) = some 0 := ⟨rfl, pc_245.1, pc_245.2, pd_7⟩
theorem hd_X3_turnsToNumber_v : yX3_turnsToNumber.cls = RX3 ∧ yX3_turnsToNumber.cls ≠ "java/lang/invoke/MethodHandle" ∧ yX3_turnsToNumber.cls ≠ "java/lang/invoke/VarHandle" ∧ (parseMethodDescriptor yX3_turnsToNumber.desc).map (fun d => d.parameters.length) = some 1 := ⟨rfl, pc_245.1, pc_245.2, pd_0⟩
theorem hd_X3_turnsToTop_v : yX3_turnsToTop.cls = RX3 ∧ yX3_turnsToTop.cls ≠ "java/lang/invoke/MethodHandle" ∧ yX3_turnsToTop.cls ≠ "java/lang/invoke/VarHandle" ∧ (parseMethodDescriptor yX3_turnsToTop.desc).map (fun d => d.parameters.length) = some 1 := ⟨rfl, pc_245.1, pc_245.2, pd_0⟩
theorem mvW9_617 : (Cond.fieldLink RX6 35 "TurnedFloors$State" "seenCount" "I") ∈ vW9 := vW9_p12 _ (List.mem_of_getElem? (i := 41) rfl)
theorem mvW9_618 : (Cond.fieldLink RX6 28 "TurnedFloors$State" "seenPlace" "[I") ∈ vW9 := vW9_p12 _ (List.mem_of_getElem? (i := 42) rfl)
theorem mvW9_619 : (Cond.fieldLink RX6 32 "TurnedFloors$State" "seenRank" "[I") ∈ vW9 := vW9_p12 _ (List.mem_of_getElem? (i := 43) rfl)
theorem hd_X8_rises_v : yX8_rises.cls = RX8 ∧ yX8_rises.cls ≠ "java/lang/invoke/MethodHandle" ∧ yX8_rises.cls ≠ "java/lang/invoke/VarHandle" ∧ (parseMethodDescriptor yX8_rises.desc).map (fun d => d.parameters.length) = some 2 := ⟨rfl, pc_137.1, pc_137.2, pd_46⟩
theorem hd_X8_rankBehindTurn_v : yX8_rankBehindTurn.cls = RX8 ∧ yX8_rankBehindTurn.cls ≠ "java/lang/invoke/MethodHandle" ∧ yX8_rankBehindTurn.cls ≠ "java/lang/invoke/VarHandle" ∧ (parseMethodDescriptor yX8_rankBehindTurn.desc).map (fun d => d.parameters.length) = some 2 := ⟨rfl, pc_137.1, pc_137.2, pd_21⟩
theorem hd_X6_agrees_v : yX6_agrees.cls = RX6 ∧ yX6_agrees.cls ≠ "java/lang/invoke/MethodHandle" ∧ yX6_agrees.cls ≠ "java/lang/invoke/VarHandle" ∧ (parseMethodDescriptor yX6_agrees.desc).map (fun d => d.parameters.length) = some 1 := ⟨rfl, pc_144.1, pc_144.2, pd_9⟩
theorem mvW9_634 : (Cond.fieldLink RX9 101 "TurnedFloors" "chances" "[J") ∈ vW9 := vW9_p13 _ (List.mem_of_getElem? (i := 10) rfl)
theorem mvW9_636 : (Cond.constantLong RX9 304 10) ∈ vW9 := vW9_p13 _ (List.mem_of_getElem? (i := 12) rfl)
theorem mvW9_633 : (Cond.constantLong RX9 291 (-1)) ∈ vW9 := vW9_p13 _ (List.mem_of_getElem? (i := 9) rfl)
theorem mvW9_635 : (Cond.constantLong RX9 299 1000000000000) ∈ vW9 := vW9_p13 _ (List.mem_of_getElem? (i := 11) rfl)
theorem hd_X8_mostAlike_v : yX8_mostAlike.cls = RX8 ∧ yX8_mostAlike.cls ≠ "java/lang/invoke/MethodHandle" ∧ yX8_mostAlike.cls ≠ "java/lang/invoke/VarHandle" ∧ (parseMethodDescriptor yX8_mostAlike.desc).map (fun d => d.parameters.length) = some 2 := ⟨rfl, pc_137.1, pc_137.2, pd_21⟩
theorem hd_X9_was_v : yX9_was.cls = RX9 ∧ yX9_was.cls ≠ "java/lang/invoke/MethodHandle" ∧ yX9_was.cls ≠ "java/lang/invoke/VarHandle" ∧ (parseMethodDescriptor yX9_was.desc).map (fun d => d.parameters.length) = some 0 := ⟨rfl, pc_133.1, pc_133.2, pd_7⟩
theorem pd_288 : (parseMethodDescriptor "([JJ)V").map (fun d => d.parameters.length) = some 2 := by decide +kernel
theorem hd_J7_fill_d0a16 : yJ7_fill_d0a16.cls ≠ "java/lang/invoke/MethodHandle" ∧ yJ7_fill_d0a16.cls ≠ "java/lang/invoke/VarHandle" ∧ (parseMethodDescriptor yJ7_fill_d0a16.desc).map (fun d => d.parameters.length) = some 2 := ⟨pc_252.1, pc_252.2, pd_288⟩
theorem mvW9_645 : (Cond.constantLong RX9 350 1103) ∈ vW9 := vW9_p13 _ (List.mem_of_getElem? (i := 21) rfl)
theorem mvW9_646 : (Cond.constantLong RX9 352 12345) ∈ vW9 := vW9_p13 _ (List.mem_of_getElem? (i := 22) rfl)
theorem mvW9_647 : (Cond.constantLong RX9 354 1000003) ∈ vW9 := vW9_p13 _ (List.mem_of_getElem? (i := 23) rfl)
theorem mvW9_641 : (Cond.fieldLink RX9 34 "TurnedFloors" "drawnTower" "LTurnedFloors$Tower;") ∈ vW9 := vW9_p13 _ (List.mem_of_getElem? (i := 17) rfl)
theorem mvW9_640 : (Cond.constant RX9 317 1000000) ∈ vW9 := vW9_p13 _ (List.mem_of_getElem? (i := 16) rfl)
theorem hd_X9_nextDraw : yX9_nextDraw.cls ≠ "java/lang/invoke/MethodHandle" ∧ yX9_nextDraw.cls ≠ "java/lang/invoke/VarHandle" ∧ (parseMethodDescriptor yX9_nextDraw.desc).map (fun d => d.parameters.length) = some 1 := ⟨pc_133.1, pc_133.2, pd_0⟩
theorem mvW9_657 : (Cond.fieldLink RX6 47 "TurnedFloors$State" "inForce" "I") ∈ vW9 := vW9_p13 _ (List.mem_of_getElem? (i := 33) rfl)
theorem mvW9_648 : (Cond.fieldLink RX9 16 "TurnedFloors" "images" "[LTurnedFloors$State;") ∈ vW9 := vW9_p13 _ (List.mem_of_getElem? (i := 24) rfl)
theorem mvW9_649 : (Cond.fieldLink RX9 20 "TurnedFloors" "kept" "[Z") ∈ vW9 := vW9_p13 _ (List.mem_of_getElem? (i := 25) rfl)
theorem hd_X9_isImage : yX9_isImage.cls ≠ "java/lang/invoke/MethodHandle" ∧ yX9_isImage.cls ≠ "java/lang/invoke/VarHandle" ∧ (parseMethodDescriptor yX9_isImage.desc).map (fun d => d.parameters.length) = some 1 := ⟨pc_133.1, pc_133.2, pd_9⟩
theorem pd_292 : (parseMethodDescriptor "(LTurnedFloors$State;)V").map (fun d => d.parameters.length) = some 1 := by decide +kernel
theorem hd_X6_copyFrom_v : yX6_copyFrom.cls = RX6 ∧ yX6_copyFrom.cls ≠ "java/lang/invoke/MethodHandle" ∧ yX6_copyFrom.cls ≠ "java/lang/invoke/VarHandle" ∧ (parseMethodDescriptor yX6_copyFrom.desc).map (fun d => d.parameters.length) = some 1 := ⟨rfl, pc_144.1, pc_144.2, pd_292⟩
theorem hd_X8_onHeads_v : yX8_onHeads.cls = RX8 ∧ yX8_onHeads.cls ≠ "java/lang/invoke/MethodHandle" ∧ yX8_onHeads.cls ≠ "java/lang/invoke/VarHandle" ∧ (parseMethodDescriptor yX8_onHeads.desc).map (fun d => d.parameters.length) = some 0 := ⟨rfl, pc_137.1, pc_137.2, pd_7⟩
theorem hd_X9_floor_v : yX9_floor.cls = RX9 ∧ yX9_floor.cls ≠ "java/lang/invoke/MethodHandle" ∧ yX9_floor.cls ≠ "java/lang/invoke/VarHandle" ∧ (parseMethodDescriptor yX9_floor.desc).map (fun d => d.parameters.length) = some 2 := ⟨rfl, pc_133.1, pc_133.2, pd_21⟩
theorem hd_X10_floor_v : yX10_floor.cls = RX10 ∧ yX10_floor.cls ≠ "java/lang/invoke/MethodHandle" ∧ yX10_floor.cls ≠ "java/lang/invoke/VarHandle" ∧ (parseMethodDescriptor yX10_floor.desc).map (fun d => d.parameters.length) = some 2 := ⟨rfl, pc_1.1, pc_1.2, pd_21⟩
theorem hd_X9_at_v : yX9_at.cls = RX9 ∧ yX9_at.cls ≠ "java/lang/invoke/MethodHandle" ∧ yX9_at.cls ≠ "java/lang/invoke/VarHandle" ∧ (parseMethodDescriptor yX9_at.desc).map (fun d => d.parameters.length) = some 2 := ⟨rfl, pc_133.1, pc_133.2, pd_21⟩
theorem hd_X10_at_v : yX10_at.cls = RX10 ∧ yX10_at.cls ≠ "java/lang/invoke/MethodHandle" ∧ yX10_at.cls ≠ "java/lang/invoke/VarHandle" ∧ (parseMethodDescriptor yX10_at.desc).map (fun d => d.parameters.length) = some 2 := ⟨rfl, pc_1.1, pc_1.2, pd_21⟩
theorem hd_X9_asks_v : yX9_asks.cls = RX9 ∧ yX9_asks.cls ≠ "java/lang/invoke/MethodHandle" ∧ yX9_asks.cls ≠ "java/lang/invoke/VarHandle" ∧ (parseMethodDescriptor yX9_asks.desc).map (fun d => d.parameters.length) = some 2 := ⟨rfl, pc_133.1, pc_133.2, pd_21⟩
theorem hd_X10_asks_v : yX10_asks.cls = RX10 ∧ yX10_asks.cls ≠ "java/lang/invoke/MethodHandle" ∧ yX10_asks.cls ≠ "java/lang/invoke/VarHandle" ∧ (parseMethodDescriptor yX10_asks.desc).map (fun d => d.parameters.length) = some 2 := ⟨rfl, pc_1.1, pc_1.2, pd_21⟩
theorem hd_X9_terms_v : yX9_terms.cls = RX9 ∧ yX9_terms.cls ≠ "java/lang/invoke/MethodHandle" ∧ yX9_terms.cls ≠ "java/lang/invoke/VarHandle" ∧ (parseMethodDescriptor yX9_terms.desc).map (fun d => d.parameters.length) = some 2 := ⟨rfl, pc_133.1, pc_133.2, pd_21⟩
theorem hd_X10_terms_v : yX10_terms.cls = RX10 ∧ yX10_terms.cls ≠ "java/lang/invoke/MethodHandle" ∧ yX10_terms.cls ≠ "java/lang/invoke/VarHandle" ∧ (parseMethodDescriptor yX10_terms.desc).map (fun d => d.parameters.length) = some 2 := ⟨rfl, pc_1.1, pc_1.2, pd_21⟩
theorem pd_303 : (parseMethodDescriptor "(IIIII)I").map (fun d => d.parameters.length) = some 5 := by decide +kernel
theorem hd_X9_feed_v : yX9_feed.cls = RX9 ∧ yX9_feed.cls ≠ "java/lang/invoke/MethodHandle" ∧ yX9_feed.cls ≠ "java/lang/invoke/VarHandle" ∧ (parseMethodDescriptor yX9_feed.desc).map (fun d => d.parameters.length) = some 5 := ⟨rfl, pc_133.1, pc_133.2, pd_303⟩
theorem hd_X10_feed_v : yX10_feed.cls = RX10 ∧ yX10_feed.cls ≠ "java/lang/invoke/MethodHandle" ∧ yX10_feed.cls ≠ "java/lang/invoke/VarHandle" ∧ (parseMethodDescriptor yX10_feed.desc).map (fun d => d.parameters.length) = some 5 := ⟨rfl, pc_1.1, pc_1.2, pd_303⟩
theorem hd_X9_end_v : yX9_end.cls = RX9 ∧ yX9_end.cls ≠ "java/lang/invoke/MethodHandle" ∧ yX9_end.cls ≠ "java/lang/invoke/VarHandle" ∧ (parseMethodDescriptor yX9_end.desc).map (fun d => d.parameters.length) = some 1 := ⟨rfl, pc_133.1, pc_133.2, pd_0⟩
theorem hd_X10_end_v : yX10_end.cls = RX10 ∧ yX10_end.cls ≠ "java/lang/invoke/MethodHandle" ∧ yX10_end.cls ≠ "java/lang/invoke/VarHandle" ∧ (parseMethodDescriptor yX10_end.desc).map (fun d => d.parameters.length) = some 1 := ⟨rfl, pc_1.1, pc_1.2, pd_0⟩
theorem hd_X9_row_v : yX9_row.cls = RX9 ∧ yX9_row.cls ≠ "java/lang/invoke/MethodHandle" ∧ yX9_row.cls ≠ "java/lang/invoke/VarHandle" ∧ (parseMethodDescriptor yX9_row.desc).map (fun d => d.parameters.length) = some 0 := ⟨rfl, pc_133.1, pc_133.2, pd_7⟩
theorem hd_X10_row_v : yX10_row.cls = RX10 ∧ yX10_row.cls ≠ "java/lang/invoke/MethodHandle" ∧ yX10_row.cls ≠ "java/lang/invoke/VarHandle" ∧ (parseMethodDescriptor yX10_row.desc).map (fun d => d.parameters.length) = some 0 := ⟨rfl, pc_1.1, pc_1.2, pd_7⟩
theorem hd_X9_bricks_v : yX9_bricks.cls = RX9 ∧ yX9_bricks.cls ≠ "java/lang/invoke/MethodHandle" ∧ yX9_bricks.cls ≠ "java/lang/invoke/VarHandle" ∧ (parseMethodDescriptor yX9_bricks.desc).map (fun d => d.parameters.length) = some 0 := ⟨rfl, pc_133.1, pc_133.2, pd_7⟩
theorem hd_X10_bricks_v : yX10_bricks.cls = RX10 ∧ yX10_bricks.cls ≠ "java/lang/invoke/MethodHandle" ∧ yX10_bricks.cls ≠ "java/lang/invoke/VarHandle" ∧ (parseMethodDescriptor yX10_bricks.desc).map (fun d => d.parameters.length) = some 0 := ⟨rfl, pc_1.1, pc_1.2, pd_7⟩
theorem hd_X9_law_v : yX9_law.cls = RX9 ∧ yX9_law.cls ≠ "java/lang/invoke/MethodHandle" ∧ yX9_law.cls ≠ "java/lang/invoke/VarHandle" ∧ (parseMethodDescriptor yX9_law.desc).map (fun d => d.parameters.length) = some 0 := ⟨rfl, pc_133.1, pc_133.2, pd_7⟩
theorem hd_X10_law_v : yX10_law.cls = RX10 ∧ yX10_law.cls ≠ "java/lang/invoke/MethodHandle" ∧ yX10_law.cls ≠ "java/lang/invoke/VarHandle" ∧ (parseMethodDescriptor yX10_law.desc).map (fun d => d.parameters.length) = some 0 := ⟨rfl, pc_1.1, pc_1.2, pd_7⟩
theorem hd_X9_orders_v : yX9_orders.cls = RX9 ∧ yX9_orders.cls ≠ "java/lang/invoke/MethodHandle" ∧ yX9_orders.cls ≠ "java/lang/invoke/VarHandle" ∧ (parseMethodDescriptor yX9_orders.desc).map (fun d => d.parameters.length) = some 0 := ⟨rfl, pc_133.1, pc_133.2, pd_7⟩
theorem hd_X10_orders_v : yX10_orders.cls = RX10 ∧ yX10_orders.cls ≠ "java/lang/invoke/MethodHandle" ∧ yX10_orders.cls ≠ "java/lang/invoke/VarHandle" ∧ (parseMethodDescriptor yX10_orders.desc).map (fun d => d.parameters.length) = some 0 := ⟨rfl, pc_1.1, pc_1.2, pd_7⟩
theorem hd_X9_fault_v : yX9_fault.cls = RX9 ∧ yX9_fault.cls ≠ "java/lang/invoke/MethodHandle" ∧ yX9_fault.cls ≠ "java/lang/invoke/VarHandle" ∧ (parseMethodDescriptor yX9_fault.desc).map (fun d => d.parameters.length) = some 0 := ⟨rfl, pc_133.1, pc_133.2, pd_7⟩
theorem hd_X10_fault_v : yX10_fault.cls = RX10 ∧ yX10_fault.cls ≠ "java/lang/invoke/MethodHandle" ∧ yX10_fault.cls ≠ "java/lang/invoke/VarHandle" ∧ (parseMethodDescriptor yX10_fault.desc).map (fun d => d.parameters.length) = some 0 := ⟨rfl, pc_1.1, pc_1.2, pd_7⟩
theorem hd_X9_stopped_v : yX9_stopped.cls = RX9 ∧ yX9_stopped.cls ≠ "java/lang/invoke/MethodHandle" ∧ yX9_stopped.cls ≠ "java/lang/invoke/VarHandle" ∧ (parseMethodDescriptor yX9_stopped.desc).map (fun d => d.parameters.length) = some 0 := ⟨rfl, pc_133.1, pc_133.2, pd_7⟩
theorem hd_X10_stopped_v : yX10_stopped.cls = RX10 ∧ yX10_stopped.cls ≠ "java/lang/invoke/MethodHandle" ∧ yX10_stopped.cls ≠ "java/lang/invoke/VarHandle" ∧ (parseMethodDescriptor yX10_stopped.desc).map (fun d => d.parameters.length) = some 0 := ⟨rfl, pc_1.1, pc_1.2, pd_7⟩
theorem hd_X9_force_v : yX9_force.cls = RX9 ∧ yX9_force.cls ≠ "java/lang/invoke/MethodHandle" ∧ yX9_force.cls ≠ "java/lang/invoke/VarHandle" ∧ (parseMethodDescriptor yX9_force.desc).map (fun d => d.parameters.length) = some 1 := ⟨rfl, pc_133.1, pc_133.2, pd_0⟩
theorem hd_X10_force_v : yX10_force.cls = RX10 ∧ yX10_force.cls ≠ "java/lang/invoke/MethodHandle" ∧ yX10_force.cls ≠ "java/lang/invoke/VarHandle" ∧ (parseMethodDescriptor yX10_force.desc).map (fun d => d.parameters.length) = some 1 := ⟨rfl, pc_1.1, pc_1.2, pd_0⟩
theorem hd_X9_turn_v : yX9_turn.cls = RX9 ∧ yX9_turn.cls ≠ "java/lang/invoke/MethodHandle" ∧ yX9_turn.cls ≠ "java/lang/invoke/VarHandle" ∧ (parseMethodDescriptor yX9_turn.desc).map (fun d => d.parameters.length) = some 1 := ⟨rfl, pc_133.1, pc_133.2, pd_0⟩
theorem hd_X10_turn_v : yX10_turn.cls = RX10 ∧ yX10_turn.cls ≠ "java/lang/invoke/MethodHandle" ∧ yX10_turn.cls ≠ "java/lang/invoke/VarHandle" ∧ (parseMethodDescriptor yX10_turn.desc).map (fun d => d.parameters.length) = some 1 := ⟨rfl, pc_1.1, pc_1.2, pd_0⟩
theorem hd_X9_right_v : yX9_right.cls = RX9 ∧ yX9_right.cls ≠ "java/lang/invoke/MethodHandle" ∧ yX9_right.cls ≠ "java/lang/invoke/VarHandle" ∧ (parseMethodDescriptor yX9_right.desc).map (fun d => d.parameters.length) = some 1 := ⟨rfl, pc_133.1, pc_133.2, pd_0⟩
theorem hd_X10_right_v : yX10_right.cls = RX10 ∧ yX10_right.cls ≠ "java/lang/invoke/MethodHandle" ∧ yX10_right.cls ≠ "java/lang/invoke/VarHandle" ∧ (parseMethodDescriptor yX10_right.desc).map (fun d => d.parameters.length) = some 1 := ⟨rfl, pc_1.1, pc_1.2, pd_0⟩
theorem hd_X9_swap_v : yX9_swap.cls = RX9 ∧ yX9_swap.cls ≠ "java/lang/invoke/MethodHandle" ∧ yX9_swap.cls ≠ "java/lang/invoke/VarHandle" ∧ (parseMethodDescriptor yX9_swap.desc).map (fun d => d.parameters.length) = some 1 := ⟨rfl, pc_133.1, pc_133.2, pd_0⟩
theorem hd_X10_swap_v : yX10_swap.cls = RX10 ∧ yX10_swap.cls ≠ "java/lang/invoke/MethodHandle" ∧ yX10_swap.cls ≠ "java/lang/invoke/VarHandle" ∧ (parseMethodDescriptor yX10_swap.desc).map (fun d => d.parameters.length) = some 1 := ⟨rfl, pc_1.1, pc_1.2, pd_0⟩
theorem hd_X9_pass_v : yX9_pass.cls = RX9 ∧ yX9_pass.cls ≠ "java/lang/invoke/MethodHandle" ∧ yX9_pass.cls ≠ "java/lang/invoke/VarHandle" ∧ (parseMethodDescriptor yX9_pass.desc).map (fun d => d.parameters.length) = some 0 := ⟨rfl, pc_133.1, pc_133.2, pd_7⟩
theorem hd_X10_pass_v : yX10_pass.cls = RX10 ∧ yX10_pass.cls ≠ "java/lang/invoke/MethodHandle" ∧ yX10_pass.cls ≠ "java/lang/invoke/VarHandle" ∧ (parseMethodDescriptor yX10_pass.desc).map (fun d => d.parameters.length) = some 0 := ⟨rfl, pc_1.1, pc_1.2, pd_7⟩
theorem hd_X9_undo_v : yX9_undo.cls = RX9 ∧ yX9_undo.cls ≠ "java/lang/invoke/MethodHandle" ∧ yX9_undo.cls ≠ "java/lang/invoke/VarHandle" ∧ (parseMethodDescriptor yX9_undo.desc).map (fun d => d.parameters.length) = some 0 := ⟨rfl, pc_133.1, pc_133.2, pd_7⟩
theorem hd_X10_undo_v : yX10_undo.cls = RX10 ∧ yX10_undo.cls ≠ "java/lang/invoke/MethodHandle" ∧ yX10_undo.cls ≠ "java/lang/invoke/VarHandle" ∧ (parseMethodDescriptor yX10_undo.desc).map (fun d => d.parameters.length) = some 0 := ⟨rfl, pc_1.1, pc_1.2, pd_7⟩
theorem hd_X9_fewest_v : yX9_fewest.cls = RX9 ∧ yX9_fewest.cls ≠ "java/lang/invoke/MethodHandle" ∧ yX9_fewest.cls ≠ "java/lang/invoke/VarHandle" ∧ (parseMethodDescriptor yX9_fewest.desc).map (fun d => d.parameters.length) = some 1 := ⟨rfl, pc_133.1, pc_133.2, pd_0⟩
theorem hd_X9_many_v : yX9_many.cls = RX9 ∧ yX9_many.cls ≠ "java/lang/invoke/MethodHandle" ∧ yX9_many.cls ≠ "java/lang/invoke/VarHandle" ∧ (parseMethodDescriptor yX9_many.desc).map (fun d => d.parameters.length) = some 0 := ⟨rfl, pc_133.1, pc_133.2, pd_7⟩
theorem hd_X10_many_v : yX10_many.cls = RX10 ∧ yX10_many.cls ≠ "java/lang/invoke/MethodHandle" ∧ yX10_many.cls ≠ "java/lang/invoke/VarHandle" ∧ (parseMethodDescriptor yX10_many.desc).map (fun d => d.parameters.length) = some 0 := ⟨rfl, pc_1.1, pc_1.2, pd_7⟩
theorem hd_X9_cheapest_v : yX9_cheapest.cls = RX9 ∧ yX9_cheapest.cls ≠ "java/lang/invoke/MethodHandle" ∧ yX9_cheapest.cls ≠ "java/lang/invoke/VarHandle" ∧ (parseMethodDescriptor yX9_cheapest.desc).map (fun d => d.parameters.length) = some 0 := ⟨rfl, pc_133.1, pc_133.2, pd_7⟩
theorem hd_X10_cheapest_v : yX10_cheapest.cls = RX10 ∧ yX10_cheapest.cls ≠ "java/lang/invoke/MethodHandle" ∧ yX10_cheapest.cls ≠ "java/lang/invoke/VarHandle" ∧ (parseMethodDescriptor yX10_cheapest.desc).map (fun d => d.parameters.length) = some 0 := ⟨rfl, pc_1.1, pc_1.2, pd_7⟩
theorem hd_X9_worst_v : yX9_worst.cls = RX9 ∧ yX9_worst.cls ≠ "java/lang/invoke/MethodHandle" ∧ yX9_worst.cls ≠ "java/lang/invoke/VarHandle" ∧ (parseMethodDescriptor yX9_worst.desc).map (fun d => d.parameters.length) = some 1 := ⟨rfl, pc_133.1, pc_133.2, pd_0⟩
theorem hd_X10_worst_v : yX10_worst.cls = RX10 ∧ yX10_worst.cls ≠ "java/lang/invoke/MethodHandle" ∧ yX10_worst.cls ≠ "java/lang/invoke/VarHandle" ∧ (parseMethodDescriptor yX10_worst.desc).map (fun d => d.parameters.length) = some 1 := ⟨rfl, pc_1.1, pc_1.2, pd_0⟩
theorem hd_X9_reach_v : yX9_reach.cls = RX9 ∧ yX9_reach.cls ≠ "java/lang/invoke/MethodHandle" ∧ yX9_reach.cls ≠ "java/lang/invoke/VarHandle" ∧ (parseMethodDescriptor yX9_reach.desc).map (fun d => d.parameters.length) = some 0 := ⟨rfl, pc_133.1, pc_133.2, pd_7⟩
theorem hd_X10_reach_v : yX10_reach.cls = RX10 ∧ yX10_reach.cls ≠ "java/lang/invoke/MethodHandle" ∧ yX10_reach.cls ≠ "java/lang/invoke/VarHandle" ∧ (parseMethodDescriptor yX10_reach.desc).map (fun d => d.parameters.length) = some 0 := ⟨rfl, pc_1.1, pc_1.2, pd_7⟩
theorem hd_X9_gaps_v : yX9_gaps.cls = RX9 ∧ yX9_gaps.cls ≠ "java/lang/invoke/MethodHandle" ∧ yX9_gaps.cls ≠ "java/lang/invoke/VarHandle" ∧ (parseMethodDescriptor yX9_gaps.desc).map (fun d => d.parameters.length) = some 0 := ⟨rfl, pc_133.1, pc_133.2, pd_7⟩
theorem hd_X9_comes_v : yX9_comes.cls = RX9 ∧ yX9_comes.cls ≠ "java/lang/invoke/MethodHandle" ∧ yX9_comes.cls ≠ "java/lang/invoke/VarHandle" ∧ (parseMethodDescriptor yX9_comes.desc).map (fun d => d.parameters.length) = some 1 := ⟨rfl, pc_133.1, pc_133.2, pd_0⟩
theorem hd_X10_comes_v : yX10_comes.cls = RX10 ∧ yX10_comes.cls ≠ "java/lang/invoke/MethodHandle" ∧ yX10_comes.cls ≠ "java/lang/invoke/VarHandle" ∧ (parseMethodDescriptor yX10_comes.desc).map (fun d => d.parameters.length) = some 1 := ⟨rfl, pc_1.1, pc_1.2, pd_0⟩
theorem hd_X9_view_v : yX9_view.cls = RX9 ∧ yX9_view.cls ≠ "java/lang/invoke/MethodHandle" ∧ yX9_view.cls ≠ "java/lang/invoke/VarHandle" ∧ (parseMethodDescriptor yX9_view.desc).map (fun d => d.parameters.length) = some 1 := ⟨rfl, pc_133.1, pc_133.2, pd_0⟩
theorem hd_X10_view_v : yX10_view.cls = RX10 ∧ yX10_view.cls ≠ "java/lang/invoke/MethodHandle" ∧ yX10_view.cls ≠ "java/lang/invoke/VarHandle" ∧ (parseMethodDescriptor yX10_view.desc).map (fun d => d.parameters.length) = some 1 := ⟨rfl, pc_1.1, pc_1.2, pd_0⟩
theorem hd_X9_stays_v : yX9_stays.cls = RX9 ∧ yX9_stays.cls ≠ "java/lang/invoke/MethodHandle" ∧ yX9_stays.cls ≠ "java/lang/invoke/VarHandle" ∧ (parseMethodDescriptor yX9_stays.desc).map (fun d => d.parameters.length) = some 1 := ⟨rfl, pc_133.1, pc_133.2, pd_0⟩
theorem hd_X10_stays_v : yX10_stays.cls = RX10 ∧ yX10_stays.cls ≠ "java/lang/invoke/MethodHandle" ∧ yX10_stays.cls ≠ "java/lang/invoke/VarHandle" ∧ (parseMethodDescriptor yX10_stays.desc).map (fun d => d.parameters.length) = some 1 := ⟨rfl, pc_1.1, pc_1.2, pd_0⟩
theorem hd_X9_seen_v : yX9_seen.cls = RX9 ∧ yX9_seen.cls ≠ "java/lang/invoke/MethodHandle" ∧ yX9_seen.cls ≠ "java/lang/invoke/VarHandle" ∧ (parseMethodDescriptor yX9_seen.desc).map (fun d => d.parameters.length) = some 2 := ⟨rfl, pc_133.1, pc_133.2, pd_21⟩
theorem hd_X10_seen_v : yX10_seen.cls = RX10 ∧ yX10_seen.cls ≠ "java/lang/invoke/MethodHandle" ∧ yX10_seen.cls ≠ "java/lang/invoke/VarHandle" ∧ (parseMethodDescriptor yX10_seen.desc).map (fun d => d.parameters.length) = some 2 := ⟨rfl, pc_1.1, pc_1.2, pd_21⟩
theorem hd_X9_forget_v : yX9_forget.cls = RX9 ∧ yX9_forget.cls ≠ "java/lang/invoke/MethodHandle" ∧ yX9_forget.cls ≠ "java/lang/invoke/VarHandle" ∧ (parseMethodDescriptor yX9_forget.desc).map (fun d => d.parameters.length) = some 0 := ⟨rfl, pc_133.1, pc_133.2, pd_7⟩
theorem hd_X10_forget_v : yX10_forget.cls = RX10 ∧ yX10_forget.cls ≠ "java/lang/invoke/MethodHandle" ∧ yX10_forget.cls ≠ "java/lang/invoke/VarHandle" ∧ (parseMethodDescriptor yX10_forget.desc).map (fun d => d.parameters.length) = some 0 := ⟨rfl, pc_1.1, pc_1.2, pd_7⟩
theorem hd_X9_look_v : yX9_look.cls = RX9 ∧ yX9_look.cls ≠ "java/lang/invoke/MethodHandle" ∧ yX9_look.cls ≠ "java/lang/invoke/VarHandle" ∧ (parseMethodDescriptor yX9_look.desc).map (fun d => d.parameters.length) = some 1 := ⟨rfl, pc_133.1, pc_133.2, pd_0⟩
theorem hd_X10_look_v : yX10_look.cls = RX10 ∧ yX10_look.cls ≠ "java/lang/invoke/MethodHandle" ∧ yX10_look.cls ≠ "java/lang/invoke/VarHandle" ∧ (parseMethodDescriptor yX10_look.desc).map (fun d => d.parameters.length) = some 1 := ⟨rfl, pc_1.1, pc_1.2, pd_0⟩
theorem pd_354 : (parseMethodDescriptor "(II)J").map (fun d => d.parameters.length) = some 2 := by decide +kernel
theorem hd_X9_few_v : yX9_few.cls = RX9 ∧ yX9_few.cls ≠ "java/lang/invoke/MethodHandle" ∧ yX9_few.cls ≠ "java/lang/invoke/VarHandle" ∧ (parseMethodDescriptor yX9_few.desc).map (fun d => d.parameters.length) = some 2 := ⟨rfl, pc_133.1, pc_133.2, pd_354⟩
theorem hd_X10_few_v : yX10_few.cls = RX10 ∧ yX10_few.cls ≠ "java/lang/invoke/MethodHandle" ∧ yX10_few.cls ≠ "java/lang/invoke/VarHandle" ∧ (parseMethodDescriptor yX10_few.desc).map (fun d => d.parameters.length) = some 2 := ⟨rfl, pc_1.1, pc_1.2, pd_354⟩
theorem hd_X9_compare_v : yX9_compare.cls = RX9 ∧ yX9_compare.cls ≠ "java/lang/invoke/MethodHandle" ∧ yX9_compare.cls ≠ "java/lang/invoke/VarHandle" ∧ (parseMethodDescriptor yX9_compare.desc).map (fun d => d.parameters.length) = some 1 := ⟨rfl, pc_133.1, pc_133.2, pd_0⟩
theorem hd_X10_compare_v : yX10_compare.cls = RX10 ∧ yX10_compare.cls ≠ "java/lang/invoke/MethodHandle" ∧ yX10_compare.cls ≠ "java/lang/invoke/VarHandle" ∧ (parseMethodDescriptor yX10_compare.desc).map (fun d => d.parameters.length) = some 1 := ⟨rfl, pc_1.1, pc_1.2, pd_0⟩
theorem hd_X9_years_v : yX9_years.cls = RX9 ∧ yX9_years.cls ≠ "java/lang/invoke/MethodHandle" ∧ yX9_years.cls ≠ "java/lang/invoke/VarHandle" ∧ (parseMethodDescriptor yX9_years.desc).map (fun d => d.parameters.length) = some 2 := ⟨rfl, pc_133.1, pc_133.2, pd_21⟩
theorem hd_X10_years_v : yX10_years.cls = RX10 ∧ yX10_years.cls ≠ "java/lang/invoke/MethodHandle" ∧ yX10_years.cls ≠ "java/lang/invoke/VarHandle" ∧ (parseMethodDescriptor yX10_years.desc).map (fun d => d.parameters.length) = some 2 := ⟨rfl, pc_1.1, pc_1.2, pd_21⟩
theorem hd_X9_drawn_v : yX9_drawn.cls = RX9 ∧ yX9_drawn.cls ≠ "java/lang/invoke/MethodHandle" ∧ yX9_drawn.cls ≠ "java/lang/invoke/VarHandle" ∧ (parseMethodDescriptor yX9_drawn.desc).map (fun d => d.parameters.length) = some 2 := ⟨rfl, pc_133.1, pc_133.2, pd_21⟩
theorem hd_X10_drawn_v : yX10_drawn.cls = RX10 ∧ yX10_drawn.cls ≠ "java/lang/invoke/MethodHandle" ∧ yX10_drawn.cls ≠ "java/lang/invoke/VarHandle" ∧ (parseMethodDescriptor yX10_drawn.desc).map (fun d => d.parameters.length) = some 2 := ⟨rfl, pc_1.1, pc_1.2, pd_21⟩
theorem hd_X9_image_v : yX9_image.cls = RX9 ∧ yX9_image.cls ≠ "java/lang/invoke/MethodHandle" ∧ yX9_image.cls ≠ "java/lang/invoke/VarHandle" ∧ (parseMethodDescriptor yX9_image.desc).map (fun d => d.parameters.length) = some 1 := ⟨rfl, pc_133.1, pc_133.2, pd_0⟩
theorem hd_X10_image_v : yX10_image.cls = RX10 ∧ yX10_image.cls ≠ "java/lang/invoke/MethodHandle" ∧ yX10_image.cls ≠ "java/lang/invoke/VarHandle" ∧ (parseMethodDescriptor yX10_image.desc).map (fun d => d.parameters.length) = some 1 := ⟨rfl, pc_1.1, pc_1.2, pd_0⟩
theorem hd_X9_back_v : yX9_back.cls = RX9 ∧ yX9_back.cls ≠ "java/lang/invoke/MethodHandle" ∧ yX9_back.cls ≠ "java/lang/invoke/VarHandle" ∧ (parseMethodDescriptor yX9_back.desc).map (fun d => d.parameters.length) = some 1 := ⟨rfl, pc_133.1, pc_133.2, pd_0⟩
theorem hd_X10_back_v : yX10_back.cls = RX10 ∧ yX10_back.cls ≠ "java/lang/invoke/MethodHandle" ∧ yX10_back.cls ≠ "java/lang/invoke/VarHandle" ∧ (parseMethodDescriptor yX10_back.desc).map (fun d => d.parameters.length) = some 1 := ⟨rfl, pc_1.1, pc_1.2, pd_0⟩
theorem hd_X9_count_v : yX9_count.cls = RX9 ∧ yX9_count.cls ≠ "java/lang/invoke/MethodHandle" ∧ yX9_count.cls ≠ "java/lang/invoke/VarHandle" ∧ (parseMethodDescriptor yX9_count.desc).map (fun d => d.parameters.length) = some 1 := ⟨rfl, pc_133.1, pc_133.2, pd_0⟩
theorem hd_X10_count_v : yX10_count.cls = RX10 ∧ yX10_count.cls ≠ "java/lang/invoke/MethodHandle" ∧ yX10_count.cls ≠ "java/lang/invoke/VarHandle" ∧ (parseMethodDescriptor yX10_count.desc).map (fun d => d.parameters.length) = some 1 := ⟨rfl, pc_1.1, pc_1.2, pd_0⟩
theorem hd_X9_status_v : yX9_status.cls = RX9 ∧ yX9_status.cls ≠ "java/lang/invoke/MethodHandle" ∧ yX9_status.cls ≠ "java/lang/invoke/VarHandle" ∧ (parseMethodDescriptor yX9_status.desc).map (fun d => d.parameters.length) = some 0 := ⟨rfl, pc_133.1, pc_133.2, pd_7⟩
theorem hd_X10_status_v : yX10_status.cls = RX10 ∧ yX10_status.cls ≠ "java/lang/invoke/MethodHandle" ∧ yX10_status.cls ≠ "java/lang/invoke/VarHandle" ∧ (parseMethodDescriptor yX10_status.desc).map (fun d => d.parameters.length) = some 0 := ⟨rfl, pc_1.1, pc_1.2, pd_7⟩
