/-! the start: both worlds at the loop's head -/
def z0K : dK := (fun _ _ => 0, fun _ _ => 0, [])
def z0S : dS := (fun j => if j = 2 then (upd (upd (fun _ => 0) 26 1) 32 (-1)) else if j = 6 then wU 128 else fun _ => 0, fun _ _ => 0)
def stQ : dK := (cui (cui (cui (cui (cui (cui (cui (cui (cui (cui (cui (cui z0K 0 13 (-1)) 0 15 (-1)) 1 1 1) 1 9 (-1)) 22 3 (-1)) 24 10 (-1)) 32 17 (-1)) 32 18 (-1)) 49 1 1) 49 9 (-1)) 56 1 1) 56 9 (-1))
def stM : dS := (dui (dui (dui z0S 0 14 (-1)) 0 46 (-1)) 0 54 (-1))
def stA (l : List Nat) : Nat → Nat := fun j => l.getD j 0
theorem twl_0 (k : Nat) : twl k ≤ 0 ∧ 0 ≤ twh k ∧ stl k ≤ 0 ∧ 0 ≤ sth k := by
  unfold twl twh stl sth
  refine ⟨?_, ?_, ?_, ?_⟩
  all_goals
    repeat' split
    all_goals decide
theorem ite_le0 {c : Prop} [Decidable c] {a b : Int} (h1 : a ≤ 0) (h2 : b ≤ 0) : (if c then a else b) ≤ 0 := by
  by_cases h : c
  · rw [if_pos h]; exact h1
  · rw [if_neg h]; exact h2
theorem ite_ge0 {c : Prop} [Decidable c] {a b : Int} (h1 : 0 ≤ a) (h2 : 0 ≤ b) : 0 ≤ (if c then a else b) := by
  by_cases h : c
  · rw [if_pos h]; exact h1
  · rw [if_neg h]; exact h2
theorem clo_0 (j k : Nat) : clo j k ≤ 0 := by
  have h := twl_0 k
  unfold clo
  repeat' first | exact h.1 | exact h.2.2.1 | apply ite_le0 | decide
theorem chi_0 (j k : Nat) : 0 ≤ chi j k := by
  have h := twl_0 k
  unfold chi
  repeat' first | exact h.2.1 | exact h.2.2.2 | apply ite_ge0 | decide
theorem tc_z0 : TC z0K := by
  have h0 : Int32.toInt 0 = 0 := by decide
  refine ⟨fun j k => ⟨?_, ?_⟩, ⟨?_, fun i => ⟨?_, ?_, ?_, ?_, ?_⟩⟩, Or.inl ⟨rfl, rfl, rfl, rfl, rfl, rfl, rfl⟩, fun k => ⟨?_, ?_⟩, fun t ht => absurd ht List.not_mem_nil⟩
  · show clo j k ≤ Int32.toInt 0; rw [h0]; exact clo_0 j k
  · show Int32.toInt 0 ≤ chi j k; rw [h0]; exact chi_0 j k
  · show Int32.toInt 0 ≤ ((0 : Nat) : Int); decide
  · show Int32.toInt 0 ≤ ((0 : Nat) : Int); decide
  · show Int32.toInt 0 ≤ ((0 : Nat) : Int); decide
  · show Int32.toInt 0 ≤ ((0 : Nat) : Int); decide
  · show Int32.toInt (0 &&& 15) ≤ 12; decide
  · show Int32.toInt (0 &&& 7) ≤ 5; decide
  · show 0 ≤ Int64.toInt 0; decide
  · show 0 ≤ Int64.toInt 0; decide

theorem tc_st : TC stQ := (sa_56_9 (st_56_1 (sa_49_9 (st_49_1 (sa_32_18 (sa_32_17 (sa_24_10 (sa_22_3 (sa_1_9 (st_1_1 (sa_0_15 (sa_0_13 tc_z0)) (by decide) (by decide))))))) (by decide) (by decide))) (by decide) (by decide)))
theorem klo_0 (i : Nat) : klo i ≤ 0 ∧ 0 ≤ khi i := by
  unfold klo khi
  refine ⟨?_, ?_⟩
  all_goals
    repeat' split
    all_goals first | decide | omega
theorem f0_0 (i : Nat) : f0lo i ≤ 0 ∧ 0 ≤ f0hi i := by
  unfold f0lo f0hi
  refine ⟨?_, ?_⟩
  all_goals
    repeat' split
    all_goals decide
theorem tlo_0 (j i : Nat) : tlo j i ≤ 0 ∧ 0 ≤ thi j i := by
  have h1 := klo_0 i
  have h2 := klo_0 (i % 5640)
  have h3 := klo_0 (i % 14)
  have h4 := klo_0 (i % 15)
  have h5 := f0_0 i
  unfold tlo thi
  refine ⟨?_, ?_⟩
  all_goals
    repeat' split
    all_goals first | exact h1.1 | exact h1.2 | exact h2.1 | exact h2.2 | exact h3.1 | exact h3.2 | exact h4.1 | exact h4.2 | exact h5.1 | exact h5.2 | decide
theorem ts_z0 : TS z0S := by
  have h0 : Int32.toInt 0 = 0 := by decide
  have e2 : ∀ i : Nat, z0S.1 2 i = (if i = 32 then (-1 : Int32) else if i = 26 then 1 else 0) := fun i => rfl
  refine ⟨fun j i => ?_, ⟨?_, fun t _ ht => ?_⟩, fun k hk hn => ?_, fun i hi => ?_⟩
  · by_cases c2 : j = 2
    · subst c2
      rw [e2]
      show klo i ≤ _ ∧ _ ≤ khi i
      by_cases c : i = 32
      · subst c; exact ⟨by decide, by decide⟩
      · rw [if_neg c]
        by_cases c3 : i = 26
        · subst c3; exact ⟨by decide, by decide⟩
        · rw [if_neg c3, h0]; exact klo_0 i
    · by_cases c6 : j = 6
      · subst c6; exact ti_rg _
      · have e : z0S.1 j i = 0 := by
          show (if j = 2 then _ else if j = 6 then wU 128 else fun _ => (0 : Int32)) i = 0
          rw [if_neg c2, if_neg c6]
        rw [e, h0]; exact tlo_0 j i
  · rw [e2, e2]; decide
  · rw [e2] at ht
    have h1 : Int32.toInt (if (31 : Nat) = 32 then (-1 : Int32) else if (31 : Nat) = 26 then 1 else 0) = 0 := by decide
    omega
  · exact absurd rfl hn
  · show wU 128 i = wB i
    exact if_pos hi

theorem ts_st : TS stM := (ts_f (ts_f (ts_f ts_z0 (by decide) (by decide)) (by decide) (by decide)) (by decide) (by decide))
set_option maxRecDepth 100000 in
set_option maxHeartbeats 4000000 in
theorem st_w (ty : Nat → ClassId) (a0 a1 a2 a3 a4 a5 a6 a7 a8 a9 a10 a11 a12 a13 a14 a15 a16 a17 a18 a19 a20 a21 a22 a23 a24 a25 a26 a27 a28 a29 a30 a31 a32 a33 a34 a35 a36 a37 a38 a39 a40 a41 a42 a43 a44 a45 a46 a47 a48 a49 a50 a51 a52 a53 a54 a55 a56 a57 a58 a59 a60 a61 a62 b0 b1 b2 b3 b4 b5 b6 b7 b8 b9 b10 b11 b12 b13 b14 b15 b16 b17 b18 b19 b20 b21 b22 b23 b24 b25 b26 b27 : Nat) (F7 F8 F55 F62 : Nat → Option Nat) (h7 : F7 = dLs (stA [a0, a1, a2, a3, a4, a5, a6, a7, a8, a9, a10, a11, a12, a13, a14, a15, a16, a17, a18, a19, a20, a21, a22, a23, a24, a25, a26, a27, a28, a29, a30, a31, a32, a33, a34, a35, a36, a37, a38, a39, a40, a41, a42, a43, a44, a45, a46, a47, a48, a49, a50, a51, a52, a53, a54, a55, a56, a57, a58, a59, a60, a61, a62]) (fun _ => 0)) (h8 : F8 = dIm a49 a56) (h55 : F55 = dLs (stA [a0, a1, a2, a3, a4, a5, a6, a7, a8, a9, a10, a11, a12, a13, a14, a15, a16, a17, a18, a19, a20, a21, a22, a23, a24, a25, a26, a27, a28, a29, a30, a31, a32, a33, a34, a35, a36, a37, a38, a39, a40, a41, a42, a43, a44, a45, a46, a47, a48, a49, a50, a51, a52, a53, a54, a55, a56, a57, a58, a59, a60, a61, a62]) (fun _ => 0)) (h62 : F62 = dLs (stA [a0, a1, a2, a3, a4, a5, a6, a7, a8, a9, a10, a11, a12, a13, a14, a15, a16, a17, a18, a19, a20, a21, a22, a23, a24, a25, a26, a27, a28, a29, a30, a31, a32, a33, a34, a35, a36, a37, a38, a39, a40, a41, a42, a43, a44, a45, a46, a47, a48, a49, a50, a51, a52, a53, a54, a55, a56, a57, a58, a59, a60, a61, a62]) (fun _ => 0)) : [(a0, .inr (9, [.ref a1, .ref a8, .ref a9, .ref a10, .ref a15, .ref a18, .ref a20, .ref a22, .ref a24, .ref a25, .ref a32, .ref a46, .int 0, .int (-1), .int 0, .int (-1), .ref a47, .ref a48, .int 0])), (a1, .inr (6, [.ref a2, .int 1, .int 0, .int 0, .ref a5, .ref a6, .int 0, .ref a7, .int 0, .int (-1)])), (a2, .inr (8, [.ref a3, .ref a4, .int 0, .int 0, .int 0])), (a3, .inl (ty 0, 6, .inl (fun _ => 0))), (a4, .inl (ty 0, 6, .inl (fun _ => 0))), (a5, .inl (ty 0, 6, .inl (fun _ => 0))), (a6, .inl (ty 0, 6, .inl (fun _ => 0))), (a7, .inl (ty 5, 6, .inr (.inr (.inr (.inr F7))))), (a8, .inl (ty 4, 2, .inr (.inr (.inr (.inr F8))))), (a9, .inl (ty 2, 2, .inl (fun _ => 0))), (a10, .inr (0, [.ref a11, .ref a12, .int 0, .ref a13, .ref a14, .int 0])), (a11, .inl (ty 1, 16, .inr (.inl (fun _ => 0)))), (a12, .inl (ty 0, 16, .inl (fun _ => 0))), (a13, .inl (ty 1, 16, .inr (.inl (fun _ => 0)))), (a14, .inl (ty 0, 16, .inl (fun _ => 0))), (a15, .inr (8, [.ref a16, .ref a17, .int 0, .int 0, .int 0])), (a16, .inl (ty 0, 6, .inl (fun _ => 0))), (a17, .inl (ty 0, 6, .inl (fun _ => 0))), (a18, .inr (2, [.ref a19, .int 0])), (a19, .inl (ty 0, 64, .inl (fun _ => 0))), (a20, .inr (1, [.ref a18, .ref a21, .null])), (a21, .inl (ty 0, 9, .inl (fun _ => 0))), (a22, .inr (5, [.ref a18, .ref a23, .int 0, .int (-1)])), (a23, .inl (ty 0, 17, .inl (fun _ => 0))), (a24, .inr (4, [.null, .int 0, .int 0, .null, .int 0, .int 0, .int 0, .int 0, .int 0, .int 0, .int (-1)])), (a25, .inr (7, [.ref a26, .ref a27, .ref a28, .ref a29, .ref a30, .ref a31, .int 0, .int 0])), (a26, .inl (ty 0, 12, .inl (fun _ => 0))), (a27, .inl (ty 0, 12, .inl (fun _ => 0))), (a28, .inl (ty 0, 12, .inl (fun _ => 0))), (a29, .inl (ty 0, 12, .inl (fun _ => 0))), (a30, .inl (ty 0, 12, .inl (fun _ => 0))), (a31, .inl (ty 0, 400, .inl (fun _ => 0))), (a32, .inr (3, [.ref a33, .ref a34, .ref a35, .ref a36, .ref a37, .ref a38, .ref a39, .ref a40, .ref a41, .ref a42, .ref a43, .ref a44, .ref a45, .int 0, .int 0, .int 0, .int 0, .int (-1), .int (-1), .int 0])), (a33, .inl (ty 0, 6, .inl (fun _ => 0))), (a34, .inl (ty 0, 6, .inl (fun _ => 0))), (a35, .inl (ty 0, 504, .inl (fun _ => 0))), (a36, .inl (ty 0, 504, .inl (fun _ => 0))), (a37, .inl (ty 0, 504, .inl (fun _ => 0))), (a38, .inl (ty 0, 100, .inl (fun _ => 0))), (a39, .inl (ty 0, 0, .inl (fun _ => 0))), (a40, .inl (ty 0, 0, .inl (fun _ => 0))), (a41, .inl (ty 0, 0, .inl (fun _ => 0))), (a42, .inl (ty 0, 0, .inl (fun _ => 0))), (a43, .inl (ty 0, 0, .inl (fun _ => 0))), (a44, .inl (ty 0, 0, .inl (fun _ => 0))), (a45, .inl (ty 0, 0, .inl (fun _ => 0))), (a46, .inl (ty 0, 400, .inl (fun _ => 0))), (a47, .inl (ty 1, 20, .inr (.inl (fun _ => 0)))), (a48, .inl (ty 0, 7, .inl (fun _ => 0))), (a49, .inr (6, [.ref a50, .int 1, .int 0, .int 0, .ref a53, .ref a54, .int 0, .ref a55, .int 0, .int (-1)])), (a50, .inr (8, [.ref a51, .ref a52, .int 0, .int 0, .int 0])), (a51, .inl (ty 0, 6, .inl (fun _ => 0))), (a52, .inl (ty 0, 6, .inl (fun _ => 0))), (a53, .inl (ty 0, 6, .inl (fun _ => 0))), (a54, .inl (ty 0, 6, .inl (fun _ => 0))), (a55, .inl (ty 5, 6, .inr (.inr (.inr (.inr F55))))), (a56, .inr (6, [.ref a57, .int 1, .int 0, .int 0, .ref a60, .ref a61, .int 0, .ref a62, .int 0, .int (-1)])), (a57, .inr (8, [.ref a58, .ref a59, .int 0, .int 0, .int 0])), (a58, .inl (ty 0, 6, .inl (fun _ => 0))), (a59, .inl (ty 0, 6, .inl (fun _ => 0))), (a60, .inl (ty 0, 6, .inl (fun _ => 0))), (a61, .inl (ty 0, 6, .inl (fun _ => 0))), (a62, .inl (ty 5, 6, .inr (.inr (.inr (.inr F62))))), (b0, .inr (10, [.int 0, .ref b1, .ref b2, .ref b3, .ref b4, .ref b5, .int 0, .ref b6, .int 0, .int 0, .int 0, .ref b7, .ref b8, .int 0, .int (-1), .ref b9, .ref b10, .ref b11, .int 0, .int 0, .int 0, .int 0, .int 0, .int 0, .int 0, .int 0, .ref b12, .int 0, .int 0, .ref b13, .ref b14, .ref b15, .int 0, .ref b16, .ref b17, .ref b18, .ref b19, .int 0, .int 0, .ref b20, .ref b21, .ref b22, .ref b23, .ref b24, .ref b25, .ref b26, .int (-1), .int 0, .int 0, .int 0, .int 0, .int 0, .long 0, .ref b27, .int (-1), .int 0])), (b1, .inl (ty 0, 7, .inl (fun _ => 0))), (b2, .inl (ty 0, 5640, .inl (upd (upd (fun _ => 0) 26 1) 32 (-1)))), (b3, .inl (ty 0, 11280, .inl (fun _ => 0))), (b4, .inl (ty 2, 2, .inl (fun _ => 0))), (b5, .inl (ty 0, 28, .inl (fun _ => 0))), (b6, .inl (ty 3, 128, .inl (wU 128))), (b7, .inl (ty 3, 400, .inl (fun _ => 0))), (b8, .inl (ty 0, 5, .inl (fun _ => 0))), (b9, .inl (ty 0, 401, .inl (fun _ => 0))), (b10, .inl (ty 0, 401, .inl (fun _ => 0))), (b11, .inl (ty 0, 401, .inl (fun _ => 0))), (b12, .inl (ty 0, 9, .inl (fun _ => 0))), (b13, .inl (ty 2, 6, .inl (fun _ => 0))), (b14, .inl (ty 0, 240, .inl (fun _ => 0))), (b15, .inl (ty 0, 240, .inl (fun _ => 0))), (b16, .inl (ty 0, 4320, .inl (fun _ => 0))), (b17, .inl (ty 0, 5040, .inl (fun _ => 0))), (b18, .inl (ty 0, 448, .inl (fun _ => 0))), (b19, .inl (ty 0, 6, .inl (fun _ => 0))), (b20, .inl (ty 0, 588, .inl (fun _ => 0))), (b21, .inl (ty 0, 46080, .inl (fun _ => 0))), (b22, .inl (ty 0, 46080, .inl (fun _ => 0))), (b23, .inl (ty 0, 46080, .inl (fun _ => 0))), (b24, .inl (ty 2, 46080, .inl (fun _ => 0))), (b25, .inl (ty 0, 6, .inl (fun _ => 0))), (b26, .inl (ty 1, 21, .inr (.inl (fun _ => 0)))), (b27, .inl (ty 0, 14, .inl (fun _ => 0)))] = wF ty (stA [a0, a1, a2, a3, a4, a5, a6, a7, a8, a9, a10, a11, a12, a13, a14, a15, a16, a17, a18, a19, a20, a21, a22, a23, a24, a25, a26, a27, a28, a29, a30, a31, a32, a33, a34, a35, a36, a37, a38, a39, a40, a41, a42, a43, a44, a45, a46, a47, a48, a49, a50, a51, a52, a53, a54, a55, a56, a57, a58, a59, a60, a61, a62]) stQ ++ w10 ty (stA [b0, b1, b2, b3, b4, b5, b6, b7, b8, b9, b10, b11, b12, b13, b14, b15, b16, b17, b18, b19, b20, b21, b22, b23, b24, b25, b26, b27]) stM := by
  subst h7 h8 h55 h62
  rfl
theorem dLs_0 (ad : Nat → Nat) : (fun _ => none : Nat → Option Nat) = dLs ad (fun _ => 0) := by
  funext i
  unfold dLs
  by_cases c : i < 6
  · rw [if_pos c, if_pos rfl]
  · rw [if_neg c]
theorem dIm_0 (a b : Nat) : va_up (va_up (fun _ => none) 0 (some a)) 1 (some b) = dIm a b := by
  funext i
  unfold va_up dIm
  by_cases c : i = 0
  · subst c; rfl
  · by_cases c2 : i = 1
    · subst c2; rfl
    · simp only [if_neg c, if_neg c2]
