theorem tabs_keep {q o : dS} {n : Nat} (h : tabs q n) (h37 : o.1 0 37 = q.1 0 37) (h38 : o.1 0 38 = q.1 0 38) (h16 : o.1 16 = q.1 16) (h17 : o.1 17 = q.1 17) (h18 : o.1 18 = q.1 18) : tabs o n := by
  obtain ⟨a1, a2, a3, a4, a5⟩ := h
  refine ⟨by rw [h37]; exact a1, by rw [h38]; exact a2, fun p j hp hj => ?_, fun p k hp h1 hk => ?_, fun p k hp h1 hk => ?_⟩
  · rw [h16]; exact a3 p j hp hj
  · rw [h17]; exact a4 p k hp h1 hk
  · rw [h18]; exact a5 p k hp h1 hk
theorem ok_laysPrices2 (q : dS) (n : Nat) (hT : TS q) (hn : (q.1 2 29).toInt = (n : Int)) : dOk (zX10_laysPrices q) (fun o => TS o ∧ dFr [12, 16, 17, 18, 19, 20] [22, 23, 24, 25, 37, 38] q o ∧ tabs o n) := by
  unfold zX10_laysPrices
  refine dOk_V (ok_laysTables2 q n hT hn) (fun q3 h3 => ?_)
  obtain ⟨hT3, hF3, ht3⟩ := h3
  refine dOk_mono (ok_laysPricesL q3 hT3) (fun o ho => ?_)
  obtain ⟨hTo, hFo⟩ := ho
  replace hFo : dFr [12, 20] [22, 23, 24, 25] q3 o := hFo.w (by decide) (by decide)
  refine ⟨hTo, (hF3.w (by decide) (by decide) : dFr [12, 16, 17, 18, 19, 20] [22, 23, 24, 25, 37, 38] q q3).t hFo (by decide) (by decide), ?_⟩
  exact tabs_keep ht3 (hFo.2 37 (by decide)) (hFo.2 38 (by decide)) (hFo.1 16 (by decide) (by decide)) (hFo.1 17 (by decide) (by decide)) (hFo.1 18 (by decide) (by decide))
def dP2 (q : dS) (n : Nat) (o : dS) : Prop := TS o ∧ dFr [12, 16, 17, 18, 19, 20, 21, 22, 23] [22, 23, 24, 25, 37, 38] q o ∧ tabs o n ∧ Gq (prV o n) n (o.1 21)
