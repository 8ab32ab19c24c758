/-! the tables as functions of numbers; that a turn undoes itself, decided for each size -/
def bitN (h s : Nat) : Nat := (h / 2 ^ s) % 2
def hbB (h k p : Nat) : Nat := if p < k then 1 - bitN h (k - 1 - p) else bitN h p
def hbN (h k : Nat) : Nat → Nat
  | 0 => 0
  | p + 1 => hbN h k p + hbB h k p * 2 ^ p
theorem hb_bit : ∀ h : Nat, h < 64 → ∀ s : Nat, s < 6 → ((nI h >>> (nI s &&& 31)) &&& 1 : Int32) = nI (bitN h s) := by decide +kernel
theorem hb_or : ∀ p : Nat, p < 6 → ∀ a : Nat, a < 64 → a < 2 ^ p → ∀ b : Nat, b < 2 → (nI a ||| (nI b <<< (nI p &&& 31)) : Int32) = nI (a + b * 2 ^ p) := by decide +kernel
/-- a number worked out ahead of its use -/
def sqN {α : Type} (x : Nat) (f : Nat → α) : α :=
  match x with
  | 0 => f 0
  | k + 1 => f (k + 1)
theorem sqN_e {α : Type} (x : Nat) (f : Nat → α) : sqN x f = f x := by
  cases x with
  | zero => rfl
  | succ k => rfl
/-- a test over all numbers below -/
def alB : Nat → (Nat → Bool) → Bool
  | 0, _ => true
  | c + 1, f => f c && alB c f
theorem alB_e {f : Nat → Bool} : ∀ {c : Nat}, alB c f = true → ∀ x : Nat, x < c → f x = true := by
  intro c
  induction c with
  | zero => intro _ x hx; exact absurd hx (Nat.not_lt_zero x)
  | succ c ih =>
    intro h x hx
    have h2 : (f c && alB c f) = true := h
    rw [Bool.and_eq_true] at h2
    rcases Nat.lt_or_ge x c with z | z
    · exact ih h2.2 x z
    · have e : x = c := by omega
      rw [e]; exact h2.1
def hbT (n k h : Nat) : Bool := sqN (hbN h k n) fun a => Nat.ble (a + 1) (2 ^ n) && Nat.beq (hbN a k n) h
theorem hb_all : alB 7 (fun n => alB 7 (fun k => Nat.ble (k + 1) 1 || Nat.ble (n + 1) k || alB (2 ^ n) (hbT n k))) = true := by decide +kernel
theorem hb_inv (n : Nat) (hn : n < 7) (k : Nat) (hk : k < 7) (h : Nat) (h1 : 1 ≤ k) (hkn : k ≤ n) (hh : h < 2 ^ n) : hbN h k n < 2 ^ n ∧ hbN (hbN h k n) k n = h := by
  have a1 := alB_e (alB_e hb_all n hn) k hk
  have b1 : Nat.ble (k + 1) 1 = false := by
    cases c : Nat.ble (k + 1) 1 with
    | false => rfl
    | true => have := Nat.le_of_ble_eq_true c; omega
  have b2 : Nat.ble (n + 1) k = false := by
    cases c : Nat.ble (n + 1) k with
    | false => rfl
    | true => have := Nat.le_of_ble_eq_true c; omega
  replace a1 : (Nat.ble (k + 1) 1 || Nat.ble (n + 1) k || alB (2 ^ n) (hbT n k)) = true := a1
  rw [b1, b2, Bool.false_or, Bool.false_or] at a1
  have a2 := alB_e a1 h hh
  unfold hbT at a2
  rw [sqN_e, Bool.and_eq_true] at a2
  exact ⟨Nat.le_of_ble_eq_true a2.1, Nat.eq_of_beq_eq_true a2.2⟩
theorem bitN_le (h s : Nat) : bitN h s ≤ 1 := by unfold bitN; omega
theorem hbB_le (h k p : Nat) : hbB h k p ≤ 1 := by
  unfold hbB
  have h1 := bitN_le h (k - 1 - p)
  have h2 := bitN_le h p
  by_cases c : p < k
  · rw [if_pos c]; omega
  · rw [if_neg c]; exact h2
theorem hbN_lt (h k : Nat) : ∀ p : Nat, hbN h k p < 2 ^ p := by
  intro p
  induction p with
  | zero => exact Nat.zero_lt_one
  | succ p ih =>
    have h1 := hbB_le h k p
    have h2 : hbB h k p * 2 ^ p ≤ 1 * 2 ^ p := Nat.mul_le_mul_right _ h1
    show hbN h k p + hbB h k p * 2 ^ p < 2 ^ (p + 1)
    rw [Nat.pow_succ]
    omega
theorem ok_headsBehind2 (q : dS) (n h k : Nat) (hT : TS q) (hn : (q.1 2 29).toInt = (n : Int)) (hh : h < 64) (hk : 1 ≤ k) (hkn : k ≤ n) : dOk (zX10_headsBehind q (nI h) (nI k)) (fun o => o.2 = q ∧ o.1 = nI (hbN h k n)) := by
  have fs : 0 ≤ Int32.toInt (q.1 2 29) ∧ Int32.toInt (q.1 2 29) ≤ 6 := hT.1 2 29
  have tk : Int32.toInt (nI k) = (k : Int) := nI_toInt (by omega)
  unfold zX10_headsBehind zX10_headsBehind_5
  refine dFix_ok (fun (a : dS × Int32 × Int32 × Int32 × Int32) => a.1 = q ∧ a.2.1 = nI h ∧ a.2.2.1 = nI k ∧ ∃ p : Nat, p ≤ n ∧ a.2.2.2.2 = nI p ∧ a.2.2.2.1 = nI (hbN h k p)) (fun (a : dS × Int32 × Int32 × Int32 × Int32) => (6 - Int32.toInt a.2.2.2.2).toNat) ?_ _ ⟨rfl, rfl, rfl, 0, by omega, rfl, rfl⟩ _ (dF_gt (by show (6 - Int32.toInt 0).toNat < 1000000000000; decide))
  intro a ha k5 hk5
  obtain ⟨qa, x1, x2, x3, x4⟩ := a
  obtain ⟨e0, e1, e2, p, hp, e4, e3⟩ := ha
  replace e0 : qa = q := e0
  replace e1 : x1 = nI h := e1
  replace e2 : x2 = nI k := e2
  replace e4 : x4 = nI p := e4
  replace e3 : x3 = nI (hbN h k p) := e3
  subst e0 e1 e2 e4 e3
  have tp : Int32.toInt (nI p) = (p : Int) := nI_toInt (by omega)
  have hlt := hbN_lt h k p
  show dOk (zX10_headsBehind_5b (fun q x1 x2 x3 x4 => k5 (q, x1, x2, x3, x4)) qa (nI h) (nI k) (nI (hbN h k p)) (nI p)) _
  have h42 : ∀ b : Nat, b = hbB h k p → p < n → dOk (zX10_headsBehind_42 (fun q x1 x2 x3 x4 => k5 (q, x1, x2, x3, x4)) qa (nI h) (nI k) (nI p) (nI b) (nI (hbN h k p))) (fun o => o.2 = qa ∧ o.1 = nI (hbN h k n)) := by
    intro b hb hpn
    have hb1 := hbB_le h k p
    have h6 : (2 : Nat) ^ p ≤ 2 ^ 6 := Nat.pow_le_pow_right (by decide) (by omega)
    unfold zX10_headsBehind_42
    rw [hb_or p (by omega) (hbN h k p) (by omega) hlt b (by omega)]
    have t1 : Int32.toInt (nI p + 1) = (p : Int) + 1 := ti_add tp (by decide) (by omega) (by omega)
    refine hk5 (qa, nI h, nI k, nI (hbN h k p + b * 2 ^ p), nI p + 1) ⟨rfl, rfl, rfl, p + 1, by omega, nI_1 p, ?_⟩ ?_
    · show nI (hbN h k p + b * 2 ^ p) = nI (hbN h k (p + 1))
      rw [hb]; rfl
    · show (6 - Int32.toInt (nI p + 1)).toNat < (6 - Int32.toInt (nI p)).toNat
      omega
  unfold zX10_headsBehind_5b
  refine dOk_B (ok_size qa hT) (fun r1 q3 hr => ?_)
  have eq3 : q3 = qa := hr.1
  have hr1 : Int32.toInt r1 = Int32.toInt (qa.1 2 29) := hr.2.1
  subst eq3
  refine dOk_le rfl tp (fun c => ?_) (fun c => ?_)
  · have : p = n := by omega
    subst this
    exact dOk_some ⟨rfl, rfl⟩
  refine dOk_le tk tp (fun c2 => ?_) (fun c2 => ?_)
  · rw [hb_bit h hh p (by omega)]
    exact h42 (bitN h p) (by unfold hbB; rw [if_neg (by omega)]) (by omega)
  · have es : nI k - 1 - nI p = nI (k - 1 - p) := by
      rw [show (1 : Int32) = nI 1 from rfl, pk_sub (by omega), pk_sub (by omega)]
    rw [es, hb_bit h hh (k - 1 - p) (by omega)]
    refine dOk_L (fun v4 e4 => ?_)
    have hb := bitN_le h (k - 1 - p)
    have e5 : (1 : Int32) - v4 = nI (1 - bitN h (k - 1 - p)) := by
      rw [e4, show (1 : Int32) = nI 1 from rfl, pk_sub hb]
    rw [e5]
    exact h42 (1 - bitN h (k - 1 - p)) (by unfold hbB; rw [if_pos (by omega)]) (by omega)
/-! orders: ranks of an order as a list, the number of a row of ranks -/
def selN (u : Nat) : Nat → Nat → Nat → Nat
  | 0, _, r => r
  | f + 1, s, r => if u.testBit r then selN u f s (r + 1) else if s = 0 then r else selN u f (s - 1) (r + 1)
def facN : Nat → Nat
  | 0 => 1
  | n + 1 => (n + 1) * facN n
def rkS : Nat → Nat → Nat → List Nat
  | 0, _, _ => []
  | m + 1, u, r => selN u 7 (r / facN m) 0 :: rkS m (u ||| 2 ^ selN u 7 (r / facN m) 0) (r % facN m)
def cntL (x : Nat) : List Nat → Nat
  | [] => 0
  | y :: ys => (if y < x then 1 else 0) + cntL x ys
def nmL : Nat → List Nat → Nat
  | acc, [] => acc
  | acc, x :: xs => nmL (acc * (xs.length + 1) + cntL x xs) xs
def lnV (rk : List Nat) (k j : Nat) : Nat := if j < k then rk.getD (k - 1 - j) 0 else rk.getD j 0
def lnL (rk : List Nat) (k : Nat) : Nat → Nat → List Nat
  | 0, _ => []
  | m + 1, j => lnV rk k j :: lnL rk k m (j + 1)
def obL (n o k : Nat) : Nat := nmL 0 (lnL (rkS n 0 o) k n 0)
theorem lnL_len (rk : List Nat) (k : Nat) : ∀ m j : Nat, (lnL rk k m j).length = m := by
  intro m
  induction m with
  | zero => intro j; rfl
  | succ m ih => intro j; exact congrArg (· + 1) (ih (j + 1))
theorem lnL_get (rk : List Nat) (k : Nat) : ∀ m j i : Nat, i < m → (lnL rk k m j).getD i 0 = lnV rk k (j + i) := by
  intro m
  induction m with
  | zero => intro j i h; exact absurd h (Nat.not_lt_zero i)
  | succ m ih =>
    intro j i h
    cases i with
    | zero => rfl
    | succ i =>
      have h1 := ih (j + 1) i (Nat.lt_of_succ_lt_succ h)
      rw [show j + (i + 1) = j + 1 + i by omega]
      exact h1
theorem rk_6 : ∀ n : Nat, n < 7 → ∀ p : Nat, p < 720 → p < facN n → ∀ j : Nat, j < 6 → j < n → (rkS n 0 p).getD j 0 < 6 := by decide +kernel
/-! the same with each number worked out ahead: for the kernel -/
def rkF : Nat → Nat → Nat → List Nat
  | 0, _, _ => []
  | m + 1, u, r => sqN (selN u 7 (r / facN m) 0) fun x => sqN (u ||| 2 ^ x) fun u2 => sqN (r % facN m) fun r2 => x :: rkF m u2 r2
theorem rkF_e : ∀ m u r : Nat, rkF m u r = rkS m u r := by
  intro m
  induction m with
  | zero => intro u r; rfl
  | succ m ih =>
    intro u r
    show (sqN (selN u 7 (r / facN m) 0) fun x => sqN (u ||| 2 ^ x) fun u2 => sqN (r % facN m) fun r2 => x :: rkF m u2 r2) = _
    rw [sqN_e, sqN_e, sqN_e, ih]
    rfl
/-- a row of numbers worked out ahead of its use -/
def sqL {α : Type} : List Nat → (List Nat → α) → α
  | [], f => f []
  | x :: xs, f => sqN x fun y => sqL xs fun ys => f (y :: ys)
theorem sqL_e {α : Type} : ∀ (l : List Nat) (f : List Nat → α), sqL l f = f l := by
  intro l
  induction l with
  | nil => intro f; rfl
  | cons x xs ih =>
    intro f
    show (sqN x fun y => sqL xs fun ys => f (y :: ys)) = _
    rw [sqN_e, ih]
def nmF : Nat → List Nat → Nat
  | acc, [] => acc
  | acc, x :: xs => sqN (acc * (xs.length + 1) + cntL x xs) fun a => nmF a xs
theorem nmF_e : ∀ (l : List Nat) (acc : Nat), nmF acc l = nmL acc l := by
  intro l
  induction l with
  | nil => intro acc; rfl
  | cons x xs ih =>
    intro acc
    show (sqN (acc * (xs.length + 1) + cntL x xs) fun a => nmF a xs) = _
    rw [sqN_e, ih]
    rfl
def obF {α : Type} (n o k : Nat) (f : Nat → α) : α := sqL (rkF n 0 o) fun rk => sqL (lnL rk k n 0) fun l => sqN (nmF 0 l) f
theorem obF_e {α : Type} (n o k : Nat) (f : Nat → α) : obF n o k f = f (obL n o k) := by
  unfold obF obL
  rw [sqL_e, sqL_e, sqN_e, nmF_e, rkF_e]
def obT (n k o : Nat) : Bool := obF n o k fun a => Nat.ble (a + 1) (facN n) && obF n a k fun b => Nat.beq b o
theorem obT_e {n k o : Nat} (h : obT n k o = true) : obL n o k < facN n ∧ obL n (obL n o k) k = o := by
  unfold obT at h
  rw [obF_e, obF_e, Bool.and_eq_true] at h
  exact ⟨Nat.le_of_ble_eq_true h.1, Nat.eq_of_beq_eq_true h.2⟩
theorem ob_all1 : alB 5 (fun n => alB 5 (fun k => Nat.ble (k + 1) 1 || Nat.ble (n + 1) k || alB (facN n) (obT n k))) = true := by decide +kernel
theorem ob_all5 : alB 5 (fun k => alB 10 (fun a => alB 12 (fun b => sqN (12 * a + b) (obT 5 (k + 1))))) = true := by decide +kernel
theorem ob_all61 : alB 30 (fun a => alB 24 (fun b => sqN (24 * a + b) (obT 6 1))) = true := by decide +kernel
theorem ob_all62 : alB 30 (fun a => alB 24 (fun b => sqN (24 * a + b) (obT 6 2))) = true := by decide +kernel
theorem ob_all63 : alB 30 (fun a => alB 24 (fun b => sqN (24 * a + b) (obT 6 3))) = true := by decide +kernel
theorem ob_all64 : alB 30 (fun a => alB 24 (fun b => sqN (24 * a + b) (obT 6 4))) = true := by decide +kernel
theorem ob_all65 : alB 30 (fun a => alB 24 (fun b => sqN (24 * a + b) (obT 6 5))) = true := by decide +kernel
theorem ob_all66 : alB 30 (fun a => alB 24 (fun b => sqN (24 * a + b) (obT 6 6))) = true := by decide +kernel
theorem ob_60 {k o : Nat} (h : alB 30 (fun a => alB 24 (fun b => sqN (24 * a + b) (obT 6 k))) = true) (ho : o < 720) : obT 6 k o = true := by
  have h1 := alB_e (alB_e h (o / 24) (by omega)) (o % 24) (by omega)
  replace h1 : sqN (24 * (o / 24) + o % 24) (obT 6 k) = true := h1
  rw [sqN_e, show 24 * (o / 24) + o % 24 = o by omega] at h1
  exact h1
theorem ob_50 {k o : Nat} (hk : k < 5) (ho : o < 120) : obT 5 (k + 1) o = true := by
  have h1 := alB_e (alB_e (alB_e ob_all5 k hk) (o / 12) (by omega)) (o % 12) (by omega)
  replace h1 : sqN (12 * (o / 12) + o % 12) (obT 5 (k + 1)) = true := h1
  rw [sqN_e, show 12 * (o / 12) + o % 12 = o by omega] at h1
  exact h1
theorem ob_inv {n p k : Nat} (hn : n ≤ 6) (hp : p < facN n) (h1 : 1 ≤ k) (hk : k ≤ n) : obL n p k < facN n ∧ obL n (obL n p k) k = p := by
  apply obT_e
  rcases Nat.lt_or_ge n 5 with z | z
  · have a1 := alB_e (alB_e ob_all1 n z) k (by omega)
    have b1 : Nat.ble (k + 1) 1 = false := by
      cases c : Nat.ble (k + 1) 1 with
      | false => rfl
      | true => have := Nat.le_of_ble_eq_true c; omega
    have b2 : Nat.ble (n + 1) k = false := by
      cases c : Nat.ble (n + 1) k with
      | false => rfl
      | true => have := Nat.le_of_ble_eq_true c; omega
    replace a1 : (Nat.ble (k + 1) 1 || Nat.ble (n + 1) k || alB (facN n) (obT n k)) = true := a1
    rw [b1, b2, Bool.false_or, Bool.false_or] at a1
    exact alB_e a1 p hp
  · have hc : n = 5 ∨ n = 6 := by omega
    rcases hc with e | e
    · subst e
      have hp5 : p < 120 := hp
      have e2 : k = (k - 1) + 1 := by omega
      rw [e2]
      exact ob_50 (by omega) hp5
    · subst e
      have hp6 : p < 720 := hp
      have hc : k = 1 ∨ k = 2 ∨ k = 3 ∨ k = 4 ∨ k = 5 ∨ k = 6 := by omega
      rcases hc with e | e | e | e | e | e
      · subst e; exact ob_60 ob_all61 hp6
      · subst e; exact ob_60 ob_all62 hp6
      · subst e; exact ob_60 ob_all63 hp6
      · subst e; exact ob_60 ob_all64 hp6
      · subst e; exact ob_60 ob_all65 hp6
      · subst e; exact ob_60 ob_all66 hp6
