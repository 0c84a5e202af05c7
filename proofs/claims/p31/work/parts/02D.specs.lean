/-! what the methods that read answer, in plain words -/
def dd (a b : Nat) : Nat := if a < b then b - a else a - b
theorem dd_comm (a b : Nat) : dd a b = dd b a := by unfold dd; split <;> split <;> omega
theorem dd_lt {a b : Nat} (h : a < b) : dd a b = b - a := by unfold dd; rw [if_pos h]
theorem dd_gt {a b : Nat} (h : b ≤ a) : dd a b = a - b := by unfold dd; rw [if_neg (Nat.not_lt.mpr h)]
theorem nI_subI {a b : Nat} (ha : a < 2 ^ 30) (hb : b < 2 ^ 30) : (nI a - nI b).toInt = (a : Int) - b := pk_sub_toInt ha hb
theorem zero_leI (x : Int32) : 0 ≤ x ↔ 0 ≤ x.toInt := by rw [fa_le]; rfl
theorem lt_zeroI (x : Int32) : x < 0 ↔ x.toInt < 0 := by rw [fa_lt]; rfl
theorem absd {a b : Nat} (ha : a < 2 ^ 30) (hb : b < 2 ^ 30) : (if 0 ≤ nI a - nI b then nI a - nI b else 0 - (nI a - nI b)) = nI (dd a b) := by
  by_cases h : b ≤ a
  · rw [if_pos (by rw [zero_leI, nI_subI ha hb]; omega), dd_gt h, pk_sub h]
  · have h : a < b := by omega
    rw [if_neg (by rw [zero_leI, nI_subI ha hb]; omega), dd_lt h, ← pk_sub (Nat.le_of_lt h)]
    rw [Int32.zero_sub, Int32.neg_sub]
theorem maxI {a b : Nat} (ha : a < 2 ^ 31) (hb : b < 2 ^ 31) : (if nI a < nI b then nI b else nI a) = nI (max a b) := by
  by_cases h : a < b
  · rw [if_pos ((nI_ltI ha hb).mpr h), Nat.max_eq_right (Nat.le_of_lt h)]
  · rw [if_neg (fun q => h ((nI_ltI ha hb).mp q)), Nat.max_eq_left (by omega)]
theorem minI {a b : Nat} (ha : a < 2 ^ 31) (hb : b < 2 ^ 31) : (if nI b < nI a then nI b else nI a) = nI (min a b) := by
  by_cases h : b < a
  · rw [if_pos ((nI_ltI hb ha).mpr h), Nat.min_eq_right (Nat.le_of_lt h)]
  · rw [if_neg (fun q => h ((nI_ltI hb ha).mp q)), Nat.min_eq_left (by omega)]
/-- is it the number of one of n stations -/
def hasB (n : Nat) (x : Int32) : Bool := decide (¬ x < 0 ∧ x < nI n)
theorem hasB_nI {n k : Nat} (hk : k < 2 ^ 31) (hn : n < 2 ^ 31) : hasB n (nI k) = decide (k < n) := by
  unfold hasB
  rw [decide_eq_decide]
  constructor
  · intro h; exact (nI_ltI hk hn).mp h.2
  · intro h; exact ⟨nI_pos hk, (nI_ltI hk hn).mpr h⟩
theorem hasB_in {n k : Nat} (h : k < n) (hn : n ≤ 20) : hasB n (nI k) = true := by rw [hasB_nI (by omega) (by omega)]; exact decide_eq_true h
theorem hasB_T {n : Nat} {x : Int32} (h : hasB n x = true) (hn : n ≤ 20) : ∃ k : Nat, k < n ∧ x = nI k := by
  unfold hasB at h
  obtain ⟨h1, h2⟩ := of_decide_eq_true h
  obtain ⟨j, hj, rfl⟩ := nI_of h1
  exact ⟨j, (nI_ltI hj (by omega)).mp h2, rfl⟩
def inB (v a b : Int32) : Bool := decide (a ≤ v ∧ v ≤ b)
/-- the clearance of k between a and b -/
def clr (fg : Nat → Int32) (bl : Int32) (a : Nat) (p : Int32) (b : Nat) (q : Int32) (k : Nat) : Int32 := p * nI (dd b k) + q * nI (dd k a) - (nI (dd k a) + nI (dd b k)) * (fg k + bl * nI (dd k a) * nI (dd b k))
def seesB (fg : Nat → Int32) (bl : Int32) (a : Nat) (p : Int32) (b : Nat) (q : Int32) : Bool := decide (∀ k, k < max a b → min a b < k → ¬ clr fg bl a p b q k < 0)
def tp (fg fm : Nat → Int32) (s : Nat) : Int32 := fg s + fm s
def conB (fg fm : Nat → Int32) (r bl : Int32) (a b : Nat) : Bool := decide (a ≠ b ∧ nI (dd a b) ≤ r ∧ seesB fg bl a (tp fg fm a) b (tp fg fm b) = true)
/-- a set as a number -/
def bs (P : Nat → Bool) : Nat → Nat
  | 0 => 0
  | k + 1 => bs P k + if P k then 2 ^ k else 0
theorem bs_lt (P : Nat → Bool) : ∀ k, bs P k < 2 ^ k
  | 0 => by simp [bs]
  | k + 1 => by
    have := bs_lt P k
    rw [bs, Nat.pow_succ]
    split <;> omega
theorem shl1 {k : Nat} (hk : k < 31) : (1 : Int32) <<< (nI k &&& 31) = nI (2 ^ k) := by
  have h := pk_shlN (n := 1) (nI k &&& 31) k (s_l k (by omega)) (by rw [Nat.one_mul]; exact Nat.pow_lt_pow_right (by decide) (by omega))
  rw [Nat.one_mul] at h
  exact h
theorem bs_orT {P : Nat → Bool} {k : Nat} (hk : k < 31) (h : P k = true) : nI (bs P k) ||| ((1 : Int32) <<< (nI k &&& 31)) = nI (bs P (k + 1)) := by
  rw [shl1 hk, bs, if_pos h, fa_or, Nat.or_comm]
  have := fa_or_sum (a := bs P k) (k := k) 1 (bs_lt P k)
  rw [Nat.mul_one, fa_or] at this
  rw [this, Nat.add_comm]
theorem bs_orF {P : Nat → Bool} {k : Nat} (h : P k = false) : nI (bs P k) = nI (bs P (k + 1)) := by
  rw [bs, if_neg (by rw [h]; decide), Nat.add_zero]
theorem bs_bit (P : Nat → Bool) : ∀ n k, (bs P n).testBit k = (decide (k < n) && P k)
  | 0, k => by simp [bs]
  | n + 1, k => by
    rw [bs]
    have hlt := bs_lt P n
    by_cases hP : P n
    · rw [if_pos hP]
      by_cases hk : k = n
      · subst hk
        rw [Nat.add_comm, Nat.testBit_two_pow_add_eq, Nat.testBit_lt_two_pow hlt]
        simp [hP]
      · have e : bs P n + 2 ^ n = bs P n ||| 2 ^ n := by
          have := Nat.two_pow_add_eq_or_of_lt hlt 1
          rw [Nat.mul_one] at this
          rw [Nat.add_comm, this, Nat.or_comm]
        rw [e, Nat.testBit_or, bs_bit P n k, Nat.testBit_two_pow]
        by_cases h : k < n
        · simp [h, Nat.lt_succ_of_lt h]; intro h2; omega
        · have h3 : ¬ k < n + 1 := by omega
          simp [h, h3]; omega
    · rw [if_neg hP, Nat.add_zero, bs_bit P n k]
      by_cases hk : k = n
      · subst hk; simp [hP]
      · by_cases h : k < n
        · simp [h, Nat.lt_succ_of_lt h]
        · have h3 : ¬ k < n + 1 := by omega
          simp [h, h3]
