/-! sets as numbers: how many, the next one of the same size -/
def pcn (X n : Nat) : Nat := fb_ct (fun k => X.testBit k) n
theorem pcn_split {u v m n : Nat} (hv : v < 2 ^ m) : pcn (2 ^ m * u + v) (m + n) = pcn v m + pcn u n := by
  unfold pcn
  rw [fb_ct_split]
  refine congr (congrArg _ (fb_ct_cong (fun k hk => ?_))) (fb_ct_cong (fun k hk => ?_))
  · rw [Nat.testBit_two_pow_mul_add _ hv, if_pos hk]
  · rw [Nat.testBit_two_pow_mul_add _ hv, if_neg (by omega), Nat.add_sub_cancel_left]
theorem pcn_ones (n : Nat) : pcn (2 ^ n - 1) n = n := fb_ct_all.mpr (fun k hk => by rw [Nat.testBit_two_pow_sub_one]; exact decide_eq_true hk)
theorem pcn_0 (n : Nat) : pcn 0 n = 0 := fb_ct_zero.mpr (fun k _ => Nat.zero_testBit k)
theorem pcn_more {X m n : Nat} (h : X < 2 ^ m) (hm : m ≤ n) : pcn X n = pcn X m := by
  have e : n = m + (n - m) := by omega
  have h2 := pcn_split (u := 0) (n := n - m) h
  rw [Nat.mul_zero, Nat.zero_add, pcn_0, Nat.add_zero, ← e] at h2
  exact h2
theorem pcn_pos {X n : Nat} (h : 0 < X) (h2 : X < 2 ^ n) : 0 < pcn X n := by
  refine Nat.pos_of_ne_zero (fun q => ?_)
  have h3 : X = 0 := Nat.eq_of_testBit_eq (fun i => by
    rw [Nat.zero_testBit]
    rcases Nat.lt_or_ge i n with z | z
    · exact fb_ct_zero.mp q i z
    · exact Nat.testBit_lt_two_pow (Nat.lt_of_lt_of_le h2 (Nat.pow_le_pow_right (by decide) z)))
  omega
/-- with a of them it is at least 2^a - 1 -/
theorem pcn_min {v n a : Nat} (hv : v < 2 ^ n) (h : a ≤ pcn v n) : 2 ^ a - 1 ≤ v := by
  refine Decidable.byContradiction (fun q => ?_)
  have han : a ≤ n := Nat.le_trans h (fb_ct_le _ n)
  have hva : v < 2 ^ a := by omega
  have e := pcn_more hva han
  have e2 : pcn v a = a := Nat.le_antisymm (fb_ct_le _ a) (by omega)
  have e3 : v = 2 ^ a - 1 := Nat.eq_of_testBit_eq (fun i => by
    rw [Nat.testBit_two_pow_sub_one]
    rcases Nat.lt_or_ge i a with z | z
    · rw [decide_eq_true z]; exact fb_ct_all.mp e2 i z
    · rw [decide_eq_false (by omega)]; exact Nat.testBit_lt_two_pow (Nat.lt_of_lt_of_le hva (Nat.pow_le_pow_right (by decide) z)))
  omega
theorem val2 : ∀ (m X : Nat), X < m → 0 < X → ∃ b q, X = 2 ^ b * (2 * q + 1)
  | 0, _, h, _ => absurd h (Nat.not_lt_zero _)
  | m + 1, X, h, h0 => by
    rcases Nat.mod_two_eq_zero_or_one X with e | e
    · obtain ⟨b, q, hq⟩ := val2 m (X / 2) (by omega) (by omega)
      refine ⟨b + 1, q, ?_⟩
      rw [Nat.pow_succ, Nat.mul_assoc, Nat.mul_left_comm, ← hq]
      omega
    · exact ⟨0, X / 2, by rw [Nat.pow_zero]; omega⟩
theorem ones : ∀ (m q : Nat), q < m → ∃ a h, q + 1 = 2 ^ (a + 1) * h + 2 ^ a
  | 0, _, h => absurd h (Nat.not_lt_zero _)
  | m + 1, q, h => by
    rcases Nat.mod_two_eq_zero_or_one q with e | e
    · exact ⟨0, q / 2, by rw [Nat.zero_add, Nat.pow_one, Nat.pow_zero]; omega⟩
    · obtain ⟨a, k, hk⟩ := ones m (q / 2) (by omega)
      refine ⟨a + 1, k, ?_⟩
      have e2 : q + 1 = 2 * (q / 2 + 1) := by omega
      rw [e2, hk, Nat.mul_add, Nat.pow_succ 2 (a + 1), Nat.pow_succ 2 a]
      rw [Nat.mul_comm (2 ^ a * 2) 2, ← Nat.mul_assoc, Nat.mul_comm (2 ^ a) 2]
/-- the bits of a set: h above, a zero, a + 1 ones, b zeros -/
theorem gos_form {X : Nat} (h : 0 < X) : ∃ b a k, X = 2 ^ (b + a + 2) * k + (2 ^ (b + a + 1) - 2 ^ b) := by
  obtain ⟨b, q, hq⟩ := val2 (X + 1) X (Nat.lt_succ_self X) h
  obtain ⟨a, k, hk⟩ := ones (q + 1) q (Nat.lt_succ_self q)
  refine ⟨b, a, k, ?_⟩
  have e : 2 * q + 1 = 2 ^ (a + 2) * k + (2 ^ (a + 1) - 1) := by
    have h1 : 2 * (q + 1) = 2 ^ (a + 2) * k + 2 ^ (a + 1) := by
      rw [hk, Nat.mul_add, ← Nat.mul_assoc, Nat.mul_comm 2 (2 ^ (a + 1)), ← Nat.pow_succ, Nat.mul_comm 2 (2 ^ a), ← Nat.pow_succ]
    have h2 : 0 < 2 ^ (a + 1) := Nat.two_pow_pos _
    omega
  rw [hq, e, Nat.mul_add, ← Nat.mul_assoc, ← Nat.pow_add, Nat.mul_sub, ← Nat.pow_add, Nat.mul_one]
  rw [show b + (a + 2) = b + a + 2 by omega, show b + (a + 1) = b + a + 1 by omega]
section GOS
variable {b a k n : Nat}
def gX (b a k : Nat) : Nat := 2 ^ (b + a + 2) * k + (2 ^ (b + a + 1) - 2 ^ b)
def gY (b a k : Nat) : Nat := 2 ^ (b + a + 2) * k + 2 ^ (b + a + 1) + (2 ^ a - 1)
theorem p_bab : 2 ^ b ≤ 2 ^ (b + a + 1) ∧ 2 ^ (b + a + 2) = 2 * 2 ^ (b + a + 1) ∧ 2 ^ a ≤ 2 ^ (b + a + 1) ∧ 2 ^ (b + a + 1) = 2 * 2 ^ (b + a) ∧ 2 ^ a ≤ 2 ^ (b + a) ∧ 0 < 2 ^ a ∧ 0 < 2 ^ b ∧ 2 ^ b ≤ 2 ^ (b + a) :=
  ⟨Nat.pow_le_pow_right (by decide) (by omega), by rw [Nat.pow_succ 2 (b + a + 1)]; omega, Nat.pow_le_pow_right (by decide) (by omega), by rw [Nat.pow_succ 2 (b + a)]; omega, Nat.pow_le_pow_right (by decide) (by omega), Nat.two_pow_pos a, Nat.two_pow_pos b, Nat.pow_le_pow_right (by decide) (by omega)⟩
theorem gX_low : 2 ^ (b + a + 1) - 2 ^ b = 2 ^ b * (2 ^ (a + 1) - 1) + 0 := by
  show _ = 2 ^ b * (2 ^ (a + 1) - 1)
  rw [Nat.mul_sub, ← Nat.pow_add, Nat.mul_one, show b + (a + 1) = b + a + 1 by omega]
theorem pc_low : pcn (2 ^ (b + a + 1) - 2 ^ b) (b + a + 2) = a + 1 := by
  obtain ⟨h1, h2, h3, h4, h5, h6, h7, h8⟩ := @p_bab b a
  rw [pcn_more (m := b + (a + 1)) (by rw [show b + (a + 1) = b + a + 1 by omega]; omega) (by omega), gX_low, pcn_split (Nat.two_pow_pos b), pcn_0, pcn_ones, Nat.zero_add]
theorem pc_high : pcn (2 ^ (b + a + 1) + (2 ^ a - 1)) (b + a + 2) = a + 1 := by
  obtain ⟨h1, h2, h3, h4, h5, h6, h7, h8⟩ := @p_bab b a
  have e := pcn_split (u := 1) (v := 2 ^ a - 1) (m := b + a + 1) (n := 1) (by omega)
  rw [Nat.mul_one] at e
  rw [show b + a + 2 = b + a + 1 + 1 from rfl, e, pcn_more (m := a) (by omega) (by omega), pcn_ones]
  rfl
theorem gX_pc : pcn (gX b a k) (b + a + 2 + n) = a + 1 + pcn k n := by
  obtain ⟨h1, h2, h3, h4, h5, h6, h7, h8⟩ := @p_bab b a
  unfold gX
  rw [pcn_split (by omega), pc_low]
theorem gY_pc : pcn (gY b a k) (b + a + 2 + n) = a + 1 + pcn k n := by
  obtain ⟨h1, h2, h3, h4, h5, h6, h7, h8⟩ := @p_bab b a
  unfold gY
  rw [Nat.add_assoc, pcn_split (by omega), pc_high]
theorem gX_lt : gX b a k < gY b a k := by
  obtain ⟨h1, h2, h3, h4, h5, h6, h7, h8⟩ := @p_bab b a
  unfold gX gY
  omega
/-- gY is the next one after gX with as many -/
theorem gY_min {Z : Nat} (hn : Z < 2 ^ (b + a + 2 + n)) (hZ : gX b a k < Z) (hc : pcn Z (b + a + 2 + n) = pcn (gX b a k) (b + a + 2 + n)) : gY b a k ≤ Z := by
  obtain ⟨h1, h2, h3, h4, h5, h6, h7, h8⟩ := @p_bab b a
  rw [gX_pc] at hc
  unfold gX at hZ
  unfold gY
  have hz0 : Z % 2 ^ (b + a + 2) < 2 ^ (b + a + 2) := Nat.mod_lt _ (Nat.two_pow_pos _)
  have hz := Nat.div_add_mod Z (2 ^ (b + a + 2))
  generalize Z % 2 ^ (b + a + 2) = z0 at hz hz0
  generalize Z / 2 ^ (b + a + 2) = z at hz
  rw [← hz, pcn_split hz0] at hc
  rcases Nat.lt_trichotomy z k with q | q | q
  · have : 2 ^ (b + a + 2) * (z + 1) ≤ 2 ^ (b + a + 2) * k := Nat.mul_le_mul_left _ q
    rw [Nat.mul_add] at this
    omega
  · subst q
    have hpc : pcn z0 (b + a + 2) = a + 1 := by omega
    rcases Nat.lt_or_ge z0 (2 ^ (b + a + 1)) with q | q
    · have e1 : z0 % 2 ^ b < 2 ^ b := Nat.mod_lt _ h7
      have e2 := Nat.div_add_mod z0 (2 ^ b)
      generalize z0 % 2 ^ b = v at e1 e2
      generalize z0 / 2 ^ b = u at e2
      have e3 : u < 2 ^ (a + 1) := by
        refine Nat.lt_of_mul_lt_mul_left (a := 2 ^ b) ?_
        rw [← Nat.pow_add, show b + (a + 1) = b + a + 1 by omega]
        omega
      have e4 : 2 ^ (a + 1) - 1 ≤ u := by
        refine Decidable.byContradiction (fun w => ?_)
        have : 2 ^ b * (u + 1) ≤ 2 ^ b * (2 ^ (a + 1) - 1) := Nat.mul_le_mul_left _ (by omega)
        have e5 := @gX_low b a
        rw [Nat.mul_add] at this
        omega
      have e6 : u = 2 ^ (a + 1) - 1 := by omega
      have e7 : 0 < v := by
        have e5 := @gX_low b a
        rw [e6] at e2
        omega
      have e8 := pcn_split (u := u) (n := a + 2) e1
      rw [e2, show b + (a + 2) = b + a + 2 by omega, hpc, pcn_more (X := u) (m := a + 1) (by omega) (by omega), e6, pcn_ones] at e8
      have := pcn_pos e7 e1
      omega
    · have e8 := pcn_split (u := 1) (v := z0 - 2 ^ (b + a + 1)) (m := b + a + 1) (n := 1) (by omega)
      rw [Nat.mul_one, show 2 ^ (b + a + 1) + (z0 - 2 ^ (b + a + 1)) = z0 by omega] at e8
      have e9 : pcn 1 1 = 1 := rfl
      have hpc2 : pcn z0 (b + a + 1 + 1) = a + 1 := hpc
      have := pcn_min (v := z0 - 2 ^ (b + a + 1)) (n := b + a + 1) (a := a) (by omega) (by omega)
      omega
  · have : 2 ^ (b + a + 2) * (k + 1) ≤ 2 ^ (b + a + 2) * z := Nat.mul_le_mul_left _ q
    rw [Nat.mul_add] at this
    omega
/-! how it is reckoned -/
theorem g_up : gX b a k + 2 ^ b = 2 ^ (b + a + 1) * (2 * k + 1) := by
  obtain ⟨h1, h2, h3, h4, h5, h6, h7, h8⟩ := @p_bab b a
  unfold gX
  rw [Nat.mul_add, Nat.mul_one, ← Nat.mul_assoc, Nat.mul_comm (2 ^ (b + a + 1)) 2, ← h2]
  omega
theorem gX_bit (i : Nat) : (gX b a k).testBit i = if i < b + a + 2 then decide (b ≤ i ∧ i < b + a + 1) else k.testBit (i - (b + a + 2)) := by
  obtain ⟨h1, h2, h3, h4, h5, h6, h7, h8⟩ := @p_bab b a
  unfold gX
  rw [Nat.testBit_two_pow_mul_add _ (by omega)]
  by_cases q : i < b + a + 2
  · rw [if_pos q, if_pos q, gX_low, Nat.add_zero, Nat.testBit_two_pow_mul, Nat.testBit_two_pow_sub_one]
    refine Bool.eq_iff_iff.mpr ?_
    rw [Bool.and_eq_true, decide_eq_true_iff, decide_eq_true_iff, decide_eq_true_iff]
    omega
  · rw [if_neg q, if_neg q]
theorem g_up_bit (i : Nat) : (gX b a k + 2 ^ b).testBit i = if i < b + a + 2 then decide (i = b + a + 1) else k.testBit (i - (b + a + 2)) := by
  have e : gX b a k + 2 ^ b = 2 ^ (b + a + 2) * k + 2 ^ (b + a + 1) := by
    obtain ⟨h1, h2, h3, h4, h5, h6, h7, h8⟩ := @p_bab b a
    unfold gX
    omega
  obtain ⟨h1, h2, h3, h4, h5, h6, h7, h8⟩ := @p_bab b a
  rw [e, Nat.testBit_two_pow_mul_add _ (by omega)]
  by_cases q : i < b + a + 2
  · rw [if_pos q, if_pos q, Nat.testBit_two_pow]
    exact decide_eq_decide.mpr ⟨fun z => z.symm, fun z => z.symm⟩
  · rw [if_neg q, if_neg q]
theorem g_xor : (gX b a k ^^^ (gX b a k + 2 ^ b)) / 2 ^ b / 4 = 2 ^ a - 1 := by
  refine Nat.eq_of_testBit_eq (fun i => ?_)
  rw [show (4 : Nat) = 2 ^ 2 from rfl, Nat.testBit_div_two_pow, Nat.testBit_div_two_pow, Nat.testBit_xor, gX_bit, g_up_bit, Nat.testBit_two_pow_sub_one]
  by_cases q : i + 2 + b < b + a + 2
  · rw [if_pos q, if_pos q, decide_eq_true (by omega : i < a)]
    by_cases q2 : i + 2 + b = b + a + 1
    · rw [decide_eq_false (by omega : ¬ (b ≤ i + 2 + b ∧ i + 2 + b < b + a + 1)), decide_eq_true q2]; rfl
    · rw [decide_eq_true (by omega : b ≤ i + 2 + b ∧ i + 2 + b < b + a + 1), decide_eq_false q2]; rfl
  · rw [if_neg q, if_neg q, Bool.xor_self, decide_eq_false (by omega)]
theorem gz_or : (gX b a k + 2 ^ b) ||| (2 ^ a - 1) = gY b a k := by
  obtain ⟨h1, h2, h3, h4, h5, h6, h7, h8⟩ := @p_bab b a
  rw [g_up, ← Nat.two_pow_add_eq_or_of_lt (by omega)]
  unfold gY
  rw [Nat.mul_add, Nat.mul_one, ← Nat.mul_assoc, Nat.mul_comm (2 ^ (b + a + 1)) 2, ← h2]
theorem g_lowbit {N : Nat} (hN : gX b a k < 2 ^ N) : gX b a k &&& (2 ^ N - gX b a k) = 2 ^ b := by
  obtain ⟨h1, h2, h3, h4, h5, h6, h7, h8⟩ := @p_bab b a
  have hpos : 0 < gX b a k := by unfold gX; omega
  have e : 2 ^ N - gX b a k = 2 ^ N - ((gX b a k - 1) + 1) := by omega
  have hlow : ∀ i, (gX b a k - 1).testBit i = if i < b then true else if i = b then false else (gX b a k).testBit i := by
    intro i
    have e1 : gX b a k - 1 = 2 ^ b * ((gX b a k - 2 ^ b) / 2 ^ b) + (2 ^ b - 1) := by
      have e2 : gX b a k - 2 ^ b = 2 ^ b * (2 ^ (a + 2) * k + (2 ^ (a + 1) - 2)) := by
        unfold gX
        rw [Nat.mul_add, ← Nat.mul_assoc, ← Nat.pow_add, Nat.mul_sub, ← Nat.pow_add, show b + (a + 2) = b + a + 2 by omega, show b + (a + 1) = b + a + 1 by omega]
        omega
      rw [e2, Nat.mul_div_cancel_left _ h7, ← e2]
      have : 2 ^ b ≤ gX b a k := by unfold gX; omega
      omega
    have e3 : (gX b a k - 2 ^ b) / 2 ^ b = 2 ^ (a + 2) * k + (2 ^ (a + 1) - 2) := by
      have e2 : gX b a k - 2 ^ b = 2 ^ b * (2 ^ (a + 2) * k + (2 ^ (a + 1) - 2)) := by
        unfold gX
        rw [Nat.mul_add, ← Nat.mul_assoc, ← Nat.pow_add, Nat.mul_sub, ← Nat.pow_add, show b + (a + 2) = b + a + 2 by omega, show b + (a + 1) = b + a + 1 by omega]
        omega
      rw [e2, Nat.mul_div_cancel_left _ h7]
    rw [e1, Nat.testBit_two_pow_mul_add _ (by omega), Nat.testBit_two_pow_sub_one]
    by_cases q : i < b
    · rw [if_pos q, if_pos q, decide_eq_true q]
    · rw [if_neg q, if_neg q]
      have h9 : 2 ^ (a + 1) = 2 * 2 ^ a := by rw [Nat.pow_succ]; omega
      have h10 : 2 ^ (a + 2) = 2 * 2 ^ (a + 1) := by rw [Nat.pow_succ 2 (a + 1)]; omega
      rw [e3, Nat.testBit_two_pow_mul_add _ (by omega), show 2 ^ (a + 1) - 2 = 2 ^ 1 * (2 ^ a - 1) by rw [Nat.pow_one]; omega, Nat.testBit_two_pow_mul, Nat.testBit_two_pow_sub_one, gX_bit]
      by_cases q2 : i = b
      · rw [if_pos q2, if_pos (by omega), decide_eq_false (by omega), Bool.false_and]
      · rw [if_neg q2]
        by_cases q3 : i < b + a + 2
        · rw [if_pos (by omega), if_pos q3]
          refine Bool.eq_iff_iff.mpr ?_
          rw [Bool.and_eq_true, decide_eq_true_iff, decide_eq_true_iff, decide_eq_true_iff]
          omega
        · rw [if_neg (by omega), if_neg q3, show i - b - (a + 2) = i - (b + a + 2) by omega]
  refine Nat.eq_of_testBit_eq (fun i => ?_)
  rw [e, Nat.testBit_and, Nat.testBit_two_pow_sub_succ (by omega), hlow, Nat.testBit_two_pow]
  by_cases q : i < b
  · rw [if_pos q, gX_bit, if_pos (by omega), decide_eq_false (by omega : ¬ (b ≤ i ∧ i < b + a + 1)), decide_eq_false (by omega : ¬ b = i)]
    rfl
  · rw [if_neg q]
    by_cases q2 : i = b
    · subst q2
      have hb : i < N := by
        refine Decidable.byContradiction (fun z => ?_)
        have h9 : 2 ^ N ≤ 2 ^ i := Nat.pow_le_pow_right (by decide) (by omega)
        unfold gX at hN
        omega
      rw [if_pos rfl, gX_bit, if_pos (by omega), decide_eq_true (by omega : i ≤ i ∧ i < i + a + 1), decide_eq_true hb, decide_eq_true rfl]
      rfl
    · rw [if_neg q2, decide_eq_false (by omega : ¬ b = i)]
      cases (gX b a k).testBit i with
      | false => rfl
      | true => exact Bool.and_false _
end GOS
/-! covers -/
def covM (V : Nat → Nat) (X m : Nat) : Prop := ∀ i, m.testBit i = true → ∃ k, X.testBit k = true ∧ (V k).testBit i = true
/-- of the sets of at most k stations below e that see all of m the least, or none -/
def LSet (V : Nat → Nat) (e k m : Nat) (v : Int32) : Prop := (v = -1 ∧ ∀ X, X < 2 ^ e → pcn X 32 ≤ k → ¬ covM V X m) ∨ ∃ X, v = nI X ∧ X < 2 ^ e ∧ pcn X 32 ≤ k ∧ covM V X m ∧ ∀ Y, Y < 2 ^ e → pcn Y 32 ≤ k → covM V Y m → X ≤ Y
def unB (V : Nat → Nat) : Nat → Nat
  | 0 => 0
  | k + 1 => unB V k ||| V k
def adn (m v : Nat) : Nat := m &&& ((2 ^ 20 - 1) ^^^ v)
theorem adn_bit {m v : Nat} (hm : m < 2 ^ 20) (i : Nat) : (adn m v).testBit i = (m.testBit i && !v.testBit i) := by
  unfold adn
  rw [Nat.testBit_and, Nat.testBit_xor, Nat.testBit_two_pow_sub_one]
  by_cases q : i < 20
  · rw [decide_eq_true q, Bool.true_xor]
  · rw [Nat.testBit_lt_two_pow (x := m) (Nat.lt_of_lt_of_le hm (Nat.pow_le_pow_right (by decide) (by omega))), Bool.false_and, Bool.false_and]
theorem adn_lt {m v : Nat} (hm : m < 2 ^ 20) : adn m v < 2 ^ 20 := Nat.lt_of_le_of_lt Nat.and_le_left hm
theorem unB_in {V : Nat → Nat} {i : Nat} : ∀ {e s : Nat}, s < e → (V s).testBit i = true → (unB V e).testBit i = true
  | 0, _, h, _ => absurd h (Nat.not_lt_zero _)
  | e + 1, s, h, hs => by
    rw [unB, Nat.testBit_or]
    rcases Nat.lt_succ_iff_lt_or_eq.mp h with q | q
    · rw [unB_in q hs]; rfl
    · rw [← q, hs, Bool.or_true]
theorem unB_lt {V : Nat → Nat} : ∀ {e : Nat}, (∀ j, j < e → V j < 2 ^ 20) → unB V e < 2 ^ 20
  | 0, _ => Nat.two_pow_pos 20
  | e + 1, h => Nat.or_lt_two_pow (unB_lt (fun j hj => h j (by omega))) (h e (Nat.lt_succ_self e))
theorem bit_lt {X e s : Nat} (hX : X < 2 ^ e) (h : X.testBit s = true) : s < e := by
  refine Decidable.byContradiction (fun q => ?_)
  rw [Nat.testBit_lt_two_pow (Nat.lt_of_lt_of_le hX (Nat.pow_le_pow_right (by decide) (by omega)))] at h
  cases h
theorem bit_ex {m : Nat} (h : m ≠ 0) : ∃ i, m.testBit i = true := by
  refine Classical.byContradiction (fun q => h (Nat.eq_of_testBit_eq (fun i => ?_)))
  rw [Nat.zero_testBit]
  exact Bool.eq_false_iff.mpr (fun z => q ⟨i, z⟩)
theorem cov_no {V : Nat → Nat} {m : Nat} (h : m ≠ 0) : ¬ covM V 0 m := by
  intro q
  obtain ⟨i, hi⟩ := bit_ex h
  obtain ⟨k, hk, -⟩ := q i hi
  rw [Nat.zero_testBit] at hk; cases hk
theorem pcn_le0 {X : Nat} (hX : X < 2 ^ 32) (h : pcn X 32 ≤ 0) : X = 0 := by
  refine Decidable.byContradiction (fun q => ?_)
  have := pcn_pos (Nat.pos_of_ne_zero q) hX
  omega
theorem pow_32 {e X : Nat} (he : e ≤ 20) (h : X < 2 ^ e) : X < 2 ^ 32 := Nat.lt_of_lt_of_le h (Nat.pow_le_pow_right (by decide) (by omega))
section LSL
variable {V : Nat → Nat} {e k m : Nat} {v : Int32}
theorem LSet_0 : LSet V e k 0 0 := Or.inr ⟨0, rfl, Nat.two_pow_pos e, by rw [pcn_0]; exact Nat.zero_le k, fun i hi => absurd hi (by rw [Nat.zero_testBit]; exact Bool.false_ne_true), fun Y _ _ _ => Nat.zero_le Y⟩
theorem LSet_k (he : e ≤ 20) (hm : m ≠ 0) (hk : k = 0) : LSet V e k m (-1) := Or.inl ⟨rfl, fun X hX hc => by
  rw [hk] at hc
  rw [pcn_le0 (pow_32 he hX) hc]; exact cov_no hm⟩
theorem LSet_e (hm : m ≠ 0) (he : e = 0) : LSet V e k m (-1) := Or.inl ⟨rfl, fun X hX _ => by
  rw [he] at hX
  rw [show X = 0 by omega]; exact cov_no hm⟩
theorem LSet_u (hm : m < 2 ^ 20) (h : adn m (unB V e) ≠ 0) : LSet V e k m (-1) := Or.inl ⟨rfl, fun X hX _ hc => by
  obtain ⟨i, hi⟩ := bit_ex h
  rw [adn_bit hm, Bool.and_eq_true] at hi
  obtain ⟨s, hs, hs2⟩ := hc i hi.1
  rw [unB_in (bit_lt hX hs) hs2] at hi
  exact absurd hi.2 (by decide)⟩
theorem LSet_in (h : LSet V e k m v) (hv : ¬ v = -1) : LSet V (e + 1) k m v := by
  rcases h with h | ⟨X, h1, h2, h3, h4, h5⟩
  · exact absurd h.1 hv
  · refine Or.inr ⟨X, h1, Nat.lt_trans h2 (Nat.pow_lt_pow_right (by decide) (Nat.lt_succ_self e)), h3, h4, fun Y hY hc hcov => ?_⟩
    rcases Nat.lt_or_ge Y (2 ^ e) with q | q
    · exact h5 Y q hc hcov
    · omega
theorem LSet_nI (he : e ≤ 20) (h : LSet V e k m v) (hv : v = -1) : ∀ X, X < 2 ^ e → pcn X 32 ≤ k → ¬ covM V X m := by
  rcases h with h | ⟨X, h1, h2, -⟩
  · exact h.2
  · have h3 : X < 2 ^ 20 := Nat.lt_of_lt_of_le h2 (Nat.pow_le_pow_right (by decide) he)
    have h4 := congrArg Int32.toInt (h1.symm.trans hv)
    rw [nI_toInt (by omega)] at h4
    have h5 : (-1 : Int32).toInt = -1 := rfl
    omega
theorem pcn_top {e X : Nat} (he : e ≤ 20) (h : X < 2 ^ e) : pcn (2 ^ e + X) 32 = pcn X 32 + 1 := by
  have h1 := pcn_split (u := 1) (n := 32 - e) h
  rw [Nat.mul_one, show e + (32 - e) = 32 by omega, pcn_more (X := 1) (m := 1) (by decide) (by omega)] at h1
  rw [h1, pcn_more h (by omega : e ≤ 32)]
  rfl
theorem top_bit {e X : Nat} (h : X < 2 ^ e) (i : Nat) : (2 ^ e + X).testBit i = (decide (i = e) || X.testBit i) := by
  have h1 := Nat.testBit_two_pow_mul_add 1 h i
  rw [Nat.mul_one] at h1
  rw [h1]
  by_cases q : i < e
  · rw [if_pos q, decide_eq_false (by omega), Bool.false_or]
  · rw [if_neg q, Nat.testBit_lt_two_pow (x := X) (Nat.lt_of_lt_of_le h (Nat.pow_le_pow_right (by decide) (by omega))), Bool.or_false]
    by_cases q2 : i = e
    · rw [q2, Nat.sub_self, decide_eq_true rfl]; rfl
    · rw [decide_eq_false q2]
      exact Nat.testBit_lt_two_pow (Nat.lt_of_lt_of_le (by decide : 1 < 2 ^ 1) (Nat.pow_le_pow_right (by decide) (by omega)))
theorem cov_top {X : Nat} (h : X < 2 ^ e) (hm : m < 2 ^ 20) : covM V (2 ^ e + X) m ↔ covM V X (adn m (V e)) := by
  constructor
  · intro q i hi
    rw [adn_bit hm, Bool.and_eq_true, Bool.not_eq_true'] at hi
    obtain ⟨k, h1, h2⟩ := q i hi.1
    rw [top_bit h, Bool.or_eq_true, decide_eq_true_iff] at h1
    rcases h1 with h1 | h1
    · rw [h1, hi.2] at h2; cases h2
    · exact ⟨k, h1, h2⟩
  · intro q i hi
    cases z : (V e).testBit i with
    | true => exact ⟨e, by rw [top_bit h, decide_eq_true rfl]; rfl, z⟩
    | false =>
      obtain ⟨k, h1, h2⟩ := q i (by rw [adn_bit hm, hi, z]; rfl)
      exact ⟨k, by rw [top_bit h, h1, Bool.or_true], h2⟩
theorem low_or_top {Y e : Nat} (h : Y < 2 ^ (e + 1)) : Y < 2 ^ e ∨ ∃ X, X < 2 ^ e ∧ Y = 2 ^ e + X := by
  rcases Nat.lt_or_ge Y (2 ^ e) with q | q
  · exact Or.inl q
  · rw [Nat.pow_succ] at h
    exact Or.inr ⟨Y - 2 ^ e, by omega, by omega⟩
theorem LSet_with (he : e < 20) (hk : 0 < k) (hm : m < 2 ^ 20) (h0 : ∀ X, X < 2 ^ e → pcn X 32 ≤ k → ¬ covM V X m) (h : LSet V e (k - 1) (adn m (V e)) v) (hv : ¬ v = -1) : LSet V (e + 1) k m (v ||| nI (2 ^ e)) := by
  rcases h with h | ⟨X, h1, h2, h3, h4, h5⟩
  · exact absurd h.1 hv
  · have hp : 2 ^ (e + 1) = 2 * 2 ^ e := by rw [Nat.pow_succ]; omega
    refine Or.inr ⟨2 ^ e + X, ?_, by omega, by rw [pcn_top (by omega) h2]; omega, (cov_top h2 hm).mpr h4, fun Y hY hc hcov => ?_⟩
    · have e1 := Nat.two_pow_add_eq_or_of_lt h2 1
      rw [Nat.mul_one] at e1
      rw [h1, fa_or, Nat.or_comm, e1]
    · rcases low_or_top hY with q | ⟨Z, hZ, rfl⟩
      · exact absurd hcov (h0 Y q hc)
      · rw [pcn_top (by omega) hZ] at hc
        have := h5 Z hZ (by omega) ((cov_top hZ hm).mp hcov)
        omega
theorem LSet_no (he : e < 20) (hm : m < 2 ^ 20) (h0 : ∀ X, X < 2 ^ e → pcn X 32 ≤ k → ¬ covM V X m) (h1 : ∀ X, X < 2 ^ e → pcn X 32 ≤ k - 1 → ¬ covM V X (adn m (V e))) : LSet V (e + 1) k m (-1) := by
  refine Or.inl ⟨rfl, fun Y hY hc hcov => ?_⟩
  rcases low_or_top hY with q | ⟨Z, hZ, rfl⟩
  · exact h0 Y q hc hcov
  · rw [pcn_top (by omega) hZ] at hc
    exact h1 Z hZ (by omega) ((cov_top hZ hm).mp hcov)
end LSL
theorem adnI {m v : Nat} (hm : m < 2 ^ 20) (hv : v < 2 ^ 20) : nI m &&& (nI v ^^^ (-1)) = nI (adn m v) := by
  have h3 := @adn_lt m v hm
  refine b_ext (fun i hi => ?_)
  rw [b_and, b_xor, b_m1 i hi, nI_tb _ _ (by omega), nI_tb _ _ (by omega), nI_tb _ _ (by omega), adn_bit hm, Bool.xor_true]
/-! the watch: the least of the smallest covers -/
def WatS (n : Nat) (V : Nat → Nat) (W : Nat) : Prop := W < 2 ^ n ∧ covM V W (2 ^ n - 1) ∧ ∀ Y, Y < 2 ^ n → covM V Y (2 ^ n - 1) → pcn W 32 ≤ pcn Y 32 ∧ (pcn Y 32 = pcn W 32 → W ≤ Y)
noncomputable def wat (n : Nat) (V : Nat → Nat) : Nat := @dite Nat (∃ W, WatS n V W) (Classical.propDecidable _) (fun h => h.choose) (fun _ => 0)
theorem wat_eq {n W : Nat} {V : Nat → Nat} (h : WatS n V W) : wat n V = W := by
  have h0 : ∃ W, WatS n V W := ⟨W, h⟩
  unfold wat
  rw [dif_pos h0]
  have h1 := h0.choose_spec
  have a1 := h1.2.2 W h.1 h.2.1
  have a2 := h.2.2 _ h1.1 h1.2.1
  exact Nat.le_antisymm (a1.2 (by omega)) (a2.2 (by omega))
theorem WatS_all {n : Nat} {V : Nat → Nat} (hn : n ≤ 20) (hs : ∀ s, s < n → (V s).testBit s = true) (h : ∀ Y, Y < 2 ^ n → covM V Y (2 ^ n - 1) → n ≤ pcn Y 32) : WatS n V (2 ^ n - 1) := by
  have hp := Nat.two_pow_pos n
  have hf : pcn (2 ^ n - 1) 32 = n := by rw [pcn_more (m := n) (by omega) (by omega), pcn_ones]
  refine ⟨by omega, fun i hi => ⟨i, hi, hs i (bit_lt (by omega) hi)⟩, fun Y hY hc => ?_⟩
  have h1 := h Y hY hc
  refine ⟨by omega, fun _ => ?_⟩
  rw [pcn_more hY (by omega)] at h1
  exact pcn_min hY h1
theorem WatS_full {n z : Nat} {V : Nat → Nat} (hn : n ≤ 20) (hs : ∀ s, s < n → (V s).testBit s = true) (h : ∀ Y, Y < 2 ^ n → covM V Y (2 ^ n - 1) → z ≤ pcn Y 32) : z ≤ n := by
  have hp := Nat.two_pow_pos n
  have hf : pcn (2 ^ n - 1) 32 = n := by rw [pcn_more (m := n) (by omega) (by omega), pcn_ones]
  have := h (2 ^ n - 1) (by omega) (fun i hi => ⟨i, hi, hs i (bit_lt (by omega) hi)⟩)
  omega
theorem WatS_LS {n z : Nat} {V : Nat → Nat} {v : Int32} (h0 : ∀ Y, Y < 2 ^ n → covM V Y (2 ^ n - 1) → z ≤ pcn Y 32) (h : LSet V n z (2 ^ n - 1) v) (hv : ¬ v = -1) : v = nI (wat n V) := by
  rcases h with h | ⟨X, h1, h2, h3, h4, h5⟩
  · exact absurd h.1 hv
  · have hX := h0 X h2 h4
    rw [wat_eq (W := X) ⟨h2, h4, fun Y hY hc => ⟨by have := h0 Y hY hc; omega, fun q => h5 Y hY (by omega) hc⟩⟩]
    exact h1
theorem WatS_z {n z : Nat} {V : Nat → Nat} (h0 : ∀ Y, Y < 2 ^ n → covM V Y (2 ^ n - 1) → z ≤ pcn Y 32) (h : ∀ X, X < 2 ^ n → pcn X 32 ≤ z → ¬ covM V X (2 ^ n - 1)) : ∀ Y, Y < 2 ^ n → covM V Y (2 ^ n - 1) → z + 1 ≤ pcn Y 32 := fun Y hY hc => by
  have := h0 Y hY hc
  exact Nat.lt_of_not_le (fun q => h Y hY q hc)
theorem WatS_X {n z X : Nat} {V : Nat → Nat} (h0 : ∀ Y, Y < 2 ^ n → covM V Y (2 ^ n - 1) → z ≤ pcn Y 32) (hX : X < 2 ^ n) (hz : pcn X 32 = z) (hc : covM V X (2 ^ n - 1)) (h : ∀ Y, Y < X → pcn Y 32 = z → ¬ covM V Y (2 ^ n - 1)) : wat n V = X :=
  wat_eq ⟨hX, hc, fun Y hY hcY => ⟨by rw [hz]; exact h0 Y hY hcY, fun q => Nat.le_of_not_lt (fun w => h Y w (q.trans hz) hcY)⟩⟩
theorem WatS_zz {n z X : Nat} {V : Nat → Nat} (h0 : ∀ Y, Y < 2 ^ n → covM V Y (2 ^ n - 1) → z ≤ pcn Y 32) (hX : 2 ^ n ≤ X) (h : ∀ Y, Y < X → pcn Y 32 = z → ¬ covM V Y (2 ^ n - 1)) : ∀ Y, Y < 2 ^ n → covM V Y (2 ^ n - 1) → z + 1 ≤ pcn Y 32 := fun Y hY hc => by
  have := h0 Y hY hc
  rcases Nat.eq_or_lt_of_le this with q | q
  · exact absurd hc (h Y (by omega) q.symm)
  · exact q
/-! the next set, as it is reckoned in ints -/
theorem neg_nI {X : Nat} (h : X < 2 ^ 32) : -(nI X) = nI (2 ^ 32 - X) := by
  apply Int32.toBitVec_inj.1
  apply BitVec.eq_of_toNat_eq
  show (-(BitVec.ofNat 32 X)).toNat = (BitVec.ofNat 32 (2 ^ 32 - X)).toNat
  rw [BitVec.toNat_neg, BitVec.toNat_ofNat, BitVec.toNat_ofNat, Nat.mod_eq_of_lt h]
theorem low_nI {b a k : Nat} (h : gX b a k < 2 ^ 32) : nI (gX b a k) &&& -(nI (gX b a k)) = nI (2 ^ b) := by
  rw [neg_nI h, fa_and, g_lowbit h]
theorem xor_nI (a b : Nat) : nI a ^^^ nI b = nI (a ^^^ b) := by
  apply Int32.toBitVec_inj.1
  show BitVec.ofNat 32 a ^^^ BitVec.ofNat 32 b = BitVec.ofNat 32 (a ^^^ b)
  apply BitVec.eq_of_getLsbD_eq
  intro i hi
  simp [hi]
theorem gX_bnd {b a k n : Nat} (h : gX b a k < 2 ^ n) : b + a < n ∧ 2 ^ b ≤ gX b a k ∧ gY b a k ≤ 3 * gX b a k := by
  obtain ⟨h1, h2, h3, h4, h5, h6, h7, h8⟩ := @p_bab b a
  have e : gX b a k = 2 ^ (b + a + 2) * k + (2 ^ (b + a + 1) - 2 ^ b) := rfl
  have e2 : gY b a k = 2 ^ (b + a + 2) * k + 2 ^ (b + a + 1) + (2 ^ a - 1) := rfl
  refine ⟨?_, by omega, by omega⟩
  refine Decidable.byContradiction (fun q => ?_)
  have : 2 ^ n ≤ 2 ^ (b + a) := Nat.pow_le_pow_right (by decide) (by omega)
  omega
theorem gY_32 {b a k : Nat} (h : gX b a k < 2 ^ 20) : pcn (gY b a k) 32 = pcn (gX b a k) 32 := by
  have h1 := (gX_bnd h).1
  rw [show (32 : Nat) = b + a + 2 + (30 - (b + a)) by omega, gY_pc, gX_pc]
theorem gY_none {b a k z n : Nat} {V : Nat → Nat} (h : gX b a k < 2 ^ 20) (hz : pcn (gX b a k) 32 = z) (hc : ¬ covM V (gX b a k) (2 ^ n - 1)) (hm : ∀ Y, Y < gX b a k → pcn Y 32 = z → ¬ covM V Y (2 ^ n - 1)) : ∀ Y, Y < gY b a k → pcn Y 32 = z → ¬ covM V Y (2 ^ n - 1) := by
  intro Y hY hp
  obtain ⟨h1, h2, h3⟩ := gX_bnd h
  rcases Nat.lt_trichotomy Y (gX b a k) with q | q | q
  · exact hm Y q hp
  · rw [q]; exact hc
  · have e : (32 : Nat) = b + a + 2 + (30 - (b + a)) := by omega
    have := gY_min (b := b) (a := a) (k := k) (n := 30 - (b + a)) (Z := Y) (by rw [← e]; omega) q (by rw [← e]; omega)
    omega
