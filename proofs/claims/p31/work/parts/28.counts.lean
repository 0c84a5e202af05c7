/-! counts and findings, of both -/
def A_finding (fk : Nat) (fc : Nat → Nat) (x : Int32) : Int32 := if -1 ≤ x then (if fk = 0 then -3 else if x = -1 then FZ fk else if FZ fk ≤ x then -1 else nI (fc (cN x))) else -2
theorem find_ix {x : Int32} {fk : Nat} (h1 : -1 ≤ x) (h2 : ¬ x = -1) (h3 : ¬ FZ fk ≤ x) (h0 : ¬ fk = 0) (hf : fk ≤ 21) : ∃ k : Nat, k + 1 < fk ∧ x = nI k := by
  obtain ⟨j, rfl⟩ : ∃ j, fk = j + 1 := ⟨fk - 1, by omega⟩
  have h4 : ¬ x < 0 := by
    intro q
    rw [Int32.lt_iff_toInt_lt] at q
    rw [Int32.le_iff_toInt_le] at h1
    have e1 : (-1 : Int32).toInt = -1 := by decide
    have e0 : (0 : Int32).toInt = 0 := by decide
    exact h2 (Int32.toInt_inj.mp (by omega))
  obtain ⟨k, hk, rfl⟩ := nI_of h4
  rw [FZ_s, nI_leI (by omega) hk] at h3
  exact ⟨k, by omega, rfl⟩
theorem sum_T {P : Nat → Bool} {i t : Nat} (h : P i = true) (ht : t = fb_ct P i) : t + 1 = fb_ct P (i + 1) := by rw [fb_ct_T h, ht]
theorem sum_F {P : Nat → Bool} {i t : Nat} (h : P i = false) (ht : t = fb_ct P i) : t + 0 = fb_ct P (i + 1) := by rw [fb_ct_F h, ht, Nat.add_zero]
theorem pr_T {P : Nat → Bool} {b t z : Nat} (h : P b = true) (hz : z = t + fb_ct P b) : z + 1 = t + fb_ct P (b + 1) := by rw [fb_ct_T h, hz, Nat.add_assoc]
theorem pr_F {P : Nat → Bool} {b t z : Nat} (h : P b = false) (hz : z = t + fb_ct P b) : z + 0 = t + fb_ct P (b + 1) := by rw [fb_ct_F h, hz, Nat.add_zero]
