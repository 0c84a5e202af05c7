/-! more height keeps the sight -/
theorem sub_neg {X Y : Nat} (hX : X < 2 ^ 29) (hY : Y < 2 ^ 29) : (nI X - nI Y < 0) ↔ X < Y := by
  rw [Int32.lt_iff_toInt_lt, Int32.toInt_sub, nI_toInt (by omega), nI_toInt (by omega), Int32.toInt_zero, Int.bmod]
  split <;> omega
theorem clr_nat {P Q g e da db : Nat} (hP : P ≤ 1400) (hQ : Q ≤ 1400) (hg : g ≤ 999) (he : e ≤ 9) (ha : da ≤ 19) (hb : db ≤ 19) : (nI P * nI db + nI Q * nI da - (nI da + nI db) * (nI g + nI e * nI da * nI db) < 0) ↔ P * db + Q * da < (da + db) * (g + e * da * db) := by
  have h1 : P * db ≤ 1400 * 19 := Nat.mul_le_mul hP hb
  have h2 : Q * da ≤ 1400 * 19 := Nat.mul_le_mul hQ ha
  have h3 : e * da * db ≤ 9 * 19 * 19 := Nat.mul_le_mul (Nat.mul_le_mul he ha) hb
  have h4 : (da + db) * (g + e * da * db) ≤ 38 * (999 + 9 * 19 * 19) := Nat.mul_le_mul (by omega) (by omega)
  rw [pk_mul, pk_mul, nI_add, pk_mul, pk_mul, nI_add, nI_add, pk_mul]
  exact sub_neg (by omega) (by omega)
theorem sees_mono {n a b : Nat} {bl : Int32} {G : Nat → Int32} {P P' Q Q' : Nat} (hn : n ≤ 20) (ha : a < n) (hb : b < n) (hG : ∀ k, k < n → ∃ q, q ≤ 999 ∧ G k = nI q) (hbl : ∃ q, q ≤ 9 ∧ bl = nI q) (hP : P ≤ P') (hQ : Q ≤ Q') (hP' : P' ≤ 1400) (hQ' : Q' ≤ 1400) (h : seesB G bl a (nI P) b (nI Q) = true) : seesB G bl a (nI P') b (nI Q') = true := by
  unfold seesB at h ⊢
  have h := of_decide_eq_true h
  refine decide_eq_true (fun k h1 h2 => ?_)
  have h3 := h k h1 h2
  obtain ⟨g, hg, eg⟩ := hG k (by omega)
  obtain ⟨e, he, ee⟩ := hbl
  have d1 : dd b k ≤ 19 := by unfold dd; split <;> omega
  have d2 : dd k a ≤ 19 := by unfold dd; split <;> omega
  unfold clr at h3 ⊢
  rw [eg, ee] at h3 ⊢
  rw [clr_nat (by omega) (by omega) hg he d2 d1] at h3 ⊢
  have m1 : P * dd b k ≤ P' * dd b k := Nat.mul_le_mul_right _ hP
  have m2 : Q * dd k a ≤ Q' * dd k a := Nat.mul_le_mul_right _ hQ
  omega
