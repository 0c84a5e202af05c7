/-! what the public methods that read answer -/
def cN (x : Int32) : Nat := x.toNatClampNeg
theorem cN_nI {k : Nat} (h : k < 2 ^ 31) : cN (nI k) = k := nI_clamp h
def pairB (n : Nat) (x y : Int32) : Bool := decide (hasB n x = true ∧ hasB n y = true ∧ x ≠ y)
theorem pairB_T {n : Nat} {x y : Int32} (h : pairB n x y = true) (hn : n ≤ 20) : ∃ a b : Nat, a < n ∧ b < n ∧ a ≠ b ∧ x = nI a ∧ y = nI b := by
  obtain ⟨h1, h2, h3⟩ := of_decide_eq_true h
  obtain ⟨a, ha, rfl⟩ := hasB_T h1 hn
  obtain ⟨b, hb, rfl⟩ := hasB_T h2 hn
  exact ⟨a, b, ha, hb, fun q => h3 (by rw [q]), rfl, rfl⟩
theorem inB_T {v : Int32} {a b : Nat} (h : inB v (nI a) (nI b) = true) (ha : a < 2 ^ 31) (hb : b < 2 ^ 31) : ∃ k : Nat, a ≤ k ∧ k ≤ b ∧ v = nI k := by
  obtain ⟨h1, h2⟩ := of_decide_eq_true h
  have h3 : ¬ v < 0 := by
    rw [fa_lt]; rw [fa_le, nI_toInt ha] at h1
    have : (0 : Int32).toInt = 0 := rfl
    omega
  obtain ⟨k, hk, rfl⟩ := nI_of h3
  exact ⟨k, (nI_leI ha hk).mp h1, (nI_leI hk hb).mp h2, rfl⟩
theorem inB_nI {a b k : Nat} (h1 : a ≤ k) (h2 : k ≤ b) (hb : b < 2 ^ 31) : inB (nI k) (nI a) (nI b) = true := decide_eq_true ⟨nI_le h1 (by omega), nI_le h2 hb⟩
/-- an int is one of the first numbers, or none of them -/
theorem swN (w : Int32) (N : Nat) (hN : N < 2 ^ 31) : (∃ k : Nat, k < N ∧ w = nI k) ∨ (w.toInt < 0 ∨ (N : Int) - 1 < w.toInt) := by
  by_cases h : w < 0
  · exact Or.inr (Or.inl ((lt_zeroI w).mp h))
  · obtain ⟨k, hk, rfl⟩ := nI_of h
    by_cases h2 : k < N
    · exact Or.inl ⟨k, h2, rfl⟩
    · refine Or.inr (Or.inr ?_)
      rw [nI_toInt hk]; omega
theorem sw6 (w : Int32) : w = 0 ∨ w = 1 ∨ w = 2 ∨ w = 3 ∨ w = 4 ∨ w = 5 ∨ (w.toInt < 0 ∨ 5 < w.toInt) := by
  rcases swN w 6 (by decide) with ⟨k, hk, rfl⟩ | h
  · rcases (show k = 0 ∨ k = 1 ∨ k = 2 ∨ k = 3 ∨ k = 4 ∨ k = 5 by omega) with rfl | rfl | rfl | rfl | rfl | rfl
    · exact Or.inl rfl
    · exact Or.inr (Or.inl rfl)
    · exact Or.inr (Or.inr (Or.inl rfl))
    · exact Or.inr (Or.inr (Or.inr (Or.inl rfl)))
    · exact Or.inr (Or.inr (Or.inr (Or.inr (Or.inl rfl))))
    · exact Or.inr (Or.inr (Or.inr (Or.inr (Or.inr (Or.inl rfl)))))
  · exact Or.inr (Or.inr (Or.inr (Or.inr (Or.inr (Or.inr h)))))
theorem sw9 (w : Int32) : w = 0 ∨ w = 1 ∨ w = 2 ∨ w = 3 ∨ w = 4 ∨ w = 5 ∨ w = 6 ∨ w = 7 ∨ w = 8 ∨ (w.toInt < 0 ∨ 8 < w.toInt) := by
  rcases swN w 9 (by decide) with ⟨k, hk, rfl⟩ | h
  · rcases (show k = 0 ∨ k = 1 ∨ k = 2 ∨ k = 3 ∨ k = 4 ∨ k = 5 ∨ k = 6 ∨ k = 7 ∨ k = 8 by omega) with rfl | rfl | rfl | rfl | rfl | rfl | rfl | rfl | rfl
    · exact Or.inl rfl
    · exact Or.inr (Or.inl rfl)
    · exact Or.inr (Or.inr (Or.inl rfl))
    · exact Or.inr (Or.inr (Or.inr (Or.inl rfl)))
    · exact Or.inr (Or.inr (Or.inr (Or.inr (Or.inl rfl))))
    · exact Or.inr (Or.inr (Or.inr (Or.inr (Or.inr (Or.inl rfl)))))
    · exact Or.inr (Or.inr (Or.inr (Or.inr (Or.inr (Or.inr (Or.inl rfl))))))
    · exact Or.inr (Or.inr (Or.inr (Or.inr (Or.inr (Or.inr (Or.inr (Or.inl rfl)))))))
    · exact Or.inr (Or.inr (Or.inr (Or.inr (Or.inr (Or.inr (Or.inr (Or.inr (Or.inl rfl))))))))
  · exact Or.inr (Or.inr (Or.inr (Or.inr (Or.inr (Or.inr (Or.inr (Or.inr (Or.inr h))))))))
theorem ne_of_out {w : Int32} {N : Nat} (h : w.toInt < 0 ∨ ((N : Int)) < w.toInt) (k : Nat) (hk : k ≤ N) (hN : N < 2 ^ 31) : ¬ w = nI k := by
  intro q
  rw [q, nI_toInt (by omega)] at h
  omega
def stV (n : Nat) (rg bl : Int32) (G M : Nat → Int32) (k : Nat) (w : Int32) : Int32 := if w = 0 then G k else if w = 1 then M k else if w = 2 then tp G M k else if w = 3 then nI (bs (conB G M rg bl k) n) else if w = 4 then nI (bs (gsB G bl k (tp G M k)) n) else if w = 5 then nI (hnN (tp G M) n k) else -2
def A_station (n : Nat) (rg bl : Int32) (G M : Nat → Int32) (x w : Int32) : Int32 := if hasB n x = true then stV n rg bl G M (cN x) w else -2
theorem A_station_k {n : Nat} {rg bl : Int32} {G M : Nat → Int32} {k : Nat} {w : Int32} (hk : k < n) (hn : n ≤ 20) : A_station n rg bl G M (nI k) w = stV n rg bl G M k w := by unfold A_station; rw [if_pos (hasB_in hk hn), cN_nI (by omega)]
theorem A_station_no {n : Nat} {rg bl : Int32} {G M : Nat → Int32} {x w : Int32} (h : hasB n x = false) : A_station n rg bl G M x w = -2 := by unfold A_station; rw [if_neg (by rw [h]; decide)]
theorem stV_out {n : Nat} {rg bl : Int32} {G M : Nat → Int32} {k : Nat} {w : Int32} (h : w.toInt < 0 ∨ 5 < w.toInt) : stV n rg bl G M k w = -2 := by
  unfold stV
  rw [if_neg (show ¬ w = 0 from ne_of_out (N := 5) h 0 (by decide) (by decide)), if_neg (show ¬ w = 1 from ne_of_out (N := 5) h 1 (by decide) (by decide)), if_neg (show ¬ w = 2 from ne_of_out (N := 5) h 2 (by decide) (by decide)), if_neg (show ¬ w = 3 from ne_of_out (N := 5) h 3 (by decide) (by decide)), if_neg (show ¬ w = 4 from ne_of_out (N := 5) h 4 (by decide) (by decide)), if_neg (show ¬ w = 5 from ne_of_out (N := 5) h 5 (by decide) (by decide))]
theorem in05_out {w : Int32} {N : Nat} (hN : N < 2 ^ 31) (h : inB w 0 (nI N) = false) : w.toInt < 0 ∨ (N : Int) < w.toInt := by
  have h1 := of_decide_eq_false h
  rw [fa_le, fa_le, nI_toInt hN] at h1
  have : (0 : Int32).toInt = 0 := rfl
  omega
def A_sees (n : Nat) (bl : Int32) (G M : Nat → Int32) (x y : Int32) : Int32 := if hasB n x = true ∧ hasB n y = true then bI (seesB G bl (cN x) (tp G M (cN x)) (cN y) (tp G M (cN y))) else -2
/-- the clearances for the tops of two stations -/
def clT (bl : Int32) (G M : Nat → Int32) (a b : Nat) : Nat → Int32 := clr G bl a (tp G M a) b (tp G M b)
def obT (bl : Int32) (G M : Nat → Int32) (a b : Nat) : Int32 × Int32 := obs (clT bl G M a b) (min a b) (max a b - min a b - 1)
theorem obs_val (cl : Nat → Int32) (lo : Nat) : ∀ d, ¬ (obs cl lo d).1 = -1 → ∃ k, lo < k ∧ k ≤ lo + d ∧ (obs cl lo d).1 = nI k ∧ (obs cl lo d).2 = cl k
  | 0, h => absurd rfl h
  | d + 1, h => by
    by_cases q : (obs cl lo d).1 = -1 ∨ cl (lo + 1 + d) < (obs cl lo d).2
    · rw [obs_T q]; exact ⟨lo + 1 + d, by omega, by omega, rfl, rfl⟩
    · rw [obs_F (fun z => q (Or.inl z)) (fun z => q (Or.inr z))] at h ⊢
      obtain ⟨k, h1, h2, h3, h4⟩ := obs_val cl lo d h
      exact ⟨k, h1, by omega, h3, h4⟩
def A_obstacle (n : Nat) (bl : Int32) (G M : Nat → Int32) (x y w : Int32) : Int32 := if pairB n x y = true ∧ inB w 0 1 = true then (if (obT bl G M (cN x) (cN y)).1 = -1 ∨ w = 0 then (obT bl G M (cN x) (cN y)).1 else (obT bl G M (cN x) (cN y)).2) else -2
/-- does a mast of this height do -/
def nmB (bl : Int32) (G M : Nat → Int32) (a b h : Nat) : Bool := seesB G bl a (G a + nI h) b (tp G M b)
def A_needed (n : Nat) (bl : Int32) (G M : Nat → Int32) (x y : Int32) : Int32 := if pairB n x y = true then (if fa_first (nmB bl G M (cN x) (cN y)) 201 < 201 then nI (fa_first (nmB bl G M (cN x) (cN y)) 201) else -1) else -2
theorem fa_first_eq {p : Nat → Bool} {N h : Nat} (h1 : ∀ j, j < h → p j = false) (h2 : p h = true) (h3 : h < N) : fa_first p N = h := by
  rcases Nat.lt_trichotomy (fa_first p N) h with q | q | q
  · have := fa_first_yes p N (by omega)
    rw [h1 _ q] at this; cases this
  · exact q
  · have := fa_first_no p N h q
    rw [h2] at this; cases this
theorem fa_first_none {p : Nat → Bool} {N : Nat} (h1 : ∀ j, j < N → p j = false) : ¬ fa_first p N < N := by
  intro q
  have := fa_first_yes p N q
  rw [h1 _ q] at this; cases this
/-- the scan for the farthest pair: 100 * a + b, and b - a -/
def fin (C : Nat → Nat → Bool) (a : Nat) : Nat → Nat × Nat → Nat × Nat
  | 0, z => z
  | d + 1, z => if (fin C a d z).2 < d + 1 ∧ C a (a + 1 + d) = true then (100 * a + (a + 1 + d), d + 1) else fin C a d z
def fout (C : Nat → Nat → Bool) (n : Nat) (z : Nat × Nat) : Nat → Nat × Nat
  | 0 => z
  | a + 1 => fin C a (n - 1 - a) (fout C n z a)
def A_farthest (n : Nat) (rg bl : Int32) (G M : Nat → Int32) : Int32 := nI (fout (conB G M rg bl) n (1, 0) n).1
theorem fin_one (C : Nat → Nat → Bool) (h : C 0 1 = true) : ∀ d, fin C 0 (d + 1) (1, 0) = fin C 0 (d + 1) (1, 1)
  | 0 => by simp [fin, h]
  | d + 1 => by rw [fin, fin_one C h d]; rfl
theorem fout_one (C : Nat → Nat → Bool) (n : Nat) (hn : 2 ≤ n) (h : C 0 1 = true) : ∀ a, 0 < a → fout C n (1, 0) a = fout C n (1, 1) a
  | 0, q => absurd q (Nat.lt_irrefl 0)
  | 1, _ => by
    show fin C 0 (n - 1 - 0) (1, 0) = fin C 0 (n - 1 - 0) (1, 1)
    rw [show n - 1 - 0 = (n - 2) + 1 by omega]
    exact fin_one C h _
  | a + 2, _ => by
    show fin C (a + 1) (n - 1 - (a + 1)) (fout C n (1, 0) (a + 1)) = fin C (a + 1) (n - 1 - (a + 1)) (fout C n (1, 1) (a + 1))
    rw [fout_one C n hn h (a + 1) (by omega)]
theorem fin_T {C : Nat → Nat → Bool} {a d : Nat} {z : Nat × Nat} (h1 : (fin C a d z).2 < d + 1) (h2 : C a (a + 1 + d) = true) : fin C a (d + 1) z = (100 * a + (a + 1 + d), d + 1) := by rw [fin, if_pos ⟨h1, h2⟩]
theorem fin_F {C : Nat → Nat → Bool} {a d : Nat} {z : Nat × Nat} (h : ¬ ((fin C a d z).2 < d + 1 ∧ C a (a + 1 + d) = true)) : fin C a (d + 1) z = fin C a d z := by rw [fin, if_neg h]
def A_watched (n : Nat) (bl : Int32) (G M : Nat → Int32) (x : Int32) : Int32 := if x.toInt < 0 ∨ (2 : Int) ^ n ≤ x.toInt then -2 else nI (fb_ct (fun t => decide (∃ k, k < n ∧ (cN x).testBit k = true ∧ gsB G bl k (tp G M k) t = true)) n)
def A_count (n : Nat) (rg bl : Int32) (G M : Nat → Int32) (hz tn : Nat) (w : Int32) : Int32 := if w = 0 then nI n else if w = 1 then nI (fb_ct (fun k => decide (0 < M k)) n) else if w = 2 then rg else if w = 3 then bl else if w = 4 then nI (prN (fun a b => seesB G bl a (tp G M a) b (tp G M b)) n) else if w = 5 then nI (prN (fun a b => seesB G bl a (tp G M a) b (tp G M b) && decide (nI (b - a) ≤ rg)) n) else if w = 6 then nI hz else if w = 7 then nI tn else if w = 8 then smI M n else -2
theorem A_count_out {n : Nat} {rg bl : Int32} {G M : Nat → Int32} {hz tn : Nat} {w : Int32} (h : w.toInt < 0 ∨ 8 < w.toInt) : A_count n rg bl G M hz tn w = -2 := by
  unfold A_count
  rw [if_neg (show ¬ w = 0 from ne_of_out (N := 8) h 0 (by decide) (by decide)), if_neg (show ¬ w = 1 from ne_of_out (N := 8) h 1 (by decide) (by decide)), if_neg (show ¬ w = 2 from ne_of_out (N := 8) h 2 (by decide) (by decide)), if_neg (show ¬ w = 3 from ne_of_out (N := 8) h 3 (by decide) (by decide)), if_neg (show ¬ w = 4 from ne_of_out (N := 8) h 4 (by decide) (by decide)), if_neg (show ¬ w = 5 from ne_of_out (N := 8) h 5 (by decide) (by decide)), if_neg (show ¬ w = 6 from ne_of_out (N := 8) h 6 (by decide) (by decide)), if_neg (show ¬ w = 7 from ne_of_out (N := 8) h 7 (by decide) (by decide)), if_neg (show ¬ w = 8 from ne_of_out (N := 8) h 8 (by decide) (by decide))]
