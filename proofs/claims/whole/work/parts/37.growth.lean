/-! growth(x, y, which), of the class -/
theorem fz_neg {p : Nat} (h : p < 2 ^ 30) : FZ p < 0 ↔ p = 0 := by
  cases p with
  | zero => exact ⟨fun _ => rfl, fun _ => by decide⟩
  | succ k =>
    rw [FZ_s]
    refine ⟨fun q => ?_, fun q => absurd q (Nat.succ_ne_zero k)⟩
    rw [Int32.lt_iff_toInt_lt, nI_toInt (by omega), Int32.toInt_zero] at q
    omega
theorem fz_dec (k : Nat) : nI k + (-1) = FZ k := by
  unfold FZ
  exact (Int32.sub_eq_add_neg _ _).symm
theorem gr_link {bl : Int32} {G M : Nat → Int32} {a b u v f s : Nat} (hu : M a = nI u) (hv : M b = nI v) (hu2 : u ≤ 200) (hv2 : v ≤ 200) (hf : f ≤ 400) (hs : s ≤ 400) : grB bl G M a b f s = ((decide (f ≤ 200 - u) && decide (s ≤ 200 - v)) && seesB G bl a (tp G M a + nI f) b (tp G M b + nI s)) := by
  unfold grB
  have e1 : decide (M a + nI f ≤ 200) = decide (f ≤ 200 - u) := by
    rw [hu, nI_add]
    exact decide_eq_decide.mpr ((nI_leI (a := u + f) (b := 200) (by omega) (by decide)).trans (by omega))
  have e2 : decide (M b + nI s ≤ 200) = decide (s ≤ 200 - v) := by
    rw [hv, nI_add]
    exact decide_eq_decide.mpr ((nI_leI (a := v + s) (b := 200) (by omega) (by decide)).trans (by omega))
  rw [e1, e2]
theorem gr_end {bl : Int32} {G M : Nat → Int32} {a b u v f p T F : Nat} (hu : M a = nI u) (hv : M b = nI v) (hu2 : u ≤ 200) (hv2 : v ≤ 200) (hf : f = 200 - u + 1) (h : grI (fun g s => seesB G bl a (tp G M a + nI g) b (tp G M b + nI s)) (200 - v) f p T F False) : (T = 0 ∧ ¬ gT bl G M a b < 401) ∨ (∃ t x, T = t + 1 ∧ F = x + 1 ∧ x ≤ t ∧ t ≤ 400 ∧ gT bl G M a b = t ∧ gF bl G M a b = x) := by
  obtain ⟨-, -, -, h4⟩ := h
  have bad : ∀ g s, g ≤ 400 → s ≤ 400 → grB bl G M a b g s = true → g < f ∧ s ≤ 200 - v ∧ (fun g s => seesB G bl a (tp G M a + nI g) b (tp G M b + nI s)) g s = true := fun g s h1 h2 q => by
    rw [gr_link hu hv hu2 hv2 h1 h2, Bool.and_eq_true, Bool.and_eq_true, decide_eq_true_iff, decide_eq_true_iff] at q
    exact ⟨by omega, q.1.2, q.2⟩
  rcases h4 with ⟨e, h4⟩ | ⟨t, x, e1, e2, e3, e4, e5, e6, h4⟩
  · refine Or.inl ⟨e, gr_none (fun w hw g hg => ?_)⟩
    cases q : grB bl G M a b g (w - g) with
    | false => rfl
    | true =>
      obtain ⟨b1, b2, b3⟩ := bad g (w - g) (by omega) (by omega) q
      rw [h4 g (w - g) (Or.inl b1) b2] at b3; cases b3
  · have hx : x < f := by rcases e3 with q | q; exact q; exact q.1.elim
    have ht : t ≤ 400 := by omega
    have e7 : grB bl G M a b x (t - x) = true := by
      rw [gr_link hu hv hu2 hv2 (by omega) (by omega), decide_eq_true (show x ≤ 200 - u by omega), decide_eq_true e5]
      exact e6
    have k1 : ∀ w, w < t → ∀ g, g ≤ w → grB bl G M a b g (w - g) = false := fun w hw g hg => Bool.eq_false_iff.mpr (fun q => by
      obtain ⟨b1, b2, b3⟩ := bad g (w - g) (by omega) (by omega) q
      have := (h4 g (w - g) (Or.inl b1) b2 b3).1
      omega)
    have k2 : ∀ g, g < x → grB bl G M a b g (t - g) = false := fun g hg => Bool.eq_false_iff.mpr (fun q => by
      obtain ⟨b1, b2, b3⟩ := bad g (t - g) (by omega) (by omega) q
      have := (h4 g (t - g) (Or.inl b1) b2 b3).2 (by omega)
      omega)
    obtain ⟨r1, r2⟩ := gr_ans k1 k2 e7 e4 ht
    exact Or.inr ⟨t, x, e1, e2, e4, ht, r1, r2⟩
