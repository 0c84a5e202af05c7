/-! growth, of the class: what its two pointers keep -/
def grI (S : Nat → Nat → Bool) (V f p T F : Nat) (c : Prop) : Prop := p ≤ V + 1 ∧ (∀ g s, g < f → s < p → S g s = false) ∧ (p ≤ V → ∃ g, (g < f ∨ (c ∧ g = f)) ∧ S g p = true) ∧ ((T = 0 ∧ ∀ g s, (g < f ∨ (c ∧ g = f ∧ p ≤ s)) → s ≤ V → S g s = false) ∨ (∃ t x, T = t + 1 ∧ F = x + 1 ∧ (x < f ∨ (c ∧ x = f)) ∧ x ≤ t ∧ t - x ≤ V ∧ S x (t - x) = true ∧ ∀ g s, (g < f ∨ (c ∧ g = f ∧ p ≤ s)) → s ≤ V → S g s = true → t ≤ g + s ∧ (g + s = t → x ≤ g)))
theorem grI_0 (S : Nat → Nat → Bool) (V : Nat) : grI S V 0 (V + 1) 0 0 False := ⟨Nat.le_refl _, fun g s h => absurd h (Nat.not_lt_zero g), fun h => absurd h (by omega), Or.inl ⟨rfl, fun g s h => h.elim (fun q => absurd q (Nat.not_lt_zero g)) (fun q => q.1.elim)⟩⟩
theorem grI_in {S : Nat → Nat → Bool} {V f p T F : Nat} (h : grI S V f p T F False) : grI S V f p T F True := by
  obtain ⟨h1, h2, h3, h4⟩ := h
  have h3' : p ≤ V → ∃ g, g < f ∧ S g p = true := fun q => by
    obtain ⟨g, q1, q2⟩ := h3 q
    rcases q1 with q1 | q1
    · exact ⟨g, q1, q2⟩
    · exact q1.1.elim
  refine ⟨h1, h2, fun q => by obtain ⟨g, q1, q2⟩ := h3' q; exact ⟨g, Or.inl q1, q2⟩, ?_⟩
  rcases h4 with ⟨e, h4⟩ | ⟨t, x, e1, e2, e3, e4, e5, e6, h4⟩
  · refine Or.inl ⟨e, fun g s q hs => ?_⟩
    rcases q with q | q
    · exact h4 g s (Or.inl q) hs
    · obtain ⟨g', q1, q2⟩ := h3' (by omega)
      rw [h4 g' p (Or.inl q1) (by omega)] at q2
      cases q2
  · refine Or.inr ⟨t, x, e1, e2, ?_, e4, e5, e6, fun g s q hs hS => ?_⟩
    · rcases e3 with e3 | e3
      · exact Or.inl e3
      · exact e3.1.elim
    · rcases q with q | q
      · exact h4 g s (Or.inl q) hs hS
      · obtain ⟨g', q1, q2⟩ := h3' (by omega)
        obtain ⟨q3, -⟩ := h4 g' p (Or.inl q1) (by omega) q2
        have q5 : t < g + s := Nat.lt_of_le_of_lt q3 (by rw [q.2.1]; exact Nat.add_lt_add_of_lt_of_le q1 q.2.2)
        exact ⟨Nat.le_of_lt q5, fun z => absurd z (Nat.ne_of_gt q5)⟩
theorem grI_yes {S : Nat → Nat → Bool} {V f p T F : Nat} (h : grI S V f (p + 1) T F True) (hS : S f p = true) (hb : T = 0 ∨ f + p + 1 < T) : grI S V f p (f + p + 1) (f + 1) True := by
  obtain ⟨h1, h2, h3, h4⟩ := h
  refine ⟨by omega, fun g s q1 q2 => h2 g s q1 (by omega), fun _ => ⟨f, Or.inr ⟨trivial, rfl⟩, hS⟩, Or.inr ⟨f + p, f, rfl, rfl, Or.inr ⟨trivial, rfl⟩, by omega, by omega, by rw [Nat.add_sub_cancel_left]; exact hS, fun g s q hs hS2 => ?_⟩⟩
  by_cases e : g = f ∧ s = p
  · obtain ⟨rfl, rfl⟩ := e
    exact ⟨Nat.le_refl _, fun _ => Nat.le_refl _⟩
  · have q' : g < f ∨ (True ∧ g = f ∧ p + 1 ≤ s) := by
      rcases q with q | ⟨-, q1, q2⟩
      · exact Or.inl q
      · exact Or.inr ⟨trivial, q1, by have : ¬ s = p := fun z => e ⟨q1, z⟩; omega⟩
    rcases h4 with ⟨-, h4⟩ | ⟨t, x, e1, e2, e3, e4, e5, e6, h4⟩
    · rw [h4 g s q' hs] at hS2; cases hS2
    · obtain ⟨q3, -⟩ := h4 g s q' hs hS2
      clear h2 h3 h4 e3 q q' e
      exact ⟨by omega, fun z => by omega⟩
theorem grI_no {S : Nat → Nat → Bool} {V f p T F : Nat} (h : grI S V f (p + 1) T F True) (hS : S f p = true) (h0 : ¬ T = 0) (hb : T ≤ f + p + 1) : grI S V f p T F True := by
  obtain ⟨h1, h2, h3, h4⟩ := h
  refine ⟨by omega, fun g s q1 q2 => h2 g s q1 (by omega), fun _ => ⟨f, Or.inr ⟨trivial, rfl⟩, hS⟩, ?_⟩
  rcases h4 with ⟨e, -⟩ | ⟨t, x, e1, e2, e3, e4, e5, e6, h4⟩
  · exact absurd e h0
  · refine Or.inr ⟨t, x, e1, e2, e3, e4, e5, e6, fun g s q hs hS2 => ?_⟩
    have hx : x ≤ f := by rcases e3 with q | q <;> omega
    by_cases e : g = f ∧ s = p
    · obtain ⟨rfl, rfl⟩ := e
      exact ⟨by omega, fun _ => hx⟩
    · refine h4 g s ?_ hs hS2
      rcases q with q | ⟨-, q1, q2⟩
      · exact Or.inl q
      · exact Or.inr ⟨trivial, q1, by have : ¬ s = p := fun z => e ⟨q1, z⟩; omega⟩
theorem grI_out {S : Nat → Nat → Bool} {V f p T F : Nat} (h : grI S V f p T F True) (hS : ∀ s, s < p → S f s = false) : grI S V (f + 1) p T F False := by
  obtain ⟨h1, h2, h3, h4⟩ := h
  have two : ∀ g, g < f + 1 → g < f ∨ g = f := fun g q => by omega
  refine ⟨h1, fun g s q1 q2 => ?_, fun q => ?_, ?_⟩
  · rcases two g q1 with q | rfl
    · exact h2 g s q q2
    · exact hS s q2
  · obtain ⟨g, q1, q2⟩ := h3 q
    exact ⟨g, Or.inl (by rcases q1 with q1 | q1 <;> omega), q2⟩
  · have red : ∀ g s, (g < f + 1 ∨ (False ∧ g = f + 1 ∧ p ≤ s)) → S g s = true → g < f ∨ (True ∧ g = f ∧ p ≤ s) := fun g s q hS2 => by
      rcases q with q | q
      · rcases two g q with q | rfl
        · exact Or.inl q
        · refine Or.inr ⟨trivial, rfl, ?_⟩
          rcases Nat.lt_or_ge s p with z | z
          · rw [hS s z] at hS2; cases hS2
          · exact z
      · exact q.1.elim
    rcases h4 with ⟨e, h4⟩ | ⟨t, x, e1, e2, e3, e4, e5, e6, h4⟩
    · refine Or.inl ⟨e, fun g s q hs => ?_⟩
      cases hc : S g s with
      | false => rfl
      | true => rw [h4 g s (red g s q hc) hs] at hc; cases hc
    · exact Or.inr ⟨t, x, e1, e2, Or.inl (by rcases e3 with q | q <;> omega), e4, e5, e6, fun g s q hs hS2 => h4 g s (red g s q hS2) hs hS2⟩
