/-! chains: the least price from a station to an end, whichever way it is counted -/
/-- a chain of k stations from s to the end, for c -/
def Ch (E : Nat → Nat → Bool) (w : Nat → Nat) (n to : Nat) : Nat → Nat → Nat → Prop
  | 0, _, _ => False
  | k + 1, c, s => s < n ∧ ((k = 0 ∧ s = to ∧ c = w to) ∨ ∃ t c', E s t = true ∧ Ch E w n to k c' t ∧ c = w s + c')
section PATHS
variable {E : Nat → Nat → Bool} {w : Nat → Nat} {n to : Nat}
theorem Ch_lt : ∀ {k c s : Nat}, Ch E w n to k c s → s < n
  | 0, _, _, h => h.elim
  | _ + 1, _, _, h => h.1
theorem Ch_one (h : to < n) : Ch E w n to 1 (w to) to := ⟨h, Or.inl ⟨rfl, rfl, rfl⟩⟩
theorem Ch_step {k c s t : Nat} (hs : s < n) (he : E s t = true) (h : Ch E w n to k c t) : Ch E w n to (k + 1) (w s + c) s := ⟨hs, Or.inr ⟨t, c, he, h, rfl⟩⟩
theorem Ch_pos (hw : ∀ s, s < n → 0 < w s) : ∀ {k c s : Nat}, Ch E w n to k c s → 0 < c
  | 0, _, _, h => h.elim
  | k + 1, c, s, h => by
    have hs := hw s h.1
    rcases h.2 with ⟨-, e, e2⟩ | ⟨t, c', -, -, e2⟩
    · rw [e2, ← e]; exact hs
    · omega
theorem Ch_ge : ∀ {k c s : Nat}, Ch E w n to k c s → w s ≤ c
  | 0, _, _, h => h.elim
  | k + 1, c, s, h => by
    rcases h.2 with ⟨-, e, e2⟩ | ⟨t, c', -, -, e2⟩
    · rw [e2, e]; exact Nat.le_refl _
    · omega
theorem ex_least {P : Nat → Prop} : ∀ (m : Nat), (∃ c, c < m ∧ P c) → ∃ c, P c ∧ ∀ c', P c' → c ≤ c'
  | 0, ⟨c, h, _⟩ => absurd h (Nat.not_lt_zero c)
  | m + 1, ⟨c, h, hp⟩ => by
    by_cases q : ∃ c, c < m ∧ P c
    · exact ex_least m q
    · refine ⟨c, hp, fun c' h' => ?_⟩
      rcases Nat.lt_or_ge c' m with z | z
      · exact absurd ⟨c', z, h'⟩ q
      · omega
/-- the least price; 0 where there is no chain -/
noncomputable def dst (E : Nat → Nat → Bool) (w : Nat → Nat) (n to s : Nat) : Nat :=
  @dite Nat (∃ c, (∃ k, Ch E w n to k c s) ∧ ∀ c', (∃ k, Ch E w n to k c' s) → c ≤ c') (Classical.propDecidable _) (fun h => h.choose) (fun _ => 0)
theorem dst_of {c s : Nat} (h : ∃ k, Ch E w n to k c s) : (∃ k, Ch E w n to k (dst E w n to s) s) ∧ ∀ c' k, Ch E w n to k c' s → dst E w n to s ≤ c' := by
  have h2 := ex_least (P := fun c => ∃ k, Ch E w n to k c s) (c + 1) ⟨c, Nat.lt_succ_self _, h⟩
  unfold dst
  rw [dif_pos h2]
  exact ⟨h2.choose_spec.1, fun c' k q => h2.choose_spec.2 c' ⟨k, q⟩⟩
theorem dst_no {s : Nat} (h : ∀ c k, ¬ Ch E w n to k c s) : dst E w n to s = 0 := by
  unfold dst
  rw [dif_neg]
  intro ⟨c, ⟨k, q⟩, _⟩
  exact h c k q
theorem dst_ch {s : Nat} (h : dst E w n to s ≠ 0) : ∃ k, Ch E w n to k (dst E w n to s) s := by
  by_cases q : ∃ c k, Ch E w n to k c s
  · obtain ⟨c, hq⟩ := q
    exact (dst_of hq).1
  · exact absurd (dst_no (fun c k z => q ⟨c, k, z⟩)) h
theorem dst_lt {s : Nat} (h : dst E w n to s ≠ 0) : s < n := by obtain ⟨k, hk⟩ := dst_ch h; exact Ch_lt hk
theorem dst_le {k c s : Nat} (h : Ch E w n to k c s) : dst E w n to s ≤ c := (dst_of ⟨k, h⟩).2 c k h
theorem dst_pos (hw : ∀ s, s < n → 0 < w s) {k c s : Nat} (h : Ch E w n to k c s) : dst E w n to s ≠ 0 := by
  obtain ⟨⟨k', h'⟩, -⟩ := dst_of ⟨k, h⟩
  have := Ch_pos hw h'
  omega
/-- what is a chain's price and is no more than a step's and the rest's is the least -/
theorem dst_eq {s c : Nat} (h : ∃ k, Ch E w n to k c s) (hm : ∀ c' k, Ch E w n to k c' s → c ≤ c') : dst E w n to s = c := by
  obtain ⟨⟨k', h'⟩, h2⟩ := dst_of h
  obtain ⟨k, hk⟩ := h
  exact Nat.le_antisymm (h2 c k hk) (hm _ k' h')
theorem dst_to (ht : to < n) : dst E w n to to = w to := dst_eq ⟨1, Ch_one ht⟩ (fun _ _ h => Ch_ge h)
theorem dst_closed (hw : ∀ s, s < n → 0 < w s) {s t : Nat} (hs : s < n) (he : E s t = true) (ht : dst E w n to t ≠ 0) : dst E w n to s ≠ 0 ∧ dst E w n to s ≤ w s + dst E w n to t := by
  obtain ⟨k, hk⟩ := dst_ch ht
  have h := Ch_step hs he hk
  exact ⟨dst_pos hw h, dst_le h⟩
/-- a best chain goes on with a best chain -/
theorem dst_next (hw : ∀ s, s < n → 0 < w s) {k s : Nat} (h : Ch E w n to (k + 1) (dst E w n to s) s) : (k = 0 ∧ s = to) ∨ ∃ t, E s t = true ∧ Ch E w n to k (dst E w n to t) t ∧ dst E w n to t ≠ 0 ∧ dst E w n to s = w s + dst E w n to t := by
  rcases h.2 with ⟨e, e2, -⟩ | ⟨t, c', he, hc, e2⟩
  · exact Or.inl ⟨e, e2⟩
  · refine Or.inr ⟨t, he, ?_⟩
    have h0 := dst_pos hw hc
    have h1 := dst_le hc
    have h2 := (dst_closed hw h.1 he h0).2
    have h3 : dst E w n to t = c' := by omega
    rw [h3]
    exact ⟨hc, h3 ▸ h0, by omega⟩
theorem dst_tight (hw : ∀ s, s < n → 0 < w s) {s : Nat} (h : dst E w n to s ≠ 0) (hs : s ≠ to) : ∃ t, t < n ∧ E s t = true ∧ dst E w n to t ≠ 0 ∧ dst E w n to s = w s + dst E w n to t := by
  obtain ⟨k, hk⟩ := dst_ch h
  cases k with
  | zero => exact hk.elim
  | succ k =>
    rcases dst_next hw hk with ⟨-, e⟩ | ⟨t, h1, h2, h3, h4⟩
    · exact absurd e hs
    · exact ⟨t, Ch_lt h2, h1, h3, h4⟩
/-- a best chain has no more stations than there are -/
theorem dst_short (hw : ∀ s, s < n → 0 < w s) : ∀ (m : Nat) {s : Nat}, dst E w n to s < m → dst E w n to s ≠ 0 → ∃ k, k ≤ fb_ct (fun u => decide (dst E w n to u ≠ 0 ∧ dst E w n to u ≤ dst E w n to s)) n ∧ Ch E w n to k (dst E w n to s) s
  | 0, _, h, _ => absurd h (Nat.not_lt_zero _)
  | m + 1, s, h, h0 => by
    have hsn := dst_lt h0
    by_cases e : s = to
    · subst e
      refine ⟨1, fb_ct_pos.mpr ⟨s, hsn, decide_eq_true ⟨h0, Nat.le_refl _⟩⟩, ?_⟩
      rw [dst_to hsn]; exact Ch_one hsn
    · obtain ⟨t, ht, h1, h2, h3⟩ := dst_tight hw h0 e
      have := hw s hsn
      obtain ⟨k, hk, hc⟩ := dst_short hw m (s := t) (by omega) h2
      refine ⟨k + 1, ?_, by have := Ch_step hsn h1 hc; rw [h3]; exact this⟩
      refine Nat.lt_of_le_of_lt hk ?_
      have h4 := fb_ct_upd (fun u => decide (dst E w n to u ≠ 0 ∧ dst E w n to u ≤ dst E w n to t)) true hsn
      rw [if_neg (by rw [decide_eq_true_iff]; omega), if_pos rfl] at h4
      have h5 : fb_ct (fun k => if k = s then true else decide (dst E w n to k ≠ 0 ∧ dst E w n to k ≤ dst E w n to t)) n ≤ fb_ct (fun u => decide (dst E w n to u ≠ 0 ∧ dst E w n to u ≤ dst E w n to s)) n := by
        refine fb_ct_sub (fun u hu q => ?_)
        by_cases z : u = s
        · rw [z]; exact decide_eq_true ⟨h0, Nat.le_refl _⟩
        · rw [if_neg z] at q
          have q := of_decide_eq_true q
          exact decide_eq_true ⟨q.1, by omega⟩
      omega
theorem dst_n (hw : ∀ s, s < n → 0 < w s) {s : Nat} (h : dst E w n to s ≠ 0) : ∃ k, k ≤ n ∧ 0 < k ∧ Ch E w n to k (dst E w n to s) s := by
  obtain ⟨k, hk, hc⟩ := dst_short hw _ (Nat.lt_succ_self _) h
  refine ⟨k, Nat.le_trans hk (fb_ct_le _ _), ?_, hc⟩
  rcases Nat.eq_zero_or_pos k with e | e
  · subst e; exact hc.elim
  · exact e
theorem Ch_bound {B : Nat} (hB : ∀ s, s < n → w s ≤ B) : ∀ {k c s : Nat}, Ch E w n to k c s → c ≤ k * B
  | 0, _, _, h => h.elim
  | k + 1, c, s, h => by
    have hs := hB s h.1
    rcases h.2 with ⟨e, e1, e2⟩ | ⟨t, c', -, hc, e2⟩
    · rw [e, e2, ← e1]; omega
    · have := Ch_bound hB hc
      rw [Nat.add_mul, Nat.one_mul]
      omega
theorem Ch_cong {E' : Nat → Nat → Bool} {w' : Nat → Nat} {x : Nat} (hx : ∀ s, s ≠ x → ∀ t, s < n → t < n → E s t = E' s t) (h1 : ∀ s, s < n → E s x = false) (hw : ∀ s, s < n → w s = w' s) : ∀ {k c s : Nat}, s ≠ x → Ch E w n to k c s → Ch E' w' n to k c s
  | 0, _, _, _, h => h.elim
  | k + 1, c, s, hs, h => by
    refine ⟨h.1, ?_⟩
    rcases h.2 with ⟨e, e1, e2⟩ | ⟨t, c', he, hc, e2⟩
    · exact Or.inl ⟨e, e1, by rw [e2, ← e1]; exact hw s h.1⟩
    · have ht : t ≠ x := fun z => by rw [z, h1 s h.1] at he; cases he
      exact Or.inr ⟨t, c', by rw [← hx s hs t h.1 (Ch_lt hc)]; exact he, Ch_cong hx h1 hw ht hc, by rw [e2, hw s h.1]⟩
theorem dst_cong {E' : Nat → Nat → Bool} {w' : Nat → Nat} {x : Nat} (hx : ∀ s, s ≠ x → ∀ t, s < n → t < n → E s t = E' s t) (h1 : ∀ s, s < n → E s x = false) (h2 : ∀ s, s < n → E' s x = false) (hw : ∀ s, s < n → w s = w' s) {s : Nat} (hs : s ≠ x) : dst E w n to s = dst E' w' n to s := by
  have g1 : ∀ {k c}, Ch E w n to k c s → Ch E' w' n to k c s := fun h => Ch_cong hx h1 hw hs h
  have g2 : ∀ {k c}, Ch E' w' n to k c s → Ch E w n to k c s := fun h => Ch_cong (fun s hs t h3 h4 => (hx s hs t h3 h4).symm) h2 (fun s h3 => (hw s h3).symm) hs h
  by_cases q : ∃ c k, Ch E w n to k c s
  · obtain ⟨c, k, hc⟩ := q
    obtain ⟨⟨k1, a1⟩, a2⟩ := dst_of ⟨k, hc⟩
    exact (dst_eq ⟨k1, g1 a1⟩ (fun c' k' z => a2 c' k' (g2 z))).symm
  · rw [dst_no (fun c k z => q ⟨c, k, z⟩), dst_no (fun c k z => q ⟨c, k, g2 z⟩)]
theorem dst_cong' {E' : Nat → Nat → Bool} {w' : Nat → Nat} (hx : ∀ s t, s < n → t < n → E s t = E' s t) (hw : ∀ s, s < n → w s = w' s) {s : Nat} : dst E w n to s = dst E' w' n to s := by
  have g : ∀ {E E' : Nat → Nat → Bool} {w w' : Nat → Nat}, (∀ s t, s < n → t < n → E s t = E' s t) → (∀ s, s < n → w s = w' s) → ∀ {k c s}, Ch E w n to k c s → Ch E' w' n to k c s := by
    intro E E' w w' hx hw k
    induction k with
    | zero => intro c s h; exact h.elim
    | succ k ih =>
      intro c s h
      refine ⟨h.1, ?_⟩
      rcases h.2 with ⟨e, e1, e2⟩ | ⟨t, c', he, hc, e2⟩
      · exact Or.inl ⟨e, e1, by rw [e2, ← e1]; exact hw s h.1⟩
      · exact Or.inr ⟨t, c', by rw [← hx s t h.1 (Ch_lt hc)]; exact he, ih hc, by rw [e2, hw s h.1]⟩
  have g1 : ∀ {k c}, Ch E w n to k c s → Ch E' w' n to k c s := fun h => g hx hw h
  have g2 : ∀ {k c}, Ch E' w' n to k c s → Ch E w n to k c s := fun h => g (fun s t h3 h4 => (hx s t h3 h4).symm) (fun s h3 => (hw s h3).symm) h
  by_cases q : ∃ c k, Ch E w n to k c s
  · obtain ⟨c, k, hc⟩ := q
    obtain ⟨⟨k1, a1⟩, a2⟩ := dst_of ⟨k, hc⟩
    exact (dst_eq ⟨k1, g1 a1⟩ (fun c' k' z => a2 c' k' (g2 z))).symm
  · rw [dst_no (fun c k z => q ⟨c, k, z⟩), dst_no (fun c k z => q ⟨c, k, g2 z⟩)]
/-! rounds of relaxing -/
/-- no price is more than a step's and the rest's: with as many rounds as stations all are least -/
def Rel (E : Nat → Nat → Bool) (w : Nat → Nat) (n to r : Nat) (c : Nat → Nat) : Prop := ∀ k x s, k ≤ r + 1 → Ch E w n to k x s → c s ≤ x
theorem Rel_0 {c : Nat → Nat} (h : to < n → c to ≤ w to) : Rel E w n to 0 c := by
  intro k x s hk hc
  cases k with
  | zero => exact hc.elim
  | succ k =>
    rcases hc.2 with ⟨e, e1, e2⟩ | ⟨t, c', he, hc2, e2⟩
    · rw [e1, e2]; exact h (e1 ▸ hc.1)
    · rw [show k = 0 by omega] at hc2; exact hc2.elim
theorem Rel_s {r : Nat} {c c2 : Nat → Nat} (h : Rel E w n to r c) (h1 : ∀ s, c2 s ≤ c s) (h2 : ∀ s, s < n → ∀ t, t < n → E s t = true → c2 s ≤ w s + c t) : Rel E w n to (r + 1) c2 := by
  intro k x s hk hc
  cases k with
  | zero => exact hc.elim
  | succ k =>
    rcases hc.2 with ⟨e, e1, e2⟩ | ⟨t, c', he, hc2, e2⟩
    · exact Nat.le_trans (h1 s) (h 1 x s (by omega) (by rw [e] at hc; exact hc))
    · have := h k c' t (by omega) hc2
      have := h2 s hc.1 t (Ch_lt hc2) he
      omega
/-- prices that chains have, INF where none was found -/
def Snd (E : Nat → Nat → Bool) (w : Nat → Nat) (n to INF : Nat) (c : Nat → Nat) : Prop := ∀ s, c s = INF ∨ ∃ k, Ch E w n to k (c s) s
theorem Rel_end (hw : ∀ s, s < n → 0 < w s) {r INF B : Nat} {c : Nat → Nat} (h : Rel E w n to r c) (hr : n ≤ r + 1) (hs : Snd E w n to INF c) (hB : ∀ s, s < n → w s ≤ B) (hI : n * B < INF) (s : Nat) : c s = if dst E w n to s = 0 then INF else dst E w n to s := by
  by_cases q : dst E w n to s = 0
  · rw [if_pos q]
    rcases hs s with e | ⟨k, hk⟩
    · exact e
    · exact absurd q (dst_pos hw hk)
  · rw [if_neg q]
    obtain ⟨k, hk, -, hc⟩ := dst_n hw q
    have h1 := h k _ s (by omega) hc
    have h2 := Ch_bound hB hc
    have h3 : k * B ≤ n * B := Nat.mul_le_mul_right _ hk
    rcases hs s with e | ⟨k', hk'⟩
    · omega
    · have := dst_le hk'
      omega
theorem Clo_end {c : Nat → Nat} (h0 : ∀ s, c s = 0 ∨ ∃ k, Ch E w n to k (c s) s) (h1 : to < n → c to ≠ 0 ∧ c to ≤ w to) (h2 : ∀ s, s < n → ∀ t, t < n → E s t = true → c t ≠ 0 → c s ≠ 0 ∧ c s ≤ w s + c t) (s : Nat) : c s = dst E w n to s := by
  have key : ∀ k x s, Ch E w n to k x s → c s ≠ 0 ∧ c s ≤ x := by
    intro k
    induction k with
    | zero => intro x s h; exact h.elim
    | succ k ih =>
      intro x s h
      rcases h.2 with ⟨e, e1, e2⟩ | ⟨t, c', he, hc2, e2⟩
      · rw [e1, e2]; exact h1 (e1 ▸ h.1)
      · have := ih c' t hc2
        have := h2 s h.1 t (Ch_lt hc2) he this.1
        omega
  rcases h0 s with e | hk
  · rw [e, dst_no (fun c' k z => (key k c' s z).1 e)]
  · exact (dst_eq hk (fun c' k z => (key k c' s z).2)).symm
/-! the next station of a best chain, the least one; the best chain itself -/
def tgt (E : Nat → Nat → Bool) (w d : Nat → Nat) (s t : Nat) : Bool := E s t && decide (d t ≠ 0 ∧ d s = w s + d t)
def nxt (E : Nat → Nat → Bool) (w d : Nat → Nat) (n s : Nat) : Nat := fa_first (tgt E w d s) n
def pth (E : Nat → Nat → Bool) (w d : Nat → Nat) (n s : Nat) : Nat → Nat
  | 0 => s
  | i + 1 => nxt E w d n (pth E w d n s i)
theorem nxt_ok (hw : ∀ s, s < n → 0 < w s) {s : Nat} (h : dst E w n to s ≠ 0) (hs : s ≠ to) : nxt E w (dst E w n to) n s < n ∧ tgt E w (dst E w n to) s (nxt E w (dst E w n to) n s) = true := by
  obtain ⟨t, h1, h2, h3, h4⟩ := dst_tight hw h hs
  have hlt : nxt E w (dst E w n to) n s < n := by
    refine Decidable.byContradiction (fun q => ?_)
    have h5 := fa_first_no (tgt E w (dst E w n to) s) n t (by have : n ≤ fa_first (tgt E w (dst E w n to) s) n := Nat.not_lt.mp q; omega)
    have h6 : tgt E w (dst E w n to) s t = true := by unfold tgt; rw [h2, decide_eq_true ⟨h3, h4⟩]; rfl
    rw [h5] at h6; cases h6
  exact ⟨hlt, fa_first_yes _ _ hlt⟩
theorem tgt_iff {d : Nat → Nat} {s t : Nat} : tgt E w d s t = true ↔ E s t = true ∧ d t ≠ 0 ∧ d s = w s + d t := by
  unfold tgt
  rw [Bool.and_eq_true, decide_eq_true_iff]
end PATHS
/-! prices of one kind: W for each of some stations, and 1 for each station -/
section PAIRS
variable {E : Nat → Nat → Bool} {b : Nat → Nat} {n to : Nat}
theorem Ch_pair (W : Nat) : ∀ {k c s : Nat}, Ch E (fun s => W * b s + 1) n to k c s ↔ ∃ x, Ch E b n to k x s ∧ c = W * x + k
  | 0, _, _ => ⟨fun h => h.elim, fun ⟨_, h, _⟩ => h.elim⟩
  | k + 1, c, s => by
    constructor
    · intro h
      rcases h.2 with ⟨e, e1, e2⟩ | ⟨t, c', he, hc, e2⟩
      · exact ⟨b to, ⟨h.1, Or.inl ⟨e, e1, rfl⟩⟩, by rw [e2, e]⟩
      · obtain ⟨x, hx, hx2⟩ := (Ch_pair W).mp hc
        refine ⟨b s + x, ⟨h.1, Or.inr ⟨t, x, he, hx, rfl⟩⟩, ?_⟩
        have e3 : c = W * b s + 1 + c' := e2
        rw [e3, hx2, Nat.mul_add]; omega
    · intro ⟨x, h, hx⟩
      refine ⟨h.1, ?_⟩
      rcases h.2 with ⟨e, e1, e2⟩ | ⟨t, c', he, hc, e2⟩
      · exact Or.inl ⟨e, e1, by rw [hx, e2, e]⟩
      · refine Or.inr ⟨t, W * c' + k, he, (Ch_pair W).mpr ⟨c', hc, rfl⟩, ?_⟩
        show c = W * b s + 1 + (W * c' + k)
        rw [hx, e2, Nat.mul_add]; omega
theorem wpos (W : Nat) : ∀ s, s < n → 0 < (fun s => W * b s + 1) s := fun _ _ => Nat.succ_pos _
theorem dst_n2 {W : Nat} {s : Nat} (h : dst E (fun s => W * b s + 1) n to s ≠ 0) : ∃ x k, 0 < k ∧ k ≤ n ∧ Ch E b n to k x s ∧ dst E (fun s => W * b s + 1) n to s = W * x + k := by
  obtain ⟨k, h1, h2, h3⟩ := dst_n (wpos W) h
  obtain ⟨x, h4, h5⟩ := (Ch_pair W).mp h3
  exact ⟨x, k, h2, h1, h4, h5⟩
theorem dst_iff {W : Nat} {s : Nat} : dst E (fun s => W * b s + 1) n to s ≠ 0 ↔ ∃ k x, Ch E b n to k x s := by
  constructor
  · intro h
    obtain ⟨x, k, -, -, h4, -⟩ := dst_n2 h
    exact ⟨k, x, h4⟩
  · intro ⟨k, x, h⟩
    exact dst_pos (wpos W) ((Ch_pair W).mpr ⟨x, h, rfl⟩)
theorem dst_0 {W V : Nat} {s : Nat} : dst E (fun s => W * b s + 1) n to s = 0 ↔ dst E (fun s => V * b s + 1) n to s = 0 := by
  have h1 := @dst_iff E b n to W s
  have h2 := @dst_iff E b n to V s
  constructor
  · intro q; exact Decidable.byContradiction (fun z => (h1.mpr (h2.mp z)) q)
  · intro q; exact Decidable.byContradiction (fun z => (h2.mpr (h1.mp z)) q)
/-- with W and V above the number of stations, both prices belong to one pair -/
theorem dst_pair {W V : Nat} (hW : n < W) (hV : n < V) {s : Nat} (h : dst E (fun s => W * b s + 1) n to s ≠ 0) : ∃ x k, 0 < k ∧ k ≤ n ∧ dst E (fun s => W * b s + 1) n to s = W * x + k ∧ dst E (fun s => V * b s + 1) n to s = V * x + k := by
  have h' : dst E (fun s => V * b s + 1) n to s ≠ 0 := fun q => h (dst_0.mp q)
  obtain ⟨x, k, h1, h2, h3, h4⟩ := dst_n2 h
  obtain ⟨y, j, g1, g2, g3, g4⟩ := dst_n2 h'
  have q1 := dst_le ((Ch_pair W).mpr ⟨y, g3, rfl⟩)
  have q2 := dst_le ((Ch_pair V).mpr ⟨x, h3, rfl⟩)
  rw [h4] at q1
  rw [g4] at q2
  have exy : x = y := by
    rcases Nat.lt_trichotomy x y with q | q | q
    · have : V * (x + 1) ≤ V * y := Nat.mul_le_mul_left _ q
      rw [Nat.mul_add] at this
      omega
    · exact q
    · have : W * (y + 1) ≤ W * x := Nat.mul_le_mul_left _ q
      rw [Nat.mul_add] at this
      omega
  subst exy
  exact ⟨x, k, h1, h2, h4, by rw [g4]; omega⟩
theorem mul_pair {W x y k j : Nat} (hk : k < W) (hj : j < W) : W * x + k = W * y + j ↔ x = y ∧ k = j := by
  constructor
  · intro h
    rcases Nat.lt_trichotomy x y with q | q | q
    · have : W * (x + 1) ≤ W * y := Nat.mul_le_mul_left _ q
      rw [Nat.mul_add] at this
      omega
    · subst q; exact ⟨rfl, by omega⟩
    · have : W * (y + 1) ≤ W * x := Nat.mul_le_mul_left _ q
      rw [Nat.mul_add] at this
      omega
  · rintro ⟨rfl, rfl⟩; rfl
theorem tgt_pair {W V : Nat} (hW : n + 1 < W) (hV : n + 1 < V) {s t : Nat} (h : dst E (fun s => W * b s + 1) n to s ≠ 0) : tgt E (fun s => W * b s + 1) (dst E (fun s => W * b s + 1) n to) s t = tgt E (fun s => V * b s + 1) (dst E (fun s => V * b s + 1) n to) s t := by
  refine Bool.eq_iff_iff.mpr ?_
  rw [tgt_iff, tgt_iff]
  refine and_congr_right (fun _ => ?_)
  obtain ⟨x, k, h1, h2, h3, h4⟩ := dst_pair (V := V) (by omega) (by omega) h
  by_cases q : dst E (fun s => W * b s + 1) n to t = 0
  · exact ⟨fun z => absurd q z.1, fun z => absurd (dst_0.mp q) z.1⟩
  · obtain ⟨y, j, g1, g2, g3, g4⟩ := dst_pair (V := V) (by omega) (by omega) q
    rw [h3, h4, g3, g4]
    rw [show W * b s + 1 + (W * y + j) = W * (b s + y) + (j + 1) by rw [Nat.mul_add]; omega, show V * b s + 1 + (V * y + j) = V * (b s + y) + (j + 1) by rw [Nat.mul_add]; omega, mul_pair (by omega) (by omega), mul_pair (by omega) (by omega)]
    exact ⟨fun z => ⟨by omega, z.2⟩, fun z => ⟨by omega, z.2⟩⟩
theorem nxt_pair {W V : Nat} (hW : n + 1 < W) (hV : n + 1 < V) {s : Nat} (h : dst E (fun s => W * b s + 1) n to s ≠ 0) : nxt E (fun s => W * b s + 1) (dst E (fun s => W * b s + 1) n to) n s = nxt E (fun s => V * b s + 1) (dst E (fun s => V * b s + 1) n to) n s := by
  unfold nxt
  rw [show tgt E (fun s => W * b s + 1) (dst E (fun s => W * b s + 1) n to) s = tgt E (fun s => V * b s + 1) (dst E (fun s => V * b s + 1) n to) s from funext (fun t => tgt_pair hW hV h)]
end PAIRS
/-! along a best chain; len is how a price says the number of stations -/
section ALONG
variable {E : Nat → Nat → Bool} {w : Nat → Nat} {n to : Nat} {ln : Nat → Nat}
theorem ln_step (hw : ∀ s, s < n → 0 < w s) (hu : ∀ k c s, k ≤ n + 1 → Ch E w n to k c s → ln c = k) {s t : Nat} (hs : dst E w n to s ≠ 0) (h : tgt E w (dst E w n to) s t = true) : ln (dst E w n to s) = ln (dst E w n to t) + 1 ∧ dst E w n to t ≠ 0 ∧ dst E w n to s = w s + dst E w n to t := by
  obtain ⟨h1, h2, h3⟩ := tgt_iff.mp h
  obtain ⟨k, hk, hk0, hc⟩ := dst_n hw h2
  have h4 := Ch_step (dst_lt hs) h1 hc
  rw [← h3] at h4
  exact ⟨by rw [hu _ _ _ (by omega) h4, hu _ _ _ (by omega) hc], h2, h3⟩
theorem ln_one (hw : ∀ s, s < n → 0 < w s) (hu : ∀ k c s, k ≤ n + 1 → Ch E w n to k c s → ln c = k) {s : Nat} (hs : dst E w n to s ≠ 0) : ln (dst E w n to s) = 1 ↔ s = to := by
  constructor
  · intro q
    obtain ⟨k, hk, hk0, hc⟩ := dst_n hw hs
    have := hu _ _ _ (by omega) hc
    rw [show k = 0 + 1 by omega] at hc
    rcases hc.2 with ⟨-, e, -⟩ | ⟨t, c', he, hc, e2⟩
    · exact e
    · exact hc.elim
  · intro q
    subst q
    have h := dst_lt hs
    rw [dst_to h]
    exact hu 1 _ _ (by omega) (Ch_one h)
theorem ln_rng (hw : ∀ s, s < n → 0 < w s) (hu : ∀ k c s, k ≤ n + 1 → Ch E w n to k c s → ln c = k) {s : Nat} (hs : dst E w n to s ≠ 0) : 0 < ln (dst E w n to s) ∧ ln (dst E w n to s) ≤ n := by
  obtain ⟨k, hk, hk0, hc⟩ := dst_n hw hs
  rw [hu _ _ _ (by omega) hc]
  exact ⟨hk0, hk⟩
theorem pth_in (hw : ∀ s, s < n → 0 < w s) (hu : ∀ k c s, k ≤ n + 1 → Ch E w n to k c s → ln c = k) {s : Nat} (hs : dst E w n to s ≠ 0) : ∀ i, i < ln (dst E w n to s) → dst E w n to (pth E w (dst E w n to) n s i) ≠ 0 ∧ ln (dst E w n to (pth E w (dst E w n to) n s i)) = ln (dst E w n to s) - i ∧ dst E w n to s = fb_sm (fun j => w (pth E w (dst E w n to) n s j)) i + dst E w n to (pth E w (dst E w n to) n s i)
  | 0, _ => ⟨hs, rfl, (Nat.zero_add _).symm⟩
  | i + 1, h => by
    obtain ⟨h1, h2, h3⟩ := pth_in hw hu hs i (by omega)
    have hne : pth E w (dst E w n to) n s i ≠ to := fun q => by
      have := (ln_one hw hu h1).mpr q
      omega
    obtain ⟨h4, h5⟩ := nxt_ok hw h1 hne
    obtain ⟨h6, h7, h8⟩ := ln_step hw hu h1 h5
    refine ⟨h7, ?_, ?_⟩
    · show ln (dst E w n to (nxt E w (dst E w n to) n (pth E w (dst E w n to) n s i))) = _
      omega
    · rw [fb_sm_succ]
      show _ = _ + dst E w n to (nxt E w (dst E w n to) n (pth E w (dst E w n to) n s i))
      omega
theorem pth_sum (hw : ∀ s, s < n → 0 < w s) (hu : ∀ k c s, k ≤ n + 1 → Ch E w n to k c s → ln c = k) {s : Nat} (hs : dst E w n to s ≠ 0) : dst E w n to s = fb_sm (fun j => w (pth E w (dst E w n to) n s j)) (ln (dst E w n to s)) := by
  have h0 := ln_rng hw hu hs
  obtain ⟨h1, h2, h3⟩ := pth_in hw hu hs (ln (dst E w n to s) - 1) (by omega)
  have e := (ln_one hw hu h1).mp (by omega)
  have e2 : dst E w n to (pth E w (dst E w n to) n s (ln (dst E w n to s) - 1)) = w (pth E w (dst E w n to) n s (ln (dst E w n to s) - 1)) := by
    have := dst_lt h1
    rw [e] at this ⊢
    exact dst_to this
  have e3 := fb_sm_succ (fun j => w (pth E w (dst E w n to) n s j)) (ln (dst E w n to s) - 1)
  rw [show ln (dst E w n to s) - 1 + 1 = ln (dst E w n to s) by omega] at e3
  omega
end ALONG
section LNS
variable {E : Nat → Nat → Bool} {b : Nat → Nat} {n to : Nat}
theorem ln_0 : ∀ k c s, k ≤ n + 1 → Ch E (fun _ => 1) n to k c s → id c = k := by
  intro k
  induction k with
  | zero => intro c s _ h; exact h.elim
  | succ k ih =>
    intro c s hk h
    rcases h.2 with ⟨e, e1, e2⟩ | ⟨t, c', he, hc, e2⟩
    · have e3 : c = 1 := e2
      show c = _; omega
    · have : c' = k := ih c' t (by omega) hc
      have e3 : c = 1 + c' := e2
      show c = _; omega
theorem ln_W {W : Nat} (hW : n + 1 < W) : ∀ k c s, k ≤ n + 1 → Ch E (fun s => W * b s + 1) n to k c s → c % W = k := by
  intro k c s hk h
  obtain ⟨x, -, rfl⟩ := (Ch_pair W).mp h
  rw [Nat.mul_add_mod]
  exact Nat.mod_eq_of_lt (by omega)
/-- both prices go one way -/
theorem pth_pair {W V : Nat} (hW : n + 1 < W) (hV : n + 1 < V) {s : Nat} (h : dst E (fun s => W * b s + 1) n to s ≠ 0) : ∀ i, i < dst E (fun s => W * b s + 1) n to s % W → pth E (fun s => W * b s + 1) (dst E (fun s => W * b s + 1) n to) n s i = pth E (fun s => V * b s + 1) (dst E (fun s => V * b s + 1) n to) n s i
  | 0, _ => rfl
  | i + 1, hi => by
    have h1 := (pth_in (ln := fun c => c % W) (wpos W) (ln_W hW) h i (by show i < _ % W; omega)).1
    show nxt _ _ _ _ _ = nxt _ _ _ _ _
    rw [← pth_pair hW hV h i (by omega)]
    exact nxt_pair hW hV h1
/-- how many of a best chain's stations are of the dear kind -/
theorem pth_dear {W : Nat} (hW : n + 1 < W) {s : Nat} (h : dst E (fun s => W * b s + 1) n to s ≠ 0) : fb_sm (fun j => b (pth E (fun s => W * b s + 1) (dst E (fun s => W * b s + 1) n to) n s j)) (dst E (fun s => W * b s + 1) n to s % W) = dst E (fun s => W * b s + 1) n to s / W := by
  have h1 := pth_sum (ln := fun c => c % W) (wpos W) (ln_W hW) h
  have h2 : ∀ (f : Nat → Nat) k, fb_sm (fun j => W * f j + 1) k = W * fb_sm f k + k := by
    intro f k
    induction k with
    | zero => rfl
    | succ k ih => rw [fb_sm_succ, fb_sm_succ, ih, Nat.mul_add]; omega
  have h3 := h2 (fun j => b (pth E (fun s => W * b s + 1) (dst E (fun s => W * b s + 1) n to) n s j)) (dst E (fun s => W * b s + 1) n to s % W)
  have h4 := h1.trans h3
  have h5 := Nat.div_add_mod (dst E (fun s => W * b s + 1) n to s) W
  have h6 : W * fb_sm (fun j => b (pth E (fun s => W * b s + 1) (dst E (fun s => W * b s + 1) n to) n s j)) (dst E (fun s => W * b s + 1) n to s % W) = W * (dst E (fun s => W * b s + 1) n to s / W) := by omega
  exact Nat.eq_of_mul_eq_mul_left (by omega) h6
end LNS
/-! what is reached -/
def Rch (L : Nat → Nat → Bool) (n : Nat) (X : Nat → Bool) (a v : Nat) : Prop := ∀ P : Nat → Prop, P a → (∀ u v, P u → (u = a ∨ X u = true) → L u v = true → v < n → P v) → P v
theorem Rch.base {L : Nat → Nat → Bool} {n : Nat} {X : Nat → Bool} {a : Nat} : Rch L n X a a := fun _ h _ => h
theorem Rch.step {L : Nat → Nat → Bool} {n : Nat} {X : Nat → Bool} {a u v : Nat} (h : Rch L n X a u) (h1 : u = a ∨ X u = true) (h2 : L u v = true) (h3 : v < n) : Rch L n X a v := fun P p0 p1 => p1 u v (h P p0 p1) h1 h2 h3
theorem Rch.ind {L : Nat → Nat → Bool} {n : Nat} {X : Nat → Bool} {a : Nat} {Q : Nat → Prop} (h0 : Q a) (h1 : ∀ u v, Rch L n X a u → Q u → (u = a ∨ X u = true) → L u v = true → v < n → Q v) {v : Nat} (h : Rch L n X a v) : Q v :=
  (h (fun v => Rch L n X a v ∧ Q v) ⟨.base, h0⟩ (fun u v hu q1 q2 q3 => ⟨.step hu.1 q1 q2 q3, h1 u v hu.1 hu.2 q1 q2 q3⟩)).2
theorem Rch_lt {L : Nat → Nat → Bool} {n : Nat} {X : Nat → Bool} {a : Nat} (ha : a < n) {v : Nat} (h : Rch L n X a v) : v < n := Rch.ind (Q := fun v => v < n) ha (fun _ _ _ _ _ _ h => h) h
theorem Rch_dst {L : Nat → Nat → Bool} {n : Nat} {X : Nat → Bool} {a to : Nat} {w : Nat → Nat} (hw : ∀ s, s < n → 0 < w s) (ha : a < n) (ht : to < n) : Rch L n X a to ↔ dst (fun s t => L s t && (decide (t = to) || X t)) w n to a ≠ 0 := by
  constructor
  · intro h
    have key : ∀ v, Rch L n X a v → (v = a ∨ v = to ∨ X v = true) → (∃ k c, Ch (fun s t => L s t && (decide (t = to) || X t)) w n to k c v) → ∃ k c, Ch (fun s t => L s t && (decide (t = to) || X t)) w n to k c a := by
      intro v hv
      refine Rch.ind (Q := fun v => (v = a ∨ v = to ∨ X v = true) → (∃ k c, Ch (fun s t => L s t && (decide (t = to) || X t)) w n to k c v) → ∃ k c, Ch (fun s t => L s t && (decide (t = to) || X t)) w n to k c a) (fun _ q => q) (fun u v hu ih h1 h2 h3 h4 => ?_) hv
      intro ⟨k, c, hc⟩
      by_cases e : v = a
      · exact ⟨k, c, e ▸ hc⟩
      · refine ih (h1.elim Or.inl (fun z => Or.inr (Or.inr z))) ⟨k + 1, _, Ch_step (Rch_lt ha hu) ?_ hc⟩
        show (L u v && (decide (v = to) || X v)) = true
        rw [h2, Bool.true_and, Bool.or_eq_true, decide_eq_true_iff]
        exact h4.resolve_left e
    obtain ⟨k, c, hc⟩ := key to h (Or.inr (Or.inl rfl)) ⟨1, _, Ch_one ht⟩
    exact dst_pos hw hc
  · intro h
    obtain ⟨k, hk⟩ := dst_ch h
    have key : ∀ k c s, Ch (fun s t => L s t && (decide (t = to) || X t)) w n to k c s → Rch L n X a s → (s = a ∨ X s = true) → Rch L n X a to := by
      intro k
      induction k with
      | zero => intro c s q; exact q.elim
      | succ k ih =>
        intro c s q hr hx
        rcases q.2 with ⟨e, e1, e2⟩ | ⟨t, c', he, hc, e2⟩
        · exact e1 ▸ hr
        · have he : (L s t && (decide (t = to) || X t)) = true := he
          rw [Bool.and_eq_true, Bool.or_eq_true, decide_eq_true_iff] at he
          have h5 := Rch.step hr hx he.1 (Ch_lt hc)
          rcases he.2 with e | e
          · exact e ▸ h5
          · exact ih c' t hc h5 (Or.inr e)
    exact key k _ a hk .base (Or.inl rfl)
theorem ct_eq {p q : Nat → Bool} {n : Nat} (h : ∀ k, k < n → p k = true → q k = true) (h2 : fb_ct q n ≤ fb_ct p n) : ∀ k, k < n → q k = true → p k = true := by
  intro k hk hq
  refine Decidable.byContradiction (fun hp => ?_)
  have h4 := fb_ct_upd p true hk
  rw [if_neg hp, if_pos rfl] at h4
  have h5 : fb_ct (fun j => if j = k then true else p j) n ≤ fb_ct q n := by
    refine fb_ct_sub (fun u hu z => ?_)
    by_cases e : u = k
    · rw [e]; exact hq
    · rw [if_neg e] at z; exact h u hu z
  omega
/-- a round more: all is reached, or one more -/
theorem Rch_round {L : Nat → Nat → Bool} {n : Nat} {X : Nat → Bool} {a r : Nat} (ha : a < n) {S T : Nat → Bool} (hS : S a = true) (h0 : (∀ v, Rch L n X a v → S v = true) ∨ r + 1 ≤ fb_ct S n) (h1 : ∀ u, u < n → S u = true → T u = true)
    (h2 : ∀ u, u < n → S u = true → (u = a ∨ X u = true) → ∀ v, v < n → L u v = true → T v = true) : (∀ v, Rch L n X a v → T v = true) ∨ r + 1 + 1 ≤ fb_ct T n := by
  rcases h0 with h | h
  · exact Or.inl (fun v hv => h1 v (Rch_lt ha hv) (h v hv))
  · rcases Nat.lt_or_ge (fb_ct S n) (fb_ct T n) with q | q
    · exact Or.inr (by omega)
    · refine Or.inl (fun v hv => ?_)
      have h3 := ct_eq h1 q
      exact Rch.ind (Q := fun v => T v = true) (h1 a ha hS) (fun u v hu ih h4 h5 h6 => h2 _ (Rch_lt ha hu) (h3 _ (Rch_lt ha hu) ih) h4 _ h6 h5) hv
theorem Rch_all {L : Nat → Nat → Bool} {n : Nat} {X : Nat → Bool} {S : Nat → Bool} {a r : Nat} (hr : n ≤ r) (h0 : (∀ v, Rch L n X a v → S v = true) ∨ r + 1 ≤ fb_ct S n) : ∀ v, Rch L n X a v → S v = true := by
  rcases h0 with h | h
  · exact h
  · have := fb_ct_le S n
    omega
/-- all stations in a row, each linked with the next -/
theorem Rch_row {L : Nat → Nat → Bool} {n : Nat} {X : Nat → Bool} (hL : ∀ s, s + 1 < n → L s (s + 1) = true) (hX : ∀ s, s < n → X s = true) : ∀ v, v < n → Rch L n X 0 v
  | 0, _ => .base
  | v + 1, h => .step (Rch_row hL hX v (by omega)) (Or.inr (hX v (by omega))) (hL v h) h
