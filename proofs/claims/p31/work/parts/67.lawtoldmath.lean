/-! what the law adds up: from above downwards -/
def dn (F : Nat → Nat) (n k : Nat) : Nat := fb_sm F n - fb_sm F k
theorem dn_top (F : Nat → Nat) (n : Nat) : dn F n n = 0 := Nat.sub_self _
theorem dn_0 (F : Nat → Nat) (n : Nat) : dn F n 0 = fb_sm F n := Nat.sub_zero _
theorem dn_step (F : Nat → Nat) {n k : Nat} (h : k < n) : dn F n (k + 1) + F k = dn F n k := by
  have := fb_sm_part F h
  unfold dn
  rw [fb_sm_succ]
  omega
theorem ct_sm (p : Nat → Bool) : ∀ n, fb_ct p n = fb_sm (fun k => if p k = true then 1 else 0) n
  | 0 => rfl
  | n + 1 => by rw [fb_ct_succ, fb_sm_succ, ct_sm p n]
/-- the farthest among the pairs that are looked at, the first of several -/
def fsG (C : Nat → Nat → Prop) (v0 d v : Nat) : Prop := (d = 0 ∧ v = v0 ∧ ∀ a b, ¬ C a b) ∨ (∃ a b, C a b ∧ a < b ∧ d = b - a ∧ v = 100 * a + b ∧ ∀ x y, C x y → x < y ∧ (y - x < d ∨ (y - x = d ∧ a ≤ x)))
theorem fsG_cong {C E : Nat → Nat → Prop} {v0 d v : Nat} (h : ∀ a b, C a b ↔ E a b) (z : fsG C v0 d v) : fsG E v0 d v := by
  rcases z with ⟨h1, h2, h3⟩ | ⟨a, b, h1, h2, h3, h4, h5⟩
  · exact Or.inl ⟨h1, h2, fun a b q => h3 a b ((h a b).mpr q)⟩
  · exact Or.inr ⟨a, b, (h a b).mp h1, h2, h3, h4, fun x y q => h5 x y ((h x y).mpr q)⟩
/-- a pair more that is not nearer than the farthest, and not behind it -/
theorem fsG_new {C : Nat → Nat → Prop} {v0 d v k t : Nat} (z : fsG C v0 d v) (hkt : k < t) (hd : d ≤ t - k) (hC : ∀ x y, C x y → k ≤ x) : fsG (fun a b => C a b ∨ (a = k ∧ b = t)) v0 (t - k) (100 * k + t) := by
  refine Or.inr ⟨k, t, Or.inr ⟨rfl, rfl⟩, hkt, rfl, rfl, fun x y q => ?_⟩
  rcases q with q | ⟨q1, q2⟩
  · rcases z with ⟨h1, h2, h3⟩ | ⟨a, b, h1, h2, h3, h4, h5⟩
    · exact absurd q (h3 x y)
    · have := hC x y q
      have := h5 x y q
      omega
  · omega
theorem fsG_old {C : Nat → Nat → Prop} {v0 d v k t : Nat} (z : fsG C v0 d v) (hkt : k < t) (hd : t - k < d) : fsG (fun a b => C a b ∨ (a = k ∧ b = t)) v0 d v := by
  rcases z with ⟨h1, h2, h3⟩ | ⟨a, b, h1, h2, h3, h4, h5⟩
  · omega
  · refine Or.inr ⟨a, b, Or.inl h1, h2, h3, h4, fun x y q => ?_⟩
    rcases q with q | ⟨q1, q2⟩
    · exact h5 x y q
    · omega
/-- from below: a pair more that is farther than all -/
theorem fsG_up {C : Nat → Nat → Prop} {v0 d v k t : Nat} (z : fsG C v0 d v) (hkt : k < t) (hd : d < t - k) : fsG (fun a b => C a b ∨ (a = k ∧ b = t)) v0 (t - k) (100 * k + t) := by
  refine Or.inr ⟨k, t, Or.inr ⟨rfl, rfl⟩, hkt, rfl, rfl, fun x y q => ?_⟩
  rcases q with q | ⟨q1, q2⟩
  · rcases z with ⟨h1, h2, h3⟩ | ⟨a, b, h1, h2, h3, h4, h5⟩
    · exact absurd q (h3 x y)
    · have := h5 x y q
      omega
  · omega
theorem fsG_stay {C : Nat → Nat → Prop} {v0 d v k t : Nat} (z : fsG C v0 d v) (hkt : k < t) (hd : t - k ≤ d) (hC : ∀ x y, C x y → x ≤ k) : fsG (fun a b => C a b ∨ (a = k ∧ b = t)) v0 d v := by
  rcases z with ⟨h1, h2, h3⟩ | ⟨a, b, h1, h2, h3, h4, h5⟩
  · omega
  · refine Or.inr ⟨a, b, Or.inl h1, h2, h3, h4, fun x y q => ?_⟩
    rcases q with q | ⟨q1, q2⟩
    · exact h5 x y q
    · have := hC a b h1
      omega
theorem fsG_one {C : Nat → Nat → Prop} {v0 v1 d e v w a b : Nat} (h : C a b) (z1 : fsG C v0 d v) (z2 : fsG C v1 e w) : v = w := by
  rcases z1 with ⟨h1, h2, h3⟩ | ⟨a1, b1, h1, h2, h3, h4, h5⟩
  · exact absurd h (h3 a b)
  rcases z2 with ⟨k1, k2, k3⟩ | ⟨a2, b2, k1, k2, k3, k4, k5⟩
  · exact absurd h (k3 a b)
  have q1 := h5 a2 b2 k1
  have q2 := k5 a1 b1 h1
  omega
/-- the row k up to t, and all rows behind it -/
def fsR (C : Nat → Nat → Bool) (n k t : Nat) (a b : Nat) : Prop := a < b ∧ b < n ∧ C a b = true ∧ (k < a ∨ (a = k ∧ b < t))
theorem fsR_no {C : Nat → Nat → Bool} {n k t v0 d v : Nat} (h : ¬ (k < t ∧ t < n ∧ C k t = true)) (z : fsG (fsR C n k t) v0 d v) : fsG (fsR C n k (t + 1)) v0 d v := by
  refine fsG_cong (fun a b => ?_) z
  unfold fsR
  constructor
  · rintro ⟨h1, h2, h3, h4⟩
    exact ⟨h1, h2, h3, by omega⟩
  · rintro ⟨h1, h2, h3, h4⟩
    refine ⟨h1, h2, h3, ?_⟩
    rcases h4 with q | ⟨q1, q2⟩
    · exact Or.inl q
    · refine Or.inr ⟨q1, ?_⟩
      rcases Nat.eq_or_lt_of_le (Nat.le_of_lt_succ q2) with r | r
      · subst q1; subst r
        exact absurd ⟨h1, h2, h3⟩ h
      · exact r
theorem fsR_add {C : Nat → Nat → Bool} {n k t : Nat} (h1 : k < t) (h2 : t < n) (h3 : C k t = true) (a b : Nat) : (fsR C n k t a b ∨ (a = k ∧ b = t)) ↔ fsR C n k (t + 1) a b := by
  unfold fsR
  constructor
  · rintro (⟨q1, q2, q3, q4⟩ | ⟨q1, q2⟩)
    · exact ⟨q1, q2, q3, by omega⟩
    · subst q1; subst q2
      exact ⟨h1, h2, h3, Or.inr ⟨rfl, Nat.lt_succ_self _⟩⟩
  · rintro ⟨q1, q2, q3, q4⟩
    rcases q4 with q | ⟨q, r⟩
    · exact Or.inl ⟨q1, q2, q3, Or.inl q⟩
    · rcases Nat.eq_or_lt_of_le (Nat.le_of_lt_succ r) with z | z
      · exact Or.inr ⟨q, z⟩
      · exact Or.inl ⟨q1, q2, q3, Or.inr ⟨q, z⟩⟩
theorem fsR_new {C : Nat → Nat → Bool} {n k t v0 d v : Nat} (z : fsG (fsR C n k t) v0 d v) (h1 : k < t) (h2 : t < n) (h3 : C k t = true) (hd : d ≤ t - k) : fsG (fsR C n k (t + 1)) v0 (t - k) (100 * k + t) :=
  fsG_cong (fsR_add h1 h2 h3) (fsG_new z h1 hd (fun x y q => by have := q.2.2.2; omega))
theorem fsR_old {C : Nat → Nat → Bool} {n k t v0 d v : Nat} (z : fsG (fsR C n k t) v0 d v) (h1 : k < t) (h2 : t < n) (h3 : C k t = true) (hd : t - k < d) : fsG (fsR C n k (t + 1)) v0 d v :=
  fsG_cong (fsR_add h1 h2 h3) (fsG_old z h1 hd)
theorem fsR_row {C : Nat → Nat → Bool} {n k v0 d v : Nat} (z : fsG (fsR C n (k + 1) n) v0 d v) : fsG (fsR C n k 0) v0 d v := by
  refine fsG_cong (fun a b => ?_) z
  unfold fsR
  constructor
  · rintro ⟨h1, h2, h3, h4⟩; exact ⟨h1, h2, h3, by omega⟩
  · rintro ⟨h1, h2, h3, h4⟩; exact ⟨h1, h2, h3, by omega⟩
theorem fsR_start (C : Nat → Nat → Bool) (n v0 : Nat) : fsG (fsR C n n n) v0 0 v0 := Or.inl ⟨rfl, rfl, fun a b q => by have := q.1; have := q.2.1; have := q.2.2.2; omega⟩
/-- rows up to a, the row a up to the distance d -/
def fuR (C : Nat → Nat → Bool) (n k d : Nat) (a b : Nat) : Prop := a < b ∧ b < n ∧ C a b = true ∧ (a < k ∨ (a = k ∧ b ≤ k + d))
theorem fin_spec {C : Nat → Nat → Bool} {n k v0 : Nat} {z : Nat × Nat} (h : fsG (fuR C n k 0) v0 z.2 z.1) : ∀ d, k + d < n → fsG (fuR C n k d) v0 (fin C k d z).2 (fin C k d z).1
  | 0, _ => h
  | d + 1, hd => by
    have ih := fin_spec h d (by omega)
    have add : C k (k + 1 + d) = true → ∀ a b, (fuR C n k d a b ∨ (a = k ∧ b = k + 1 + d)) ↔ fuR C n k (d + 1) a b := by
      intro hC a b
      unfold fuR
      constructor
      · rintro (⟨q1, q2, q3, q4⟩ | ⟨q1, q2⟩)
        · exact ⟨q1, q2, q3, by omega⟩
        · subst q1; subst q2
          exact ⟨by omega, by omega, hC, Or.inr ⟨rfl, by omega⟩⟩
      · rintro ⟨q1, q2, q3, q4⟩
        rcases q4 with q | ⟨q, r⟩
        · exact Or.inl ⟨q1, q2, q3, Or.inl q⟩
        · rcases Nat.eq_or_lt_of_le r with z | z
          · exact Or.inr ⟨q, by omega⟩
          · exact Or.inl ⟨q1, q2, q3, Or.inr ⟨q, by omega⟩⟩
    by_cases q : (fin C k d z).2 < d + 1 ∧ C k (k + 1 + d) = true
    · rw [fin_T q.1 q.2]
      have r := fsG_up ih (k := k) (t := k + 1 + d) (by omega) (by omega)
      rw [show k + 1 + d - k = d + 1 by omega] at r
      exact fsG_cong (add q.2) r
    · rw [fin_F q]
      by_cases hC : C k (k + 1 + d) = true
      · exact fsG_cong (add hC) (fsG_stay ih (k := k) (t := k + 1 + d) (by omega) (by have : ¬ (fin C k d z).2 < d + 1 := fun y => q ⟨y, hC⟩; omega) (fun x y w => by have := w.2.2.2; omega))
      · refine fsG_cong (fun a b => ?_) ih
        unfold fuR
        constructor
        · rintro ⟨q1, q2, q3, q4⟩; exact ⟨q1, q2, q3, by omega⟩
        · rintro ⟨q1, q2, q3, q4⟩
          refine ⟨q1, q2, q3, ?_⟩
          rcases q4 with r | ⟨r, r2⟩
          · exact Or.inl r
          · refine Or.inr ⟨r, ?_⟩
            rcases Nat.eq_or_lt_of_le r2 with w | w
            · exfalso; subst r; exact hC (by rw [show a + 1 + d = b by omega]; exact q3)
            · omega
theorem fout_spec {C : Nat → Nat → Bool} {n : Nat} : ∀ a, a ≤ n → fsG (fun x y => x < y ∧ y < n ∧ C x y = true ∧ x < a) 1 (fout C n (1, 0) a).2 (fout C n (1, 0) a).1
  | 0, _ => Or.inl ⟨rfl, rfl, fun x y q => absurd q.2.2.2 (Nat.not_lt_zero x)⟩
  | a + 1, h => by
    have ih := fout_spec (C := C) (n := n) a (by omega)
    have h0 : fsG (fuR C n a 0) 1 (fout C n (1, 0) a).2 (fout C n (1, 0) a).1 := by
      refine fsG_cong (fun x y => ?_) ih
      unfold fuR
      constructor
      · rintro ⟨q1, q2, q3, q4⟩; exact ⟨q1, q2, q3, Or.inl q4⟩
      · rintro ⟨q1, q2, q3, q4⟩; exact ⟨q1, q2, q3, by omega⟩
    have r := fin_spec h0 (n - 1 - a) (by omega)
    show fsG _ 1 (fin C a (n - 1 - a) (fout C n (1, 0) a)).2 (fin C a (n - 1 - a) (fout C n (1, 0) a)).1
    refine fsG_cong (fun x y => ?_) r
    unfold fuR
    constructor
    · rintro ⟨q1, q2, q3, q4⟩; exact ⟨q1, q2, q3, by omega⟩
    · rintro ⟨q1, q2, q3, q4⟩; exact ⟨q1, q2, q3, by omega⟩
theorem far_eq {n d v : Nat} {rg bl : Int32} {G M : Nat → Int32} (hn2 : 2 ≤ n) (hc : conB G M rg bl 0 1 = true) (z : fsG (fsR (conB G M rg bl) n 0 n) 0 d v) (hd0 : True) : A_farthest n rg bl G M = nI v := by
  unfold A_farthest
  have h1 := fout_spec (C := conB G M rg bl) (n := n) n (Nat.le_refl n)
  have h2 : fsG (fun x y => x < y ∧ y < n ∧ conB G M rg bl x y = true ∧ x < n) 0 d v := by
    refine fsG_cong (fun x y => ?_) z
    unfold fsR
    constructor
    · rintro ⟨q1, q2, q3, q4⟩; exact ⟨q1, q2, q3, by omega⟩
    · rintro ⟨q1, q2, q3, q4⟩; exact ⟨q1, q2, q3, by omega⟩
  rw [fsG_one (a := 0) (b := 1) ⟨by decide, by omega, hc, by omega⟩ h1 h2]
/-- neighbors are in contact -/
theorem con_adj {n a : Nat} {rg bl : Int32} {G M : Nat → Int32} (hr : ∃ q, 1 ≤ q ∧ q ≤ 19 ∧ rg = nI q) (h : 1 ≤ a) : conB G M rg bl a (a - 1) = true := by
  obtain ⟨q, h1, h2, h3⟩ := hr
  refine decide_eq_true ⟨by omega, ?_, decide_eq_true (fun j h1 h2 => by omega)⟩
  rw [h3, dd_gt (by omega), show a - (a - 1) = 1 by omega]
  exact (nI_leI (by omega) (by omega)).mpr h1
theorem con_01 {rg bl : Int32} {G M : Nat → Int32} (hr : ∃ q, 1 ≤ q ∧ q ≤ 19 ∧ rg = nI q) : conB G M rg bl 0 1 = true := by
  obtain ⟨q, h1, h2, h3⟩ := hr
  refine decide_eq_true ⟨by omega, ?_, decide_eq_true (fun j h1 h2 => by omega)⟩
  rw [h3, dd_lt (by omega)]
  exact (nI_leI (by omega) (by omega)).mpr h1
/-- the law's groups -/
def grI (g : Nat → Int32) (n k : Nat) : Prop := ∀ a, a < n → ∃ w, w < 2 ^ 20 ∧ g a = nI w ∧ w.testBit a = true ∧ (1 ≤ a → 8 * a + (a - 1) < k → w.testBit (a - 1) = true)
theorem grI_0 {g : Nat → Int32} {n : Nat} (hn : n ≤ 8) (h : ∀ a, a < n → g a = nI (2 ^ a)) : grI g n 0 := fun a ha => ⟨2 ^ a, Nat.pow_lt_pow_right (by decide) (by omega), h a ha, Nat.testBit_two_pow_self, fun _ q => absurd q (Nat.not_lt_zero _)⟩
theorem k8 {a k : Nat} (h1 : 1 ≤ a) (h2 : a < 8) (r : 8 * a + (a - 1) = k) : k / 8 % 8 = a ∧ k % 8 = a - 1 := by
  subst r
  rcases (show a = 1 ∨ a = 2 ∨ a = 3 ∨ a = 4 ∨ a = 5 ∨ a = 6 ∨ a = 7 by omega) with rfl | rfl | rfl | rfl | rfl | rfl | rfl <;> decide
theorem grI_no {g : Nat → Int32} {n k : Nat} (hn : n ≤ 8) (z : grI g n k) (h : ∀ a, 1 ≤ a → a < n → k / 8 % 8 = a → k % 8 = a - 1 → False) : grI g n (k + 1) := by
  intro a ha
  obtain ⟨w, h1, h2, h3, h4⟩ := z a ha
  refine ⟨w, h1, h2, h3, fun q1 q2 => ?_⟩
  rcases Nat.eq_or_lt_of_le (Nat.le_of_lt_succ q2) with r | r
  · exact (h a q1 ha (k8 q1 (by omega) r).1 (k8 q1 (by omega) r).2).elim
  · exact h4 q1 r
theorem grI_or {g : Nat → Int32} {n k : Nat} (hn : n ≤ 8) (z : grI g n k) (hs : k / 8 % 8 < n) (ht : k % 8 < n) : grI (upd g (k / 8 % 8) (g (k / 8 % 8) ||| g (k % 8))) n (k + 1) := by
  intro a ha
  obtain ⟨w, h1, h2, h3, h4⟩ := z a ha
  by_cases q : a = k / 8 % 8
  · obtain ⟨u, k1, k2, k3, k4⟩ := z (k % 8) ht
    refine ⟨w ||| u, Nat.or_lt_two_pow h1 k1, ?_, ?_, fun q1 q2 => ?_⟩
    · rw [← q, pk_us, h2, k2, fa_or]
    · rw [Nat.testBit_or, h3]; rfl
    · rcases Nat.eq_or_lt_of_le (Nat.le_of_lt_succ q2) with r | r
      · rw [Nat.testBit_or, show a - 1 = k % 8 from (k8 q1 (by omega) r).2.symm, k3, Bool.or_true]
      · rw [Nat.testBit_or, h4 q1 r]; rfl
  · refine ⟨w, h1, ?_, h3, fun q1 q2 => ?_⟩
    · rw [pk_un q]; exact h2
    · rcases Nat.eq_or_lt_of_le (Nat.le_of_lt_succ q2) with r | r
      · exact absurd (k8 q1 (by omega) r).1.symm q
      · exact h4 q1 r
theorem gr_z0 {x : Int32} : x &&& nI (2 ^ 0 - 1) = 0 := by
  refine b_ext (fun i hi => ?_)
  rw [b_and]
  show (bt x i && bt 0 i) = bt 0 i
  rw [b_0, Bool.and_false]
theorem gr_s {g : Nat → Int32} {n k a : Nat} (hn : n ≤ 8) (z : grI g n k) (ha : a < n) (h1 : 1 ≤ a) (hk : 8 * a + (a - 1) < k) : ¬ g a &&& nI (2 ^ a - 1) = 0 := by
  obtain ⟨w, k1, k2, k3, k4⟩ := z a ha
  rw [k2, fa_mask]
  intro q
  have hlt : w % 2 ^ a < 2 ^ 31 := Nat.lt_of_le_of_lt (Nat.mod_le _ _) (by omega)
  have e := (nI_eq (a := w % 2 ^ a) (b := 0) hlt (by decide)).mp q
  have h := k4 h1 hk
  have h2 : (w % 2 ^ a).testBit (a - 1) = true := by rw [Nat.testBit_mod_two_pow, h, decide_eq_true (by omega)]; rfl
  rw [e, Nat.zero_testBit] at h2
  exact absurd h2 (by decide)
/-- counts, once more -/
theorem sm_nI {M : Nat → Int32} {n : Nat} (h : ∀ k, k < n → ∃ q, q ≤ 200 ∧ M k = nI q) : ∀ k, k ≤ n → smI M k = nI (fb_sm (fun a => cN (M a)) k)
  | 0, _ => rfl
  | k + 1, hk => by
    obtain ⟨q, hq, e⟩ := h k (by omega)
    show smI M k + M k = _
    rw [sm_nI h k (by omega), fb_sm_succ, e, cN_nI (by omega), nI_add]
theorem pr5 {n : Nat} {rg bl : Int32} {G M : Nat → Int32} : prN (fun a b => seesB G bl a (tp G M a) b (tp G M b) && decide (nI (b - a) ≤ rg)) n = fb_sm (fun a => fb_ct (fun b => decide (a < b) && conB G M rg bl a b) n) n := by
  unfold prN
  refine fb_sm_cong (fun a ha => fb_ct_cong (fun b hb => ?_))
  show (decide (a < b) && (seesB G bl a (tp G M a) b (tp G M b) && decide (nI (b - a) ≤ rg))) = (decide (a < b) && conB G M rg bl a b)
  by_cases h : a < b
  · rw [decide_eq_true h, Bool.true_and, Bool.true_and]
    unfold conB
    rw [dd_lt h]
    cases seesB G bl a (tp G M a) b (tp G M b) with
    | false => rw [Bool.false_and, decide_eq_false (fun q => Bool.false_ne_true q.2.2)]
    | true =>
      rw [Bool.true_and, decide_eq_decide]
      exact ⟨fun q => ⟨by omega, q, rfl⟩, fun q => q.2.1⟩
  · rw [decide_eq_false h]; rfl
