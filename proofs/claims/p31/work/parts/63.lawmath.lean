/-! the law's own arithmetic -/
abbrev M8 (f : Nat → Int32) : Nat → Int32 := fun k => f (8 + k)
/-- a profile of the law: its row of 20 ints -/
def RF (f : Nat → Int32) (n : Nat) : Prop := f 16 = nI n ∧ n ≤ 8 ∧ okP (n, f 17, f 18, f, M8 f)
theorem RF.n2 {f : Nat → Int32} {n : Nat} (h : RF f n) : 2 ≤ n := h.2.2.1
theorem RF.bl {f : Nat → Int32} {n : Nat} (h : RF f n) : ∃ q, q ≤ 9 ∧ f 18 = nI q := h.2.2.2.2.2.1
theorem RF.rg {f : Nat → Int32} {n : Nat} (h : RF f n) : ∃ q, 1 ≤ q ∧ q ≤ 19 ∧ f 17 = nI q := h.2.2.2.2.1
theorem RF.g {f : Nat → Int32} {n : Nat} (h : RF f n) {k : Nat} (hk : k < n) : ∃ q, q ≤ 999 ∧ f k = nI q := h.2.2.2.2.2.2.1 k hk
theorem RF.m {f : Nat → Int32} {n : Nat} (h : RF f n) {k : Nat} (hk : k < n) : ∃ q, q ≤ 200 ∧ f (8 + k) = nI q := h.2.2.2.2.2.2.2 k hk
theorem RF.top {f : Nat → Int32} {n : Nat} (h : RF f n) {k : Nat} (hk : k < n) : ∃ q, q ≤ 1199 ∧ tp f (M8 f) k = nI q := by
  obtain ⟨a, ha, ea⟩ := h.g hk
  obtain ⟨b, hb, eb⟩ := h.m hk
  exact ⟨a + b, by omega, by show f k + f (8 + k) = _; rw [ea, eb, nI_add]⟩
theorem RF.g2 {f : Nat → Int32} {n : Nat} (h : RF f n) {k : Nat} (hk : k < n) : ∃ q, q ≤ 1199 ∧ f k = nI q := by
  obtain ⟨a, ha, ea⟩ := h.g hk
  exact ⟨a, by omega, ea⟩
theorem SRX.rf {cI cB cO : ClassId} {A : Nat → Nat} {X : va_W} {n : Nat} {f : Nat → Int32} (h : SRX cI cB cO A X n (f 17) (f 18) f (M8 f)) (h16 : f 16 = nI n) (h8 : n ≤ 8) : RF f n := ⟨h16, h8, h.okp⟩
theorem lw_line {p q j i : Nat} (hp : p ≤ 1199) (hq : q ≤ 1199) (hj : j ≤ 8) (hi : i ≤ 8) : nI (j + i) * nI p + (nI q - nI p) * nI j = nI (p * i + q * j) := by
  have e3 : (nI q - nI p).toInt = (q : Int) - p := nI_subI (by omega) (by omega)
  have e4 : (nI j).toInt = (j : Int) := nI_toInt (by omega)
  have hb : -(1199 * 8) ≤ ((q : Int) - p) * j ∧ ((q : Int) - p) * j ≤ 1199 * 8 := by
    rcases (show j = 0 ∨ j = 1 ∨ j = 2 ∨ j = 3 ∨ j = 4 ∨ j = 5 ∨ j = 6 ∨ j = 7 ∨ j = 8 by omega) with rfl | rfl | rfl | rfl | rfl | rfl | rfl | rfl | rfl <;> (constructor <;> omega)
  have e5 : ((nI q - nI p) * nI j).toInt = ((q : Int) - p) * j := by
    rw [fb_mulI (by rw [e3, e4]; omega) (by rw [e3, e4]; omega), e3, e4]
  have hm1 : (j + i) * p ≤ 16 * 1199 := Nat.mul_le_mul (by omega) hp
  have hm2 : p * i ≤ 1199 * 8 := Nat.mul_le_mul hp hi
  have hm3 : q * j ≤ 1199 * 8 := Nat.mul_le_mul hq hj
  have e6 : (nI (j + i) * nI p).toInt = (((j + i) * p : Nat) : Int) := by rw [pk_mul, nI_toInt (by omega)]
  refine Int32.toInt_inj.mp ?_
  rw [fb_addI (by rw [e5, e6]; omega) (by rw [e5, e6]; omega), e5, e6, nI_toInt (by omega)]
  rw [Nat.add_mul, Int.sub_mul, Nat.mul_comm j p, Nat.mul_comm i p]
  have z1 : ((p * j + p * i : Nat) : Int) = (p : Int) * j + (p : Int) * i := by rw [Int.natCast_add, Int.natCast_mul, Int.natCast_mul]
  have z2 : ((p * i + q * j : Nat) : Int) = (p : Int) * i + (q : Int) * j := by rw [Int.natCast_add, Int.natCast_mul, Int.natCast_mul]
  rw [z1, z2]
  omega
theorem lw_X {g b j i : Nat} : nI (j + i) * (nI g + nI b * nI j * (nI (j + i) - nI j)) = nI ((j + i) * (g + b * j * i)) := by
  rw [pk_sub (by omega), show j + i - j = i by omega, pk_mul, pk_mul, nI_add, pk_mul]
theorem lw_clr {f : Nat → Int32} {bl p q : Int32} {s t k P Q g b j i : Nat} (hp : p = nI P) (hq : q = nI Q) (hg : f k = nI g) (hb : bl = nI b) (hj : dd k s = j) (hi : dd t k = i) : clr f bl s p t q k = nI (P * i + Q * j) - nI ((j + i) * (g + b * j * i)) := by
  unfold clr
  rw [hj, hi, hp, hq, hg, hb, pk_mul, pk_mul, pk_mul, pk_mul, nI_add, nI_add, nI_add, pk_mul]
theorem lw_bd {P Q g b j i : Nat} (hp : P ≤ 1199) (hq : Q ≤ 1199) (hg : g ≤ 999) (hb : b ≤ 9) (hj : j ≤ 8) (hi : i ≤ 8) : P * i + Q * j < 2 ^ 30 ∧ (j + i) * (g + b * j * i) < 2 ^ 30 := by
  have h1 : P * i ≤ 1199 * 8 := Nat.mul_le_mul hp hi
  have h2 : Q * j ≤ 1199 * 8 := Nat.mul_le_mul hq hj
  have h3 : b * j * i ≤ 9 * 8 * 8 := Nat.mul_le_mul (Nat.mul_le_mul hb hj) hi
  have h4 : (j + i) * (g + b * j * i) ≤ 16 * (999 + 9 * 8 * 8) := Nat.mul_le_mul (by omega) (by omega)
  constructor <;> omega
/-- the j-th station from s towards t -/
def mkS (s t j : Nat) : Nat := if s < t then s + j else s - j
theorem mkS_lt {s t : Nat} (h : s < t) (j : Nat) : mkS s t j = s + j := if_pos h
theorem mkS_ge {s t : Nat} (h : t ≤ s) (j : Nat) : mkS s t j = s - j := if_neg (Nat.not_lt.mpr h)
theorem mkS_in {s t n j : Nat} (hs : s < n) (ht : t < n) (h2 : j < dd s t) : mkS s t j < n := by
  unfold mkS; unfold dd at h2
  split at h2 <;> split <;> omega
theorem mkS_dd {s t j : Nat} (h2 : j ≤ dd s t) : dd (mkS s t j) s = j ∧ dd t (mkS s t j) = dd s t - j := by
  unfold mkS dd at *
  split at h2
  · next h => rw [if_pos h]; constructor <;> split <;> omega
  · next h => rw [if_neg h]; constructor <;> split <;> omega
/-- the law's line against its mark is the sign of the clearance; their difference is the clearance -/
theorem lw_meet {f : Nat → Int32} {n s t j : Nat} {p q : Int32} (hR : RF f n) (hs : s < n) (ht : t < n) (hp : ∃ z, z ≤ 1199 ∧ p = nI z) (hq : ∃ z, z ≤ 1199 ∧ q = nI z) (h2 : j < dd s t) :
    (nI (dd s t) * p + (q - p) * nI j - nI (dd s t) * (f (mkS s t j) + f 18 * nI j * (nI (dd s t) - nI j)) = clr f (f 18) s p t q (mkS s t j)) ∧
    ((nI (dd s t) * p + (q - p) * nI j < nI (dd s t) * (f (mkS s t j) + f 18 * nI j * (nI (dd s t) - nI j))) ↔ clr f (f 18) s p t q (mkS s t j) < 0) := by
  have h8 := hR.2.1
  obtain ⟨P, hP, rfl⟩ := hp
  obtain ⟨Q, hQ, rfl⟩ := hq
  obtain ⟨g, hg, eg⟩ := hR.g (mkS_in hs ht h2)
  obtain ⟨b, hb, eb⟩ := hR.bl
  obtain ⟨d1, d2⟩ := mkS_dd (s := s) (t := t) (j := j) (by omega)
  have hN : dd s t ≤ 8 := by unfold dd; split <;> omega
  obtain ⟨i, ei⟩ : ∃ i, dd s t = j + i := ⟨dd s t - j, by omega⟩
  rw [ei, show j + i - j = i by omega] at d2
  have hj : j ≤ 8 := by omega
  have hi : i ≤ 8 := by omega
  obtain ⟨b1, b2⟩ := lw_bd hP hQ hg hb hj hi
  rw [lw_clr rfl rfl eg eb d1 d2, eg, eb, ei, lw_line hP hQ hj hi, lw_X]
  refine ⟨rfl, ?_⟩
  rw [lt_zeroI, nI_subI b1 b2, nI_ltI (by omega) (by omega)]
  omega
def mB (f : Nat → Int32) (s : Nat) (p : Int32) (t : Nat) (q : Int32) (j : Nat) : Bool := decide (∀ i, i < j → 1 ≤ i → ¬ clr f (f 18) s p t q (mkS s t i) < 0)
theorem mB_1 (f : Nat → Int32) (s : Nat) (p : Int32) (t : Nat) (q : Int32) : bI (mB f s p t q 1) = 1 := by
  have h : mB f s p t q 1 = true := decide_eq_true (fun i h1 h2 => absurd h1 (by omega))
  rw [h]; rfl
theorem mB_T {f : Nat → Int32} {s t j : Nat} {p q : Int32} (h : ¬ clr f (f 18) s p t q (mkS s t j) < 0) : bI (mB f s p t q j) &&& 1 = bI (mB f s p t q (j + 1)) := by
  have e : mB f s p t q (j + 1) = mB f s p t q j := by
    unfold mB
    rw [decide_eq_decide]
    refine ⟨fun z i h1 h2 => z i (by omega) h2, fun z i h1 h2 => ?_⟩
    rcases Nat.eq_or_lt_of_le (Nat.le_of_lt_succ h1) with r | r
    · rw [r]; exact h
    · exact z i r h2
  rw [e]
  cases mB f s p t q j <;> decide
theorem mB_F {f : Nat → Int32} {s t j : Nat} {p q : Int32} (h1 : 1 ≤ j) (h : clr f (f 18) s p t q (mkS s t j) < 0) : bI (mB f s p t q j) &&& 0 = bI (mB f s p t q (j + 1)) := by
  have e : mB f s p t q (j + 1) = false := decide_eq_false (fun z => z j (by omega) h1 h)
  rw [e]
  cases mB f s p t q j <;> decide
theorem mB_end {f : Nat → Int32} {s t j : Nat} {p q : Int32} (h1 : dd s t ≤ j) (h2 : j ≤ max 1 (dd s t)) : mB f s p t q j = seesB f (f 18) s p t q := by
  unfold mB seesB
  rw [decide_eq_decide]
  constructor
  · intro z k k1 k2
    have e : mkS s t (dd k s) = k := by unfold mkS dd; split <;> split <;> omega
    have := z (dd k s) (by unfold dd at *; split at h1 <;> split <;> omega) (by unfold dd; split <;> omega)
    rw [e] at this
    exact this
  · intro z i i1 i2
    have i3 : i < dd s t := by omega
    have r := mkS_dd (s := s) (t := t) (j := i) (by omega)
    refine z _ ?_ ?_
    · unfold mkS; unfold dd at i3; split at i3 <;> split <;> omega
    · unfold mkS; unfold dd at i3; split at i3 <;> split <;> omega
theorem lw_low {v : Int32} {n : Nat} (h0 : 0 < n) (hn : n < 2 ^ 31) : ∃ j, j < n ∧ (v &&& 2147483647) - (v &&& 2147483647) / nI n * nI n = nI j := by
  obtain ⟨a, ha, ea⟩ := pk_andE v (m := 2147483647) 31 rfl
  rw [ea, pk_rem ha h0 hn]
  exact ⟨a % n, Nat.mod_lt _ h0, rfl⟩
theorem lw_ne0 {n : Nat} (h0 : 0 < n) (hn : n < 2 ^ 31) : nI n ≠ 0 := fun q => by
  have := (nI_eq (a := n) (b := 0) hn (by decide)).mp q
  omega
theorem le_n0 {n : Nat} (h : nI n ≤ 0) (hn : n < 2 ^ 31) : n = 0 := by
  rcases Nat.eq_zero_or_pos n with q | q
  · exact q
  · exact absurd h (nI_nle q hn)
theorem dd_eq0 {a b : Nat} (h : dd a b = 0) : a = b := by unfold dd at h; split at h <;> omega
theorem gs_self (f : Nat → Int32) (bl x : Int32) (s : Nat) : gsB f bl s x s = true := decide_eq_true (fun k h1 h2 => absurd h1 (by omega))
theorem bs_or0 {P : Nat → Bool} {k : Nat} (h : P k = false) : nI (bs P k) ||| 0 = nI (bs P (k + 1)) := by
  rw [← bs_orF h]
  have := fa_or (bs P k) 0
  rw [Nat.or_zero] at this
  exact this
theorem pk_sub2 {a b : Nat} (h : a < b) : nI b - nI a = nI (dd a b) := by rw [pk_sub (Nat.le_of_lt h), dd_lt h]
theorem pk_sub3 {a b : Nat} (h : b ≤ a) : nI a - nI b = nI (dd a b) := by rw [pk_sub h, dd_gt h]
