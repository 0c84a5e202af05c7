/-! the calls, each with the class' and the reference's contract in one form: as one state and the next -/
theorem td_pos {y d D : Int} (hy : 0 ≤ y) (hd : 0 ≤ d) (hD : 0 < D) (h : d ≤ D) : 0 ≤ (y * d).tdiv D ∧ (y * d).tdiv D ≤ y := by
  have h0 : 0 ≤ y * d := Int.mul_nonneg hy hd
  refine ⟨Int.tdiv_nonneg h0 (by omega), ?_⟩
  rw [Int.tdiv_eq_ediv_of_nonneg h0]
  exact Int.ediv_le_of_le_mul hD (Int.mul_le_mul_of_nonneg_left h hy)
theorem td_neg {x d D : Int} (hy : x ≤ 0) (hd : 0 ≤ d) (hD : 0 < D) (h : d ≤ D) : x ≤ (x * d).tdiv D ∧ (x * d).tdiv D ≤ 0 := by
  obtain ⟨h1, h2⟩ := td_pos (y := -x) (by omega) hd hD h
  rw [Int.neg_mul, Int.neg_tdiv] at h1 h2
  omega
theorem slp_rng {G : Nat → Int32} {a b k n : Nat} (hn : n ≤ 20) (hG : ∀ k, k < n → ∃ q, q ≤ 999 ∧ G k = nI q) (ha : a < k) (hk : k < b) (hb : b < n) : ∃ q, q ≤ 999 ∧ slp G a b k = nI q := by
  obtain ⟨p, hp, ep⟩ := hG a (by omega)
  obtain ⟨q, hq, eq⟩ := hG b hb
  have e1 : (nI (k - a)).toInt = ((k - a : Nat) : Int) := nI_toInt (by omega)
  have e2 : (nI (b - a)).toInt = ((b - a : Nat) : Int) := nI_toInt (by omega)
  have e3 : (nI q - nI p).toInt = (q : Int) - p := pk_sub_toInt (by omega) (by omega)
  have e4 : (nI p).toInt = (p : Int) := nI_toInt (by omega)
  have hm1 : ((q : Int) - p) * ((k - a : Nat) : Int) ≤ 999 * 20 ∧ -(999 * 20) ≤ ((q : Int) - p) * ((k - a : Nat) : Int) := by
    have h1 : ((k - a : Nat) : Int) ≤ 20 := by omega
    have h0 : (0 : Int) ≤ ((k - a : Nat) : Int) := by omega
    generalize ((k - a : Nat) : Int) = d at h1 h0
    have h2 : ((q : Int) - p) ≤ 999 := by omega
    have h3 : -999 ≤ ((q : Int) - p) := by omega
    generalize ((q : Int) - p) = x at h2 h3
    constructor
    · have := Int.mul_le_mul_of_nonneg_right h2 h0
      have := Int.mul_le_mul_of_nonneg_left h1 (by decide : (0 : Int) ≤ 999)
      omega
    · have := Int.mul_le_mul_of_nonneg_right h3 h0
      have := Int.mul_le_mul_of_nonneg_left h1 (by decide : (0 : Int) ≤ 999)
      omega
  have hz : ∃ z : Int, (((q : Int) - p) * ((k - a : Nat) : Int)).tdiv ((b - a : Nat) : Int) = z ∧ 0 ≤ p + z ∧ p + z ≤ 999 ∧ -999 ≤ z ∧ z ≤ 999 := by
    refine ⟨_, rfl, ?_⟩
    rcases Int.le_total 0 ((q : Int) - p) with h | h
    · obtain ⟨h1, h2⟩ := td_pos (d := ((k - a : Nat) : Int)) (D := ((b - a : Nat) : Int)) h (by omega) (by omega) (by omega)
      omega
    · obtain ⟨h1, h2⟩ := td_neg (d := ((k - a : Nat) : Int)) (D := ((b - a : Nat) : Int)) h (by omega) (by omega) (by omega)
      omega
  obtain ⟨z, ez, z1, z2, z3, z4⟩ := hz
  have hv : (slp G a b k).toInt = p + z := by
    unfold slp
    rw [ep, eq, Int32.toInt_add, Int32.toInt_div, Int32.toInt_mul, e1, e2, e3, e4]
    rw [Int.bmod_eq_of_le (n := ((q : Int) - p) * ((k - a : Nat) : Int)) (by omega) (by omega), ez, Int.bmod_eq_of_le (n := z) (by omega) (by omega)]
    exact Int.bmod_eq_of_le (by omega) (by omega)
  refine ⟨(p + z).toNat, by omega, Int32.toInt_inj.mp ?_⟩
  rw [hv, nI_toInt (by omega)]
  omega
theorem slG_rng {G : Nat → Int32} {a b n : Nat} (hn : n ≤ 20) (hG : ∀ k, k < n → ∃ q, q ≤ 999 ∧ G k = nI q) (hb : b < n) : ∀ k, k < n → ∃ q, q ≤ 999 ∧ slG G a b k = nI q := by
  intro k hk
  unfold slG
  by_cases h : a < k ∧ k < b
  · rw [if_pos h]; exact slp_rng hn hG h.1 h.2 hb
  · rw [if_neg h]; exact hG k hk
theorem met_of {l : Launch} {y : MethodName} {ws : List Cond} {rm : Room} {Pc' : Array Value → State → Prop} {Qc' : Array Value → State → Outcome → State → Prop} {mc ms : Nat} {free' : Addr → Prop}
    (h : ∀ a s, Pc' a s → ∃ (Pc : Array Value → State → Prop) (Qc : Array Value → State → Outcome → State → Prop) (free : Addr → Prop), Met l y ws rm Pc Qc mc ms free ∧ Pc a s ∧ (∀ o t, Qc a s o t → Qc' a s o t) ∧ ∀ q, free q → free' q) : Met l y ws rm Pc' Qc' mc ms free' := by
  intro p e h1 h2 h3 s m args below hf hS hP hK
  obtain ⟨Pc, Qc, free, hM, hp, hq, hfr⟩ := h args s hP
  obtain ⟨n, o, k1, k2, k3, k4, L, kL, k5⟩ := hM p e h1 h2 h3 s m args below hf hS hp hK
  exact ⟨n, o, k1, k2, k3, hq _ _ k4, L, kL, fun q hq => hfr _ (k5 q hq)⟩
/-- the state that an object stands for -/
abbrev StT : Type := Nat × Int32 × Int32 × (Nat → Int32) × (Nat → Int32) × List Prf × Nat × (Nat → Nat) × Nat × (Nat → Nat)
def okQ (S : StT) : Prop := okS S.1 S.2.1 S.2.2.1 S.2.2.2.1 S.2.2.2.2.1 S.2.2.2.2.2.1 S.2.2.2.2.2.2.1 S.2.2.2.2.2.2.2.1 S.2.2.2.2.2.2.2.2.1 S.2.2.2.2.2.2.2.2.2
def SRq (D : va_G) (cI cB cO : ClassId) (A : Nat → Nat) (H : Heap) (S : StT) : Prop := SRI D cI cB cO A H S.1 S.2.1 S.2.2.1 S.2.2.2.1 S.2.2.2.2.1 S.2.2.2.2.2.1 S.2.2.2.2.2.2.1 S.2.2.2.2.2.2.2.1 S.2.2.2.2.2.2.2.2.1 S.2.2.2.2.2.2.2.2.2
def MRq (D : va_G) (cI cB cO : ClassId) (A : Nat → Nat) (H : Heap) (S : StT) : Prop := MRI D cI cB cO A H S.1 S.2.1 S.2.2.1 S.2.2.2.1 S.2.2.2.2.1 S.2.2.2.2.2.1 S.2.2.2.2.2.2.1 S.2.2.2.2.2.2.2.1 S.2.2.2.2.2.2.2.2.1 S.2.2.2.2.2.2.2.2.2
theorem fst_in {ws ws0 : va_W} (h : ws.map Prod.fst = ws0.map Prod.fst) : ∀ (k : Nat) (q : Nat × va_E), ws[k]? = some q → inW ws0 q.1 := by
  intro k q hq
  have e1 : (ws.map Prod.fst)[k]? = (ws0.map Prod.fst)[k]? := by rw [h]
  rw [List.getElem?_map, List.getElem?_map, hq] at e1
  cases h2 : ws0[k]? with
  | none => rw [h2] at e1; cases e1
  | some z =>
    rw [h2] at e1
    have e3 : q.1 = z.1 := Option.some.inj e1
    exact ⟨k, z.2, by rw [h2, e3]⟩
theorem SRq.lt {D : va_G} {cI cB cO : ClassId} {A : Nat → Nat} {H : Heap} {S : StT} (h : SRq D cI cB cO A H S) : ∀ q, inW (adW A) q → q < H.size := by
  obtain ⟨fg, fm, dn, dr, db, dg, dm, jx, pn, pr, pb, pg, pm, ta, tf, lt, ff, rs, rr, rt, rl, rp, rc, cv, cb, hP, hf⟩ := h
  intro q ⟨k, e, hk⟩
  obtain ⟨j, e2, hj⟩ := fst_in (ws := adW A) (ws0 := [(A 0, .inr (6, [.ref (A 1), .ref (A 4), .ref (A 7), .ref (A 39), .ref (A 41), .ref (A 43), .ref (A 48)])), (A 7, .inr (2, [.ref (A 8), .int (nI S.2.2.2.2.2.1.length), .int (nI jx)])), (A 8, .inl (cO, 10, .inr (.inr (.inr (.inr (fun k => some (A (9 + 3 * k)))))))), (A 9, .inr (3, [.ref (A 10), .ref (A 11), .int (pn 0), .int (pr 0), .int (pb 0)])), (A 10, .inl (cI, 20, .inl (pg 0))), (A 11, .inl (cI, 20, .inl (pm 0))), (A 12, .inr (3, [.ref (A 13), .ref (A 14), .int (pn 1), .int (pr 1), .int (pb 1)])), (A 13, .inl (cI, 20, .inl (pg 1))), (A 14, .inl (cI, 20, .inl (pm 1))), (A 15, .inr (3, [.ref (A 16), .ref (A 17), .int (pn 2), .int (pr 2), .int (pb 2)])), (A 16, .inl (cI, 20, .inl (pg 2))), (A 17, .inl (cI, 20, .inl (pm 2))), (A 18, .inr (3, [.ref (A 19), .ref (A 20), .int (pn 3), .int (pr 3), .int (pb 3)])), (A 19, .inl (cI, 20, .inl (pg 3))), (A 20, .inl (cI, 20, .inl (pm 3))), (A 21, .inr (3, [.ref (A 22), .ref (A 23), .int (pn 4), .int (pr 4), .int (pb 4)])), (A 22, .inl (cI, 20, .inl (pg 4))), (A 23, .inl (cI, 20, .inl (pm 4))), (A 24, .inr (3, [.ref (A 25), .ref (A 26), .int (pn 5), .int (pr 5), .int (pb 5)])), (A 25, .inl (cI, 20, .inl (pg 5))), (A 26, .inl (cI, 20, .inl (pm 5))), (A 27, .inr (3, [.ref (A 28), .ref (A 29), .int (pn 6), .int (pr 6), .int (pb 6)])), (A 28, .inl (cI, 20, .inl (pg 6))), (A 29, .inl (cI, 20, .inl (pm 6))), (A 30, .inr (3, [.ref (A 31), .ref (A 32), .int (pn 7), .int (pr 7), .int (pb 7)])), (A 31, .inl (cI, 20, .inl (pg 7))), (A 32, .inl (cI, 20, .inl (pm 7))), (A 33, .inr (3, [.ref (A 34), .ref (A 35), .int (pn 8), .int (pr 8), .int (pb 8)])), (A 34, .inl (cI, 20, .inl (pg 8))), (A 35, .inl (cI, 20, .inl (pm 8))), (A 36, .inr (3, [.ref (A 37), .ref (A 38), .int (pn 9), .int (pr 9), .int (pb 9)])), (A 37, .inl (cI, 20, .inl (pg 9))), (A 38, .inl (cI, 20, .inl (pm 9))), (A 1, .inr (3, [.ref (A 2), .ref (A 3), .int (nI S.1), .int S.2.1, .int S.2.2.1])), (A 2, .inl (cI, 20, .inl fg)), (A 3, .inl (cI, 20, .inl fm)), (A 4, .inr (3, [.ref (A 5), .ref (A 6), .int dn, .int dr, .int db])), (A 5, .inl (cI, 20, .inl dg)), (A 6, .inl (cI, 20, .inl dm)), (A 39, .inr (5, [.ref (A 40), .int (nI S.2.2.2.2.2.2.1), .int ta, .int tf])), (A 40, .inl (cB, 120, .inl lt)), (A 41, .inr (1, [.ref (A 42), .int (FZ S.2.2.2.2.2.2.2.2.1)])), (A 42, .inl (cI, 20, .inl ff)), (A 43, .inr (4, [.ref (A 44), .ref (A 45), .ref (A 46), .ref (A 47), .int rs, .int rr])), (A 44, .inl (cI, 20, .inl rt)), (A 45, .inl (cI, 20, .inl rl)), (A 46, .inl (cI, 20, .inl rp)), (A 47, .inl (cI, 20, .inl rc)), (A 48, .inr (0, [.ref (A 49), .ref (A 50)])), (A 49, .inl (cI, 20, .inl cv)), (A 50, .inl (cI, 21, .inl cb))]) rfl k (q, e) hk
  exact (hP j _ hj).lt
theorem SRq.kept {D : va_G} {cI cB cO : ClassId} {A : Nat → Nat} {H H1 : Heap} {S : StT} (h : SRq D cI cB cO A H S) (hk : ∀ q, inW (adW A) q → q < H.size → H1[q]? = H[q]?) : SRq D cI cB cO A H1 S := by
  obtain ⟨fg, fm, dn, dr, db, dg, dm, jx, pn, pr, pb, pg, pm, ta, tf, lt, ff, rs, rr, rt, rl, rp, rc, cv, cb, hP, hf⟩ := h
  exact ⟨fg, fm, dn, dr, db, dg, dm, jx, pn, pr, pb, pg, pm, ta, tf, lt, ff, rs, rr, rt, rl, rp, rc, cv, cb, hP.kept (fun k q hq => hk q.1 (fst_in (ws := [(A 0, .inr (6, [.ref (A 1), .ref (A 4), .ref (A 7), .ref (A 39), .ref (A 41), .ref (A 43), .ref (A 48)])), (A 7, .inr (2, [.ref (A 8), .int (nI S.2.2.2.2.2.1.length), .int (nI jx)])), (A 8, .inl (cO, 10, .inr (.inr (.inr (.inr (fun k => some (A (9 + 3 * k)))))))), (A 9, .inr (3, [.ref (A 10), .ref (A 11), .int (pn 0), .int (pr 0), .int (pb 0)])), (A 10, .inl (cI, 20, .inl (pg 0))), (A 11, .inl (cI, 20, .inl (pm 0))), (A 12, .inr (3, [.ref (A 13), .ref (A 14), .int (pn 1), .int (pr 1), .int (pb 1)])), (A 13, .inl (cI, 20, .inl (pg 1))), (A 14, .inl (cI, 20, .inl (pm 1))), (A 15, .inr (3, [.ref (A 16), .ref (A 17), .int (pn 2), .int (pr 2), .int (pb 2)])), (A 16, .inl (cI, 20, .inl (pg 2))), (A 17, .inl (cI, 20, .inl (pm 2))), (A 18, .inr (3, [.ref (A 19), .ref (A 20), .int (pn 3), .int (pr 3), .int (pb 3)])), (A 19, .inl (cI, 20, .inl (pg 3))), (A 20, .inl (cI, 20, .inl (pm 3))), (A 21, .inr (3, [.ref (A 22), .ref (A 23), .int (pn 4), .int (pr 4), .int (pb 4)])), (A 22, .inl (cI, 20, .inl (pg 4))), (A 23, .inl (cI, 20, .inl (pm 4))), (A 24, .inr (3, [.ref (A 25), .ref (A 26), .int (pn 5), .int (pr 5), .int (pb 5)])), (A 25, .inl (cI, 20, .inl (pg 5))), (A 26, .inl (cI, 20, .inl (pm 5))), (A 27, .inr (3, [.ref (A 28), .ref (A 29), .int (pn 6), .int (pr 6), .int (pb 6)])), (A 28, .inl (cI, 20, .inl (pg 6))), (A 29, .inl (cI, 20, .inl (pm 6))), (A 30, .inr (3, [.ref (A 31), .ref (A 32), .int (pn 7), .int (pr 7), .int (pb 7)])), (A 31, .inl (cI, 20, .inl (pg 7))), (A 32, .inl (cI, 20, .inl (pm 7))), (A 33, .inr (3, [.ref (A 34), .ref (A 35), .int (pn 8), .int (pr 8), .int (pb 8)])), (A 34, .inl (cI, 20, .inl (pg 8))), (A 35, .inl (cI, 20, .inl (pm 8))), (A 36, .inr (3, [.ref (A 37), .ref (A 38), .int (pn 9), .int (pr 9), .int (pb 9)])), (A 37, .inl (cI, 20, .inl (pg 9))), (A 38, .inl (cI, 20, .inl (pm 9))), (A 1, .inr (3, [.ref (A 2), .ref (A 3), .int (nI S.1), .int S.2.1, .int S.2.2.1])), (A 2, .inl (cI, 20, .inl fg)), (A 3, .inl (cI, 20, .inl fm)), (A 4, .inr (3, [.ref (A 5), .ref (A 6), .int dn, .int dr, .int db])), (A 5, .inl (cI, 20, .inl dg)), (A 6, .inl (cI, 20, .inl dm)), (A 39, .inr (5, [.ref (A 40), .int (nI S.2.2.2.2.2.2.1), .int ta, .int tf])), (A 40, .inl (cB, 120, .inl lt)), (A 41, .inr (1, [.ref (A 42), .int (FZ S.2.2.2.2.2.2.2.2.1)])), (A 42, .inl (cI, 20, .inl ff)), (A 43, .inr (4, [.ref (A 44), .ref (A 45), .ref (A 46), .ref (A 47), .int rs, .int rr])), (A 44, .inl (cI, 20, .inl rt)), (A 45, .inl (cI, 20, .inl rl)), (A 46, .inl (cI, 20, .inl rp)), (A 47, .inl (cI, 20, .inl rc)), (A 48, .inr (0, [.ref (A 49), .ref (A 50)])), (A 49, .inl (cI, 20, .inl cv)), (A 50, .inl (cI, 21, .inl cb))]) (ws0 := adW A) rfl k q hq) (hP k q hq).lt), hf⟩
theorem MRq.lt {D : va_G} {cI cB cO : ClassId} {A : Nat → Nat} {H : Heap} {S : StT} (h : MRq D cI cB cO A H S) : ∀ q, inW (bdW A) q → q < H.size := by
  obtain ⟨mm, pp, fd, tx, rgd, rmd, wy, cvr, re, at0, fa, hsh, hP, hf⟩ := h
  intro q ⟨k, e, hk⟩
  obtain ⟨j, e2, hj⟩ := fst_in (ws := bdW A) (ws0 := [(A 0, .inr (7, [.ref (A 1), .ref (A 2), .int (nI S.2.2.2.2.2.1.length), .ref (A 3), .int (FZ S.2.2.2.2.2.2.2.2.1), .ref (A 4), .int (nI S.2.2.2.2.2.2.1), .ref (A 5), .ref (A 6), .int re, .int at0, .int fa, .ref (A 7), .ref (A 8), .long hsh])), (A 1, .inl (cI, 43, .inl mm)), (A 2, .inl (cI, 430, .inl pp)), (A 3, .inl (cI, 20, .inl fd)), (A 4, .inl (cI, 120, .inl tx)), (A 5, .inl (cI, 20, .inl rgd)), (A 6, .inl (cI, 20, .inl rmd)), (A 7, .inl (cI, 20, .inl wy)), (A 8, .inl (cI, 20, .inl cvr))]) rfl k (q, e) hk
  exact (hP j _ hj).lt
theorem MRq.kept {D : va_G} {cI cB cO : ClassId} {A : Nat → Nat} {H H1 : Heap} {S : StT} (h : MRq D cI cB cO A H S) (hk : ∀ q, inW (bdW A) q → q < H.size → H1[q]? = H[q]?) : MRq D cI cB cO A H1 S := by
  obtain ⟨mm, pp, fd, tx, rgd, rmd, wy, cvr, re, at0, fa, hsh, hP, hf⟩ := h
  exact ⟨mm, pp, fd, tx, rgd, rmd, wy, cvr, re, at0, fa, hsh, hP.kept (fun k q hq => hk q.1 (fst_in (ws := [(A 0, .inr (7, [.ref (A 1), .ref (A 2), .int (nI S.2.2.2.2.2.1.length), .ref (A 3), .int (FZ S.2.2.2.2.2.2.2.2.1), .ref (A 4), .int (nI S.2.2.2.2.2.2.1), .ref (A 5), .ref (A 6), .int re, .int at0, .int fa, .ref (A 7), .ref (A 8), .long hsh])), (A 1, .inl (cI, 43, .inl mm)), (A 2, .inl (cI, 430, .inl pp)), (A 3, .inl (cI, 20, .inl fd)), (A 4, .inl (cI, 120, .inl tx)), (A 5, .inl (cI, 20, .inl rgd)), (A 6, .inl (cI, 20, .inl rmd)), (A 7, .inl (cI, 20, .inl wy)), (A 8, .inl (cI, 20, .inl cvr))]) (ws0 := bdW A) rfl k q hq) (hP k q hq).lt), hf⟩
/-- from S the call y(As) answers v, and leaves S' -/
def MX (l : Launch) (D : va_G) (cI cB cO : ClassId) (A : Nat → Nat) (y : MethodName) (ws : List Cond) (As : List Value) (S : StT) (v : Int32) (S' : StT) : Prop := ∃ d, d ≤ 30 ∧ Met l y ws (rmD d) (va_Pc (.ref (A 0) :: As) (fun U => SRq D cI cB cO A U.heap S ∧ va_K D vwCl (tyL cI cB cO) U ∧ NW U ∧ va_D (fun _ => True) (adW A))) (va_Qi (fun (z : Int32) (_ : Unit) => z = v) (fun _ t => SRq D cI cB cO A t.heap S') (inW (adW A))) 0 0 (inW (adW A))
def MM (l : Launch) (D : va_G) (cI cB cO : ClassId) (A : Nat → Nat) (y : MethodName) (ws : List Cond) (As : List Value) (S : StT) (v : Int32) (S' : StT) : Prop := ∃ d, d ≤ 30 ∧ Met l y ws (rmD d) (va_Pc (.ref (A 0) :: As) (fun U => MRq D cI cB cO A U.heap S ∧ va_K D vwCl (tyL cI cB cO) U ∧ NW U ∧ va_D (fun _ => True) (bdW A))) (va_Qi (fun (z : Int32) (_ : Unit) => z = v) (fun _ t => MRq D cI cB cO A t.heap S') (inW (bdW A))) 0 0 (inW (bdW A))
theorem mx_rd {l : Launch} {D : va_G} {cI cB cO : ClassId} {A : Nat → Nat} {y : MethodName} {ws : List Cond} {As : List Value} {S : StT} {v : Int32} (d : Nat) (hd : d ≤ 30)
    (h : ∀ H, SRq D cI cB cO A H S → ∃ wc, va_P D vwCl wc H ∧ Met l y ws (rmD d) (rdPc D (tyL cI cB cO) (.ref (A 0) :: As) wc) (rdQi (fun z => z = v)) 0 0 noA) : MX l D cI cB cO A y ws As S v S := by
  refine ⟨d, hd, met_of (fun a s hP => ?_)⟩
  obtain ⟨q0, qI, qK, qN, qD⟩ := hP
  obtain ⟨wc, hw, hM⟩ := h s.heap qI
  exact ⟨_, _, _, hM, ⟨q0, hw, qK, qN⟩, fun o t ⟨⟨z, u, e1, e2, _⟩, hF⟩ => ⟨⟨z, (), e1, e2, qI.kept (fun q _ h1 => hF.2 q h1 (fun w => w))⟩, hF.1, fun q h1 _ => hF.2 q h1 (fun w => w)⟩, fun q h => h.elim⟩
theorem mm_rd {l : Launch} {D : va_G} {cI cB cO : ClassId} {A : Nat → Nat} {y : MethodName} {ws : List Cond} {As : List Value} {S : StT} {v : Int32} (d : Nat) (hd : d ≤ 30)
    (h : ∀ H, MRq D cI cB cO A H S → ∃ wc, va_P D vwCl wc H ∧ Met l y ws (rmD d) (rdPc D (tyL cI cB cO) (.ref (A 0) :: As) wc) (rdQi (fun z => z = v)) 0 0 noA) : MM l D cI cB cO A y ws As S v S := by
  refine ⟨d, hd, met_of (fun a s hP => ?_)⟩
  obtain ⟨q0, qI, qK, qN, qD⟩ := hP
  obtain ⟨wc, hw, hM⟩ := h s.heap qI
  exact ⟨_, _, _, hM, ⟨q0, hw, qK, qN⟩, fun o t ⟨⟨z, u, e1, e2, _⟩, hF⟩ => ⟨⟨z, (), e1, e2, qI.kept (fun q _ h1 => hF.2 q h1 (fun w => w))⟩, hF.1, fun q h1 _ => hF.2 q h1 (fun w => w)⟩, fun q h => h.elim⟩
theorem okH_keep {hs : List Prf} {P : Prf} (h : ∀ Q, Q ∈ hs → okP Q) (hP : okP P) : ∀ Q, Q ∈ ((P :: hs).take 10) → okP Q := by
  intro Q hQ
  rcases List.mem_cons.mp (List.mem_of_mem_take hQ) with e | e
  · rw [e]; exact hP
  · exact h Q e
theorem upd_rng {n c a : Nat} {y : Int32} {G : Nat → Int32} (hG : ∀ k, k < n → ∃ q, q ≤ c ∧ G k = nI q) (hy : ∃ q, q ≤ c ∧ y = nI q) : ∀ k, k < n → ∃ q, q ≤ c ∧ upd G a y k = nI q := by
  intro k hk
  by_cases q : k = a
  · rw [q, pk_us]; exact hy
  · rw [pk_un q]; exact hG k hk
theorem bool_3 {P : Prop} (b : Bool) (h1 : b = true → P) (h2 : b = false → P) : P := by cases b with | true => exact h1 rfl | false => exact h2 rfl
theorem ct_21 (P : Nat → Bool) : fb_ct P 20 + 1 ≤ 21 := by have := fb_ct_le P 20; omega
set_option maxHeartbeats 8000000 in
theorem pr_reset (l : Launch) (D : va_G) (cI cB cO : ClassId) (A B : Nat → Nat) (S : StT) (ok : okQ S) (x : Int32) (y : Int32) : ∃ (v : Int32) (S' : StT), okQ S' ∧ MX l D cI cB cO A yX6_reset wsX6_reset [.int x, .int y] S v S' ∧ MM l D cI cB cO B yX7_reset wsX7_reset [.int x, .int y] S v S' := by
  obtain ⟨n, rg, bl, G, M, hs, tL, tc, fk, fc⟩ := S
  have hok : okS n rg bl G M hs tL tc fk fc := ok
  obtain ⟨hokP, hokH, hL, hcc, hfk⟩ := id hok
  have hn2 : 2 ≤ n := hokP.1
  have hn : n ≤ 20 := hokP.2.1
  have hrg : ∃ q, 1 ≤ q ∧ q ≤ 19 ∧ rg = nI q := hokP.2.2.1
  have hbl : ∃ q, q ≤ 9 ∧ bl = nI q := hokP.2.2.2.1
  have hGv : ∀ k, k < n → ∃ q, q ≤ 999 ∧ G k = nI q := hokP.2.2.2.2.1
  have hMv : ∀ k, k < n → ∃ q, q ≤ 200 ∧ M k = nI q := hokP.2.2.2.2.2
  refine bool_3 (resetB x y) (fun h => ?_) (fun h => ?_)
  · have h' := h
    unfold resetB at h'
    rw [Bool.and_eq_true] at h'
    obtain ⟨a, ha1, ha2, rfl⟩ := inB_nat (a := 2) (b := 20) h'.1 (by decide) (by decide)
    obtain ⟨q, -, hq, hy⟩ := inB_nat (a := 0) (b := 999) h'.2 (by decide) (by decide)
    exact ⟨nI a, (a, rg, bl, fun _ => y, fun _ => 0, (((n, rg, bl, G, M) :: hs).take 10), tL, tc, fk, fc), ⟨⟨ha1, ha2, hrg, hbl, fun k _ => ⟨q, hq, hy⟩, fun k _ => ⟨0, by decide, rfl⟩⟩, okH_keep hokH hokP, hL, hcc, hfk⟩, ⟨8, by decide, c_X6_reset_ok l D cI cB cO A n rg bl G M hs tL tc fk fc a y hok ha1 ha2 h'.2⟩, ⟨8, by decide, c_X7_reset_ok l D cI cB cO B n rg bl G M hs tL tc fk fc a y hok ha1 ha2 h'.2⟩⟩
  · exact ⟨-2, (n, rg, bl, G, M, hs, tL, tc, fk, fc), ok, ⟨8, by decide, c_X6_reset_no l D cI cB cO A n rg bl G M hs tL tc fk fc x y hok h⟩, ⟨8, by decide, c_X7_reset_no l D cI cB cO B n rg bl G M hs tL tc fk fc x y hok h⟩⟩
set_option maxHeartbeats 8000000 in
theorem pr_setGround (l : Launch) (D : va_G) (cI cB cO : ClassId) (A B : Nat → Nat) (S : StT) (ok : okQ S) (x : Int32) (y : Int32) : ∃ (v : Int32) (S' : StT), okQ S' ∧ MX l D cI cB cO A yX6_setGround wsX6_setGround [.int x, .int y] S v S' ∧ MM l D cI cB cO B yX7_setGround wsX7_setGround [.int x, .int y] S v S' := by
  obtain ⟨n, rg, bl, G, M, hs, tL, tc, fk, fc⟩ := S
  have hok : okS n rg bl G M hs tL tc fk fc := ok
  obtain ⟨hokP, hokH, hL, hcc, hfk⟩ := id hok
  have hn2 : 2 ≤ n := hokP.1
  have hn : n ≤ 20 := hokP.2.1
  have hrg : ∃ q, 1 ≤ q ∧ q ≤ 19 ∧ rg = nI q := hokP.2.2.1
  have hbl : ∃ q, q ≤ 9 ∧ bl = nI q := hokP.2.2.2.1
  have hGv : ∀ k, k < n → ∃ q, q ≤ 999 ∧ G k = nI q := hokP.2.2.2.2.1
  have hMv : ∀ k, k < n → ∃ q, q ≤ 200 ∧ M k = nI q := hokP.2.2.2.2.2
  refine bool_3 (hasB n x && inB y 0 999) (fun h => ?_) (fun h => ?_)
  · rw [Bool.and_eq_true] at h
    obtain ⟨a, ha, rfl⟩ := hasB_T h.1 hn
    obtain ⟨q, -, hq, hy⟩ := inB_nat (a := 0) (b := 999) h.2 (by decide) (by decide)
    exact ⟨G a, (n, rg, bl, upd G a y, M, (((n, rg, bl, G, M) :: hs).take 10), tL, tc, fk, fc), ⟨⟨hn2, hn, hrg, hbl, upd_rng hGv ⟨q, hq, hy⟩, hMv⟩, okH_keep hokH hokP, hL, hcc, hfk⟩, ⟨8, by decide, c_X6_setGround_ok l D cI cB cO A n rg bl G M hs tL tc fk fc a y hok ha h.2⟩, ⟨8, by decide, c_X7_setGround_ok l D cI cB cO B n rg bl G M hs tL tc fk fc a y hok ha h.2⟩⟩
  · exact ⟨-2, (n, rg, bl, G, M, hs, tL, tc, fk, fc), ok, ⟨8, by decide, c_X6_setGround_no l D cI cB cO A n rg bl G M hs tL tc fk fc x y hok h⟩, ⟨8, by decide, c_X7_setGround_no l D cI cB cO B n rg bl G M hs tL tc fk fc x y hok h⟩⟩
set_option maxHeartbeats 8000000 in
theorem pr_mast (l : Launch) (D : va_G) (cI cB cO : ClassId) (A B : Nat → Nat) (S : StT) (ok : okQ S) (x : Int32) (y : Int32) : ∃ (v : Int32) (S' : StT), okQ S' ∧ MX l D cI cB cO A yX6_mast wsX6_mast [.int x, .int y] S v S' ∧ MM l D cI cB cO B yX7_mast wsX7_mast [.int x, .int y] S v S' := by
  obtain ⟨n, rg, bl, G, M, hs, tL, tc, fk, fc⟩ := S
  have hok : okS n rg bl G M hs tL tc fk fc := ok
  obtain ⟨hokP, hokH, hL, hcc, hfk⟩ := id hok
  have hn2 : 2 ≤ n := hokP.1
  have hn : n ≤ 20 := hokP.2.1
  have hrg : ∃ q, 1 ≤ q ∧ q ≤ 19 ∧ rg = nI q := hokP.2.2.1
  have hbl : ∃ q, q ≤ 9 ∧ bl = nI q := hokP.2.2.2.1
  have hGv : ∀ k, k < n → ∃ q, q ≤ 999 ∧ G k = nI q := hokP.2.2.2.2.1
  have hMv : ∀ k, k < n → ∃ q, q ≤ 200 ∧ M k = nI q := hokP.2.2.2.2.2
  refine bool_3 (hasB n x && inB y 0 200) (fun h => ?_) (fun h => ?_)
  · rw [Bool.and_eq_true] at h
    obtain ⟨a, ha, rfl⟩ := hasB_T h.1 hn
    obtain ⟨q, -, hq, hy⟩ := inB_nat (a := 0) (b := 200) h.2 (by decide) (by decide)
    exact ⟨M a, (n, rg, bl, G, upd M a y, (((n, rg, bl, G, M) :: hs).take 10), tL, tc, fk, fc), ⟨⟨hn2, hn, hrg, hbl, hGv, upd_rng hMv ⟨q, hq, hy⟩⟩, okH_keep hokH hokP, hL, hcc, hfk⟩, ⟨8, by decide, c_X6_mast_ok l D cI cB cO A n rg bl G M hs tL tc fk fc a y hok ha h.2⟩, ⟨8, by decide, c_X7_mast_ok l D cI cB cO B n rg bl G M hs tL tc fk fc a y hok ha h.2⟩⟩
  · exact ⟨-2, (n, rg, bl, G, M, hs, tL, tc, fk, fc), ok, ⟨8, by decide, c_X6_mast_no l D cI cB cO A n rg bl G M hs tL tc fk fc x y hok h⟩, ⟨8, by decide, c_X7_mast_no l D cI cB cO B n rg bl G M hs tL tc fk fc x y hok h⟩⟩
set_option maxHeartbeats 8000000 in
theorem pr_slope (l : Launch) (D : va_G) (cI cB cO : ClassId) (A B : Nat → Nat) (S : StT) (ok : okQ S) (x : Int32) (y : Int32) : ∃ (v : Int32) (S' : StT), okQ S' ∧ MX l D cI cB cO A yX6_slope wsX6_slope [.int x, .int y] S v S' ∧ MM l D cI cB cO B yX7_slope wsX7_slope [.int x, .int y] S v S' := by
  obtain ⟨n, rg, bl, G, M, hs, tL, tc, fk, fc⟩ := S
  have hok : okS n rg bl G M hs tL tc fk fc := ok
  obtain ⟨hokP, hokH, hL, hcc, hfk⟩ := id hok
  have hn2 : 2 ≤ n := hokP.1
  have hn : n ≤ 20 := hokP.2.1
  have hrg : ∃ q, 1 ≤ q ∧ q ≤ 19 ∧ rg = nI q := hokP.2.2.1
  have hbl : ∃ q, q ≤ 9 ∧ bl = nI q := hokP.2.2.2.1
  have hGv : ∀ k, k < n → ∃ q, q ≤ 999 ∧ G k = nI q := hokP.2.2.2.2.1
  have hMv : ∀ k, k < n → ∃ q, q ≤ 200 ∧ M k = nI q := hokP.2.2.2.2.2
  refine bool_3 (hasB n x && (hasB n y && decide (x < y))) (fun h => ?_) (fun h => ?_)
  · rw [Bool.and_eq_true, Bool.and_eq_true, decide_eq_true_iff] at h
    obtain ⟨a, ha, rfl⟩ := hasB_T h.1 hn
    obtain ⟨b, hb0, rfl⟩ := hasB_T h.2.1 hn
    have hab : a < b := (nI_ltI (by omega) (by omega)).mp h.2.2
    exact ⟨nI (fb_ct (slB G a b) b), (n, rg, bl, slG G a b, M, (((n, rg, bl, G, M) :: hs).take 10), tL, tc, fk, fc), ⟨⟨hn2, hn, hrg, hbl, slG_rng hn hGv hb0, hMv⟩, okH_keep hokH hokP, hL, hcc, hfk⟩, ⟨8, by decide, c_X6_slope_ok l D cI cB cO A n rg bl G M hs tL tc fk fc a b hok hab hb0⟩, ⟨8, by decide, c_X7_slope_ok l D cI cB cO B n rg bl G M hs tL tc fk fc a b hok hab hb0⟩⟩
  · exact ⟨-2, (n, rg, bl, G, M, hs, tL, tc, fk, fc), ok, ⟨8, by decide, c_X6_slope_no l D cI cB cO A n rg bl G M hs tL tc fk fc x y hok h⟩, ⟨8, by decide, c_X7_slope_no l D cI cB cO B n rg bl G M hs tL tc fk fc x y hok h⟩⟩
set_option maxHeartbeats 8000000 in
theorem pr_reverse (l : Launch) (D : va_G) (cI cB cO : ClassId) (A B : Nat → Nat) (S : StT) (ok : okQ S) : ∃ (v : Int32) (S' : StT), okQ S' ∧ MX l D cI cB cO A yX6_reverse wsX6_reverse [] S v S' ∧ MM l D cI cB cO B yX7_reverse wsX7_reverse [] S v S' := by
  obtain ⟨n, rg, bl, G, M, hs, tL, tc, fk, fc⟩ := S
  have hok : okS n rg bl G M hs tL tc fk fc := ok
  obtain ⟨hokP, hokH, hL, hcc, hfk⟩ := id hok
  have hn2 : 2 ≤ n := hokP.1
  have hn : n ≤ 20 := hokP.2.1
  have hrg : ∃ q, 1 ≤ q ∧ q ≤ 19 ∧ rg = nI q := hokP.2.2.1
  have hbl : ∃ q, q ≤ 9 ∧ bl = nI q := hokP.2.2.2.1
  have hGv : ∀ k, k < n → ∃ q, q ≤ 999 ∧ G k = nI q := hokP.2.2.2.2.1
  have hMv : ∀ k, k < n → ∃ q, q ≤ 200 ∧ M k = nI q := hokP.2.2.2.2.2
  exact ⟨nI (fb_ct (fun k => decide (G k ≠ G (n - 1 - k) ∨ M k ≠ M (n - 1 - k))) n), (n, rg, bl, fun k => G (n - 1 - k), fun k => M (n - 1 - k), (((n, rg, bl, G, M) :: hs).take 10), tL, tc, fk, fc), ⟨⟨hn2, hn, hrg, hbl, fun k hk => hGv (n - 1 - k) (by omega), fun k hk => hMv (n - 1 - k) (by omega)⟩, okH_keep hokH hokP, hL, hcc, hfk⟩, ⟨8, by decide, c_X6_reverse l D cI cB cO A n rg bl G M hs tL tc fk fc hok⟩, ⟨8, by decide, c_X7_reverse l D cI cB cO B n rg bl G M hs tL tc fk fc hok⟩⟩
set_option maxHeartbeats 8000000 in
theorem pr_setRange (l : Launch) (D : va_G) (cI cB cO : ClassId) (A B : Nat → Nat) (S : StT) (ok : okQ S) (x : Int32) : ∃ (v : Int32) (S' : StT), okQ S' ∧ MX l D cI cB cO A yX6_setRange wsX6_setRange [.int x] S v S' ∧ MM l D cI cB cO B yX7_setRange wsX7_setRange [.int x] S v S' := by
  obtain ⟨n, rg, bl, G, M, hs, tL, tc, fk, fc⟩ := S
  have hok : okS n rg bl G M hs tL tc fk fc := ok
  obtain ⟨hokP, hokH, hL, hcc, hfk⟩ := id hok
  have hn2 : 2 ≤ n := hokP.1
  have hn : n ≤ 20 := hokP.2.1
  have hrg : ∃ q, 1 ≤ q ∧ q ≤ 19 ∧ rg = nI q := hokP.2.2.1
  have hbl : ∃ q, q ≤ 9 ∧ bl = nI q := hokP.2.2.2.1
  have hGv : ∀ k, k < n → ∃ q, q ≤ 999 ∧ G k = nI q := hokP.2.2.2.2.1
  have hMv : ∀ k, k < n → ∃ q, q ≤ 200 ∧ M k = nI q := hokP.2.2.2.2.2
  refine bool_3 (inB x 1 19) (fun h => ?_) (fun h => ?_)
  · obtain ⟨q, hq1, hq, hy⟩ := inB_nat (a := 1) (b := 19) h (by decide) (by decide)
    exact ⟨rg, (n, x, bl, G, M, (((n, rg, bl, G, M) :: hs).take 10), tL, tc, fk, fc), ⟨⟨hn2, hn, ⟨q, hq1, hq, hy⟩, hbl, hGv, hMv⟩, okH_keep hokH hokP, hL, hcc, hfk⟩, ⟨8, by decide, c_X6_setRange_ok l D cI cB cO A n rg bl G M hs tL tc fk fc x hok h⟩, ⟨8, by decide, c_X7_setRange_ok l D cI cB cO B n rg bl G M hs tL tc fk fc x hok h⟩⟩
  · exact ⟨-2, (n, rg, bl, G, M, hs, tL, tc, fk, fc), ok, ⟨8, by decide, c_X6_setRange_no l D cI cB cO A n rg bl G M hs tL tc fk fc x hok h⟩, ⟨8, by decide, c_X7_setRange_no l D cI cB cO B n rg bl G M hs tL tc fk fc x hok h⟩⟩
set_option maxHeartbeats 8000000 in
theorem pr_setBulge (l : Launch) (D : va_G) (cI cB cO : ClassId) (A B : Nat → Nat) (S : StT) (ok : okQ S) (x : Int32) : ∃ (v : Int32) (S' : StT), okQ S' ∧ MX l D cI cB cO A yX6_setBulge wsX6_setBulge [.int x] S v S' ∧ MM l D cI cB cO B yX7_setBulge wsX7_setBulge [.int x] S v S' := by
  obtain ⟨n, rg, bl, G, M, hs, tL, tc, fk, fc⟩ := S
  have hok : okS n rg bl G M hs tL tc fk fc := ok
  obtain ⟨hokP, hokH, hL, hcc, hfk⟩ := id hok
  have hn2 : 2 ≤ n := hokP.1
  have hn : n ≤ 20 := hokP.2.1
  have hrg : ∃ q, 1 ≤ q ∧ q ≤ 19 ∧ rg = nI q := hokP.2.2.1
  have hbl : ∃ q, q ≤ 9 ∧ bl = nI q := hokP.2.2.2.1
  have hGv : ∀ k, k < n → ∃ q, q ≤ 999 ∧ G k = nI q := hokP.2.2.2.2.1
  have hMv : ∀ k, k < n → ∃ q, q ≤ 200 ∧ M k = nI q := hokP.2.2.2.2.2
  refine bool_3 (inB x 0 9) (fun h => ?_) (fun h => ?_)
  · obtain ⟨q, hq1, hq, hy⟩ := inB_nat (a := 0) (b := 9) h (by decide) (by decide)
    exact ⟨bl, (n, rg, x, G, M, (((n, rg, bl, G, M) :: hs).take 10), tL, tc, fk, fc), ⟨⟨hn2, hn, hrg, ⟨q, hq, hy⟩, hGv, hMv⟩, okH_keep hokH hokP, hL, hcc, hfk⟩, ⟨8, by decide, c_X6_setBulge_ok l D cI cB cO A n rg bl G M hs tL tc fk fc x hok h⟩, ⟨8, by decide, c_X7_setBulge_ok l D cI cB cO B n rg bl G M hs tL tc fk fc x hok h⟩⟩
  · exact ⟨-2, (n, rg, bl, G, M, hs, tL, tc, fk, fc), ok, ⟨8, by decide, c_X6_setBulge_no l D cI cB cO A n rg bl G M hs tL tc fk fc x hok h⟩, ⟨8, by decide, c_X7_setBulge_no l D cI cB cO B n rg bl G M hs tL tc fk fc x hok h⟩⟩
set_option maxHeartbeats 8000000 in
theorem pr_undo (l : Launch) (D : va_G) (cI cB cO : ClassId) (A B : Nat → Nat) (S : StT) (ok : okQ S) : ∃ (v : Int32) (S' : StT), okQ S' ∧ MX l D cI cB cO A yX6_undo wsX6_undo [] S v S' ∧ MM l D cI cB cO B yX7_undo wsX7_undo [] S v S' := by
  obtain ⟨n, rg, bl, G, M, hs, tL, tc, fk, fc⟩ := S
  have hok : okS n rg bl G M hs tL tc fk fc := ok
  obtain ⟨hokP, hokH, hL, hcc, hfk⟩ := id hok
  have hn2 : 2 ≤ n := hokP.1
  have hn : n ≤ 20 := hokP.2.1
  have hrg : ∃ q, 1 ≤ q ∧ q ≤ 19 ∧ rg = nI q := hokP.2.2.1
  have hbl : ∃ q, q ≤ 9 ∧ bl = nI q := hokP.2.2.2.1
  have hGv : ∀ k, k < n → ∃ q, q ≤ 999 ∧ G k = nI q := hokP.2.2.2.2.1
  have hMv : ∀ k, k < n → ∃ q, q ≤ 200 ∧ M k = nI q := hokP.2.2.2.2.2
  cases hh : hs with
  | nil => subst hh; exact ⟨-3, (n, rg, bl, G, M, [], tL, tc, fk, fc), ok, ⟨8, by decide, c_X6_undo_no l D cI cB cO A n rg bl G M [] tL tc fk fc hok rfl⟩, ⟨8, by decide, c_X7_undo_no l D cI cB cO B n rg bl G M [] tL tc fk fc hok rfl⟩⟩
  | cons Pv tv => subst hh; exact ⟨nI tv.length, (Pv.1, Pv.2.1, Pv.2.2.1, Pv.2.2.2.1, Pv.2.2.2.2, tv, tL, tc, fk, fc), ⟨hokH Pv List.mem_cons_self, fun Q hQ => hokH Q (List.mem_cons_of_mem _ hQ), hL, hcc, hfk⟩, ⟨8, by decide, c_X6_undo_ok l D cI cB cO A n rg bl G M (Pv :: tv) tL tc fk fc Pv tv hok rfl⟩, ⟨8, by decide, c_X7_undo_ok l D cI cB cO B n rg bl G M (Pv :: tv) tL tc fk fc Pv tv hok rfl⟩⟩
set_option maxHeartbeats 8000000 in
theorem pr_type (l : Launch) (D : va_G) (cI cB cO : ClassId) (A B : Nat → Nat) (S : StT) (ok : okQ S) (x : Int32) : ∃ (v : Int32) (S' : StT), okQ S' ∧ MX l D cI cB cO A yX6_type wsX6_type [.int x] S v S' ∧ MM l D cI cB cO B yX7_type wsX7_type [.int x] S v S' := by
  obtain ⟨n, rg, bl, G, M, hs, tL, tc, fk, fc⟩ := S
  have hok : okS n rg bl G M hs tL tc fk fc := ok
  obtain ⟨hokP, hokH, hL, hcc, hfk⟩ := id hok
  have hn2 : 2 ≤ n := hokP.1
  have hn : n ≤ 20 := hokP.2.1
  have hrg : ∃ q, 1 ≤ q ∧ q ≤ 19 ∧ rg = nI q := hokP.2.2.1
  have hbl : ∃ q, q ≤ 9 ∧ bl = nI q := hokP.2.2.2.1
  have hGv : ∀ k, k < n → ∃ q, q ≤ 999 ∧ G k = nI q := hokP.2.2.2.2.1
  have hMv : ∀ k, k < n → ∃ q, q ≤ 200 ∧ M k = nI q := hokP.2.2.2.2.2
  refine bool_3 (inB x 0 127) (fun h => ?_) (fun h => ?_)
  · obtain ⟨v, -, hv, rfl⟩ := inB_nat (a := 0) (b := 127) h (by decide) (by decide)
    rcases Nat.lt_or_ge tL 120 with q | q
    · exact ⟨nI (tL + 1), (n, rg, bl, G, M, hs, (tL + 1), tcU tc tL v, fk, fc), ⟨hokP, hokH, q, fun j hj => by show (if j = tL then v else tc j) ≤ 127; split; exact hv; exact hcc j (by have hj : j < tL + 1 := hj; omega), hfk⟩, ⟨8, by decide, c_X6_type_ok l D cI cB cO A n rg bl G M hs tL tc fk fc v hok hv q⟩, ⟨8, by decide, c_X7_type_ok l D cI cB cO B n rg bl G M hs tL tc fk fc v hok hv q⟩⟩
    · exact ⟨-4, (n, rg, bl, G, M, hs, tL, tc, fk, fc), ok, ⟨8, by decide, c_X6_type_full l D cI cB cO A n rg bl G M hs tL tc fk fc v hok hv (by omega)⟩, ⟨8, by decide, c_X7_type_full l D cI cB cO B n rg bl G M hs tL tc fk fc v hok hv (by omega)⟩⟩
  · exact ⟨-2, (n, rg, bl, G, M, hs, tL, tc, fk, fc), ok, ⟨8, by decide, c_X6_type_no l D cI cB cO A n rg bl G M hs tL tc fk fc x hok h⟩, ⟨8, by decide, c_X7_type_no l D cI cB cO B n rg bl G M hs tL tc fk fc x hok h⟩⟩
set_option maxHeartbeats 8000000 in
theorem pr_clearText (l : Launch) (D : va_G) (cI cB cO : ClassId) (A B : Nat → Nat) (S : StT) (ok : okQ S) : ∃ (v : Int32) (S' : StT), okQ S' ∧ MX l D cI cB cO A yX6_clearText wsX6_clearText [] S v S' ∧ MM l D cI cB cO B yX7_clearText wsX7_clearText [] S v S' := by
  obtain ⟨n, rg, bl, G, M, hs, tL, tc, fk, fc⟩ := S
  have hok : okS n rg bl G M hs tL tc fk fc := ok
  obtain ⟨hokP, hokH, hL, hcc, hfk⟩ := id hok
  have hn2 : 2 ≤ n := hokP.1
  have hn : n ≤ 20 := hokP.2.1
  have hrg : ∃ q, 1 ≤ q ∧ q ≤ 19 ∧ rg = nI q := hokP.2.2.1
  have hbl : ∃ q, q ≤ 9 ∧ bl = nI q := hokP.2.2.2.1
  have hGv : ∀ k, k < n → ∃ q, q ≤ 999 ∧ G k = nI q := hokP.2.2.2.2.1
  have hMv : ∀ k, k < n → ∃ q, q ≤ 200 ∧ M k = nI q := hokP.2.2.2.2.2
  exact ⟨nI tL, (n, rg, bl, G, M, hs, 0, tc, fk, fc), ⟨hokP, hokH, Nat.zero_le _, fun j hj => absurd hj (Nat.not_lt_zero j), hfk⟩, ⟨8, by decide, c_X6_clearText l D cI cB cO A n rg bl G M hs tL tc fk fc hok⟩, ⟨8, by decide, c_X7_clearText l D cI cB cO B n rg bl G M hs tL tc fk fc hok⟩⟩
set_option maxHeartbeats 8000000 in
theorem pr_fault (l : Launch) (D : va_G) (cI cB cO : ClassId) (A B : Nat → Nat) (S : StT) (ok : okQ S) : ∃ (v : Int32) (S' : StT), okQ S' ∧ MX l D cI cB cO A yX6_fault wsX6_fault [] S v S' ∧ MM l D cI cB cO B yX7_fault wsX7_fault [] S v S' := by
  obtain ⟨n, rg, bl, G, M, hs, tL, tc, fk, fc⟩ := S
  have hok : okS n rg bl G M hs tL tc fk fc := ok
  obtain ⟨hokP, hokH, hL, hcc, hfk⟩ := id hok
  have hn2 : 2 ≤ n := hokP.1
  have hn : n ≤ 20 := hokP.2.1
  have hrg : ∃ q, 1 ≤ q ∧ q ≤ 19 ∧ rg = nI q := hokP.2.2.1
  have hbl : ∃ q, q ≤ 9 ∧ bl = nI q := hokP.2.2.2.1
  have hGv : ∀ k, k < n → ∃ q, q ≤ 999 ∧ G k = nI q := hokP.2.2.2.2.1
  have hMv : ∀ k, k < n → ∃ q, q ≤ 200 ∧ M k = nI q := hokP.2.2.2.2.2
  exact ⟨FZ (LD tc tL).1, (n, rg, bl, G, M, hs, tL, tc, fk, fc), ok, ⟨8, by decide, c_X6_fault l D cI cB cO A n rg bl G M hs tL tc fk fc hok⟩, ⟨8, by decide, c_X7_fault l D cI cB cO B n rg bl G M hs tL tc fk fc hok⟩⟩
set_option maxHeartbeats 8000000 in
theorem pr_load (l : Launch) (D : va_G) (cI cB cO : ClassId) (A B : Nat → Nat) (S : StT) (ok : okQ S) : ∃ (v : Int32) (S' : StT), okQ S' ∧ MX l D cI cB cO A yX6_load wsX6_load [] S v S' ∧ MM l D cI cB cO B yX7_load wsX7_load [] S v S' := by
  obtain ⟨n, rg, bl, G, M, hs, tL, tc, fk, fc⟩ := S
  have hok : okS n rg bl G M hs tL tc fk fc := ok
  obtain ⟨hokP, hokH, hL, hcc, hfk⟩ := id hok
  have hn2 : 2 ≤ n := hokP.1
  have hn : n ≤ 20 := hokP.2.1
  have hrg : ∃ q, 1 ≤ q ∧ q ≤ 19 ∧ rg = nI q := hokP.2.2.1
  have hbl : ∃ q, q ≤ 9 ∧ bl = nI q := hokP.2.2.2.1
  have hGv : ∀ k, k < n → ∃ q, q ≤ 999 ∧ G k = nI q := hokP.2.2.2.2.1
  have hMv : ∀ k, k < n → ∃ q, q ≤ 200 ∧ M k = nI q := hokP.2.2.2.2.2
  by_cases h : (LD tc tL).1 = 0
  · obtain ⟨h2, h20, hg, hm⟩ := LD_ok hL h
    exact ⟨nI (LD tc tL).2.1, ((LD tc tL).2.1, rg, bl, (LD tc tL).2.2.1, (LD tc tL).2.2.2, (((n, rg, bl, G, M) :: hs).take 10), 0, tc, fk, fc), ⟨⟨h2, h20, hrg, hbl, hg, hm⟩, okH_keep hokH hokP, Nat.zero_le _, fun j hj => absurd hj (Nat.not_lt_zero j), hfk⟩, ⟨8, by decide, c_X6_load_ok l D cI cB cO A n rg bl G M hs tL tc fk fc hok h⟩, ⟨8, by decide, c_X7_load_ok l D cI cB cO B n rg bl G M hs tL tc fk fc hok h⟩⟩
  · exact ⟨-3, (n, rg, bl, G, M, hs, tL, tc, fk, fc), ok, ⟨8, by decide, c_X6_load_no l D cI cB cO A n rg bl G M hs tL tc fk fc hok h⟩, ⟨8, by decide, c_X7_load_no l D cI cB cO B n rg bl G M hs tL tc fk fc hok h⟩⟩
set_option maxHeartbeats 8000000 in
theorem pr_station (l : Launch) (D : va_G) (cI cB cO : ClassId) (A B : Nat → Nat) (S : StT) (ok : okQ S) (x : Int32) (w : Int32) : ∃ (v : Int32) (S' : StT), okQ S' ∧ MX l D cI cB cO A yX6_station wsX6_station [.int x, .int w] S v S' ∧ MM l D cI cB cO B yX7_station_ wsX7_station_ [.int x, .int w] S v S' := by
  obtain ⟨n, rg, bl, G, M, hs, tL, tc, fk, fc⟩ := S
  have hok : okS n rg bl G M hs tL tc fk fc := ok
  obtain ⟨hokP, hokH, hL, hcc, hfk⟩ := id hok
  have hn2 : 2 ≤ n := hokP.1
  have hn : n ≤ 20 := hokP.2.1
  have hrg : ∃ q, 1 ≤ q ∧ q ≤ 19 ∧ rg = nI q := hokP.2.2.1
  have hbl : ∃ q, q ≤ 9 ∧ bl = nI q := hokP.2.2.2.1
  have hGv : ∀ k, k < n → ∃ q, q ≤ 999 ∧ G k = nI q := hokP.2.2.2.2.1
  have hMv : ∀ k, k < n → ∃ q, q ≤ 200 ∧ M k = nI q := hokP.2.2.2.2.2
  exact ⟨A_station n rg bl G M x w, (n, rg, bl, G, M, hs, tL, tc, fk, fc), ok, (mx_rd 6 (by decide) (fun H hI => by
      obtain ⟨fg, fm, dn, dr, db, dg, dm, jx, pn, pr, pb, pg, pm, ta, tf, lt, ff, rs, rr, rt, rl, rp, rc, cv, cb, hP, hjx, hsl, hR, hG, hM, hlt, hff, hcb⟩ := hI
      exact ⟨_, hP.pick [0, 33, 34, 35] rfl, c_X6_station l D cI cB cO (A 0) [.ref (A 4), .ref (A 7), .ref (A 39), .ref (A 41), .ref (A 43), .ref (A 48)] (A 1) (A 2) (A 3) n rg bl fg fm G M x w hn hG hM⟩)), (mm_rd 6 (by decide) (fun H hI => by
      obtain ⟨mm, pp, fd, tx, rgd, rmd, wy, cvr, re, at0, fa, hsh, hP, hm, hpp, hsl, htx, hfd⟩ := hI
      exact ⟨_, hP.pick [0, 1] rfl, c_X7_station_ l D cI cB cO (B 0) (B 1) [.ref (B 2), .int (nI hs.length), .ref (B 3), .int (FZ fk), .ref (B 4), .int (nI tL), .ref (B 5), .ref (B 6), .int re, .int at0, .int fa, .ref (B 7), .ref (B 8), .long hsh] n mm rg bl G M x w hm⟩))⟩
set_option maxHeartbeats 8000000 in
theorem pr_sees (l : Launch) (D : va_G) (cI cB cO : ClassId) (A B : Nat → Nat) (S : StT) (ok : okQ S) (x : Int32) (y : Int32) : ∃ (v : Int32) (S' : StT), okQ S' ∧ MX l D cI cB cO A yX6_sees wsX6_sees [.int x, .int y] S v S' ∧ MM l D cI cB cO B yX7_sees wsX7_sees [.int x, .int y] S v S' := by
  obtain ⟨n, rg, bl, G, M, hs, tL, tc, fk, fc⟩ := S
  have hok : okS n rg bl G M hs tL tc fk fc := ok
  obtain ⟨hokP, hokH, hL, hcc, hfk⟩ := id hok
  have hn2 : 2 ≤ n := hokP.1
  have hn : n ≤ 20 := hokP.2.1
  have hrg : ∃ q, 1 ≤ q ∧ q ≤ 19 ∧ rg = nI q := hokP.2.2.1
  have hbl : ∃ q, q ≤ 9 ∧ bl = nI q := hokP.2.2.2.1
  have hGv : ∀ k, k < n → ∃ q, q ≤ 999 ∧ G k = nI q := hokP.2.2.2.2.1
  have hMv : ∀ k, k < n → ∃ q, q ≤ 200 ∧ M k = nI q := hokP.2.2.2.2.2
  exact ⟨A_sees n bl G M x y, (n, rg, bl, G, M, hs, tL, tc, fk, fc), ok, (mx_rd 6 (by decide) (fun H hI => by
      obtain ⟨fg, fm, dn, dr, db, dg, dm, jx, pn, pr, pb, pg, pm, ta, tf, lt, ff, rs, rr, rt, rl, rp, rc, cv, cb, hP, hjx, hsl, hR, hG, hM, hlt, hff, hcb⟩ := hI
      exact ⟨_, hP.pick [0, 33, 34, 35] rfl, c_X6_sees l D cI cB cO (A 0) [.ref (A 4), .ref (A 7), .ref (A 39), .ref (A 41), .ref (A 43), .ref (A 48)] (A 1) (A 2) (A 3) n rg bl fg fm G M x y hn hG hM⟩)), (mm_rd 6 (by decide) (fun H hI => by
      obtain ⟨mm, pp, fd, tx, rgd, rmd, wy, cvr, re, at0, fa, hsh, hP, hm, hpp, hsl, htx, hfd⟩ := hI
      exact ⟨_, hP.pick [0, 1] rfl, c_X7_sees l D cI cB cO (B 0) (B 1) [.ref (B 2), .int (nI hs.length), .ref (B 3), .int (FZ fk), .ref (B 4), .int (nI tL), .ref (B 5), .ref (B 6), .int re, .int at0, .int fa, .ref (B 7), .ref (B 8), .long hsh] n mm rg bl G M x y hm⟩))⟩
set_option maxHeartbeats 8000000 in
theorem pr_obstacle (l : Launch) (D : va_G) (cI cB cO : ClassId) (A B : Nat → Nat) (S : StT) (ok : okQ S) (x : Int32) (y : Int32) (w : Int32) : ∃ (v : Int32) (S' : StT), okQ S' ∧ MX l D cI cB cO A yX6_obstacle wsX6_obstacle [.int x, .int y, .int w] S v S' ∧ MM l D cI cB cO B yX7_obstacle wsX7_obstacle [.int x, .int y, .int w] S v S' := by
  obtain ⟨n, rg, bl, G, M, hs, tL, tc, fk, fc⟩ := S
  have hok : okS n rg bl G M hs tL tc fk fc := ok
  obtain ⟨hokP, hokH, hL, hcc, hfk⟩ := id hok
  have hn2 : 2 ≤ n := hokP.1
  have hn : n ≤ 20 := hokP.2.1
  have hrg : ∃ q, 1 ≤ q ∧ q ≤ 19 ∧ rg = nI q := hokP.2.2.1
  have hbl : ∃ q, q ≤ 9 ∧ bl = nI q := hokP.2.2.2.1
  have hGv : ∀ k, k < n → ∃ q, q ≤ 999 ∧ G k = nI q := hokP.2.2.2.2.1
  have hMv : ∀ k, k < n → ∃ q, q ≤ 200 ∧ M k = nI q := hokP.2.2.2.2.2
  exact ⟨A_obstacle n bl G M x y w, (n, rg, bl, G, M, hs, tL, tc, fk, fc), ok, (mx_rd 6 (by decide) (fun H hI => by
      obtain ⟨fg, fm, dn, dr, db, dg, dm, jx, pn, pr, pb, pg, pm, ta, tf, lt, ff, rs, rr, rt, rl, rp, rc, cv, cb, hP, hjx, hsl, hR, hG, hM, hlt, hff, hcb⟩ := hI
      exact ⟨_, hP.pick [0, 33, 34, 35] rfl, c_X6_obstacle l D cI cB cO (A 0) [.ref (A 4), .ref (A 7), .ref (A 39), .ref (A 41), .ref (A 43), .ref (A 48)] (A 1) (A 2) (A 3) n rg bl fg fm G M x y w hn hG hM⟩)), (mm_rd 6 (by decide) (fun H hI => by
      obtain ⟨mm, pp, fd, tx, rgd, rmd, wy, cvr, re, at0, fa, hsh, hP, hm, hpp, hsl, htx, hfd⟩ := hI
      exact ⟨_, hP.pick [0, 1] rfl, c_X7_obstacle l D cI cB cO (B 0) (B 1) [.ref (B 2), .int (nI hs.length), .ref (B 3), .int (FZ fk), .ref (B 4), .int (nI tL), .ref (B 5), .ref (B 6), .int re, .int at0, .int fa, .ref (B 7), .ref (B 8), .long hsh] n mm rg bl G M x y w hm⟩))⟩
set_option maxHeartbeats 8000000 in
theorem pr_neededMast (l : Launch) (D : va_G) (cI cB cO : ClassId) (A B : Nat → Nat) (S : StT) (ok : okQ S) (x : Int32) (y : Int32) : ∃ (v : Int32) (S' : StT), okQ S' ∧ MX l D cI cB cO A yX6_neededMast wsX6_neededMast [.int x, .int y] S v S' ∧ MM l D cI cB cO B yX7_neededMast wsX7_neededMast [.int x, .int y] S v S' := by
  obtain ⟨n, rg, bl, G, M, hs, tL, tc, fk, fc⟩ := S
  have hok : okS n rg bl G M hs tL tc fk fc := ok
  obtain ⟨hokP, hokH, hL, hcc, hfk⟩ := id hok
  have hn2 : 2 ≤ n := hokP.1
  have hn : n ≤ 20 := hokP.2.1
  have hrg : ∃ q, 1 ≤ q ∧ q ≤ 19 ∧ rg = nI q := hokP.2.2.1
  have hbl : ∃ q, q ≤ 9 ∧ bl = nI q := hokP.2.2.2.1
  have hGv : ∀ k, k < n → ∃ q, q ≤ 999 ∧ G k = nI q := hokP.2.2.2.2.1
  have hMv : ∀ k, k < n → ∃ q, q ≤ 200 ∧ M k = nI q := hokP.2.2.2.2.2
  exact ⟨A_needed n bl G M x y, (n, rg, bl, G, M, hs, tL, tc, fk, fc), ok, (mx_rd 6 (by decide) (fun H hI => by
      obtain ⟨fg, fm, dn, dr, db, dg, dm, jx, pn, pr, pb, pg, pm, ta, tf, lt, ff, rs, rr, rt, rl, rp, rc, cv, cb, hP, hjx, hsl, hR, hG, hM, hlt, hff, hcb⟩ := hI
      exact ⟨_, hP.pick [0, 33, 34, 35] rfl, c_X6_neededMast l D cI cB cO (A 0) [.ref (A 4), .ref (A 7), .ref (A 39), .ref (A 41), .ref (A 43), .ref (A 48)] (A 1) (A 2) (A 3) n rg bl fg fm G M x y hn hG hM⟩)), (mm_rd 6 (by decide) (fun H hI => by
      obtain ⟨mm, pp, fd, tx, rgd, rmd, wy, cvr, re, at0, fa, hsh, hP, hm, hpp, hsl, htx, hfd⟩ := hI
      exact ⟨_, hP.pick [0, 1] rfl, c_X7_neededMast l D cI cB cO (B 0) (B 1) [.ref (B 2), .int (nI hs.length), .ref (B 3), .int (FZ fk), .ref (B 4), .int (nI tL), .ref (B 5), .ref (B 6), .int re, .int at0, .int fa, .ref (B 7), .ref (B 8), .long hsh] n mm rg bl G M x y hm⟩))⟩
set_option maxHeartbeats 8000000 in
theorem pr_growth (l : Launch) (D : va_G) (cI cB cO : ClassId) (A B : Nat → Nat) (S : StT) (ok : okQ S) (x : Int32) (y : Int32) (w : Int32) : ∃ (v : Int32) (S' : StT), okQ S' ∧ MX l D cI cB cO A yX6_growth wsX6_growth [.int x, .int y, .int w] S v S' ∧ MM l D cI cB cO B yX7_growth wsX7_growth [.int x, .int y, .int w] S v S' := by
  obtain ⟨n, rg, bl, G, M, hs, tL, tc, fk, fc⟩ := S
  have hok : okS n rg bl G M hs tL tc fk fc := ok
  obtain ⟨hokP, hokH, hL, hcc, hfk⟩ := id hok
  have hn2 : 2 ≤ n := hokP.1
  have hn : n ≤ 20 := hokP.2.1
  have hrg : ∃ q, 1 ≤ q ∧ q ≤ 19 ∧ rg = nI q := hokP.2.2.1
  have hbl : ∃ q, q ≤ 9 ∧ bl = nI q := hokP.2.2.2.1
  have hGv : ∀ k, k < n → ∃ q, q ≤ 999 ∧ G k = nI q := hokP.2.2.2.2.1
  have hMv : ∀ k, k < n → ∃ q, q ≤ 200 ∧ M k = nI q := hokP.2.2.2.2.2
  exact ⟨A_growth n bl G M x y w, (n, rg, bl, G, M, hs, tL, tc, fk, fc), ok, (mx_rd 6 (by decide) (fun H hI => by
      obtain ⟨fg, fm, dn, dr, db, dg, dm, jx, pn, pr, pb, pg, pm, ta, tf, lt, ff, rs, rr, rt, rl, rp, rc, cv, cb, hP, hjx, hsl, hR, hG, hM, hlt, hff, hcb⟩ := hI
      exact ⟨_, hP.pick [0, 33, 34, 35] rfl, c_X6_growth l D cI cB cO (A 0) [.ref (A 4), .ref (A 7), .ref (A 39), .ref (A 41), .ref (A 43), .ref (A 48)] (A 1) (A 2) (A 3) n rg bl fg fm G M x y w hn hG hM hGv hMv hbl⟩)), (mm_rd 6 (by decide) (fun H hI => by
      obtain ⟨mm, pp, fd, tx, rgd, rmd, wy, cvr, re, at0, fa, hsh, hP, hm, hpp, hsl, htx, hfd⟩ := hI
      exact ⟨_, hP.pick [0, 1] rfl, c_X7_growth l D cI cB cO (B 0) (B 1) [.ref (B 2), .int (nI hs.length), .ref (B 3), .int (FZ fk), .ref (B 4), .int (nI tL), .ref (B 5), .ref (B 6), .int re, .int at0, .int fa, .ref (B 7), .ref (B 8), .long hsh] n mm rg bl G M x y w hm⟩))⟩
set_option maxHeartbeats 8000000 in
theorem pr_shadow (l : Launch) (D : va_G) (cI cB cO : ClassId) (A B : Nat → Nat) (S : StT) (ok : okQ S) (x : Int32) (y : Int32) (w : Int32) : ∃ (v : Int32) (S' : StT), okQ S' ∧ MX l D cI cB cO A yX6_shadow wsX6_shadow [.int x, .int y, .int w] S v S' ∧ MM l D cI cB cO B yX7_shadow wsX7_shadow [.int x, .int y, .int w] S v S' := by
  obtain ⟨n, rg, bl, G, M, hs, tL, tc, fk, fc⟩ := S
  have hok : okS n rg bl G M hs tL tc fk fc := ok
  obtain ⟨hokP, hokH, hL, hcc, hfk⟩ := id hok
  have hn2 : 2 ≤ n := hokP.1
  have hn : n ≤ 20 := hokP.2.1
  have hrg : ∃ q, 1 ≤ q ∧ q ≤ 19 ∧ rg = nI q := hokP.2.2.1
  have hbl : ∃ q, q ≤ 9 ∧ bl = nI q := hokP.2.2.2.1
  have hGv : ∀ k, k < n → ∃ q, q ≤ 999 ∧ G k = nI q := hokP.2.2.2.2.1
  have hMv : ∀ k, k < n → ∃ q, q ≤ 200 ∧ M k = nI q := hokP.2.2.2.2.2
  exact ⟨A_shadow n bl G M x y w, (n, rg, bl, G, M, hs, tL, tc, fk, fc), ok, (mx_rd 6 (by decide) (fun H hI => by
      obtain ⟨fg, fm, dn, dr, db, dg, dm, jx, pn, pr, pb, pg, pm, ta, tf, lt, ff, rs, rr, rt, rl, rp, rc, cv, cb, hP, hjx, hsl, hR, hG, hM, hlt, hff, hcb⟩ := hI
      exact ⟨_, hP.pick [0, 33, 34, 35] rfl, c_X6_shadow l D cI cB cO (A 0) [.ref (A 4), .ref (A 7), .ref (A 39), .ref (A 41), .ref (A 43), .ref (A 48)] (A 1) (A 2) (A 3) n rg bl fg fm G M x y w hn hG hM⟩)), (mm_rd 5 (by decide) (fun H hI => by
      obtain ⟨mm, pp, fd, tx, rgd, rmd, wy, cvr, re, at0, fa, hsh, hP, hm, hpp, hsl, htx, hfd⟩ := hI
      exact ⟨_, hP.pick [0, 1] rfl, c_X7_shadow l D cI cB cO (B 0) (B 1) [.ref (B 2), .int (nI hs.length), .ref (B 3), .int (FZ fk), .ref (B 4), .int (nI tL), .ref (B 5), .ref (B 6), .int re, .int at0, .int fa, .ref (B 7), .ref (B 8), .long hsh] n mm rg bl G M x y w hm⟩))⟩
set_option maxHeartbeats 8000000 in
theorem pr_farthest (l : Launch) (D : va_G) (cI cB cO : ClassId) (A B : Nat → Nat) (S : StT) (ok : okQ S) : ∃ (v : Int32) (S' : StT), okQ S' ∧ MX l D cI cB cO A yX6_farthest wsX6_farthest [] S v S' ∧ MM l D cI cB cO B yX7_farthest wsX7_farthest [] S v S' := by
  obtain ⟨n, rg, bl, G, M, hs, tL, tc, fk, fc⟩ := S
  have hok : okS n rg bl G M hs tL tc fk fc := ok
  obtain ⟨hokP, hokH, hL, hcc, hfk⟩ := id hok
  have hn2 : 2 ≤ n := hokP.1
  have hn : n ≤ 20 := hokP.2.1
  have hrg : ∃ q, 1 ≤ q ∧ q ≤ 19 ∧ rg = nI q := hokP.2.2.1
  have hbl : ∃ q, q ≤ 9 ∧ bl = nI q := hokP.2.2.2.1
  have hGv : ∀ k, k < n → ∃ q, q ≤ 999 ∧ G k = nI q := hokP.2.2.2.2.1
  have hMv : ∀ k, k < n → ∃ q, q ≤ 200 ∧ M k = nI q := hokP.2.2.2.2.2
  exact ⟨A_farthest n rg bl G M, (n, rg, bl, G, M, hs, tL, tc, fk, fc), ok, (mx_rd 6 (by decide) (fun H hI => by
      obtain ⟨fg, fm, dn, dr, db, dg, dm, jx, pn, pr, pb, pg, pm, ta, tf, lt, ff, rs, rr, rt, rl, rp, rc, cv, cb, hP, hjx, hsl, hR, hG, hM, hlt, hff, hcb⟩ := hI
      exact ⟨_, hP.pick [0, 33, 34, 35] rfl, c_X6_farthest l D cI cB cO (A 0) [.ref (A 4), .ref (A 7), .ref (A 39), .ref (A 41), .ref (A 43), .ref (A 48)] (A 1) (A 2) (A 3) n rg bl fg fm G M  hn hn2 (row_con (n := n) hrg 0 (by omega)) hG hM⟩)), (mm_rd 6 (by decide) (fun H hI => by
      obtain ⟨mm, pp, fd, tx, rgd, rmd, wy, cvr, re, at0, fa, hsh, hP, hm, hpp, hsl, htx, hfd⟩ := hI
      exact ⟨_, hP.pick [0, 1] rfl, c_X7_farthest l D cI cB cO (B 0) (B 1) [.ref (B 2), .int (nI hs.length), .ref (B 3), .int (FZ fk), .ref (B 4), .int (nI tL), .ref (B 5), .ref (B 6), .int re, .int at0, .int fa, .ref (B 7), .ref (B 8), .long hsh] n mm rg bl G M  hm⟩))⟩
set_option maxHeartbeats 8000000 in
theorem pr_watched (l : Launch) (D : va_G) (cI cB cO : ClassId) (A B : Nat → Nat) (S : StT) (ok : okQ S) (x : Int32) : ∃ (v : Int32) (S' : StT), okQ S' ∧ MX l D cI cB cO A yX6_watched wsX6_watched [.int x] S v S' ∧ MM l D cI cB cO B yX7_watched wsX7_watched [.int x] S v S' := by
  obtain ⟨n, rg, bl, G, M, hs, tL, tc, fk, fc⟩ := S
  have hok : okS n rg bl G M hs tL tc fk fc := ok
  obtain ⟨hokP, hokH, hL, hcc, hfk⟩ := id hok
  have hn2 : 2 ≤ n := hokP.1
  have hn : n ≤ 20 := hokP.2.1
  have hrg : ∃ q, 1 ≤ q ∧ q ≤ 19 ∧ rg = nI q := hokP.2.2.1
  have hbl : ∃ q, q ≤ 9 ∧ bl = nI q := hokP.2.2.2.1
  have hGv : ∀ k, k < n → ∃ q, q ≤ 999 ∧ G k = nI q := hokP.2.2.2.2.1
  have hMv : ∀ k, k < n → ∃ q, q ≤ 200 ∧ M k = nI q := hokP.2.2.2.2.2
  exact ⟨A_watched n bl G M x, (n, rg, bl, G, M, hs, tL, tc, fk, fc), ok, (mx_rd 6 (by decide) (fun H hI => by
      obtain ⟨fg, fm, dn, dr, db, dg, dm, jx, pn, pr, pb, pg, pm, ta, tf, lt, ff, rs, rr, rt, rl, rp, rc, cv, cb, hP, hjx, hsl, hR, hG, hM, hlt, hff, hcb⟩ := hI
      exact ⟨_, hP.pick [0, 33, 34, 35] rfl, c_X6_watched l D cI cB cO (A 0) [.ref (A 4), .ref (A 7), .ref (A 39), .ref (A 41), .ref (A 43), .ref (A 48)] (A 1) (A 2) (A 3) n rg bl fg fm G M x hn hG hM⟩)), (mm_rd 5 (by decide) (fun H hI => by
      obtain ⟨mm, pp, fd, tx, rgd, rmd, wy, cvr, re, at0, fa, hsh, hP, hm, hpp, hsl, htx, hfd⟩ := hI
      exact ⟨_, hP.pick [0, 1] rfl, c_X7_watched l D cI cB cO (B 0) (B 1) [.ref (B 2), .int (nI hs.length), .ref (B 3), .int (FZ fk), .ref (B 4), .int (nI tL), .ref (B 5), .ref (B 6), .int re, .int at0, .int fa, .ref (B 7), .ref (B 8), .long hsh] n mm rg bl G M x hm⟩))⟩
set_option maxHeartbeats 8000000 in
theorem pr_finding (l : Launch) (D : va_G) (cI cB cO : ClassId) (A B : Nat → Nat) (S : StT) (ok : okQ S) (x : Int32) : ∃ (v : Int32) (S' : StT), okQ S' ∧ MX l D cI cB cO A yX6_finding wsX6_finding [.int x] S v S' ∧ MM l D cI cB cO B yX7_finding wsX7_finding [.int x] S v S' := by
  obtain ⟨n, rg, bl, G, M, hs, tL, tc, fk, fc⟩ := S
  have hok : okS n rg bl G M hs tL tc fk fc := ok
  obtain ⟨hokP, hokH, hL, hcc, hfk⟩ := id hok
  have hn2 : 2 ≤ n := hokP.1
  have hn : n ≤ 20 := hokP.2.1
  have hrg : ∃ q, 1 ≤ q ∧ q ≤ 19 ∧ rg = nI q := hokP.2.2.1
  have hbl : ∃ q, q ≤ 9 ∧ bl = nI q := hokP.2.2.2.1
  have hGv : ∀ k, k < n → ∃ q, q ≤ 999 ∧ G k = nI q := hokP.2.2.2.2.1
  have hMv : ∀ k, k < n → ∃ q, q ≤ 200 ∧ M k = nI q := hokP.2.2.2.2.2
  exact ⟨A_finding fk fc x, (n, rg, bl, G, M, hs, tL, tc, fk, fc), ok, (mx_rd 1 (by decide) (fun H hI => by
      obtain ⟨fg, fm, dn, dr, db, dg, dm, jx, pn, pr, pb, pg, pm, ta, tf, lt, ff, rs, rr, rt, rl, rp, rc, cv, cb, hP, hjx, hsl, hR, hG, hM, hlt, hff, hcb⟩ := hI
      exact ⟨_, hP.pick [0, 41, 42] rfl, c_X6_finding l D cI cB cO (A 0) (A 1) (A 4) (A 7) (A 39) (A 43) (A 48) (A 41) (A 42) fk fc ff x hfk hff⟩)), (mm_rd 1 (by decide) (fun H hI => by
      obtain ⟨mm, pp, fd, tx, rgd, rmd, wy, cvr, re, at0, fa, hsh, hP, hm, hpp, hsl, htx, hfd⟩ := hI
      exact ⟨_, hP.pick [0, 3] rfl, c_X7_finding l D cI cB cO (B 0) (B 1) (B 2) (B 3) (B 4) (B 5) (B 6) (B 7) (B 8) (nI hs.length) (nI tL) re at0 fa hsh fk fc fd x hfk hfd⟩))⟩
set_option maxHeartbeats 8000000 in
theorem pr_count (l : Launch) (D : va_G) (cI cB cO : ClassId) (A B : Nat → Nat) (S : StT) (ok : okQ S) (w : Int32) : ∃ (v : Int32) (S' : StT), okQ S' ∧ MX l D cI cB cO A yX6_count wsX6_count [.int w] S v S' ∧ MM l D cI cB cO B yX7_count wsX7_count [.int w] S v S' := by
  obtain ⟨n, rg, bl, G, M, hs, tL, tc, fk, fc⟩ := S
  have hok : okS n rg bl G M hs tL tc fk fc := ok
  obtain ⟨hokP, hokH, hL, hcc, hfk⟩ := id hok
  have hn2 : 2 ≤ n := hokP.1
  have hn : n ≤ 20 := hokP.2.1
  have hrg : ∃ q, 1 ≤ q ∧ q ≤ 19 ∧ rg = nI q := hokP.2.2.1
  have hbl : ∃ q, q ≤ 9 ∧ bl = nI q := hokP.2.2.2.1
  have hGv : ∀ k, k < n → ∃ q, q ≤ 999 ∧ G k = nI q := hokP.2.2.2.2.1
  have hMv : ∀ k, k < n → ∃ q, q ≤ 200 ∧ M k = nI q := hokP.2.2.2.2.2
  exact ⟨A_count n rg bl G M hs.length tL w, (n, rg, bl, G, M, hs, tL, tc, fk, fc), ok, (mx_rd 6 (by decide) (fun H hI => by
      obtain ⟨fg, fm, dn, dr, db, dg, dm, jx, pn, pr, pb, pg, pm, ta, tf, lt, ff, rs, rr, rt, rl, rp, rc, cv, cb, hP, hjx, hsl, hR, hG, hM, hlt, hff, hcb⟩ := hI
      exact ⟨_, hP.pick [0, 33, 34, 35, 1, 39] rfl, c_X6_count l D cI cB cO (A 0) (A 4) (A 7) (A 39) (A 41) (A 43) (A 48) (A 8) (A 40) hs.length tL (nI jx) ta tf (A 1) (A 2) (A 3) n rg bl fg fm G M w hn hG hM⟩)), (mm_rd 6 (by decide) (fun H hI => by
      obtain ⟨mm, pp, fd, tx, rgd, rmd, wy, cvr, re, at0, fa, hsh, hP, hm, hpp, hsl, htx, hfd⟩ := hI
      exact ⟨_, hP.pick [0, 1] rfl, c_X7_count l D cI cB cO (B 0) (B 1) (B 2) (B 3) (B 4) (B 5) (B 6) (B 7) (B 8) (FZ fk) re at0 fa hsh hs.length tL n mm rg bl G M w hm⟩))⟩
set_option maxHeartbeats 8000000 in
theorem pr_groups (l : Launch) (D : va_G) (cI cB cO : ClassId) (A B : Nat → Nat) (S : StT) (ok : okQ S) : ∃ (v : Int32) (S' : StT), okQ S' ∧ MX l D cI cB cO A yX6_groups wsX6_groups [] S v S' ∧ MM l D cI cB cO B yX7_groups wsX7_groups [] S v S' := by
  obtain ⟨n, rg, bl, G, M, hs, tL, tc, fk, fc⟩ := S
  have hok : okS n rg bl G M hs tL tc fk fc := ok
  obtain ⟨hokP, hokH, hL, hcc, hfk⟩ := id hok
  have hn2 : 2 ≤ n := hokP.1
  have hn : n ≤ 20 := hokP.2.1
  have hrg : ∃ q, 1 ≤ q ∧ q ≤ 19 ∧ rg = nI q := hokP.2.2.1
  have hbl : ∃ q, q ≤ 9 ∧ bl = nI q := hokP.2.2.2.1
  have hGv : ∀ k, k < n → ∃ q, q ≤ 999 ∧ G k = nI q := hokP.2.2.2.2.1
  have hMv : ∀ k, k < n → ∃ q, q ≤ 200 ∧ M k = nI q := hokP.2.2.2.2.2
  exact ⟨1, (n, rg, bl, G, M, hs, tL, tc, fk, fc), ok, ⟨8, by decide, c_X6_groups l D cI cB cO A n rg bl G M hs tL tc fk fc hok⟩, (mm_rd 6 (by decide) (fun H hI => by
      obtain ⟨mm, pp, fd, tx, rgd, rmd, wy, cvr, re, at0, fa, hsh, hP, hm, hpp, hsl, htx, hfd⟩ := hI
      exact ⟨_, hP.pick [0, 1] rfl, c_X7_groups l D cI cB cO (B 0) (B 1) [.ref (B 2), .int (nI hs.length), .ref (B 3), .int (FZ fk), .ref (B 4), .int (nI tL), .ref (B 5), .ref (B 6), .int re, .int at0, .int fa, .ref (B 7), .ref (B 8), .long hsh] n mm rg bl G M hm (row_con (n := n) (T := tp G M) hrg)⟩))⟩
set_option maxHeartbeats 8000000 in
theorem pr_chain (l : Launch) (D : va_G) (cI cB cO : ClassId) (A B : Nat → Nat) (S : StT) (ok : okQ S) (x : Int32) (y : Int32) : ∃ (v : Int32) (S' : StT), okQ S' ∧ MX l D cI cB cO A yX6_chain wsX6_chain [.int x, .int y] S v S' ∧ MM l D cI cB cO B yX7_chain wsX7_chain [.int x, .int y] S v S' := by
  obtain ⟨n, rg, bl, G, M, hs, tL, tc, fk, fc⟩ := S
  have hok : okS n rg bl G M hs tL tc fk fc := ok
  obtain ⟨hokP, hokH, hL, hcc, hfk⟩ := id hok
  have hn2 : 2 ≤ n := hokP.1
  have hn : n ≤ 20 := hokP.2.1
  have hrg : ∃ q, 1 ≤ q ∧ q ≤ 19 ∧ rg = nI q := hokP.2.2.1
  have hbl : ∃ q, q ≤ 9 ∧ bl = nI q := hokP.2.2.2.1
  have hGv : ∀ k, k < n → ∃ q, q ≤ 999 ∧ G k = nI q := hokP.2.2.2.2.1
  have hMv : ∀ k, k < n → ∃ q, q ≤ 200 ∧ M k = nI q := hokP.2.2.2.2.2
  refine bool_3 (hasB n x && hasB n y) (fun h => ?_) (fun h => ?_)
  · rw [Bool.and_eq_true] at h
    obtain ⟨a, ha, rfl⟩ := hasB_T h.1 hn
    obtain ⟨b, hb0, rfl⟩ := hasB_T h.2 hn
    by_cases hd : dC n rg bl G M b a = 0
    · exact ⟨-1, (n, rg, bl, G, M, hs, tL, tc, fk, fc), ok, ⟨8, by decide, c_X6_chain_none l D cI cB cO A n rg bl G M hs tL tc fk fc a b hok ha hb0 hd⟩, ⟨8, by decide, c_X7_chain_none l D cI cB cO B n rg bl G M hs tL tc fk fc a b hok ha hb0 hd⟩⟩
    · have hle : dC n rg bl G M b a ≤ n := dst1_le a
      exact ⟨nI (dC n rg bl G M b a), (n, rg, bl, G, M, hs, tL, tc, (dC n rg bl G M b a + 1), pC n rg bl G M a b), ⟨hokP, hokH, hL, hcc, by show dC n rg bl G M b a + 1 ≤ 21; omega⟩, ⟨8, by decide, c_X6_chain_ok l D cI cB cO A n rg bl G M hs tL tc fk fc a b hok ha hb0 hd⟩, ⟨8, by decide, c_X7_chain_ok l D cI cB cO B n rg bl G M hs tL tc fk fc a b hok ha hb0 hd⟩⟩
  · exact ⟨-2, (n, rg, bl, G, M, hs, tL, tc, fk, fc), ok, ⟨8, by decide, c_X6_chain_no l D cI cB cO A n rg bl G M hs tL tc fk fc x y hok h⟩, ⟨8, by decide, c_X7_chain_no l D cI cB cO B n rg bl G M hs tL tc fk fc x y hok h⟩⟩
set_option maxHeartbeats 8000000 in
theorem pr_newMasts (l : Launch) (D : va_G) (cI cB cO : ClassId) (A B : Nat → Nat) (S : StT) (ok : okQ S) (x : Int32) (y : Int32) (w : Int32) : ∃ (v : Int32) (S' : StT), okQ S' ∧ MX l D cI cB cO A yX6_newMasts wsX6_newMasts [.int x, .int y, .int w] S v S' ∧ MM l D cI cB cO B yX7_newMasts wsX7_newMasts [.int x, .int y, .int w] S v S' := by
  obtain ⟨n, rg, bl, G, M, hs, tL, tc, fk, fc⟩ := S
  have hok : okS n rg bl G M hs tL tc fk fc := ok
  obtain ⟨hokP, hokH, hL, hcc, hfk⟩ := id hok
  have hn2 : 2 ≤ n := hokP.1
  have hn : n ≤ 20 := hokP.2.1
  have hrg : ∃ q, 1 ≤ q ∧ q ≤ 19 ∧ rg = nI q := hokP.2.2.1
  have hbl : ∃ q, q ≤ 9 ∧ bl = nI q := hokP.2.2.2.1
  have hGv : ∀ k, k < n → ∃ q, q ≤ 999 ∧ G k = nI q := hokP.2.2.2.2.1
  have hMv : ∀ k, k < n → ∃ q, q ≤ 200 ∧ M k = nI q := hokP.2.2.2.2.2
  refine bool_3 (hasB n x && (hasB n y && inB w 1 200)) (fun h => ?_) (fun h => ?_)
  · rw [Bool.and_eq_true, Bool.and_eq_true] at h
    obtain ⟨a, ha, rfl⟩ := hasB_T h.1 hn
    obtain ⟨b, hb0, rfl⟩ := hasB_T h.2.1 hn
    by_cases hd : dM n rg bl G M w b a = 0
    · exact ⟨-1, (n, rg, bl, G, M, hs, tL, tc, fk, fc), ok, ⟨8, by decide, c_X6_newMasts_none l D cI cB cO A n rg bl G M hs tL tc fk fc a b w hok ha hb0 h.2.2 hd⟩, ⟨8, by decide, c_X7_newMasts_none l D cI cB cO B n rg bl G M hs tL tc fk fc a b w hok ha hb0 h.2.2 hd⟩⟩
    · have hle : dM n rg bl G M w b a % 32 ≤ n := (ln_rng (ln := fun c => c % 32) (wpos 32) (ln_W (W := 32) (by omega)) hd).2
      exact ⟨nI (dM n rg bl G M w b a / 32), (n, rg, bl, G, M, hs, tL, tc, (dM n rg bl G M w b a % 32 + 1), pM n rg bl G M w a b), ⟨hokP, hokH, hL, hcc, by show dM n rg bl G M w b a % 32 + 1 ≤ 21; omega⟩, ⟨8, by decide, c_X6_newMasts_ok l D cI cB cO A n rg bl G M hs tL tc fk fc a b w hok ha hb0 h.2.2 hd⟩, ⟨8, by decide, c_X7_newMasts_ok l D cI cB cO B n rg bl G M hs tL tc fk fc a b w hok ha hb0 h.2.2 hd⟩⟩
  · exact ⟨-2, (n, rg, bl, G, M, hs, tL, tc, fk, fc), ok, ⟨8, by decide, c_X6_newMasts_no l D cI cB cO A n rg bl G M hs tL tc fk fc x y w hok h⟩, ⟨8, by decide, c_X7_newMasts_no l D cI cB cO B n rg bl G M hs tL tc fk fc x y w hok h⟩⟩
set_option maxHeartbeats 8000000 in
theorem pr_vital (l : Launch) (D : va_G) (cI cB cO : ClassId) (A B : Nat → Nat) (S : StT) (ok : okQ S) (x : Int32) (y : Int32) : ∃ (v : Int32) (S' : StT), okQ S' ∧ MX l D cI cB cO A yX6_vital wsX6_vital [.int x, .int y] S v S' ∧ MM l D cI cB cO B yX7_vital wsX7_vital [.int x, .int y] S v S' := by
  obtain ⟨n, rg, bl, G, M, hs, tL, tc, fk, fc⟩ := S
  have hok : okS n rg bl G M hs tL tc fk fc := ok
  obtain ⟨hokP, hokH, hL, hcc, hfk⟩ := id hok
  have hn2 : 2 ≤ n := hokP.1
  have hn : n ≤ 20 := hokP.2.1
  have hrg : ∃ q, 1 ≤ q ∧ q ≤ 19 ∧ rg = nI q := hokP.2.2.1
  have hbl : ∃ q, q ≤ 9 ∧ bl = nI q := hokP.2.2.2.1
  have hGv : ∀ k, k < n → ∃ q, q ≤ 999 ∧ G k = nI q := hokP.2.2.2.2.1
  have hMv : ∀ k, k < n → ∃ q, q ≤ 200 ∧ M k = nI q := hokP.2.2.2.2.2
  refine bool_3 (hasB n x && hasB n y) (fun h => ?_) (fun h => ?_)
  · rw [Bool.and_eq_true] at h
    obtain ⟨a, ha, rfl⟩ := hasB_T h.1 hn
    obtain ⟨b, hb0, rfl⟩ := hasB_T h.2 hn
    refine bool_3 (joB (lkB G rg bl (hT G M 0)) (reB M 0) n a b) (fun hd => ?_) (fun hd => ?_)
    · have h21 := ct_21 (fun z => (vS n rg bl G M a b).testBit z)
      have c6 := c_X6_vital_ok l D cI cB cO A n rg bl G M hs tL tc fk fc a b hok ha hb0 hd
      have c7 := c_X7_vital_ok l D cI cB cO B n rg bl G M hs tL tc fk fc a b hok ha hb0 hd
      generalize fb_ct (fun z => (vS n rg bl G M a b).testBit z) 20 + 1 = fk1 at h21 c6 c7
      generalize nthB (fun z => (vS n rg bl G M a b).testBit z) 20 = fc1 at c6 c7
      exact ⟨nI (vS n rg bl G M a b), (n, rg, bl, G, M, hs, tL, tc, fk1, fc1), ⟨hokP, hokH, hL, hcc, h21⟩, ⟨8, by decide, c6⟩, ⟨8, by decide, c7⟩⟩
    · exact ⟨-3, (n, rg, bl, G, M, hs, tL, tc, fk, fc), ok, ⟨8, by decide, c_X6_vital_none l D cI cB cO A n rg bl G M hs tL tc fk fc a b hok ha hb0 hd⟩, ⟨8, by decide, c_X7_vital_none l D cI cB cO B n rg bl G M hs tL tc fk fc a b hok ha hb0 hd⟩⟩
  · exact ⟨-2, (n, rg, bl, G, M, hs, tL, tc, fk, fc), ok, ⟨8, by decide, c_X6_vital_no l D cI cB cO A n rg bl G M hs tL tc fk fc x y hok h⟩, ⟨8, by decide, c_X7_vital_no l D cI cB cO B n rg bl G M hs tL tc fk fc x y hok h⟩⟩
set_option maxHeartbeats 8000000 in
theorem pr_watch (l : Launch) (D : va_G) (cI cB cO : ClassId) (A B : Nat → Nat) (S : StT) (ok : okQ S) (x : Int32) : ∃ (v : Int32) (S' : StT), okQ S' ∧ MX l D cI cB cO A yX6_watch wsX6_watch [.int x] S v S' ∧ MM l D cI cB cO B yX7_watch wsX7_watch [.int x] S v S' := by
  obtain ⟨n, rg, bl, G, M, hs, tL, tc, fk, fc⟩ := S
  have hok : okS n rg bl G M hs tL tc fk fc := ok
  obtain ⟨hokP, hokH, hL, hcc, hfk⟩ := id hok
  have hn2 : 2 ≤ n := hokP.1
  have hn : n ≤ 20 := hokP.2.1
  have hrg : ∃ q, 1 ≤ q ∧ q ≤ 19 ∧ rg = nI q := hokP.2.2.1
  have hbl : ∃ q, q ≤ 9 ∧ bl = nI q := hokP.2.2.2.1
  have hGv : ∀ k, k < n → ∃ q, q ≤ 999 ∧ G k = nI q := hokP.2.2.2.2.1
  have hMv : ∀ k, k < n → ∃ q, q ≤ 200 ∧ M k = nI q := hokP.2.2.2.2.2
  refine bool_3 (inB x 1 200) (fun h => ?_) (fun h => ?_)
  · have h21 := ct_21 (fun z => (wat n (gV n bl G x)).testBit z)
    have c6 := c_X6_watch_ok l D cI cB cO A n rg bl G M hs tL tc fk fc x hok h
    have c7 := c_X7_watch_ok l D cI cB cO B n rg bl G M hs tL tc fk fc x hok h
    generalize fb_ct (fun z => (wat n (gV n bl G x)).testBit z) 20 + 1 = fk1 at h21 c6 c7
    generalize nthB (fun z => (wat n (gV n bl G x)).testBit z) 20 = fc1 at c6 c7
    exact ⟨nI (wat n (gV n bl G x)), (n, rg, bl, G, M, hs, tL, tc, fk1, fc1), ⟨hokP, hokH, hL, hcc, h21⟩, ⟨24, by decide, c6⟩, ⟨8, by decide, c7⟩⟩
  · exact ⟨-2, (n, rg, bl, G, M, hs, tL, tc, fk, fc), ok, ⟨8, by decide, c_X6_watch_no l D cI cB cO A n rg bl G M hs tL tc fk fc x hok h⟩, ⟨8, by decide, c_X7_watch_no l D cI cB cO B n rg bl G M hs tL tc fk fc x hok h⟩⟩
def MXl (l : Launch) (D : va_G) (cI cB cO : ClassId) (A : Nat → Nat) (y : MethodName) (ws : List Cond) (As : List Value) (S : StT) (v : Int64) (S' : StT) : Prop := ∃ d, d ≤ 30 ∧ Met l y ws (rmD d) (va_Pc (.ref (A 0) :: As) (fun U => SRq D cI cB cO A U.heap S ∧ va_K D vwCl (tyL cI cB cO) U ∧ NW U ∧ va_D (fun _ => True) (adW A))) (va_Ql (fun (z : Int64) (_ : Unit) => z = v) (fun _ t => SRq D cI cB cO A t.heap S') (inW (adW A))) 0 0 (inW (adW A))
def MMl (l : Launch) (D : va_G) (cI cB cO : ClassId) (A : Nat → Nat) (y : MethodName) (ws : List Cond) (As : List Value) (S : StT) (v : Int64) (S' : StT) : Prop := ∃ d, d ≤ 30 ∧ Met l y ws (rmD d) (va_Pc (.ref (A 0) :: As) (fun U => MRq D cI cB cO A U.heap S ∧ va_K D vwCl (tyL cI cB cO) U ∧ NW U ∧ va_D (fun _ => True) (bdW A))) (va_Ql (fun (z : Int64) (_ : Unit) => z = v) (fun _ t => MRq D cI cB cO A t.heap S') (inW (bdW A))) 0 0 (inW (bdW A))
set_option maxHeartbeats 8000000 in
theorem pr_digest (l : Launch) (D : va_G) (cI cB cO : ClassId) (A B : Nat → Nat) (S : StT) (ok : okQ S) : ∃ (v : Int64) (S' : StT), okQ S' ∧ MXl l D cI cB cO A yX6_digest wsX6_digest [] S v S' ∧ MMl l D cI cB cO B yX7_digest wsX7_digest [] S v S' := by
  obtain ⟨n, rg, bl, G, M, hs, tL, tc, fk, fc⟩ := S
  have hok : okS n rg bl G M hs tL tc fk fc := ok
  obtain ⟨hokP, hokH, hL, hcc, hfk⟩ := id hok
  have hn2 : 2 ≤ n := hokP.1
  have hn : n ≤ 20 := hokP.2.1
  have hrg : ∃ q, 1 ≤ q ∧ q ≤ 19 ∧ rg = nI q := hokP.2.2.1
  have hbl : ∃ q, q ≤ 9 ∧ bl = nI q := hokP.2.2.2.1
  have hGv : ∀ k, k < n → ∃ q, q ≤ 999 ∧ G k = nI q := hokP.2.2.2.2.1
  have hMv : ∀ k, k < n → ∃ q, q ≤ 200 ∧ M k = nI q := hokP.2.2.2.2.2
  exact ⟨A_digest n rg bl G M hs.length tL tc fk fc, (n, rg, bl, G, M, hs, tL, tc, fk, fc), ok, ⟨10, by decide, c_X6_digest l D cI cB cO A n rg bl G M hs tL tc fk fc hok⟩, ⟨10, by decide, c_X7_digest l D cI cB cO B n rg bl G M hs tL tc fk fc hok⟩⟩
