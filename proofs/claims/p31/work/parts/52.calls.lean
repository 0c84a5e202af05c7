/-! the calls of the class in one form: from one state to the next; the object's cells as one list X -/
theorem td_pos {y d D : Int} (hy : 0 ≤ y) (hd : 0 ≤ d) (hD : 0 < D) (h : d ≤ D) : 0 ≤ (y * d).tdiv D ∧ (y * d).tdiv D ≤ y := by
  have h0 : 0 ≤ y * d := Int.mul_nonneg hy hd
  refine ⟨Int.tdiv_nonneg h0 (by omega), ?_⟩
  rw [Int.tdiv_eq_ediv_of_nonneg h0]
  exact Int.ediv_le_of_le_mul hD (Int.mul_le_mul_of_nonneg_left h hy)
theorem td_neg {x d D : Int} (hy : x ≤ 0) (hd : 0 ≤ d) (hD : 0 < D) (h : d ≤ D) : x ≤ (x * d).tdiv D ∧ (x * d).tdiv D ≤ 0 := by
  obtain ⟨h1, h2⟩ := td_pos (y := -x) (by omega) hd hD h
  rw [Int.neg_mul, Int.neg_tdiv] at h1 h2
  omega
theorem slp_rng {G : Nat → Int32} {a b k n : Nat} (hn : n ≤ 20) (hG : ∀ k, k < n → ∃ q, q ≤ 999 ∧ G k = nI q) (ha : a < k) (hk : k < b) (hb : b < n) : ∃ q, q ≤ 999 ∧ slp G a b k = nI q := by
  obtain ⟨p, hp, ep⟩ := hG a (by omega)
  obtain ⟨q, hq, eq⟩ := hG b hb
  have e1 : (nI (k - a)).toInt = ((k - a : Nat) : Int) := nI_toInt (by omega)
  have e2 : (nI (b - a)).toInt = ((b - a : Nat) : Int) := nI_toInt (by omega)
  have e3 : (nI q - nI p).toInt = (q : Int) - p := pk_sub_toInt (by omega) (by omega)
  have e4 : (nI p).toInt = (p : Int) := nI_toInt (by omega)
  have hm1 : ((q : Int) - p) * ((k - a : Nat) : Int) ≤ 999 * 20 ∧ -(999 * 20) ≤ ((q : Int) - p) * ((k - a : Nat) : Int) := by
    have h1 : ((k - a : Nat) : Int) ≤ 20 := by omega
    have h0 : (0 : Int) ≤ ((k - a : Nat) : Int) := by omega
    generalize ((k - a : Nat) : Int) = d at h1 h0
    have h2 : ((q : Int) - p) ≤ 999 := by omega
    have h3 : -999 ≤ ((q : Int) - p) := by omega
    generalize ((q : Int) - p) = x at h2 h3
    constructor
    · have := Int.mul_le_mul_of_nonneg_right h2 h0
      have := Int.mul_le_mul_of_nonneg_left h1 (by decide : (0 : Int) ≤ 999)
      omega
    · have := Int.mul_le_mul_of_nonneg_right h3 h0
      have := Int.mul_le_mul_of_nonneg_left h1 (by decide : (0 : Int) ≤ 999)
      omega
  have hz : ∃ z : Int, (((q : Int) - p) * ((k - a : Nat) : Int)).tdiv ((b - a : Nat) : Int) = z ∧ 0 ≤ p + z ∧ p + z ≤ 999 ∧ -999 ≤ z ∧ z ≤ 999 := by
    refine ⟨_, rfl, ?_⟩
    rcases Int.le_total 0 ((q : Int) - p) with h | h
    · obtain ⟨h1, h2⟩ := td_pos (d := ((k - a : Nat) : Int)) (D := ((b - a : Nat) : Int)) h (by omega) (by omega) (by omega)
      omega
    · obtain ⟨h1, h2⟩ := td_neg (d := ((k - a : Nat) : Int)) (D := ((b - a : Nat) : Int)) h (by omega) (by omega) (by omega)
      omega
  obtain ⟨z, ez, z1, z2, z3, z4⟩ := hz
  have hv : (slp G a b k).toInt = p + z := by
    unfold slp
    rw [ep, eq, Int32.toInt_add, Int32.toInt_div, Int32.toInt_mul, e1, e2, e3, e4]
    rw [Int.bmod_eq_of_le (n := ((q : Int) - p) * ((k - a : Nat) : Int)) (by omega) (by omega), ez, Int.bmod_eq_of_le (n := z) (by omega) (by omega)]
    exact Int.bmod_eq_of_le (by omega) (by omega)
  refine ⟨(p + z).toNat, by omega, Int32.toInt_inj.mp ?_⟩
  rw [hv, nI_toInt (by omega)]
  omega
theorem slG_rng {G : Nat → Int32} {a b n : Nat} (hn : n ≤ 20) (hG : ∀ k, k < n → ∃ q, q ≤ 999 ∧ G k = nI q) (hb : b < n) : ∀ k, k < n → ∃ q, q ≤ 999 ∧ slG G a b k = nI q := by
  intro k hk
  unfold slG
  by_cases h : a < k ∧ k < b
  · rw [if_pos h]; exact slp_rng hn hG h.1 h.2 hb
  · rw [if_neg h]; exact hG k hk
theorem met_of {l : Launch} {y : MethodName} {ws : List Cond} {rm : Room} {Pc' : Array Value → State → Prop} {Qc' : Array Value → State → Outcome → State → Prop} {mc ms : Nat} {free' : Addr → Prop}
    (h : ∀ a s, Pc' a s → ∃ (Pc : Array Value → State → Prop) (Qc : Array Value → State → Outcome → State → Prop) (free : Addr → Prop), Met l y ws rm Pc Qc mc ms free ∧ Pc a s ∧ (∀ o t, Qc a s o t → Qc' a s o t) ∧ ∀ q, free q → free' q) : Met l y ws rm Pc' Qc' mc ms free' := by
  intro p e h1 h2 h3 s m args below hf hS hP hK
  obtain ⟨Pc, Qc, free, hM, hp, hq, hfr⟩ := h args s hP
  obtain ⟨n, o, k1, k2, k3, k4, L, kL, k5⟩ := hM p e h1 h2 h3 s m args below hf hS hp hK
  exact ⟨n, o, k1, k2, k3, hq _ _ k4, L, kL, fun q hq => hfr _ (k5 q hq)⟩
/-- the state that an object stands for -/
abbrev StT : Type := Nat × Int32 × Int32 × (Nat → Int32) × (Nat → Int32) × List Prf × Nat × (Nat → Nat) × Nat × (Nat → Nat)
def okQ (S : StT) : Prop := okS S.1 S.2.1 S.2.2.1 S.2.2.2.1 S.2.2.2.2.1 S.2.2.2.2.2.1 S.2.2.2.2.2.2.1 S.2.2.2.2.2.2.2.1 S.2.2.2.2.2.2.2.2.1 S.2.2.2.2.2.2.2.2.2
def SRq (D : va_G) (cI cB cO : ClassId) (A : Nat → Nat) (H : Heap) (S : StT) : Prop := SRI D cI cB cO A H S.1 S.2.1 S.2.2.1 S.2.2.2.1 S.2.2.2.2.1 S.2.2.2.2.2.1 S.2.2.2.2.2.2.1 S.2.2.2.2.2.2.2.1 S.2.2.2.2.2.2.2.2.1 S.2.2.2.2.2.2.2.2.2
theorem fst_in {ws ws0 : va_W} (h : ws.map Prod.fst = ws0.map Prod.fst) : ∀ (k : Nat) (q : Nat × va_E), ws[k]? = some q → inW ws0 q.1 := by
  intro k q hq
  have e1 : (ws.map Prod.fst)[k]? = (ws0.map Prod.fst)[k]? := by rw [h]
  rw [List.getElem?_map, List.getElem?_map, hq] at e1
  cases h2 : ws0[k]? with
  | none => rw [h2] at e1; cases e1
  | some z =>
    rw [h2] at e1
    have e3 : q.1 = z.1 := Option.some.inj e1
    exact ⟨k, z.2, by rw [h2, e3]⟩
theorem SRq.lt {D : va_G} {cI cB cO : ClassId} {A : Nat → Nat} {H : Heap} {S : StT} (h : SRq D cI cB cO A H S) : ∀ q, inW (adW A) q → q < H.size := by
  obtain ⟨fg, fm, dn, dr, db, dg, dm, jx, pn, pr, pb, pg, pm, ta, tf, lt, ff, rs, rr, rt, rl, rp, rc, cv, cb, hP, hf⟩ := h
  intro q ⟨k, e, hk⟩
  obtain ⟨j, e2, hj⟩ := fst_in (ws := adW A) (ws0 := [(A 0, .inr (6, [.ref (A 1), .ref (A 4), .ref (A 7), .ref (A 39), .ref (A 41), .ref (A 43), .ref (A 48)])), (A 7, .inr (2, [.ref (A 8), .int (nI S.2.2.2.2.2.1.length), .int (nI jx)])), (A 8, .inl (cO, 10, .inr (.inr (.inr (.inr (fun k => some (A (9 + 3 * k)))))))), (A 9, .inr (3, [.ref (A 10), .ref (A 11), .int (pn 0), .int (pr 0), .int (pb 0)])), (A 10, .inl (cI, 20, .inl (pg 0))), (A 11, .inl (cI, 20, .inl (pm 0))), (A 12, .inr (3, [.ref (A 13), .ref (A 14), .int (pn 1), .int (pr 1), .int (pb 1)])), (A 13, .inl (cI, 20, .inl (pg 1))), (A 14, .inl (cI, 20, .inl (pm 1))), (A 15, .inr (3, [.ref (A 16), .ref (A 17), .int (pn 2), .int (pr 2), .int (pb 2)])), (A 16, .inl (cI, 20, .inl (pg 2))), (A 17, .inl (cI, 20, .inl (pm 2))), (A 18, .inr (3, [.ref (A 19), .ref (A 20), .int (pn 3), .int (pr 3), .int (pb 3)])), (A 19, .inl (cI, 20, .inl (pg 3))), (A 20, .inl (cI, 20, .inl (pm 3))), (A 21, .inr (3, [.ref (A 22), .ref (A 23), .int (pn 4), .int (pr 4), .int (pb 4)])), (A 22, .inl (cI, 20, .inl (pg 4))), (A 23, .inl (cI, 20, .inl (pm 4))), (A 24, .inr (3, [.ref (A 25), .ref (A 26), .int (pn 5), .int (pr 5), .int (pb 5)])), (A 25, .inl (cI, 20, .inl (pg 5))), (A 26, .inl (cI, 20, .inl (pm 5))), (A 27, .inr (3, [.ref (A 28), .ref (A 29), .int (pn 6), .int (pr 6), .int (pb 6)])), (A 28, .inl (cI, 20, .inl (pg 6))), (A 29, .inl (cI, 20, .inl (pm 6))), (A 30, .inr (3, [.ref (A 31), .ref (A 32), .int (pn 7), .int (pr 7), .int (pb 7)])), (A 31, .inl (cI, 20, .inl (pg 7))), (A 32, .inl (cI, 20, .inl (pm 7))), (A 33, .inr (3, [.ref (A 34), .ref (A 35), .int (pn 8), .int (pr 8), .int (pb 8)])), (A 34, .inl (cI, 20, .inl (pg 8))), (A 35, .inl (cI, 20, .inl (pm 8))), (A 36, .inr (3, [.ref (A 37), .ref (A 38), .int (pn 9), .int (pr 9), .int (pb 9)])), (A 37, .inl (cI, 20, .inl (pg 9))), (A 38, .inl (cI, 20, .inl (pm 9))), (A 1, .inr (3, [.ref (A 2), .ref (A 3), .int (nI S.1), .int S.2.1, .int S.2.2.1])), (A 2, .inl (cI, 20, .inl fg)), (A 3, .inl (cI, 20, .inl fm)), (A 4, .inr (3, [.ref (A 5), .ref (A 6), .int dn, .int dr, .int db])), (A 5, .inl (cI, 20, .inl dg)), (A 6, .inl (cI, 20, .inl dm)), (A 39, .inr (5, [.ref (A 40), .int (nI S.2.2.2.2.2.2.1), .int ta, .int tf])), (A 40, .inl (cB, 120, .inl lt)), (A 41, .inr (1, [.ref (A 42), .int (FZ S.2.2.2.2.2.2.2.2.1)])), (A 42, .inl (cI, 20, .inl ff)), (A 43, .inr (4, [.ref (A 44), .ref (A 45), .ref (A 46), .ref (A 47), .int rs, .int rr])), (A 44, .inl (cI, 20, .inl rt)), (A 45, .inl (cI, 20, .inl rl)), (A 46, .inl (cI, 20, .inl rp)), (A 47, .inl (cI, 20, .inl rc)), (A 48, .inr (0, [.ref (A 49), .ref (A 50)])), (A 49, .inl (cI, 20, .inl cv)), (A 50, .inl (cI, 21, .inl cb))]) rfl k (q, e) hk
  exact (hP j _ hj).lt
theorem SRq.kept {D : va_G} {cI cB cO : ClassId} {A : Nat → Nat} {H H1 : Heap} {S : StT} (h : SRq D cI cB cO A H S) (hk : ∀ q, inW (adW A) q → q < H.size → H1[q]? = H[q]?) : SRq D cI cB cO A H1 S := by
  obtain ⟨fg, fm, dn, dr, db, dg, dm, jx, pn, pr, pb, pg, pm, ta, tf, lt, ff, rs, rr, rt, rl, rp, rc, cv, cb, hP, hf⟩ := h
  exact ⟨fg, fm, dn, dr, db, dg, dm, jx, pn, pr, pb, pg, pm, ta, tf, lt, ff, rs, rr, rt, rl, rp, rc, cv, cb, hP.kept (fun k q hq => hk q.1 (fst_in (ws := [(A 0, .inr (6, [.ref (A 1), .ref (A 4), .ref (A 7), .ref (A 39), .ref (A 41), .ref (A 43), .ref (A 48)])), (A 7, .inr (2, [.ref (A 8), .int (nI S.2.2.2.2.2.1.length), .int (nI jx)])), (A 8, .inl (cO, 10, .inr (.inr (.inr (.inr (fun k => some (A (9 + 3 * k)))))))), (A 9, .inr (3, [.ref (A 10), .ref (A 11), .int (pn 0), .int (pr 0), .int (pb 0)])), (A 10, .inl (cI, 20, .inl (pg 0))), (A 11, .inl (cI, 20, .inl (pm 0))), (A 12, .inr (3, [.ref (A 13), .ref (A 14), .int (pn 1), .int (pr 1), .int (pb 1)])), (A 13, .inl (cI, 20, .inl (pg 1))), (A 14, .inl (cI, 20, .inl (pm 1))), (A 15, .inr (3, [.ref (A 16), .ref (A 17), .int (pn 2), .int (pr 2), .int (pb 2)])), (A 16, .inl (cI, 20, .inl (pg 2))), (A 17, .inl (cI, 20, .inl (pm 2))), (A 18, .inr (3, [.ref (A 19), .ref (A 20), .int (pn 3), .int (pr 3), .int (pb 3)])), (A 19, .inl (cI, 20, .inl (pg 3))), (A 20, .inl (cI, 20, .inl (pm 3))), (A 21, .inr (3, [.ref (A 22), .ref (A 23), .int (pn 4), .int (pr 4), .int (pb 4)])), (A 22, .inl (cI, 20, .inl (pg 4))), (A 23, .inl (cI, 20, .inl (pm 4))), (A 24, .inr (3, [.ref (A 25), .ref (A 26), .int (pn 5), .int (pr 5), .int (pb 5)])), (A 25, .inl (cI, 20, .inl (pg 5))), (A 26, .inl (cI, 20, .inl (pm 5))), (A 27, .inr (3, [.ref (A 28), .ref (A 29), .int (pn 6), .int (pr 6), .int (pb 6)])), (A 28, .inl (cI, 20, .inl (pg 6))), (A 29, .inl (cI, 20, .inl (pm 6))), (A 30, .inr (3, [.ref (A 31), .ref (A 32), .int (pn 7), .int (pr 7), .int (pb 7)])), (A 31, .inl (cI, 20, .inl (pg 7))), (A 32, .inl (cI, 20, .inl (pm 7))), (A 33, .inr (3, [.ref (A 34), .ref (A 35), .int (pn 8), .int (pr 8), .int (pb 8)])), (A 34, .inl (cI, 20, .inl (pg 8))), (A 35, .inl (cI, 20, .inl (pm 8))), (A 36, .inr (3, [.ref (A 37), .ref (A 38), .int (pn 9), .int (pr 9), .int (pb 9)])), (A 37, .inl (cI, 20, .inl (pg 9))), (A 38, .inl (cI, 20, .inl (pm 9))), (A 1, .inr (3, [.ref (A 2), .ref (A 3), .int (nI S.1), .int S.2.1, .int S.2.2.1])), (A 2, .inl (cI, 20, .inl fg)), (A 3, .inl (cI, 20, .inl fm)), (A 4, .inr (3, [.ref (A 5), .ref (A 6), .int dn, .int dr, .int db])), (A 5, .inl (cI, 20, .inl dg)), (A 6, .inl (cI, 20, .inl dm)), (A 39, .inr (5, [.ref (A 40), .int (nI S.2.2.2.2.2.2.1), .int ta, .int tf])), (A 40, .inl (cB, 120, .inl lt)), (A 41, .inr (1, [.ref (A 42), .int (FZ S.2.2.2.2.2.2.2.2.1)])), (A 42, .inl (cI, 20, .inl ff)), (A 43, .inr (4, [.ref (A 44), .ref (A 45), .ref (A 46), .ref (A 47), .int rs, .int rr])), (A 44, .inl (cI, 20, .inl rt)), (A 45, .inl (cI, 20, .inl rl)), (A 46, .inl (cI, 20, .inl rp)), (A 47, .inl (cI, 20, .inl rc)), (A 48, .inr (0, [.ref (A 49), .ref (A 50)])), (A 49, .inl (cI, 20, .inl cv)), (A 50, .inl (cI, 21, .inl cb))]) (ws0 := adW A) rfl k q hq) (hP k q hq).lt), hf⟩
theorem okH_keep {hs : List Prf} {P : Prf} (h : ∀ Q, Q ∈ hs → okP Q) (hP : okP P) : ∀ Q, Q ∈ ((P :: hs).take 10) → okP Q := by
  intro Q hQ
  rcases List.mem_cons.mp (List.mem_of_mem_take hQ) with e | e
  · rw [e]; exact hP
  · exact h Q e
theorem upd_rng {n c a : Nat} {y : Int32} {G : Nat → Int32} (hG : ∀ k, k < n → ∃ q, q ≤ c ∧ G k = nI q) (hy : ∃ q, q ≤ c ∧ y = nI q) : ∀ k, k < n → ∃ q, q ≤ c ∧ upd G a y k = nI q := by
  intro k hk
  by_cases q : k = a
  · rw [q, pk_us]; exact hy
  · rw [pk_un q]; exact hG k hk
theorem bool_3 {P : Prop} (b : Bool) (h1 : b = true → P) (h2 : b = false → P) : P := by cases b with | true => exact h1 rfl | false => exact h2 rfl
theorem ct_21 (P : Nat → Bool) : fb_ct P 20 + 1 ≤ 21 := by have := fb_ct_le P 20; omega
def SRx (D : va_G) (cI cB cO : ClassId) (A : Nat → Nat) (H : Heap) (n : Nat) (rg bl : Int32) (G M : Nat → Int32) : Prop := ∃ (hs : List Prf) (tL : Nat) (tc : Nat → Nat) (fk : Nat) (fc : Nat → Nat), okS n rg bl G M hs tL tc fk fc ∧ SRI D cI cB cO A H n rg bl G M hs tL tc fk fc
/-- the object's 51 cells, whatever heap -/
def SRX (cI cB cO : ClassId) (A : Nat → Nat) (X : va_W) (n : Nat) (rg bl : Int32) (G M : Nat → Int32) : Prop := ∃ (hs : List Prf) (tL : Nat) (tc : Nat → Nat) (fk : Nat) (fc : Nat → Nat) (fg : Nat → Int32) (fm : Nat → Int32) (dn : Int32) (dr : Int32) (db : Int32) (dg : Nat → Int32) (dm : Nat → Int32) (jx : Nat) (pn : Nat → Int32) (pr : Nat → Int32) (pb : Nat → Int32) (pg : Nat → Nat → Int32) (pm : Nat → Nat → Int32) (ta : Int32) (tf : Int32) (lt : Nat → Int32) (ff : Nat → Int32) (rs : Int32) (rr : Int32) (rt : Nat → Int32) (rl : Nat → Int32) (rp : Nat → Int32) (rc : Nat → Int32) (cv : Nat → Int32) (cb : Nat → Int32), okS n rg bl G M hs tL tc fk fc ∧ X = [(A 0, .inr (6, [.ref (A 1), .ref (A 4), .ref (A 7), .ref (A 39), .ref (A 41), .ref (A 43), .ref (A 48)])), (A 7, .inr (2, [.ref (A 8), .int (nI hs.length), .int (nI jx)])), (A 8, .inl (cO, 10, .inr (.inr (.inr (.inr (fun k => some (A (9 + 3 * k)))))))), (A 9, .inr (3, [.ref (A 10), .ref (A 11), .int (pn 0), .int (pr 0), .int (pb 0)])), (A 10, .inl (cI, 20, .inl (pg 0))), (A 11, .inl (cI, 20, .inl (pm 0))), (A 12, .inr (3, [.ref (A 13), .ref (A 14), .int (pn 1), .int (pr 1), .int (pb 1)])), (A 13, .inl (cI, 20, .inl (pg 1))), (A 14, .inl (cI, 20, .inl (pm 1))), (A 15, .inr (3, [.ref (A 16), .ref (A 17), .int (pn 2), .int (pr 2), .int (pb 2)])), (A 16, .inl (cI, 20, .inl (pg 2))), (A 17, .inl (cI, 20, .inl (pm 2))), (A 18, .inr (3, [.ref (A 19), .ref (A 20), .int (pn 3), .int (pr 3), .int (pb 3)])), (A 19, .inl (cI, 20, .inl (pg 3))), (A 20, .inl (cI, 20, .inl (pm 3))), (A 21, .inr (3, [.ref (A 22), .ref (A 23), .int (pn 4), .int (pr 4), .int (pb 4)])), (A 22, .inl (cI, 20, .inl (pg 4))), (A 23, .inl (cI, 20, .inl (pm 4))), (A 24, .inr (3, [.ref (A 25), .ref (A 26), .int (pn 5), .int (pr 5), .int (pb 5)])), (A 25, .inl (cI, 20, .inl (pg 5))), (A 26, .inl (cI, 20, .inl (pm 5))), (A 27, .inr (3, [.ref (A 28), .ref (A 29), .int (pn 6), .int (pr 6), .int (pb 6)])), (A 28, .inl (cI, 20, .inl (pg 6))), (A 29, .inl (cI, 20, .inl (pm 6))), (A 30, .inr (3, [.ref (A 31), .ref (A 32), .int (pn 7), .int (pr 7), .int (pb 7)])), (A 31, .inl (cI, 20, .inl (pg 7))), (A 32, .inl (cI, 20, .inl (pm 7))), (A 33, .inr (3, [.ref (A 34), .ref (A 35), .int (pn 8), .int (pr 8), .int (pb 8)])), (A 34, .inl (cI, 20, .inl (pg 8))), (A 35, .inl (cI, 20, .inl (pm 8))), (A 36, .inr (3, [.ref (A 37), .ref (A 38), .int (pn 9), .int (pr 9), .int (pb 9)])), (A 37, .inl (cI, 20, .inl (pg 9))), (A 38, .inl (cI, 20, .inl (pm 9))), (A 1, .inr (3, [.ref (A 2), .ref (A 3), .int (nI n), .int rg, .int bl])), (A 2, .inl (cI, 20, .inl fg)), (A 3, .inl (cI, 20, .inl fm)), (A 4, .inr (3, [.ref (A 5), .ref (A 6), .int dn, .int dr, .int db])), (A 5, .inl (cI, 20, .inl dg)), (A 6, .inl (cI, 20, .inl dm)), (A 39, .inr (5, [.ref (A 40), .int (nI tL), .int ta, .int tf])), (A 40, .inl (cB, 120, .inl lt)), (A 41, .inr (1, [.ref (A 42), .int (FZ fk)])), (A 42, .inl (cI, 20, .inl ff)), (A 43, .inr (4, [.ref (A 44), .ref (A 45), .ref (A 46), .ref (A 47), .int rs, .int rr])), (A 44, .inl (cI, 20, .inl rt)), (A 45, .inl (cI, 20, .inl rl)), (A 46, .inl (cI, 20, .inl rp)), (A 47, .inl (cI, 20, .inl rc)), (A 48, .inr (0, [.ref (A 49), .ref (A 50)])), (A 49, .inl (cI, 20, .inl cv)), (A 50, .inl (cI, 21, .inl cb))] ∧ (jx < 10) ∧ (hs.length ≤ 10) ∧ (RngR jx pn pr pb pg pm hs) ∧ (∀ k, k < n → fg k = G k) ∧ (∀ k, k < n → fm k = M k) ∧ (∀ j, j < tL → lt j = nI (tc j)) ∧ (∀ j, j + 1 < fk → ff j = nI (fc j)) ∧ (cb 0 = 0)
theorem SRX.fst {cI cB cO : ClassId} {A : Nat → Nat} {X : va_W} {n : Nat} {rg bl : Int32} {G M : Nat → Int32} (h : SRX cI cB cO A X n rg bl G M) : X.map Prod.fst = (adW A).map Prod.fst := by
  obtain ⟨hs, tL, tc, fk, fc, fg, fm, dn, dr, db, dg, dm, jx, pn, pr, pb, pg, pm, ta, tf, lt, ff, rs, rr, rt, rl, rp, rc, cv, cb, ok, e, hf⟩ := h
  rw [e]; rfl
theorem SRX.okp {cI cB cO : ClassId} {A : Nat → Nat} {X : va_W} {n : Nat} {rg bl : Int32} {G M : Nat → Int32} (h : SRX cI cB cO A X n rg bl G M) : okP (n, rg, bl, G, M) := by
  obtain ⟨hs, tL, tc, fk, fc, fg, fm, dn, dr, db, dg, dm, jx, pn, pr, pb, pg, pm, ta, tf, lt, ff, rs, rr, rt, rl, rp, rc, cv, cb, ok, e, hf⟩ := h
  exact ok.1
theorem SRX.to {D : va_G} {cI cB cO : ClassId} {A : Nat → Nat} {X : va_W} {H : Heap} {n : Nat} {rg bl : Int32} {G M : Nat → Int32} (h : SRX cI cB cO A X n rg bl G M) (hP : va_P D vwCl X H) : SRx D cI cB cO A H n rg bl G M := by
  obtain ⟨hs, tL, tc, fk, fc, fg, fm, dn, dr, db, dg, dm, jx, pn, pr, pb, pg, pm, ta, tf, lt, ff, rs, rr, rt, rl, rp, rc, cv, cb, ok, e, hf⟩ := h
  rw [e] at hP
  exact ⟨hs, tL, tc, fk, fc, ok, fg, fm, dn, dr, db, dg, dm, jx, pn, pr, pb, pg, pm, ta, tf, lt, ff, rs, rr, rt, rl, rp, rc, cv, cb, hP, hf⟩
theorem SRx.to {D : va_G} {cI cB cO : ClassId} {A : Nat → Nat} {H : Heap} {n : Nat} {rg bl : Int32} {G M : Nat → Int32} (h : SRx D cI cB cO A H n rg bl G M) : ∃ X : va_W, SRX cI cB cO A X n rg bl G M ∧ va_P D vwCl X H := by
  obtain ⟨hs, tL, tc, fk, fc, ok, fg, fm, dn, dr, db, dg, dm, jx, pn, pr, pb, pg, pm, ta, tf, lt, ff, rs, rr, rt, rl, rp, rc, cv, cb, hP, hf⟩ := h
  exact ⟨_, ⟨hs, tL, tc, fk, fc, fg, fm, dn, dr, db, dg, dm, jx, pn, pr, pb, pg, pm, ta, tf, lt, ff, rs, rr, rt, rl, rp, rc, cv, cb, ok, rfl, hf⟩, hP⟩
theorem okP_cong {n : Nat} {rg bl : Int32} {G M G2 M2 : Nat → Int32} (h : okP (n, rg, bl, G, M)) (hG : ∀ k, k < n → G k = G2 k) (hM : ∀ k, k < n → M k = M2 k) : okP (n, rg, bl, G2, M2) := by
  obtain ⟨h1, h2, h3, h4, h5, h6⟩ := h
  exact ⟨h1, h2, h3, h4, fun k hk => by show ∃ q, q ≤ 999 ∧ G2 k = nI q; rw [← hG k hk]; exact h5 k hk, fun k hk => by show ∃ q, q ≤ 200 ∧ M2 k = nI q; rw [← hM k hk]; exact h6 k hk⟩
theorem SRX.cong {cI cB cO : ClassId} {A : Nat → Nat} {X : va_W} {n : Nat} {rg bl rg2 bl2 : Int32} {G M G2 M2 : Nat → Int32} (h : SRX cI cB cO A X n rg bl G M) (h1 : rg = rg2) (h2 : bl = bl2) (hG2 : ∀ k, k < n → G k = G2 k) (hM2 : ∀ k, k < n → M k = M2 k) : SRX cI cB cO A X n rg2 bl2 G2 M2 := by
  subst h1 h2
  obtain ⟨hs, tL, tc, fk, fc, fg, fm, dn, dr, db, dg, dm, jx, pn, pr, pb, pg, pm, ta, tf, lt, ff, rs, rr, rt, rl, rp, rc, cv, cb, ok, e, hjx, hsl, hR, hG, hM, hr⟩ := h
  exact ⟨hs, tL, tc, fk, fc, fg, fm, dn, dr, db, dg, dm, jx, pn, pr, pb, pg, pm, ta, tf, lt, ff, rs, rr, rt, rl, rp, rc, cv, cb, ⟨okP_cong ok.1 hG2 hM2, ok.2⟩, e, hjx, hsl, hR, fun k hk => (hG k hk).trans (hG2 k hk), fun k hk => (hM k hk).trans (hM2 k hk), hr⟩
abbrev yPc (D : va_G) (cI cB cO : ClassId) (A : Nat → Nat) (av : List Value) (n : Nat) (rg bl : Int32) (G M : Nat → Int32) : Array Value → State → Prop := va_Pc av (fun U => SRx D cI cB cO A U.heap n rg bl G M ∧ va_K D vwCl (tyL cI cB cO) U ∧ NW U ∧ va_D (fun _ => True) (adW A))
abbrev yQi (D : va_G) (cI cB cO : ClassId) (A : Nat → Nat) (v : Int32) (n : Nat) (rg bl : Int32) (G M : Nat → Int32) : Array Value → State → Outcome → State → Prop := va_Qi (fun (z : Int32) (_ : Unit) => z = v) (fun _ t => SRx D cI cB cO A t.heap n rg bl G M) (inW (adW A))
theorem SRx.kept {D : va_G} {cI cB cO : ClassId} {A : Nat → Nat} {H H1 : Heap} {n : Nat} {rg bl : Int32} {G M : Nat → Int32} (h : SRx D cI cB cO A H n rg bl G M) (hk : ∀ q, q < H.size → H1[q]? = H[q]?) : SRx D cI cB cO A H1 n rg bl G M := by
  obtain ⟨X, hX, hP⟩ := h.to
  exact hX.to (hP.kept (fun k q hq => hk q.1 (hP k q hq).lt))
theorem SRx.recv {D : va_G} {cI cB cO : ClassId} {A : Nat → Nat} {H : Heap} {n : Nat} {rg bl : Int32} {G M : Nat → Int32} {s : State} {tys : List (ClassId × FieldType)} (hK : va_K D vwCl tys s) (h : SRx D cI cB cO A H n rg bl G M) : ∃ cell : Cell, H[A 0]? = some cell ∧ cell.vm.isStatics = false ∧ s.vm.findClass RX6 = some cell.cls := by
  obtain ⟨hs, tL, tc, fk, fc, ok, fg, fm, dn, dr, db, dg, dm, jx, pn, pr, pb, pg, pm, ta, tf, lt, ff, rs, rr, rt, rl, rp, rc, cv, cb, hP, hf⟩ := h
  exact va_recv (q := (RX6, TX6, 7)) (ci := 6) (q0 := 0) hK hP rfl rfl
/-- a call that reads -/
theorem y_rd {l : Launch} {D : va_G} {cI cB cO : ClassId} {A : Nat → Nat} {y : MethodName} {ws : List Cond} {As : List Value} {n : Nat} {rg bl : Int32} {G M : Nat → Int32} {v : Int32} (d : Nat)
    (h : ∀ H hs tL tc fk fc, okS n rg bl G M hs tL tc fk fc → SRI D cI cB cO A H n rg bl G M hs tL tc fk fc → ∃ wc, va_P D vwCl wc H ∧ Met l y ws (rmD d) (rdPc D (tyL cI cB cO) (.ref (A 0) :: As) wc) (rdQi (fun z => z = v)) 0 0 noA) : Met l y ws (rmD d) (yPc D cI cB cO A (.ref (A 0) :: As) n rg bl G M) (yQi D cI cB cO A v n rg bl G M) 0 0 (inW (adW A)) := by
  refine met_of (fun a s hP => ?_)
  obtain ⟨q0, qI, qK, qN, qD⟩ := hP
  obtain ⟨hs, tL, tc, fk, fc, ok, hI⟩ := id qI
  obtain ⟨wc, hw, hM⟩ := h s.heap hs tL tc fk fc ok hI
  exact ⟨_, _, _, hM, ⟨q0, hw, qK, qN⟩, fun o t ⟨⟨z, u, e1, e2, _⟩, hF⟩ => ⟨⟨z, (), e1, e2, qI.kept (fun q h1 => hF.2 q h1 (fun w => w))⟩, hF.1, fun q h1 _ => hF.2 q h1 (fun w => w)⟩, fun q h => h.elim⟩
/-- a call that changes -/
theorem y_wr {l : Launch} {D : va_G} {cI cB cO : ClassId} {A : Nat → Nat} {y : MethodName} {ws : List Cond} {As : List Value} {n n2 : Nat} {rg bl rg2 bl2 : Int32} {G M G2 M2 : Nat → Int32} {v : Int32} (d : Nat)
    (h : ∀ hs tL tc fk fc, okS n rg bl G M hs tL tc fk fc → ∃ hs2 tL2 tc2 fk2 fc2, okS n2 rg2 bl2 G2 M2 hs2 tL2 tc2 fk2 fc2 ∧ Met l y ws (rmD d) (srPc D cI cB cO A (.ref (A 0) :: As) n rg bl G M hs tL tc fk fc) (srQi A (fun (r : Int32) (u : Unit) => r = v) (fun (u : Unit) H => SRI D cI cB cO A H n2 rg2 bl2 G2 M2 hs2 tL2 tc2 fk2 fc2)) 0 0 (inW (adW A))) : Met l y ws (rmD d) (yPc D cI cB cO A (.ref (A 0) :: As) n rg bl G M) (yQi D cI cB cO A v n2 rg2 bl2 G2 M2) 0 0 (inW (adW A)) := by
  refine met_of (fun a s hP => ?_)
  obtain ⟨q0, qI, qK, qN, qD⟩ := hP
  obtain ⟨hs, tL, tc, fk, fc, ok, hI⟩ := id qI
  obtain ⟨hs2, tL2, tc2, fk2, fc2, ok2, hM⟩ := h hs tL tc fk fc ok
  exact ⟨_, _, _, hM, ⟨q0, hI, qK, qN, qD⟩, fun o t ⟨⟨z, u, e1, e2, e3⟩, hF⟩ => ⟨⟨z, (), e1, e2, hs2, tL2, tc2, fk2, fc2, ok2, e3⟩, hF⟩, fun q h => h⟩
theorem y_station (l : Launch) (D : va_G) (cI cB cO : ClassId) (A : Nat → Nat) (n : Nat) (rg bl : Int32) (G M : Nat → Int32) (x : Int32) (w : Int32) : Met l yX6_station wsX6_station (rmD 6) (yPc D cI cB cO A [.ref (A 0), .int x, .int w] n rg bl G M) (yQi D cI cB cO A (A_station n rg bl G M x w) n rg bl G M) 0 0 (inW (adW A)) :=
  y_rd 6 (fun H hs tL tc fk fc ok hI => by
    obtain ⟨hokP, hokH, hL, hcc, hfk⟩ := id ok
    have hn2 : 2 ≤ n := hokP.1
    have hn : n ≤ 20 := hokP.2.1
    have hrg : ∃ q, 1 ≤ q ∧ q ≤ 19 ∧ rg = nI q := hokP.2.2.1
    obtain ⟨fg, fm, dn, dr, db, dg, dm, jx, pn, pr, pb, pg, pm, ta, tf, lt, ff, rs, rr, rt, rl, rp, rc, cv, cb, hP, hjx, hsl, hR, hG, hM, hlt, hff, hcb⟩ := hI
    exact ⟨_, hP.pick [0, 33, 34, 35] rfl, c_X6_station l D cI cB cO (A 0) [.ref (A 4), .ref (A 7), .ref (A 39), .ref (A 41), .ref (A 43), .ref (A 48)] (A 1) (A 2) (A 3) n rg bl fg fm G M x w hn hG hM⟩)
theorem y_sees (l : Launch) (D : va_G) (cI cB cO : ClassId) (A : Nat → Nat) (n : Nat) (rg bl : Int32) (G M : Nat → Int32) (x : Int32) (y : Int32) : Met l yX6_sees wsX6_sees (rmD 6) (yPc D cI cB cO A [.ref (A 0), .int x, .int y] n rg bl G M) (yQi D cI cB cO A (A_sees n bl G M x y) n rg bl G M) 0 0 (inW (adW A)) :=
  y_rd 6 (fun H hs tL tc fk fc ok hI => by
    obtain ⟨hokP, hokH, hL, hcc, hfk⟩ := id ok
    have hn2 : 2 ≤ n := hokP.1
    have hn : n ≤ 20 := hokP.2.1
    have hrg : ∃ q, 1 ≤ q ∧ q ≤ 19 ∧ rg = nI q := hokP.2.2.1
    obtain ⟨fg, fm, dn, dr, db, dg, dm, jx, pn, pr, pb, pg, pm, ta, tf, lt, ff, rs, rr, rt, rl, rp, rc, cv, cb, hP, hjx, hsl, hR, hG, hM, hlt, hff, hcb⟩ := hI
    exact ⟨_, hP.pick [0, 33, 34, 35] rfl, c_X6_sees l D cI cB cO (A 0) [.ref (A 4), .ref (A 7), .ref (A 39), .ref (A 41), .ref (A 43), .ref (A 48)] (A 1) (A 2) (A 3) n rg bl fg fm G M x y hn hG hM⟩)
theorem y_obstacle (l : Launch) (D : va_G) (cI cB cO : ClassId) (A : Nat → Nat) (n : Nat) (rg bl : Int32) (G M : Nat → Int32) (x : Int32) (y : Int32) (w : Int32) : Met l yX6_obstacle wsX6_obstacle (rmD 6) (yPc D cI cB cO A [.ref (A 0), .int x, .int y, .int w] n rg bl G M) (yQi D cI cB cO A (A_obstacle n bl G M x y w) n rg bl G M) 0 0 (inW (adW A)) :=
  y_rd 6 (fun H hs tL tc fk fc ok hI => by
    obtain ⟨hokP, hokH, hL, hcc, hfk⟩ := id ok
    have hn2 : 2 ≤ n := hokP.1
    have hn : n ≤ 20 := hokP.2.1
    have hrg : ∃ q, 1 ≤ q ∧ q ≤ 19 ∧ rg = nI q := hokP.2.2.1
    obtain ⟨fg, fm, dn, dr, db, dg, dm, jx, pn, pr, pb, pg, pm, ta, tf, lt, ff, rs, rr, rt, rl, rp, rc, cv, cb, hP, hjx, hsl, hR, hG, hM, hlt, hff, hcb⟩ := hI
    exact ⟨_, hP.pick [0, 33, 34, 35] rfl, c_X6_obstacle l D cI cB cO (A 0) [.ref (A 4), .ref (A 7), .ref (A 39), .ref (A 41), .ref (A 43), .ref (A 48)] (A 1) (A 2) (A 3) n rg bl fg fm G M x y w hn hG hM⟩)
theorem y_shadow (l : Launch) (D : va_G) (cI cB cO : ClassId) (A : Nat → Nat) (n : Nat) (rg bl : Int32) (G M : Nat → Int32) (x : Int32) (y : Int32) (w : Int32) : Met l yX6_shadow wsX6_shadow (rmD 6) (yPc D cI cB cO A [.ref (A 0), .int x, .int y, .int w] n rg bl G M) (yQi D cI cB cO A (A_shadow n bl G M x y w) n rg bl G M) 0 0 (inW (adW A)) :=
  y_rd 6 (fun H hs tL tc fk fc ok hI => by
    obtain ⟨hokP, hokH, hL, hcc, hfk⟩ := id ok
    have hn2 : 2 ≤ n := hokP.1
    have hn : n ≤ 20 := hokP.2.1
    have hrg : ∃ q, 1 ≤ q ∧ q ≤ 19 ∧ rg = nI q := hokP.2.2.1
    obtain ⟨fg, fm, dn, dr, db, dg, dm, jx, pn, pr, pb, pg, pm, ta, tf, lt, ff, rs, rr, rt, rl, rp, rc, cv, cb, hP, hjx, hsl, hR, hG, hM, hlt, hff, hcb⟩ := hI
    exact ⟨_, hP.pick [0, 33, 34, 35] rfl, c_X6_shadow l D cI cB cO (A 0) [.ref (A 4), .ref (A 7), .ref (A 39), .ref (A 41), .ref (A 43), .ref (A 48)] (A 1) (A 2) (A 3) n rg bl fg fm G M x y w hn hG hM⟩)
theorem y_farthest (l : Launch) (D : va_G) (cI cB cO : ClassId) (A : Nat → Nat) (n : Nat) (rg bl : Int32) (G M : Nat → Int32) : Met l yX6_farthest wsX6_farthest (rmD 6) (yPc D cI cB cO A [.ref (A 0)] n rg bl G M) (yQi D cI cB cO A (A_farthest n rg bl G M) n rg bl G M) 0 0 (inW (adW A)) :=
  y_rd 6 (fun H hs tL tc fk fc ok hI => by
    obtain ⟨hokP, hokH, hL, hcc, hfk⟩ := id ok
    have hn2 : 2 ≤ n := hokP.1
    have hn : n ≤ 20 := hokP.2.1
    have hrg : ∃ q, 1 ≤ q ∧ q ≤ 19 ∧ rg = nI q := hokP.2.2.1
    obtain ⟨fg, fm, dn, dr, db, dg, dm, jx, pn, pr, pb, pg, pm, ta, tf, lt, ff, rs, rr, rt, rl, rp, rc, cv, cb, hP, hjx, hsl, hR, hG, hM, hlt, hff, hcb⟩ := hI
    exact ⟨_, hP.pick [0, 33, 34, 35] rfl, c_X6_farthest l D cI cB cO (A 0) [.ref (A 4), .ref (A 7), .ref (A 39), .ref (A 41), .ref (A 43), .ref (A 48)] (A 1) (A 2) (A 3) n rg bl fg fm G M  hn hn2 (row_con (n := n) hrg 0 (by omega)) hG hM⟩)
theorem A_count_hz {n : Nat} {rg bl : Int32} {G M : Nat → Int32} {hz tn : Nat} {w : Int32} (h6 : ¬ w = 6) (h7 : ¬ w = 7) : A_count n rg bl G M hz tn w = A_count n rg bl G M 0 0 w := by unfold A_count; rw [if_neg h6, if_neg h7, if_neg h6, if_neg h7]
theorem y_count (l : Launch) (D : va_G) (cI cB cO : ClassId) (A : Nat → Nat) (n : Nat) (rg bl : Int32) (G M : Nat → Int32) (w : Int32) (h6 : ¬ w = 6) (h7 : ¬ w = 7) : Met l yX6_count wsX6_count (rmD 6) (yPc D cI cB cO A [.ref (A 0), .int w] n rg bl G M) (yQi D cI cB cO A (A_count n rg bl G M 0 0 w) n rg bl G M) 0 0 (inW (adW A)) :=
  y_rd 6 (fun H hs tL tc fk fc ok hI => by
    obtain ⟨hokP, hokH, hL, hcc, hfk⟩ := id ok
    have hn : n ≤ 20 := hokP.2.1
    obtain ⟨fg, fm, dn, dr, db, dg, dm, jx, pn, pr, pb, pg, pm, ta, tf, lt, ff, rs, rr, rt, rl, rp, rc, cv, cb, hP, hjx, hsl, hR, hG, hM, hlt, hff, hcb⟩ := hI
    have h := c_X6_count l D cI cB cO (A 0) (A 4) (A 7) (A 39) (A 41) (A 43) (A 48) (A 8) (A 40) hs.length tL (nI jx) ta tf (A 1) (A 2) (A 3) n rg bl fg fm G M w hn hG hM
    rw [A_count_hz h6 h7] at h
    exact ⟨_, hP.pick [0, 33, 34, 35, 1, 39] rfl, h⟩)
theorem y_groups (l : Launch) (D : va_G) (cI cB cO : ClassId) (A : Nat → Nat) (n : Nat) (rg bl : Int32) (G M : Nat → Int32) : Met l yX6_groups wsX6_groups (rmD 7) (yPc D cI cB cO A [.ref (A 0)] n rg bl G M) (yQi D cI cB cO A (1) n rg bl G M) 0 0 (inW (adW A)) :=
  y_wr 7 (fun hs tL tc fk fc ok => ⟨hs, tL, tc, fk, fc, ok, c_X6_groups l D cI cB cO A n rg bl G M hs tL tc fk fc ok⟩)
theorem y_reset_no (l : Launch) (D : va_G) (cI cB cO : ClassId) (A : Nat → Nat) (n : Nat) (rg bl : Int32) (G M : Nat → Int32) (x y : Int32) (hno : resetB x y = false) : Met l yX6_reset wsX6_reset (rmD 7) (yPc D cI cB cO A [.ref (A 0), .int x, .int y] n rg bl G M) (yQi D cI cB cO A (-2) n rg bl G M) 0 0 (inW (adW A)) :=
  y_wr 7 (fun hs tL tc fk fc ok => by
    obtain ⟨hokP, hokH, hL, hcc, hfk⟩ := id ok
    obtain ⟨hn2, hn, hrg, hbl, hGv, hMv⟩ := id hokP
    exact ⟨hs, tL, tc, fk, fc, ok, c_X6_reset_no l D cI cB cO A n rg bl G M hs tL tc fk fc x y ok hno⟩)
theorem y_reset_ok (l : Launch) (D : va_G) (cI cB cO : ClassId) (A : Nat → Nat) (n : Nat) (rg bl : Int32) (G M : Nat → Int32) (a : Nat) (y : Int32) (ha2 : 2 ≤ a) (ha20 : a ≤ 20) (hy : inB y 0 999 = true) (hq : ∃ q, q ≤ 999 ∧ y = nI q) : Met l yX6_reset wsX6_reset (rmD 7) (yPc D cI cB cO A [.ref (A 0), .int (nI a), .int y] n rg bl G M) (yQi D cI cB cO A (nI a) a rg bl (fun _ => y) (fun _ => 0)) 0 0 (inW (adW A)) :=
  y_wr 7 (fun hs tL tc fk fc ok => by
    obtain ⟨hokP, hokH, hL, hcc, hfk⟩ := id ok
    obtain ⟨hn2, hn, hrg, hbl, hGv, hMv⟩ := id hokP
    exact ⟨(((n, rg, bl, G, M) :: hs).take 10), tL, tc, fk, fc, ⟨⟨ha2, ha20, hrg, hbl, fun k _ => hq, fun k _ => ⟨0, by decide, rfl⟩⟩, okH_keep hokH hokP, hL, hcc, hfk⟩, c_X6_reset_ok l D cI cB cO A n rg bl G M hs tL tc fk fc a y ok ha2 ha20 hy⟩)
theorem y_setGround_no (l : Launch) (D : va_G) (cI cB cO : ClassId) (A : Nat → Nat) (n : Nat) (rg bl : Int32) (G M : Nat → Int32) (x y : Int32) (hno : (hasB n x && inB y 0 999) = false) : Met l yX6_setGround wsX6_setGround (rmD 7) (yPc D cI cB cO A [.ref (A 0), .int x, .int y] n rg bl G M) (yQi D cI cB cO A (-2) n rg bl G M) 0 0 (inW (adW A)) :=
  y_wr 7 (fun hs tL tc fk fc ok => by
    obtain ⟨hokP, hokH, hL, hcc, hfk⟩ := id ok
    obtain ⟨hn2, hn, hrg, hbl, hGv, hMv⟩ := id hokP
    exact ⟨hs, tL, tc, fk, fc, ok, c_X6_setGround_no l D cI cB cO A n rg bl G M hs tL tc fk fc x y ok hno⟩)
theorem y_setGround_ok (l : Launch) (D : va_G) (cI cB cO : ClassId) (A : Nat → Nat) (n : Nat) (rg bl : Int32) (G M : Nat → Int32) (a : Nat) (y : Int32) (ha : a < n) (hy : inB y 0 999 = true) (hq : ∃ q, q ≤ 999 ∧ y = nI q) : Met l yX6_setGround wsX6_setGround (rmD 7) (yPc D cI cB cO A [.ref (A 0), .int (nI a), .int y] n rg bl G M) (yQi D cI cB cO A (G a) n rg bl (upd G a y) M) 0 0 (inW (adW A)) :=
  y_wr 7 (fun hs tL tc fk fc ok => by
    obtain ⟨hokP, hokH, hL, hcc, hfk⟩ := id ok
    obtain ⟨hn2, hn, hrg, hbl, hGv, hMv⟩ := id hokP
    exact ⟨(((n, rg, bl, G, M) :: hs).take 10), tL, tc, fk, fc, ⟨⟨hn2, hn, hrg, hbl, upd_rng hGv hq, hMv⟩, okH_keep hokH hokP, hL, hcc, hfk⟩, c_X6_setGround_ok l D cI cB cO A n rg bl G M hs tL tc fk fc a y ok ha hy⟩)
theorem y_mast_no (l : Launch) (D : va_G) (cI cB cO : ClassId) (A : Nat → Nat) (n : Nat) (rg bl : Int32) (G M : Nat → Int32) (x y : Int32) (hno : (hasB n x && inB y 0 200) = false) : Met l yX6_mast wsX6_mast (rmD 7) (yPc D cI cB cO A [.ref (A 0), .int x, .int y] n rg bl G M) (yQi D cI cB cO A (-2) n rg bl G M) 0 0 (inW (adW A)) :=
  y_wr 7 (fun hs tL tc fk fc ok => by
    obtain ⟨hokP, hokH, hL, hcc, hfk⟩ := id ok
    obtain ⟨hn2, hn, hrg, hbl, hGv, hMv⟩ := id hokP
    exact ⟨hs, tL, tc, fk, fc, ok, c_X6_mast_no l D cI cB cO A n rg bl G M hs tL tc fk fc x y ok hno⟩)
theorem y_mast_ok (l : Launch) (D : va_G) (cI cB cO : ClassId) (A : Nat → Nat) (n : Nat) (rg bl : Int32) (G M : Nat → Int32) (a : Nat) (y : Int32) (ha : a < n) (hy : inB y 0 200 = true) (hq : ∃ q, q ≤ 200 ∧ y = nI q) : Met l yX6_mast wsX6_mast (rmD 7) (yPc D cI cB cO A [.ref (A 0), .int (nI a), .int y] n rg bl G M) (yQi D cI cB cO A (M a) n rg bl G (upd M a y)) 0 0 (inW (adW A)) :=
  y_wr 7 (fun hs tL tc fk fc ok => by
    obtain ⟨hokP, hokH, hL, hcc, hfk⟩ := id ok
    obtain ⟨hn2, hn, hrg, hbl, hGv, hMv⟩ := id hokP
    exact ⟨(((n, rg, bl, G, M) :: hs).take 10), tL, tc, fk, fc, ⟨⟨hn2, hn, hrg, hbl, hGv, upd_rng hMv hq⟩, okH_keep hokH hokP, hL, hcc, hfk⟩, c_X6_mast_ok l D cI cB cO A n rg bl G M hs tL tc fk fc a y ok ha hy⟩)
theorem y_slope_no (l : Launch) (D : va_G) (cI cB cO : ClassId) (A : Nat → Nat) (n : Nat) (rg bl : Int32) (G M : Nat → Int32) (x y : Int32) (hno : (hasB n x && (hasB n y && decide (x < y))) = false) : Met l yX6_slope wsX6_slope (rmD 7) (yPc D cI cB cO A [.ref (A 0), .int x, .int y] n rg bl G M) (yQi D cI cB cO A (-2) n rg bl G M) 0 0 (inW (adW A)) :=
  y_wr 7 (fun hs tL tc fk fc ok => by
    obtain ⟨hokP, hokH, hL, hcc, hfk⟩ := id ok
    obtain ⟨hn2, hn, hrg, hbl, hGv, hMv⟩ := id hokP
    exact ⟨hs, tL, tc, fk, fc, ok, c_X6_slope_no l D cI cB cO A n rg bl G M hs tL tc fk fc x y ok hno⟩)
theorem y_slope_ok (l : Launch) (D : va_G) (cI cB cO : ClassId) (A : Nat → Nat) (n : Nat) (rg bl : Int32) (G M : Nat → Int32) (a b : Nat) (hab : a < b) (hb0 : b < n) : Met l yX6_slope wsX6_slope (rmD 7) (yPc D cI cB cO A [.ref (A 0), .int (nI a), .int (nI b)] n rg bl G M) (yQi D cI cB cO A (nI (fb_ct (slB G a b) b)) n rg bl (slG G a b) M) 0 0 (inW (adW A)) :=
  y_wr 7 (fun hs tL tc fk fc ok => by
    obtain ⟨hokP, hokH, hL, hcc, hfk⟩ := id ok
    obtain ⟨hn2, hn, hrg, hbl, hGv, hMv⟩ := id hokP
    exact ⟨(((n, rg, bl, G, M) :: hs).take 10), tL, tc, fk, fc, ⟨⟨hn2, hn, hrg, hbl, slG_rng hn hGv hb0, hMv⟩, okH_keep hokH hokP, hL, hcc, hfk⟩, c_X6_slope_ok l D cI cB cO A n rg bl G M hs tL tc fk fc a b ok hab hb0⟩)
theorem y_reverse (l : Launch) (D : va_G) (cI cB cO : ClassId) (A : Nat → Nat) (n : Nat) (rg bl : Int32) (G M : Nat → Int32) : Met l yX6_reverse wsX6_reverse (rmD 7) (yPc D cI cB cO A [.ref (A 0)] n rg bl G M) (yQi D cI cB cO A (nI (fb_ct (fun k => decide (G k ≠ G (n - 1 - k) ∨ M k ≠ M (n - 1 - k))) n)) n rg bl (fun k => G (n - 1 - k)) (fun k => M (n - 1 - k))) 0 0 (inW (adW A)) :=
  y_wr 7 (fun hs tL tc fk fc ok => by
    obtain ⟨hokP, hokH, hL, hcc, hfk⟩ := id ok
    obtain ⟨hn2, hn, hrg, hbl, hGv, hMv⟩ := id hokP
    exact ⟨(((n, rg, bl, G, M) :: hs).take 10), tL, tc, fk, fc, ⟨⟨hn2, hn, hrg, hbl, fun k hk => hGv (n - 1 - k) (by omega), fun k hk => hMv (n - 1 - k) (by omega)⟩, okH_keep hokH hokP, hL, hcc, hfk⟩, c_X6_reverse l D cI cB cO A n rg bl G M hs tL tc fk fc ok⟩)
theorem y_setRange_no (l : Launch) (D : va_G) (cI cB cO : ClassId) (A : Nat → Nat) (n : Nat) (rg bl : Int32) (G M : Nat → Int32) (x : Int32) (hno : inB x 1 19 = false) : Met l yX6_setRange wsX6_setRange (rmD 7) (yPc D cI cB cO A [.ref (A 0), .int x] n rg bl G M) (yQi D cI cB cO A (-2) n rg bl G M) 0 0 (inW (adW A)) :=
  y_wr 7 (fun hs tL tc fk fc ok => by
    obtain ⟨hokP, hokH, hL, hcc, hfk⟩ := id ok
    obtain ⟨hn2, hn, hrg, hbl, hGv, hMv⟩ := id hokP
    exact ⟨hs, tL, tc, fk, fc, ok, c_X6_setRange_no l D cI cB cO A n rg bl G M hs tL tc fk fc x ok hno⟩)
theorem y_setRange_ok (l : Launch) (D : va_G) (cI cB cO : ClassId) (A : Nat → Nat) (n : Nat) (rg bl : Int32) (G M : Nat → Int32) (x : Int32) (hy : inB x 1 19 = true) (hq : ∃ q, 1 ≤ q ∧ q ≤ 19 ∧ x = nI q) : Met l yX6_setRange wsX6_setRange (rmD 7) (yPc D cI cB cO A [.ref (A 0), .int x] n rg bl G M) (yQi D cI cB cO A (rg) n x bl G M) 0 0 (inW (adW A)) :=
  y_wr 7 (fun hs tL tc fk fc ok => by
    obtain ⟨hokP, hokH, hL, hcc, hfk⟩ := id ok
    obtain ⟨hn2, hn, hrg, hbl, hGv, hMv⟩ := id hokP
    exact ⟨(((n, rg, bl, G, M) :: hs).take 10), tL, tc, fk, fc, ⟨⟨hn2, hn, hq, hbl, hGv, hMv⟩, okH_keep hokH hokP, hL, hcc, hfk⟩, c_X6_setRange_ok l D cI cB cO A n rg bl G M hs tL tc fk fc x ok hy⟩)
theorem y_setBulge_no (l : Launch) (D : va_G) (cI cB cO : ClassId) (A : Nat → Nat) (n : Nat) (rg bl : Int32) (G M : Nat → Int32) (x : Int32) (hno : inB x 0 9 = false) : Met l yX6_setBulge wsX6_setBulge (rmD 7) (yPc D cI cB cO A [.ref (A 0), .int x] n rg bl G M) (yQi D cI cB cO A (-2) n rg bl G M) 0 0 (inW (adW A)) :=
  y_wr 7 (fun hs tL tc fk fc ok => by
    obtain ⟨hokP, hokH, hL, hcc, hfk⟩ := id ok
    obtain ⟨hn2, hn, hrg, hbl, hGv, hMv⟩ := id hokP
    exact ⟨hs, tL, tc, fk, fc, ok, c_X6_setBulge_no l D cI cB cO A n rg bl G M hs tL tc fk fc x ok hno⟩)
theorem y_setBulge_ok (l : Launch) (D : va_G) (cI cB cO : ClassId) (A : Nat → Nat) (n : Nat) (rg bl : Int32) (G M : Nat → Int32) (x : Int32) (hy : inB x 0 9 = true) (hq : ∃ q, q ≤ 9 ∧ x = nI q) : Met l yX6_setBulge wsX6_setBulge (rmD 7) (yPc D cI cB cO A [.ref (A 0), .int x] n rg bl G M) (yQi D cI cB cO A (bl) n rg x G M) 0 0 (inW (adW A)) :=
  y_wr 7 (fun hs tL tc fk fc ok => by
    obtain ⟨hokP, hokH, hL, hcc, hfk⟩ := id ok
    obtain ⟨hn2, hn, hrg, hbl, hGv, hMv⟩ := id hokP
    exact ⟨(((n, rg, bl, G, M) :: hs).take 10), tL, tc, fk, fc, ⟨⟨hn2, hn, hrg, hq, hGv, hMv⟩, okH_keep hokH hokP, hL, hcc, hfk⟩, c_X6_setBulge_ok l D cI cB cO A n rg bl G M hs tL tc fk fc x ok hy⟩)
