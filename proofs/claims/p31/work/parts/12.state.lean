/-! the class' object as one picture; the state that it stands for: n, range, bulge, grounds, masts; the history, the latest first; the text; the finding (0: none) -/
abbrev Prf : Type := Nat × Int32 × Int32 × (Nat → Int32) × (Nat → Int32)
def RepP (pn pr pb : Int32) (pg pm : Nat → Int32) (P : Prf) : Prop := pn = nI P.1 ∧ pr = P.2.1 ∧ pb = P.2.2.1 ∧ (∀ k, k < P.1 → pg k = P.2.2.2.1 k) ∧ (∀ k, k < P.1 → pm k = P.2.2.2.2 k)
def okP (P : Prf) : Prop := 2 ≤ P.1 ∧ P.1 ≤ 20 ∧ (∃ q, 1 ≤ q ∧ q ≤ 19 ∧ P.2.1 = nI q) ∧ (∃ q, q ≤ 9 ∧ P.2.2.1 = nI q) ∧ (∀ k, k < P.1 → ∃ q, q ≤ 999 ∧ P.2.2.2.1 k = nI q) ∧ (∀ k, k < P.1 → ∃ q, q ≤ 200 ∧ P.2.2.2.2 k = nI q)
def bkR (jx i : Nat) : Nat := (jx + 9 - i) % 10
def RngR (jx : Nat) (pn pr pb : Nat → Int32) (pg pm : Nat → Nat → Int32) (hs : List Prf) : Prop := ∀ (i : Nat) (P : Prf), hs[i]? = some P → RepP (pn (bkR jx i)) (pr (bkR jx i)) (pb (bkR jx i)) (pg (bkR jx i)) (pm (bkR jx i)) P
def okS (n : Nat) (rg : Int32) (bl : Int32) (G : Nat → Int32) (M : Nat → Int32) (hs : List Prf) (tL : Nat) (tc : Nat → Nat) (fk : Nat) (fc : Nat → Nat) : Prop := okP (n, rg, bl, G, M) ∧ (∀ P, P ∈ hs → okP P) ∧ tL ≤ 120 ∧ (∀ j, j < tL → tc j ≤ 127) ∧ fk ≤ 21
def SRI (D : va_G) (cI cB cO : ClassId) (A : Nat → Nat) (H : Heap) (n : Nat) (rg : Int32) (bl : Int32) (G : Nat → Int32) (M : Nat → Int32) (hs : List Prf) (tL : Nat) (tc : Nat → Nat) (fk : Nat) (fc : Nat → Nat) : Prop := ∃ (fg : Nat → Int32) (fm : Nat → Int32) (dn : Int32) (dr : Int32) (db : Int32) (dg : Nat → Int32) (dm : Nat → Int32) (jx : Nat) (pn : Nat → Int32) (pr : Nat → Int32) (pb : Nat → Int32) (pg : Nat → Nat → Int32) (pm : Nat → Nat → Int32) (ta : Int32) (tf : Int32) (lt : Nat → Int32) (ff : Nat → Int32) (rs : Int32) (rr : Int32) (rt : Nat → Int32) (rl : Nat → Int32) (rp : Nat → Int32) (rc : Nat → Int32) (cv : Nat → Int32) (cb : Nat → Int32), va_P D vwCl [(A 0, .inr (6, [.ref (A 1), .ref (A 4), .ref (A 7), .ref (A 39), .ref (A 41), .ref (A 43), .ref (A 48)])), (A 7, .inr (2, [.ref (A 8), .int (nI hs.length), .int (nI jx)])), (A 8, .inl (cO, 10, .inr (.inr (.inr (.inr (fun k => some (A (9 + 3 * k)))))))), (A 9, .inr (3, [.ref (A 10), .ref (A 11), .int (pn 0), .int (pr 0), .int (pb 0)])), (A 10, .inl (cI, 20, .inl (pg 0))), (A 11, .inl (cI, 20, .inl (pm 0))), (A 12, .inr (3, [.ref (A 13), .ref (A 14), .int (pn 1), .int (pr 1), .int (pb 1)])), (A 13, .inl (cI, 20, .inl (pg 1))), (A 14, .inl (cI, 20, .inl (pm 1))), (A 15, .inr (3, [.ref (A 16), .ref (A 17), .int (pn 2), .int (pr 2), .int (pb 2)])), (A 16, .inl (cI, 20, .inl (pg 2))), (A 17, .inl (cI, 20, .inl (pm 2))), (A 18, .inr (3, [.ref (A 19), .ref (A 20), .int (pn 3), .int (pr 3), .int (pb 3)])), (A 19, .inl (cI, 20, .inl (pg 3))), (A 20, .inl (cI, 20, .inl (pm 3))), (A 21, .inr (3, [.ref (A 22), .ref (A 23), .int (pn 4), .int (pr 4), .int (pb 4)])), (A 22, .inl (cI, 20, .inl (pg 4))), (A 23, .inl (cI, 20, .inl (pm 4))), (A 24, .inr (3, [.ref (A 25), .ref (A 26), .int (pn 5), .int (pr 5), .int (pb 5)])), (A 25, .inl (cI, 20, .inl (pg 5))), (A 26, .inl (cI, 20, .inl (pm 5))), (A 27, .inr (3, [.ref (A 28), .ref (A 29), .int (pn 6), .int (pr 6), .int (pb 6)])), (A 28, .inl (cI, 20, .inl (pg 6))), (A 29, .inl (cI, 20, .inl (pm 6))), (A 30, .inr (3, [.ref (A 31), .ref (A 32), .int (pn 7), .int (pr 7), .int (pb 7)])), (A 31, .inl (cI, 20, .inl (pg 7))), (A 32, .inl (cI, 20, .inl (pm 7))), (A 33, .inr (3, [.ref (A 34), .ref (A 35), .int (pn 8), .int (pr 8), .int (pb 8)])), (A 34, .inl (cI, 20, .inl (pg 8))), (A 35, .inl (cI, 20, .inl (pm 8))), (A 36, .inr (3, [.ref (A 37), .ref (A 38), .int (pn 9), .int (pr 9), .int (pb 9)])), (A 37, .inl (cI, 20, .inl (pg 9))), (A 38, .inl (cI, 20, .inl (pm 9))), (A 1, .inr (3, [.ref (A 2), .ref (A 3), .int (nI n), .int rg, .int bl])), (A 2, .inl (cI, 20, .inl fg)), (A 3, .inl (cI, 20, .inl fm)), (A 4, .inr (3, [.ref (A 5), .ref (A 6), .int dn, .int dr, .int db])), (A 5, .inl (cI, 20, .inl dg)), (A 6, .inl (cI, 20, .inl dm)), (A 39, .inr (5, [.ref (A 40), .int (nI tL), .int ta, .int tf])), (A 40, .inl (cB, 120, .inl lt)), (A 41, .inr (1, [.ref (A 42), .int (FZ fk)])), (A 42, .inl (cI, 20, .inl ff)), (A 43, .inr (4, [.ref (A 44), .ref (A 45), .ref (A 46), .ref (A 47), .int rs, .int rr])), (A 44, .inl (cI, 20, .inl rt)), (A 45, .inl (cI, 20, .inl rl)), (A 46, .inl (cI, 20, .inl rp)), (A 47, .inl (cI, 20, .inl rc)), (A 48, .inr (0, [.ref (A 49), .ref (A 50)])), (A 49, .inl (cI, 20, .inl cv)), (A 50, .inl (cI, 21, .inl cb))] H ∧ (jx < 10) ∧ (hs.length ≤ 10) ∧ (RngR jx pn pr pb pg pm hs) ∧ (∀ k, k < n → fg k = G k) ∧ (∀ k, k < n → fm k = M k) ∧ (∀ j, j < tL → lt j = nI (tc j)) ∧ (∀ j, j + 1 < fk → ff j = nI (fc j)) ∧ (cb 0 = 0)
def adW (A : Nat → Nat) : va_W := [(A 0, .inr (0, [])), (A 7, .inr (0, [])), (A 8, .inr (0, [])), (A 9, .inr (0, [])), (A 10, .inr (0, [])), (A 11, .inr (0, [])), (A 12, .inr (0, [])), (A 13, .inr (0, [])), (A 14, .inr (0, [])), (A 15, .inr (0, [])), (A 16, .inr (0, [])), (A 17, .inr (0, [])), (A 18, .inr (0, [])), (A 19, .inr (0, [])), (A 20, .inr (0, [])), (A 21, .inr (0, [])), (A 22, .inr (0, [])), (A 23, .inr (0, [])), (A 24, .inr (0, [])), (A 25, .inr (0, [])), (A 26, .inr (0, [])), (A 27, .inr (0, [])), (A 28, .inr (0, [])), (A 29, .inr (0, [])), (A 30, .inr (0, [])), (A 31, .inr (0, [])), (A 32, .inr (0, [])), (A 33, .inr (0, [])), (A 34, .inr (0, [])), (A 35, .inr (0, [])), (A 36, .inr (0, [])), (A 37, .inr (0, [])), (A 38, .inr (0, [])), (A 1, .inr (0, [])), (A 2, .inr (0, [])), (A 3, .inr (0, [])), (A 4, .inr (0, [])), (A 5, .inr (0, [])), (A 6, .inr (0, [])), (A 39, .inr (0, [])), (A 40, .inr (0, [])), (A 41, .inr (0, [])), (A 42, .inr (0, [])), (A 43, .inr (0, [])), (A 44, .inr (0, [])), (A 45, .inr (0, [])), (A 46, .inr (0, [])), (A 47, .inr (0, [])), (A 48, .inr (0, [])), (A 49, .inr (0, [])), (A 50, .inr (0, []))]
theorem da_D {ws0 ws : va_W} (hA : va_D (fun _ => True) ws0) (h : ws.map Prod.fst = ws0.map Prod.fst) : va_D (inW ws0) ws := by
  have key : ∀ (k : Nat) (q : Nat × va_E), ws[k]? = some q → ∃ e, ws0[k]? = some (q.1, e) := by
    intro k q hq
    have e1 : (ws.map Prod.fst)[k]? = (ws0.map Prod.fst)[k]? := by rw [h]
    rw [List.getElem?_map, List.getElem?_map, hq] at e1
    cases h2 : ws0[k]? with
    | none => rw [h2] at e1; cases e1
    | some z =>
      rw [h2] at e1
      have e3 : q.1 = z.1 := Option.some.inj e1
      exact ⟨z.2, by rw [e3]⟩
  refine ⟨fun i j p q hi hj hpq => ?_, fun k q hk => ?_⟩
  · obtain ⟨e1, h1⟩ := key i p hi
    obtain ⟨e2, h2⟩ := key j q hj
    exact hA.1 i j _ _ h1 h2 hpq
  · obtain ⟨e1, h1⟩ := key k q hk
    exact ⟨k, e1, h1⟩
abbrev srPc (D : va_G) (cI cB cO : ClassId) (A : Nat → Nat) (av : List Value) (n : Nat) (rg : Int32) (bl : Int32) (G : Nat → Int32) (M : Nat → Int32) (hs : List Prf) (tL : Nat) (tc : Nat → Nat) (fk : Nat) (fc : Nat → Nat) : Array Value → State → Prop := va_Pc av (fun U => SRI D cI cB cO A U.heap n rg bl G M hs tL tc fk fc ∧ va_K D vwCl (tyL cI cB cO) U ∧ NW U ∧ va_D (fun _ => True) (adW A))
theorem srBlind {D : va_G} {cI cB cO : ClassId} {A : Nat → Nat} {av : List Value} {n : Nat} {rg bl : Int32} {G M : Nat → Int32} {hs : List Prf} {tL : Nat} {tc : Nat → Nat} {fk : Nat} {fc : Nat → Nat} : FrameBlind (srPc D cI cB cO A av n rg bl G M hs tL tc fk fc) := by
  intro a U g mk q
  obtain ⟨q0, qI, qK, qN, qD⟩ := q
  exact ⟨q0, qI, va_K.moved (u := U) (U := U.calling g mk a) (Vm.Alike.refl U.vm) qK, NW.same (u := U) (U := U.calling g mk a) rfl qN, qD⟩
abbrev srQi {S : Type} (A : Nat → Nat) (post : Int32 → S → Prop) (wo : S → Heap → Prop) : Array Value → State → Outcome → State → Prop := va_Qi post (fun u t => wo u t.heap) (inW (adW A))
abbrev srQl {S : Type} (A : Nat → Nat) (post : Int64 → S → Prop) (wo : S → Heap → Prop) : Array Value → State → Outcome → State → Prop := va_Ql post (fun u t => wo u t.heap) (inW (adW A))
theorem sri_mk {D : va_G} {cI cB cO : ClassId} {A : Nat → Nat} {H : Heap} (n : Nat) (rg : Int32) (bl : Int32) (G : Nat → Int32) (M : Nat → Int32) (hs : List Prf) (tL : Nat) (tc : Nat → Nat) (fk : Nat) (fc : Nat → Nat) (fg : Nat → Int32) (fm : Nat → Int32) (dn : Int32) (dr : Int32) (db : Int32) (dg : Nat → Int32) (dm : Nat → Int32) (jx : Nat) (pn : Nat → Int32) (pr : Nat → Int32) (pb : Nat → Int32) (pg : Nat → Nat → Int32) (pm : Nat → Nat → Int32) (ta : Int32) (tf : Int32) (lt : Nat → Int32) (ff : Nat → Int32) (rs : Int32) (rr : Int32) (rt : Nat → Int32) (rl : Nat → Int32) (rp : Nat → Int32) (rc : Nat → Int32) (cv : Nat → Int32) (cb : Nat → Int32) (hP : va_P D vwCl [(A 0, .inr (6, [.ref (A 1), .ref (A 4), .ref (A 7), .ref (A 39), .ref (A 41), .ref (A 43), .ref (A 48)])), (A 7, .inr (2, [.ref (A 8), .int (nI hs.length), .int (nI jx)])), (A 8, .inl (cO, 10, .inr (.inr (.inr (.inr (fun k => some (A (9 + 3 * k)))))))), (A 9, .inr (3, [.ref (A 10), .ref (A 11), .int (pn 0), .int (pr 0), .int (pb 0)])), (A 10, .inl (cI, 20, .inl (pg 0))), (A 11, .inl (cI, 20, .inl (pm 0))), (A 12, .inr (3, [.ref (A 13), .ref (A 14), .int (pn 1), .int (pr 1), .int (pb 1)])), (A 13, .inl (cI, 20, .inl (pg 1))), (A 14, .inl (cI, 20, .inl (pm 1))), (A 15, .inr (3, [.ref (A 16), .ref (A 17), .int (pn 2), .int (pr 2), .int (pb 2)])), (A 16, .inl (cI, 20, .inl (pg 2))), (A 17, .inl (cI, 20, .inl (pm 2))), (A 18, .inr (3, [.ref (A 19), .ref (A 20), .int (pn 3), .int (pr 3), .int (pb 3)])), (A 19, .inl (cI, 20, .inl (pg 3))), (A 20, .inl (cI, 20, .inl (pm 3))), (A 21, .inr (3, [.ref (A 22), .ref (A 23), .int (pn 4), .int (pr 4), .int (pb 4)])), (A 22, .inl (cI, 20, .inl (pg 4))), (A 23, .inl (cI, 20, .inl (pm 4))), (A 24, .inr (3, [.ref (A 25), .ref (A 26), .int (pn 5), .int (pr 5), .int (pb 5)])), (A 25, .inl (cI, 20, .inl (pg 5))), (A 26, .inl (cI, 20, .inl (pm 5))), (A 27, .inr (3, [.ref (A 28), .ref (A 29), .int (pn 6), .int (pr 6), .int (pb 6)])), (A 28, .inl (cI, 20, .inl (pg 6))), (A 29, .inl (cI, 20, .inl (pm 6))), (A 30, .inr (3, [.ref (A 31), .ref (A 32), .int (pn 7), .int (pr 7), .int (pb 7)])), (A 31, .inl (cI, 20, .inl (pg 7))), (A 32, .inl (cI, 20, .inl (pm 7))), (A 33, .inr (3, [.ref (A 34), .ref (A 35), .int (pn 8), .int (pr 8), .int (pb 8)])), (A 34, .inl (cI, 20, .inl (pg 8))), (A 35, .inl (cI, 20, .inl (pm 8))), (A 36, .inr (3, [.ref (A 37), .ref (A 38), .int (pn 9), .int (pr 9), .int (pb 9)])), (A 37, .inl (cI, 20, .inl (pg 9))), (A 38, .inl (cI, 20, .inl (pm 9))), (A 1, .inr (3, [.ref (A 2), .ref (A 3), .int (nI n), .int rg, .int bl])), (A 2, .inl (cI, 20, .inl fg)), (A 3, .inl (cI, 20, .inl fm)), (A 4, .inr (3, [.ref (A 5), .ref (A 6), .int dn, .int dr, .int db])), (A 5, .inl (cI, 20, .inl dg)), (A 6, .inl (cI, 20, .inl dm)), (A 39, .inr (5, [.ref (A 40), .int (nI tL), .int ta, .int tf])), (A 40, .inl (cB, 120, .inl lt)), (A 41, .inr (1, [.ref (A 42), .int (FZ fk)])), (A 42, .inl (cI, 20, .inl ff)), (A 43, .inr (4, [.ref (A 44), .ref (A 45), .ref (A 46), .ref (A 47), .int rs, .int rr])), (A 44, .inl (cI, 20, .inl rt)), (A 45, .inl (cI, 20, .inl rl)), (A 46, .inl (cI, 20, .inl rp)), (A 47, .inl (cI, 20, .inl rc)), (A 48, .inr (0, [.ref (A 49), .ref (A 50)])), (A 49, .inl (cI, 20, .inl cv)), (A 50, .inl (cI, 21, .inl cb))] H) (hjx : jx < 10) (hsl : hs.length ≤ 10) (hR : RngR jx pn pr pb pg pm hs) (hG : ∀ k, k < n → fg k = G k) (hM : ∀ k, k < n → fm k = M k) (hlt : ∀ j, j < tL → lt j = nI (tc j)) (hff : ∀ j, j + 1 < fk → ff j = nI (fc j)) (hcb : cb 0 = 0) : SRI D cI cB cO A H n rg bl G M hs tL tc fk fc := ⟨fg, fm, dn, dr, db, dg, dm, jx, pn, pr, pb, pg, pm, ta, tf, lt, ff, rs, rr, rt, rl, rp, rc, cv, cb, hP, hjx, hsl, hR, hG, hM, hlt, hff, hcb⟩
theorem retI {D : va_G} {cI cB cO : ClassId} {A : Nat → Nat} {H : Heap} {n : Nat} {rg bl : Int32} {G M : Nat → Int32} {hs : List Prf} {tL : Nat} {tc : Nat → Nat} {fk : Nat} {fc : Nat → Nat} {t : State} (h : t.heap = H) (hI : SRI D cI cB cO A H n rg bl G M hs tL tc fk fc) : SRI D cI cB cO A t.heap n rg bl G M hs tL tc fk fc := by rw [h]; exact hI
theorem va_D_fst {A : Nat → Prop} {ws ws' : va_W} (h : ws'.map Prod.fst = ws.map Prod.fst) (hD : va_D A ws) : va_D A ws' := by
  have key : ∀ (k : Nat) (q : Nat × va_E), ws'[k]? = some q → ∃ e, ws[k]? = some (q.1, e) := by
    intro k q hq
    have e1 : (ws'.map Prod.fst)[k]? = (ws.map Prod.fst)[k]? := by rw [h]
    rw [List.getElem?_map, List.getElem?_map, hq] at e1
    cases h2 : ws[k]? with
    | none => rw [h2] at e1; cases e1
    | some z =>
      rw [h2] at e1
      have e3 : q.1 = z.1 := Option.some.inj e1
      exact ⟨z.2, by rw [e3]⟩
  refine ⟨fun i j p q hi hj hpq => ?_, fun k q hk => ?_⟩
  · obtain ⟨e1, h1⟩ := key i p hi
    obtain ⟨e2, h2⟩ := key j q hj
    exact hD.1 i j _ _ h1 h2 hpq
  · obtain ⟨e1, h1⟩ := key k q hk
    exact hD.2 k (q.1, e1) h1
theorem wa_P {D : va_G} {cl : List vw_C} {pre wc suf : va_W} {H : Heap} (hP : va_P D cl (pre ++ (wc ++ suf)) H) : va_P D cl wc H := by
  intro k q hk
  have hl := (List.getElem?_eq_some_iff.mp hk).1
  refine hP (pre.length + k) q ?_
  rw [List.getElem?_append_right (by omega), Nat.add_sub_cancel_left, List.getElem?_append_left hl]
  exact hk
theorem wa_D {A : Nat → Prop} {pre wc suf : va_W} (hD : va_D A (pre ++ (wc ++ suf))) : va_D A wc := by
  have key : ∀ (k : Nat) (q : Nat × va_E), wc[k]? = some q → (pre ++ (wc ++ suf))[pre.length + k]? = some q := by
    intro k q hk
    have hl := (List.getElem?_eq_some_iff.mp hk).1
    rw [List.getElem?_append_right (by omega), Nat.add_sub_cancel_left, List.getElem?_append_left hl]
    exact hk
  refine ⟨fun i j p q hi hj hpq => ?_, fun k q hk => hD.2 _ q (key k q hk)⟩
  have := hD.1 _ _ p q (key i p hi) (key j q hj) hpq
  omega
theorem wa_join {A0 : Nat → Prop} {D : va_G} {cl : List vw_C} {pre wc suf w1 : va_W} {H H1 : Heap} (hP : va_P D cl (pre ++ (wc ++ suf)) H) (hD : va_D A0 (pre ++ (wc ++ suf)))
    (hk : ∀ q : Nat, q < H.size → ¬ inW wc q → H1[q]? = H[q]?) (hP1 : va_P D cl w1 H1) (ha : w1.map Prod.fst = wc.map Prod.fst) : va_P D cl (pre ++ (w1 ++ suf)) H1 ∧ va_D A0 (pre ++ (w1 ++ suf)) := by
  have hlen : w1.length = wc.length := by have := congrArg List.length ha; simpa using this
  have out : ∀ (k : Nat) (q : Nat × va_E), (pre ++ (wc ++ suf))[k]? = some q → (k < pre.length ∨ pre.length + wc.length ≤ k) → va_at D cl q H1 := by
    intro k q hq hor
    refine (hP k q hq).kept (hk q.1 (hP k q hq).lt (fun hin => ?_))
    obtain ⟨j, e, hj⟩ := hin
    have hl := (List.getElem?_eq_some_iff.mp hj).1
    have h2 : (pre ++ (wc ++ suf))[pre.length + j]? = some (q.1, e) := by
      rw [List.getElem?_append_right (by omega), Nat.add_sub_cancel_left, List.getElem?_append_left hl]
      exact hj
    have := hD.1 k (pre.length + j) q (q.1, e) hq h2 rfl
    omega
  constructor
  · intro k q hq
    rcases Nat.lt_or_ge k pre.length with h | h
    · rw [List.getElem?_append_left h] at hq
      exact out k q (by rw [List.getElem?_append_left h]; exact hq) (Or.inl h)
    · rw [List.getElem?_append_right h] at hq
      rcases Nat.lt_or_ge (k - pre.length) w1.length with h2 | h2
      · rw [List.getElem?_append_left h2] at hq
        exact hP1 _ q hq
      · rw [List.getElem?_append_right h2] at hq
        refine out k q ?_ (Or.inr (by omega))
        rw [List.getElem?_append_right h, List.getElem?_append_right (by omega), ← hlen]
        exact hq
  · refine va_D_fst ?_ hD
    rw [List.map_append, List.map_append, List.map_append, List.map_append, ha]
section CALLS3
variable {p : Program} {l : Launch} {e : Env} {R : Room} {s : State} {m : MethodId} {args : Array Value} {below : List Frame} {meth : Method} {c : Code} {H : Heap} {locs : List Loc} {cells slots : Nat} {Q : State → Prop}
  {st0 rest : List Value} {ls : Array Slot} {pc : Nat} {D : va_G} {pre wc suf : va_W} {A0 : Nat → Prop} {H0 : Heap}
theorem wa_in {A0 : Nat → Prop} {pre wc suf : va_W} (hD : va_D A0 (pre ++ (wc ++ suf))) : ∀ q, inW wc q → A0 q := fun q h => by
  obtain ⟨k, e, hk⟩ := h
  exact (wa_D hD).2 k (q, e) hk
theorem wa_callv {S : Type} {post : S → Prop} {wo : S → va_W} {a : Array Value} (hP : va_P D vwCl (pre ++ (wc ++ suf)) H) (hD : va_D A0 (pre ++ (wc ++ suf))) (hS : va_S A0 H0 H locs)
    (hr : va_Run p l e R s m args below meth c H locs cells slots 0 0 (F0 m pc ls st0) rest (wrQv D wc post wo a) (inW wc)) (wn : S → va_W) (hw : ∀ u, pre ++ (wo u ++ suf) = wn u) (ha : ∀ u, (wo u).map Prod.fst = wc.map Prod.fst)
    (kk : ∀ (u : S) (H1 : Heap) (locs1 : List Loc), post u → va_P D vwCl (wn u) H1 → va_D A0 (wn u) → va_S A0 H0 H1 locs1 → W p l e R s m args below meth c H1 locs1 cells slots Q (F0 m (pc + 3) ls rest)) : W p l e R s m args below meth c H locs cells slots Q (F0 m pc ls st0) :=
  va_callv hr hS (fun q _ h => wa_in hD q h) (fun q h => wa_in hD q h) (fun u t H1 locs1 ht _ hp hB _ hk hS1 => by
    obtain ⟨h1, h2⟩ := wa_join hP hD hk (by rw [← ht]; exact hB) (ha u)
    rw [hw u] at h1 h2
    exact kk u H1 locs1 hp h1 h2 hS1)
theorem wa_calli {S : Type} {post : Int32 → S → Prop} {wo : S → va_W} {a : Array Value} (hP : va_P D vwCl (pre ++ (wc ++ suf)) H) (hD : va_D A0 (pre ++ (wc ++ suf))) (hS : va_S A0 H0 H locs)
    (hr : va_Run p l e R s m args below meth c H locs cells slots 0 0 (F0 m pc ls st0) rest (wrQi D wc post wo a) (inW wc)) (wn : S → va_W) (hw : ∀ u, pre ++ (wo u ++ suf) = wn u) (ha : ∀ u, (wo u).map Prod.fst = wc.map Prod.fst)
    (kk : ∀ (r : Int32) (u : S) (H1 : Heap) (locs1 : List Loc), post r u → va_P D vwCl (wn u) H1 → va_D A0 (wn u) → va_S A0 H0 H1 locs1 → W p l e R s m args below meth c H1 locs1 cells slots Q (F0 m (pc + 3) ls (.int r :: rest))) : W p l e R s m args below meth c H locs cells slots Q (F0 m pc ls st0) :=
  va_calli hr hS (fun q _ h => wa_in hD q h) (fun q h => wa_in hD q h) (fun r u t H1 locs1 ht _ hp hB _ hk hS1 => by
    obtain ⟨h1, h2⟩ := wa_join hP hD hk (by rw [← ht]; exact hB) (ha u)
    rw [hw u] at h1 h2
    exact kk r u H1 locs1 hp h1 h2 hS1)
end CALLS3
theorem nxR_lt {k : Nat} : nxR k < 10 := by unfold nxR; split <;> omega
theorem pvR_lt {k : Nat} (h : k < 10) : pvR k < 10 := by unfold pvR; split <;> omega
theorem take10_le {α : Type} (l : List α) : (l.take 10).length ≤ 10 := by rw [List.length_take]; omega
theorem take10_len {α : Type} (x : α) (l : List α) : ((x :: l).take 10).length = min (l.length + 1) 10 := by rw [List.length_take, List.length_cons, Nat.min_comm]
theorem RngR_keep {jx n : Nat} {rg bl : Int32} {fg fm G M : Nat → Int32} {pn pr pb : Nat → Int32} {pg pm : Nat → Nat → Int32} {hs : List Prf} (hj : jx < 10) (h : RngR jx pn pr pb pg pm hs) (hG : ∀ k, k < n → fg k = G k) (hM : ∀ k, k < n → fm k = M k) :
    RngR (nxR jx) (va_up pn jx (nI n)) (va_up pr jx rg) (va_up pb jx bl) (va_up pg jx (cpy n fg (pg jx))) (va_up pm jx (cpy n fm (pm jx))) (((n, rg, bl, G, M) :: hs).take 10) := by
  intro i P hi
  have hi9 : i < 10 := by
    have := (List.getElem?_eq_some_iff.mp hi).1
    rw [List.length_take] at this
    omega
  rw [List.getElem?_take, if_pos hi9] at hi
  cases i with
  | zero =>
    rw [List.getElem?_cons_zero] at hi
    cases hi
    have e : bkR (nxR jx) 0 = jx := by unfold bkR nxR; split <;> omega
    rw [e]
    unfold va_up
    simp only [if_true]
    exact ⟨rfl, rfl, rfl, fun k hk => (cpy_in hk _ _).trans (hG k hk), fun k hk => (cpy_in hk _ _).trans (hM k hk)⟩
  | succ i =>
    rw [List.getElem?_cons_succ] at hi
    have e : bkR (nxR jx) (i + 1) = bkR jx i := by unfold bkR nxR; split <;> omega
    have ne : bkR jx i ≠ jx := by unfold bkR; omega
    rw [e]
    unfold va_up
    simp only [if_neg ne]
    exact h i P hi
theorem RngR_undo {jx : Nat} {pn pr pb : Nat → Int32} {pg pm : Nat → Nat → Int32} {P : Prf} {t : List Prf} (hj : jx < 10) (hl : (P :: t).length ≤ 10) (h : RngR jx pn pr pb pg pm (P :: t)) :
    RngR (pvR jx) pn pr pb pg pm t ∧ RepP (pn (pvR jx)) (pr (pvR jx)) (pb (pvR jx)) (pg (pvR jx)) (pm (pvR jx)) P := by
  constructor
  · intro i Q hi
    have hi9 : i < t.length := (List.getElem?_eq_some_iff.mp hi).1
    rw [List.length_cons] at hl
    have h2 := h (i + 1) Q (by rw [List.getElem?_cons_succ]; exact hi)
    have e : bkR jx (i + 1) = bkR (pvR jx) i := by unfold bkR pvR; split <;> omega
    rw [e] at h2
    exact h2
  · have h2 := h 0 P rfl
    have e : bkR jx 0 = pvR jx := by unfold bkR pvR; split <;> omega
    rw [e] at h2
    exact h2
