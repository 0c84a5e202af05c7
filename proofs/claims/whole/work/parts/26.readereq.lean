/-! the reference's reader answers as the class' reader -/
def mLp (cc : Nat → Nat) (L : Nat) : Nat → Nat → PrT → Nat × PrT
  | 0, _, z => (0, z)
  | k + 1, a, z => if (mSt cc L a z).2.1 = 0 ∧ chB cc L (mSt cc L a z).1 44 = true then mLp cc L k (skp cc L ((mSt cc L a z).1 + 1)) (mSt cc L a z).2.2 else ((if (mSt cc L a z).2.1 = 0 ∧ (mSt cc L a z).1 < L then (mSt cc L a z).1 + 1 else (mSt cc L a z).2.1), (mSt cc L a z).2.2)
theorem mLp_T {cc : Nat → Nat} {L k a : Nat} {z : PrT} (h : (mSt cc L a z).2.1 = 0 ∧ chB cc L (mSt cc L a z).1 44 = true) : mLp cc L (k + 1) a z = mLp cc L k (skp cc L ((mSt cc L a z).1 + 1)) (mSt cc L a z).2.2 := by rw [mLp, if_pos h]
theorem mLp_F {cc : Nat → Nat} {L k a : Nat} {z : PrT} (h : ¬ ((mSt cc L a z).2.1 = 0 ∧ chB cc L (mSt cc L a z).1 44 = true)) : mLp cc L (k + 1) a z = ((if (mSt cc L a z).2.1 = 0 ∧ (mSt cc L a z).1 < L then (mSt cc L a z).1 + 1 else (mSt cc L a z).2.1), (mSt cc L a z).2.2) := by rw [mLp, if_neg h]
theorem mSt_ge (cc : Nat → Nat) (L a : Nat) (z : PrT) : a ≤ (mSt cc L a z).1 := by
  have hN : ∀ lo h b, b ≤ (mNum cc L lo h b).1 := fun lo h b => Nat.le_trans (num_le cc L b).1 (skp_ge cc L _)
  have hO : ∀ v lo h d b f, b ≤ (mOpt cc L v lo h d b f).1 := by
    intro v lo h d b f
    unfold mOpt
    by_cases q : f = 0 ∧ chB cc L b v = true
    · rw [if_pos q]
      have h1 := skp_ge cc L (b + 1)
      have h2 := hN lo h (skp cc L (b + 1))
      omega
    · rw [if_neg q]; exact Nat.le_refl b
  unfold mSt
  by_cases q : z.1 = 20
  · rw [if_pos q]; exact Nat.le_refl a
  · rw [if_neg q]
    exact Nat.le_trans (hN 0 1000 a) (Nat.le_trans (hO 42 1 (20 - z.1 + 1) 1 _ _) (hO 109 1 201 0 _ _))
theorem mLp_fuel {cc : Nat → Nat} {L : Nat} : ∀ (k j a : Nat) (z : PrT), L - a < k → L - a < j → mLp cc L k a z = mLp cc L j a z
  | 0, j, a, z, h, _ => absurd h (Nat.not_lt_zero _)
  | k + 1, 0, a, z, _, h => absurd h (Nat.not_lt_zero _)
  | k + 1, j + 1, a, z, h1, h2 => by
    by_cases q : (mSt cc L a z).2.1 = 0 ∧ chB cc L (mSt cc L a z).1 44 = true
    · rw [mLp_T q, mLp_T q]
      have h3 := mSt_ge cc L a z
      have h4 := skp_ge cc L ((mSt cc L a z).1 + 1)
      have h5 : (mSt cc L a z).1 < L := (of_decide_eq_true q.2).1
      exact mLp_fuel k j _ _ (by omega) (by omega)
    · rw [mLp_F q, mLp_F q]
def mRd (cc : Nat → Nat) (L : Nat) (z : PrT) : Nat × PrT := if (mSt cc L (skp cc L 0) z).2.1 = 0 ∧ chB cc L (mSt cc L (skp cc L 0) z).1 44 = true then mLp cc L (L + 1) (skp cc L ((mSt cc L (skp cc L 0) z).1 + 1)) (mSt cc L (skp cc L 0) z).2.2 else ((if (mSt cc L (skp cc L 0) z).2.1 = 0 then (mSt cc L (skp cc L 0) z).1 + 1 else (mSt cc L (skp cc L 0) z).2.1), (mSt cc L (skp cc L 0) z).2.2)
theorem flN_keep {f a j v lo h : Nat} (hf : ¬ f = 0) : flN f a j v lo h = f := if_neg (fun q => hf q.1)
theorem cOpt_keep {cc : Nat → Nat} {L v lo h d a f : Nat} (hf : ¬ f = 0) : (cOpt cc L v lo h d a f).2.1 = f := by
  unfold cOpt
  by_cases q : chB cc L a v = true
  · rw [if_pos q]; exact flN_keep hf
  · rw [if_neg q]
theorem dg_ne {cc : Nat → Nat} {L a v : Nat} (hv : v < 48 ∨ 57 < v) (h : dgB cc L a = true) : chB cc L a v = false := by
  have h1 := of_decide_eq_true h
  exact decide_eq_false (fun q => by omega)
theorem cOpt_stuck {cc : Nat → Nat} {L v lo h d a : Nat} (hv : v < 48 ∨ 57 < v) (hd : dgB cc L a = true) : cOpt cc L v lo h d a 0 = (a, 0, d) := by
  unfold cOpt; rw [if_neg (by rw [dg_ne hv hd]; exact Bool.false_ne_true)]
/-- as far as a part is read: alike, or the class has yet to stumble over a digit too many -/
def rdRel (cc : Nat → Nat) (L : Nat) (c m : Nat × Nat × Nat) : Prop := (m.2.1 = 0 → c = m) ∧ (¬ m.2.1 = 0 → c.2.1 = m.2.1 ∨ (c.2.1 = 0 ∧ c.1 + 1 = m.2.1 ∧ dgB cc L c.1 = true))
theorem num_rel {cc : Nat → Nat} {L lo h a : Nat} : rdRel cc L (cNum cc L 0 lo h a) (mNum cc L lo h a) := by
  constructor
  · intro q
    obtain ⟨q1, q2⟩ := mfN_0 q
    show (_, _, _) = (_, _, _)
    rw [q1, show mfN cc L a lo h = 0 from q]
  · intro q
    by_cases q1 : flN 0 a (num cc L a).1 (num cc L a).2 lo h = 0
    · cases q2 : dgB cc L (num cc L a).1 with
      | false =>
        refine absurd ?_ q
        show mfN cc L a lo h = 0
        unfold mfN
        rw [if_neg (fun z => Bool.false_ne_true (q2.symm.trans z.2))]
        exact q1
      | true =>
        have e : skp cc L (num cc L a).1 = (num cc L a).1 := skp_e (dg_ne (Or.inl (by decide)) q2)
        refine Or.inr ⟨q1, ?_, ?_⟩
        · show skp cc L (num cc L a).1 + 1 = mfN cc L a lo h
          unfold mfN
          rw [if_pos ⟨q1, q2⟩, e]
        · show dgB cc L (skp cc L (num cc L a).1) = true
          rw [e]; exact q2
    · refine Or.inl ?_
      show flN 0 a (num cc L a).1 (num cc L a).2 lo h = mfN cc L a lo h
      unfold mfN
      rw [if_neg (fun z => q1 z.1)]
theorem opt_rel {cc : Nat → Nat} {L v lo h d : Nat} {c m : Nat × Nat × Nat} (hv : v < 48 ∨ 57 < v) (hr : rdRel cc L c m) : rdRel cc L (cOpt cc L v lo h d c.1 c.2.1) (mOpt cc L v lo h d m.1 m.2.1) := by
  by_cases q : m.2.1 = 0
  · rw [hr.1 q, q]
    unfold cOpt mOpt
    by_cases q2 : chB cc L m.1 v = true
    · rw [if_pos q2, if_pos ⟨rfl, q2⟩]; exact num_rel
    · rw [if_neg q2, if_neg (fun z => q2 z.2)]
      exact ⟨fun _ => rfl, fun z => absurd rfl z⟩
  · have em : mOpt cc L v lo h d m.1 m.2.1 = (m.1, m.2.1, d) := by unfold mOpt; rw [if_neg (fun z => q z.1)]
    rw [em]
    refine ⟨fun z => absurd z q, fun _ => ?_⟩
    rcases hr.2 q with h1 | ⟨h1, h2, h3⟩
    · exact Or.inl ((cOpt_keep (by rw [h1]; exact q)).trans h1)
    · rw [h1, cOpt_stuck hv h3]
      exact Or.inr ⟨rfl, h2, h3⟩
theorem gr_rel {cc : Nat → Nat} {L n a : Nat} (hn : n < 20) : rdRel cc L (cGr cc L n a) (mGr cc L a) := by unfold cGr mGr; rw [if_pos hn]; exact num_rel
theorem tm_rel {cc : Nat → Nat} {L n a : Nat} (hn : n < 20) : rdRel cc L (cTm cc L n a) (mTm cc L n a) := opt_rel (Or.inl (by decide)) (gr_rel hn)
theorem ms_rel {cc : Nat → Nat} {L n a : Nat} (hn : n < 20) : rdRel cc L (cMs cc L n a) (mMs cc L n a) := opt_rel (Or.inr (by decide)) (tm_rel hn)
theorem mTm_f0 {cc : Nat → Nat} {L n a : Nat} (q : (mMs cc L n a).2.1 = 0) : (mTm cc L n a).2.1 = 0 ∧ (mGr cc L a).2.1 = 0 := ⟨(mOpt_0 q).1, (mOpt_0 (mOpt_0 q).1).1⟩
theorem cMs_room {cc : Nat → Nat} {L a : Nat} : (cMs cc L 20 a).2.1 = a + 1 := by
  have h1 : (cGr cc L 20 a).2.1 = a + 1 := if_pos ⟨rfl, Or.inr (fun q => absurd q.2 (by rw [if_neg (by decide)]; exact Nat.not_lt_zero _))⟩
  have h2 : (cTm cc L 20 a).2.1 = a + 1 := (cOpt_keep (by rw [h1]; omega)).trans h1
  exact (cOpt_keep (by rw [h2]; omega)).trans h2
theorem mMs_far {cc : Nat → Nat} {L n a : Nat} (q : (mMs cc L n a).2.1 = 0) : a + 1 ≤ (mMs cc L n a).1 := by
  have hN : ∀ lo h b, b ≤ (mNum cc L lo h b).1 := fun lo h b => Nat.le_trans (num_le cc L b).1 (skp_ge cc L _)
  have hO : ∀ v lo h d b f, b ≤ (mOpt cc L v lo h d b f).1 := by
    intro v lo h d b f
    unfold mOpt
    by_cases q : f = 0 ∧ chB cc L b v = true
    · rw [if_pos q]
      have h1 := skp_ge cc L (b + 1)
      have h2 := hN lo h (skp cc L (b + 1))
      omega
    · rw [if_neg q]; exact Nat.le_refl b
  have h0 := (flN_0 (mfN_0 (mTm_f0 q).2).1).2.1
  have h1 := (num_le cc L a).1
  have h2 : (num cc L a).1 ≤ (mGr cc L a).1 := skp_ge cc L _
  have h3 : (mGr cc L a).1 ≤ (mTm cc L n a).1 := hO _ _ _ _ _ _
  have h4 : (mTm cc L n a).1 ≤ (mMs cc L n a).1 := hO _ _ _ _ _ _
  omega
theorem add_eq {cc : Nat → Nat} {L a : Nat} {z : PrT} (hn : z.1 < 20) (q : (mMs cc L z.1 a).2.1 = 0) : cAdd cc L a z = (mSt cc L a z).2.2 := by
  have e1 := (ms_rel (cc := cc) (L := L) (a := a) hn).1 q
  have e2 := (tm_rel (cc := cc) (L := L) (a := a) hn).1 (mTm_f0 q).1
  have e3 := (gr_rel (cc := cc) (L := L) (a := a) hn).1 (mTm_f0 q).2
  unfold cAdd mSt
  rw [e1, e2, e3, if_pos q, if_neg (show ¬ z.1 = 20 by omega)]
  first | done | rfl
theorem rd_eq {cc : Nat → Nat} {L : Nat} (hL : L ≤ 120) : ∀ (k : Nat) (fst : Bool) (a : Nat) (z : PrT), L - a < 2 * k → a ≤ L → z.1 ≤ 20 →
    (cRd cc L k fst a z).1 = (if (mSt cc L a z).2.1 = 0 ∧ chB cc L (mSt cc L a z).1 44 = true then mLp cc L (L + 1) (skp cc L ((mSt cc L a z).1 + 1)) (mSt cc L a z).2.2 else ((if (mSt cc L a z).2.1 = 0 ∧ (fst = true ∨ (mSt cc L a z).1 < L) then (mSt cc L a z).1 + 1 else (mSt cc L a z).2.1), (mSt cc L a z).2.2)).1 ∧
    ((cRd cc L k fst a z).1 = 0 → (cRd cc L k fst a z).2 = (if (mSt cc L a z).2.1 = 0 ∧ chB cc L (mSt cc L a z).1 44 = true then mLp cc L (L + 1) (skp cc L ((mSt cc L a z).1 + 1)) (mSt cc L a z).2.2 else ((if (mSt cc L a z).2.1 = 0 ∧ (fst = true ∨ (mSt cc L a z).1 < L) then (mSt cc L a z).1 + 1 else (mSt cc L a z).2.1), (mSt cc L a z).2.2)).2)
  | 0, fst, a, z, hk, _, _ => absurd hk (by omega)
  | k + 1, fst, a, z, hk, ha, hz => by
    by_cases hn : z.1 = 20
    · have e1 : (mSt cc L a z).2.1 = a + 1 := by unfold mSt; rw [if_pos hn]
      have e2 : (cMs cc L z.1 a).2.1 = a + 1 := by rw [hn]; exact cMs_room
      have e3 : cRd cc L (k + 1) fst a z = ((cMs cc L z.1 a).2.1, cAdd cc L a z) := by
        rw [cRd]
        by_cases q : fst = false ∧ (cMs cc L z.1 a).1 = L
        · rw [if_pos q]
        · rw [if_neg q, if_neg (by rw [e2]; omega)]
      rw [if_neg (fun q => by rw [e1] at q; omega), if_neg (fun q => by rw [e1] at q; omega), e3, e1, e2]
      exact ⟨rfl, fun q => absurd q (by omega)⟩
    · have hn2 : z.1 < 20 := by omega
      have eS : mSt cc L a z = ((mMs cc L z.1 a).1, (mMs cc L z.1 a).2.1, (mSt cc L a z).2.2) := by unfold mSt; rw [if_neg hn]
      have eS1 : (mSt cc L a z).1 = (mMs cc L z.1 a).1 := congrArg (fun q => q.1) eS
      have eS2 : (mSt cc L a z).2.1 = (mMs cc L z.1 a).2.1 := congrArg (fun q => q.2.1) eS
      have hle := mMs_le (cc := cc) (n := z.1) ha
      by_cases q : (mMs cc L z.1 a).2.1 = 0
      · have e1 := (ms_rel (cc := cc) (L := L) (a := a) hn2).1 q
        have eA := add_eq hn2 q
        have hfar := mMs_far q
        by_cases c44 : chB cc L (mMs cc L z.1 a).1 44 = true
        · have hlt : (mMs cc L z.1 a).1 < L := (of_decide_eq_true c44).1
          have hsk := skp_ge cc L ((mMs cc L z.1 a).1 + 1)
          have hz2 : (mSt cc L a z).2.2.1 ≤ 20 := (mSt_le ha hz).2.2
          have hsl : skp cc L ((mMs cc L z.1 a).1 + 1) ≤ L := skp_le hlt
          have e3 : cRd cc L (k + 1) fst a z = cRd cc L k false (skp cc L ((mMs cc L z.1 a).1 + 1)) (mSt cc L a z).2.2 := by
            rw [cRd, e1, if_neg (fun z => by omega), if_pos q, if_pos c44, eA]
          have ih := rd_eq (cc := cc) hL k false (skp cc L ((mMs cc L z.1 a).1 + 1)) (mSt cc L a z).2.2 (by omega) hsl hz2
          rw [eS1, eS2, if_pos ⟨q, c44⟩, e3]
          have e4 : ∀ (b : Nat) (w : PrT), b ≤ L → mLp cc L (L + 1) b w = (if (mSt cc L b w).2.1 = 0 ∧ chB cc L (mSt cc L b w).1 44 = true then mLp cc L (L + 1) (skp cc L ((mSt cc L b w).1 + 1)) (mSt cc L b w).2.2 else ((if (mSt cc L b w).2.1 = 0 ∧ (false = true ∨ (mSt cc L b w).1 < L) then (mSt cc L b w).1 + 1 else (mSt cc L b w).2.1), (mSt cc L b w).2.2)) := by
            intro b w hb
            by_cases q5 : (mSt cc L b w).2.1 = 0 ∧ chB cc L (mSt cc L b w).1 44 = true
            · rw [mLp_T q5, if_pos q5]
              have g1 := mSt_ge cc L b w
              have g2 := skp_ge cc L ((mSt cc L b w).1 + 1)
              have g3 : (mSt cc L b w).1 < L := (of_decide_eq_true q5.2).1
              exact mLp_fuel _ _ _ _ (by omega) (by omega)
            · rw [mLp_F q5, if_neg q5]
              simp
          rw [e4 _ _ hsl]
          exact ih
        · have c44f : chB cc L (mMs cc L z.1 a).1 44 = false := Bool.eq_false_iff.mpr c44
          rw [eS1, eS2, if_neg (fun z => c44 z.2)]
          by_cases q6 : fst = false ∧ (mMs cc L z.1 a).1 = L
          · have e3 : cRd cc L (k + 1) fst a z = ((mMs cc L z.1 a).2.1, (mSt cc L a z).2.2) := by rw [cRd, e1, if_pos q6, eA]
            rw [e3, if_neg (fun z => by rcases z.2 with z | z; (rw [q6.1] at z; cases z); omega)]
            exact ⟨rfl, fun _ => rfl⟩
          · have e3 : cRd cc L (k + 1) fst a z = ((mMs cc L z.1 a).1 + 1, (mSt cc L a z).2.2) := by rw [cRd, e1, if_neg q6, if_pos q, if_neg c44, eA]
            have q7 : fst = true ∨ (mMs cc L z.1 a).1 < L := by
              rcases Bool.eq_false_or_eq_true fst with h | h
              · exact Or.inl h
              · exact Or.inr (by have := hle.1; have : ¬ (mMs cc L z.1 a).1 = L := fun z => q6 ⟨h, z⟩; omega)
            rw [e3, if_pos ⟨q, q7⟩]
            exact ⟨rfl, fun _ => rfl⟩
      · have q2 := (ms_rel (cc := cc) (L := L) (a := a) hn2).2 q
        rw [eS1, eS2, if_neg (fun z => q z.1), if_neg (fun z => q z.1)]
        rcases q2 with h1 | ⟨h1, h2, h3⟩
        · have e3 : cRd cc L (k + 1) fst a z = ((cMs cc L z.1 a).2.1, cAdd cc L a z) := by
            rw [cRd]
            by_cases q7 : fst = false ∧ (cMs cc L z.1 a).1 = L
            · rw [if_pos q7]
            · rw [if_neg q7, if_neg (by rw [h1]; exact q)]
          rw [e3, h1]
          exact ⟨rfl, fun z => absurd z q⟩
        · have h4 := (of_decide_eq_true h3).1
          have e3 : cRd cc L (k + 1) fst a z = ((cMs cc L z.1 a).1 + 1, cAdd cc L a z) := by
            rw [cRd, if_neg (fun z => by omega), if_pos h1, if_neg (by rw [dg_ne (Or.inl (by decide)) h3]; exact Bool.false_ne_true)]
          rw [e3, h2]
          exact ⟨rfl, fun z => absurd z q⟩
/-- what the reference's reader finds, and what the text says -/
theorem mRd_LD {cc : Nat → Nat} {L : Nat} (hL : L ≤ 120) (f g : Nat → Int32) : (mRd cc L (0, f, g)).1 = (LD cc L).1 ∧ ((LD cc L).1 = 0 → (mRd cc L (0, f, g)).2.1 = (LD cc L).2.1 ∧ (∀ j, j < (LD cc L).2.1 → (mRd cc L (0, f, g)).2.2.1 j = (LD cc L).2.2.1 j) ∧ (∀ j, j < (LD cc L).2.1 → (mRd cc L (0, f, g)).2.2.2 j = (LD cc L).2.2.2 j)) := by
  have h0 : skp cc L 0 ≤ L := skp_le (Nat.zero_le L)
  obtain ⟨h1, h2⟩ := rd_eq (cc := cc) hL 120 true (skp cc L 0) (0, f, g) (by omega) h0 (Nat.zero_le _)
  obtain ⟨c1, c2, c3, c4⟩ := LD_cong cc L f g
  have e : mRd cc L (0, f, g) = (if (mSt cc L (skp cc L 0) (0, f, g)).2.1 = 0 ∧ chB cc L (mSt cc L (skp cc L 0) (0, f, g)).1 44 = true then mLp cc L (L + 1) (skp cc L ((mSt cc L (skp cc L 0) (0, f, g)).1 + 1)) (mSt cc L (skp cc L 0) (0, f, g)).2.2 else ((if (mSt cc L (skp cc L 0) (0, f, g)).2.1 = 0 ∧ (true = true ∨ (mSt cc L (skp cc L 0) (0, f, g)).1 < L) then (mSt cc L (skp cc L 0) (0, f, g)).1 + 1 else (mSt cc L (skp cc L 0) (0, f, g)).2.1), (mSt cc L (skp cc L 0) (0, f, g)).2.2)) := by
    unfold mRd
    simp
  rw [e]
  refine ⟨h1.symm.trans c1, fun q => ?_⟩
  have q2 := h2 (c1.trans q)
  rw [← q2]
  exact ⟨c2, fun j hj => c3 j (by rw [c2]; exact hj), fun j hj => c4 j (by rw [c2]; exact hj)⟩
