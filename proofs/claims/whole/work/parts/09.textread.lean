/-! Text: the reader, as the class has it -/
theorem flN_le {f a j v lo h L : Nat} (hf : f ≤ L + 1) (ha : a ≤ L) : flN f a j v lo h ≤ L + 1 := by unfold flN; split <;> omega
/-- a number and the blanks behind it: the place behind, the flaw, the value -/
def cNum (cc : Nat → Nat) (L f lo h a : Nat) : Nat × Nat × Nat := (skp cc L (num cc L a).1, flN f a (num cc L a).1 (num cc L a).2 lo h, (num cc L a).2)
/-- a sign and a number behind it, if the sign stands there -/
def cOpt (cc : Nat → Nat) (L v lo h d a f : Nat) : Nat × Nat × Nat := if chB cc L a v = true then cNum cc L f lo h (skp cc L (a + 1)) else (a, f, d)
def cGr (cc : Nat → Nat) (L n a : Nat) : Nat × Nat × Nat := cNum cc L 0 0 (if n < 20 then 1000 else 0) a
def cTm (cc : Nat → Nat) (L n a : Nat) : Nat × Nat × Nat := cOpt cc L 42 1 (20 - n + 1) 1 (cGr cc L n a).1 (cGr cc L n a).2.1
def cMs (cc : Nat → Nat) (L n a : Nat) : Nat × Nat × Nat := cOpt cc L 109 1 201 0 (cTm cc L n a).1 (cTm cc L n a).2.1
theorem cNum_le {cc : Nat → Nat} {L f lo h a : Nat} (hf : f ≤ L + 1) (ha : a ≤ L) : (cNum cc L f lo h a).1 ≤ L ∧ (cNum cc L f lo h a).2.1 ≤ L + 1 := ⟨skp_le ((num_le cc L a).2.2 ha), flN_le hf ha⟩
theorem cOpt_le {cc : Nat → Nat} {L v lo h d f a : Nat} (hf : f ≤ L + 1) (ha : a ≤ L) : (cOpt cc L v lo h d a f).1 ≤ L ∧ (cOpt cc L v lo h d a f).2.1 ≤ L + 1 := by
  unfold cOpt
  by_cases h1 : chB cc L a v = true
  · rw [if_pos h1]; exact cNum_le hf (skp_le (of_decide_eq_true h1).1)
  · rw [if_neg h1]; exact ⟨ha, hf⟩
theorem cGr_le {cc : Nat → Nat} {L n a : Nat} (ha : a ≤ L) : (cGr cc L n a).1 ≤ L ∧ (cGr cc L n a).2.1 ≤ L + 1 := cNum_le (by omega) ha
theorem cTm_le {cc : Nat → Nat} {L n a : Nat} (ha : a ≤ L) : (cTm cc L n a).1 ≤ L ∧ (cTm cc L n a).2.1 ≤ L + 1 := cOpt_le (cGr_le ha).2 (cGr_le ha).1
theorem cMs_le {cc : Nat → Nat} {L n a : Nat} (ha : a ≤ L) : (cMs cc L n a).1 ≤ L ∧ (cMs cc L n a).2.1 ≤ L + 1 := cOpt_le (cTm_le ha).2 (cTm_le ha).1
theorem flN_0 {f a j v lo h : Nat} (q : flN f a j v lo h = 0) : f = 0 ∧ j ≠ a ∧ lo ≤ v ∧ v < h := by
  unfold flN at q
  by_cases h1 : f = 0 ∧ (j = a ∨ ¬ (lo ≤ v ∧ v < h))
  · rw [if_pos h1] at q; omega
  · rw [if_neg h1] at q
    refine ⟨q, fun z => h1 ⟨q, Or.inl z⟩, ?_⟩
    by_cases h2 : lo ≤ v ∧ v < h
    · exact h2
    · exact absurd ⟨q, Or.inr h2⟩ h1
theorem cOpt_0 {cc : Nat → Nat} {L v lo h d a f : Nat} (q : (cOpt cc L v lo h d a f).2.1 = 0) : f = 0 ∧ ((cOpt cc L v lo h d a f).2.2 = d ∨ (lo ≤ (cOpt cc L v lo h d a f).2.2 ∧ (cOpt cc L v lo h d a f).2.2 < h)) := by
  unfold cOpt at q ⊢
  by_cases h1 : chB cc L a v = true
  · rw [if_pos h1] at q ⊢
    obtain ⟨q1, -, q3⟩ := flN_0 q
    exact ⟨q1, Or.inr q3⟩
  · rw [if_neg h1] at q ⊢
    exact ⟨q, Or.inl rfl⟩
/-- no flaw: there is room for the stations -/
theorem cMs_0 {cc : Nat → Nat} {L n a : Nat} (q : (cMs cc L n a).2.1 = 0) : n < 20 ∧ 1 ≤ (cTm cc L n a).2.2 ∧ n + (cTm cc L n a).2.2 ≤ 20 := by
  obtain ⟨q1, -⟩ := cOpt_0 q
  obtain ⟨q2, q3⟩ := cOpt_0 q1
  obtain ⟨-, -, -, q5⟩ := flN_0 q2
  have hn : n < 20 := by
    by_cases z : n < 20
    · exact z
    · rw [if_neg z] at q5; omega
  refine ⟨hn, ?_⟩
  show 1 ≤ (cOpt cc L 42 1 (20 - n + 1) 1 (cGr cc L n a).1 (cGr cc L n a).2.1).2.2 ∧ n + (cOpt cc L 42 1 (20 - n + 1) 1 (cGr cc L n a).1 (cGr cc L n a).2.1).2.2 ≤ 20
  omega
abbrev PrT : Type := Nat × (Nat → Int32) × (Nat → Int32)
/-- the stations behind a part of the text -/
def cAdd (cc : Nat → Nat) (L a : Nat) (z : PrT) : PrT := if (cMs cc L z.1 a).2.1 = 0 then (z.1 + (cTm cc L z.1 a).2.2, app z.1 (cTm cc L z.1 a).2.2 (nI (cGr cc L z.1 a).2.2) z.2.1, app z.1 (cTm cc L z.1 a).2.2 (nI (cMs cc L z.1 a).2.2) z.2.2) else z
/-- the whole reader: the flaw, and the stations -/
def cRd (cc : Nat → Nat) (L : Nat) : Nat → Bool → Nat → PrT → Nat × PrT
  | 0, _, _, z => (0, z)
  | k + 1, fst, a, z => if fst = false ∧ (cMs cc L z.1 a).1 = L then ((cMs cc L z.1 a).2.1, cAdd cc L a z) else if (cMs cc L z.1 a).2.1 = 0 then (if chB cc L (cMs cc L z.1 a).1 44 = true then cRd cc L k false (skp cc L ((cMs cc L z.1 a).1 + 1)) (cAdd cc L a z) else ((cMs cc L z.1 a).1 + 1, cAdd cc L a z)) else ((cMs cc L z.1 a).2.1, cAdd cc L a z)
theorem cAdd_le {cc : Nat → Nat} {L a : Nat} {z : PrT} (h : z.1 ≤ 20) : (cAdd cc L a z).1 ≤ 20 := by
  unfold cAdd
  by_cases q : (cMs cc L z.1 a).2.1 = 0
  · rw [if_pos q]; exact (cMs_0 q).2.2
  · rw [if_neg q]; exact h
theorem kX5_readStations_0 : ∀ w ∈ wsX30, w ∈ wsX5_readStations := by decide +kernel
theorem kX5_readStations_1 : (.fieldLink RX5 41 "SightRidge$Profile" "stations" "I" : Cond) ∈ wsX5_readStations := by decide +kernel
theorem kX5_readStations_2 : ∀ w ∈ wsX50, w ∈ wsX5_readStations := by decide +kernel
theorem kX5_readStations_3 : (.fieldLink RX5 22 "SightRidge$Text" "flaw" "I" : Cond) ∈ wsX5_readStations := by decide +kernel
set_option maxHeartbeats 4000000 in
set_option maxRecDepth 100000 in
/-- readStations(into) -/
theorem c_X5_readStations (l : Launch) (D : va_G) (cI cB cO : ClassId) (t tl : Nat) (L : Nat) (lt : Nat → Int32) (cc : Nat → Nat) (o ga ma : Nat) (rg bl : Int32) (n : Nat) (fg fm : Nat → Int32) (a : Nat) (hL : L ≤ 120) (hlt : ∀ j, j < L → lt j = nI (cc j)) (hcc : ∀ j, j < L → cc j ≤ 127) (hn : n ≤ 20) (ha : a ≤ L) : Met l yX5_readStations wsX5_readStations (rmD 4) (wrPc D (tyL cI cB cO) [.ref t, .ref o] [(t, .inr (5, [.ref tl, .int (nI L), .int (nI a), .int (FZ 0)])), (tl, .inl (cB, 120, .inl lt)), (o, .inr (3, [.ref ga, .ref ma, .int (nI n), .int rg, .int bl])), (ga, .inl (cI, 20, .inl fg)), (ma, .inl (cI, 20, .inl fm))]) (wrQv D [(t, .inr (5, [.ref tl, .int (nI L), .int (nI a), .int (FZ 0)])), (tl, .inl (cB, 120, .inl lt)), (o, .inr (3, [.ref ga, .ref ma, .int (nI n), .int rg, .int bl])), (ga, .inl (cI, 20, .inl fg)), (ma, .inl (cI, 20, .inl fm))] (fun (u : PrT) => u = cAdd cc L a (n, fg, fm)) (fun (u : PrT) => [(t, .inr (5, [.ref tl, .int (nI L), .int (nI (cMs cc L n a).1), .int (FZ (cMs cc L n a).2.1)])), (tl, .inl (cB, 120, .inl lt)), (o, .inr (3, [.ref ga, .ref ma, .int (nI u.1), .int rg, .int bl])), (ga, .inl (cI, 20, .inl u.2.1)), (ma, .inl (cI, 20, .inl u.2.2))])) 0 0 (inW [(t, .inr (5, [.ref tl, .int (nI L), .int (nI a), .int (FZ 0)])), (tl, .inl (cB, 120, .inl lt)), (o, .inr (3, [.ref ga, .ref ma, .int (nI n), .int rg, .int bl])), (ga, .inl (cI, 20, .inl fg)), (ma, .inl (cI, 20, .inl fm))]) := by
  refine Met.ofW (cc := cX5_readStations) (maxL := 6) (ret := none) (by decide) rfl ?_
  intro p e s m args below meth c s₁ B hml hv
  obtain ⟨rfl, hP, hK, hN, hD⟩ := hv
  have hx := B.exec
  have hb := B.bytes
  have hr := B.returns
  have hts := atoms_spec (ws := wsX5_readStations) B.pre
  have hown : s.vm.findClass RX5 = some m.cls := findClass_of_methodNamed B.named
  have hlocks := B.notSynchronized
  have hS : va_S (inW [(t, .inr (5, [.ref tl, .int (nI L), .int (nI a), .int (FZ 0)])), (tl, .inl (cB, 120, .inl lt)), (o, .inr (3, [.ref ga, .ref ma, .int (nI n), .int rg, .int bl])), (ga, .inl (cI, 20, .inl fg)), (ma, .inl (cI, 20, .inl fm))]) s.heap s.heap [] := va_S.rf
  have hD : va_D (inW [(t, .inr (5, [.ref tl, .int (nI L), .int (nI a), .int (FZ 0)])), (tl, .inl (cB, 120, .inl lt)), (o, .inr (3, [.ref ga, .ref ma, .int (nI n), .int rg, .int bl])), (ga, .inl (cI, 20, .inl fg)), (ma, .inl (cI, 20, .inl fm))]) [(t, .inr (5, [.ref tl, .int (nI L), .int (nI a), .int (FZ 0)])), (tl, .inl (cB, 120, .inl lt)), (o, .inr (3, [.ref ga, .ref ma, .int (nI n), .int rg, .int bl])), (ga, .inl (cI, 20, .inl fg)), (ma, .inl (cI, 20, .inl fm))] := inW_self hD
  have hl := lv_entry ([.ref t, .ref o]) (n := 6) (Nat.le_of_ble_eq_true rfl)
  rw [lg_entry_eq]
  generalize (lg_sl ([.ref t, .ref o]) ++ List.replicate (6 - (lg_sl ([.ref t, .ref o])).length) Slot.unset).toArray = ls at hl ⊢
  have hl : lv_has ls 6 [(0, .ref t), (1, .ref o)] := hl
  refine lv_bipush (v := 20) hx hb dX5_readStations_0 (by decide) ?_
  refine lv_aload_n hx hb dX5_readStations_2 rfl (lv_at hl 1 rfl) ?_
  refine va_get (D := D) (ci := 3) (v := .int (nI n)) (C := RX3) (T := TX3) (N := 5) hx hb hts kX5_readStations_0 hown hK hP 2 rfl rfl 2 (by decide) (hts (.fieldLink RX5 41 "SightRidge$Profile" "stations" "I") kX5_readStations_1) (fun _ h9 => h9) rfl dX5_readStations_3 ?_
  refine lv_isub hx hb dX5_readStations_6 ?_
  refine lv_topi (fun y_1 e_2 => ?_)
  have e_2 : nI (20 - n) = y_1 := (e_2.trans (pk_sub (a := 20) (by omega))).symm
  subst e_2
  refine lv_istore_n (lv' := [(2, .int (nI (20 - n))), (0, .ref t), (1, .ref o)]) hx hb dX5_readStations_7 rfl hl (by decide) rfl (fun ls hl => ?_)
  refine lv_aload_n hx hb dX5_readStations_8 rfl (lv_at hl 1 rfl) ?_
  refine lv_iconst (v := 0) hx hb dX5_readStations_9 (by decide) ?_
  refine lv_topi (fun y_3 e_4 => ?_)
  have e_4 : nI 0 = y_3 := (e_4.trans (rfl)).symm
  subst e_4
  refine lv_iload_n hx hb dX5_readStations_10 rfl (lv_at hl 0 rfl) ?_
  refine lv_if_le (tgt := 20) hx hb dX5_readStations_11 (by decide) (fun c_11 => ?_) (fun c_11 => ?_)
  · skip
    have c1 : ¬ n < 20 := fun q => absurd c_11 (nI_nle (by omega) (by omega))
    refine lv_iconst (v := (-1)) hx hb dX5_readStations_20 (by decide) ?_
    refine lv_topi (fun y_5 e_6 => ?_)
    have e_6 : FZ 0 = y_5 := (e_6.trans (rfl)).symm
    subst e_6
    refine wv_calli (wc := [(t, .inr (5, [.ref tl, .int (nI L), .int (nI a), .int (FZ 0)])), (tl, .inl (cB, 120, .inl lt))]) hP hD hS [0, 1] rfl rfl (va_runV (As := [.int (nI 0), .int (FZ 0)]) (rest := []) ⟨hx, hb, hml, hown, hts⟩ (c_X5_readNumber l D cI cB cO t tl L lt cc (a) (0) 0 0 hL hlt hcc (by omega) (by omega) (by omega) (by omega)) (cwV 2 hts gX5_readStations_X5_readNumber rfl rfl rfl (by decide +kernel) ⟨Nat.le_of_ble_eq_true rfl, Nat.le_of_ble_eq_true rfl⟩) (wr_preV (wc := [(t, .inr (5, [.ref tl, .int (nI L), .int (nI a), .int (FZ 0)])), (tl, .inl (cB, 120, .inl lt))]) (r := (RX5, TX5, 4)) (ci := 5) hK (hP.pick [0, 1] rfl) hN (wr_dsub hD [0, 1] rfl rfl) (q0 := 0) rfl rfl) rfl rfl hl.1 rfl (lv_room (Nat.le_of_ble_eq_true rfl)) dX5_readStations_21 ⟨Nat.le_refl _, Nat.le_refl _⟩) (fun _ => [(t, .inr (5, [.ref tl, .int (nI L), .int (nI (skp cc L (num cc L (a)).1)), .int (FZ (flN (0) (a) (num cc L (a)).1 (num cc L (a)).2 0 0))])), (tl, .inl (cB, 120, .inl lt)), (o, .inr (3, [.ref ga, .ref ma, .int (nI n), .int rg, .int bl])), (ga, .inl (cI, 20, .inl fg)), (ma, .inl (cI, 20, .inl fm))]) (fun _ => rfl) (fun _ => rfl) (fun r_21 u_21 H locs h_21 hP hD hS => ?_)
    subst h_21
    have hP : va_P D vwCl [(t, .inr (5, [.ref tl, .int (nI L), .int (nI (skp cc L (num cc L (a)).1)), .int (FZ (flN (0) (a) (num cc L (a)).1 (num cc L (a)).2 0 0))])), (tl, .inl (cB, 120, .inl lt)), (o, .inr (3, [.ref ga, .ref ma, .int (nI n), .int rg, .int bl])), (ga, .inl (cI, 20, .inl fg)), (ma, .inl (cI, 20, .inl fm))] _ := hP
    have hD : va_D (inW [(t, .inr (5, [.ref tl, .int (nI L), .int (nI a), .int (FZ 0)])), (tl, .inl (cB, 120, .inl lt)), (o, .inr (3, [.ref ga, .ref ma, .int (nI n), .int rg, .int bl])), (ga, .inl (cI, 20, .inl fg)), (ma, .inl (cI, 20, .inl fm))]) [(t, .inr (5, [.ref tl, .int (nI L), .int (nI (skp cc L (num cc L (a)).1)), .int (FZ (flN (0) (a) (num cc L (a)).1 (num cc L (a)).2 0 0))])), (tl, .inl (cB, 120, .inl lt)), (o, .inr (3, [.ref ga, .ref ma, .int (nI n), .int rg, .int bl])), (ga, .inl (cI, 20, .inl fg)), (ma, .inl (cI, 20, .inl fm))] := hD
    have e8 : cNum cc L 0 0 0 a = cGr cc L n a := by unfold cGr; rw [if_neg c1]
    have e9 : ([(t, .inr (5, [.ref tl, .int (nI L), .int (nI (skp cc L (num cc L (a)).1)), .int (FZ (flN (0) (a) (num cc L (a)).1 (num cc L (a)).2 0 0))])), (tl, .inl (cB, 120, .inl lt)), (o, .inr (3, [.ref ga, .ref ma, .int (nI n), .int rg, .int bl])), (ga, .inl (cI, 20, .inl fg)), (ma, .inl (cI, 20, .inl fm))] : va_W) = [(t, .inr (5, [.ref tl, .int (nI L), .int (nI (cGr cc L n a).1), .int (FZ (flN (0) (a) (num cc L (a)).1 (num cc L (a)).2 0 0))])), (tl, .inl (cB, 120, .inl lt)), (o, .inr (3, [.ref ga, .ref ma, .int (nI n), .int rg, .int bl])), (ga, .inl (cI, 20, .inl fg)), (ma, .inl (cI, 20, .inl fm))] := congrArg (fun f9 : Int32 => ([(t, .inr (5, [.ref tl, .int (nI L), .int f9, .int (FZ (flN (0) (a) (num cc L (a)).1 (num cc L (a)).2 0 0))])), (tl, .inl (cB, 120, .inl lt)), (o, .inr (3, [.ref ga, .ref ma, .int (nI n), .int rg, .int bl])), (ga, .inl (cI, 20, .inl fg)), (ma, .inl (cI, 20, .inl fm))] : va_W)) (show nI (skp cc L (num cc L (a)).1) = nI (cGr cc L n a).1 from congrArg nI (show (skp cc L (num cc L (a)).1) = (cGr cc L n a).1 from congrArg (fun z => z.1) e8))
    have hP := va_P_eq e9 hP
    have hD := va_D_eq e9 hD
    have e9 : ([(t, .inr (5, [.ref tl, .int (nI L), .int (nI (cGr cc L n a).1), .int (FZ (flN (0) (a) (num cc L (a)).1 (num cc L (a)).2 0 0))])), (tl, .inl (cB, 120, .inl lt)), (o, .inr (3, [.ref ga, .ref ma, .int (nI n), .int rg, .int bl])), (ga, .inl (cI, 20, .inl fg)), (ma, .inl (cI, 20, .inl fm))] : va_W) = [(t, .inr (5, [.ref tl, .int (nI L), .int (nI (cGr cc L n a).1), .int (FZ (cGr cc L n a).2.1)])), (tl, .inl (cB, 120, .inl lt)), (o, .inr (3, [.ref ga, .ref ma, .int (nI n), .int rg, .int bl])), (ga, .inl (cI, 20, .inl fg)), (ma, .inl (cI, 20, .inl fm))] := congrArg (fun f9 : Int32 => ([(t, .inr (5, [.ref tl, .int (nI L), .int (nI (cGr cc L n a).1), .int f9])), (tl, .inl (cB, 120, .inl lt)), (o, .inr (3, [.ref ga, .ref ma, .int (nI n), .int rg, .int bl])), (ga, .inl (cI, 20, .inl fg)), (ma, .inl (cI, 20, .inl fm))] : va_W)) (show FZ (flN (0) (a) (num cc L (a)).1 (num cc L (a)).2 0 0) = FZ (cGr cc L n a).2.1 from congrArg FZ (show (flN (0) (a) (num cc L (a)).1 (num cc L (a)).2 0 0) = (cGr cc L n a).2.1 from congrArg (fun z => z.2.1) e8))
    have hP := va_P_eq e9 hP
    have hD := va_D_eq e9 hD
    refine lv_topi (fun y_7 e_8 => ?_)
    have e_8 : nI (cGr cc L n a).2.2 = y_7 := (e_8.trans (congrArg nI (show (num cc L (a)).2 = (cGr cc L n a).2.2 from congrArg (fun z => z.2.2) e8))).symm
    subst e_8
    have hg1 := (cGr_le (cc := cc) (n := n) ha).1
    have hg2 := (cGr_le (cc := cc) (n := n) ha).2
    refine lv_istore_n (lv' := [(3, .int (nI (cGr cc L n a).2.2)), (2, .int (nI (20 - n))), (0, .ref t), (1, .ref o)]) hx hb dX5_readStations_24 rfl hl (by decide) rfl (fun ls hl => ?_)
    refine lv_aload_n hx hb dX5_readStations_25 rfl (lv_at hl 2 rfl) ?_
    refine lv_bipush (v := 42) hx hb dX5_readStations_26 (by decide) ?_
    refine lv_topi (fun y_9 e_10 => ?_)
    have e_10 : nI 42 = y_9 := (e_10.trans (rfl)).symm
    subst e_10
    refine wv_calli (wc := [(t, .inr (5, [.ref tl, .int (nI L), .int (nI (cGr cc L n a).1), .int (FZ (cGr cc L n a).2.1)])), (tl, .inl (cB, 120, .inl lt))]) hP hD hS [0, 1] rfl rfl (va_runV (As := [.int (nI 42)]) (rest := []) ⟨hx, hb, hml, hown, hts⟩ (c_X5_accept l D cI cB cO t tl L lt cc ((cGr cc L n a).1) ((cGr cc L n a).2.1) 42 hL hlt hcc (by omega) (by decide)) (cwV 1 hts gX5_readStations_X5_accept rfl rfl rfl (by decide +kernel) ⟨Nat.le_of_ble_eq_true rfl, Nat.le_of_ble_eq_true rfl⟩) (wr_preV (wc := [(t, .inr (5, [.ref tl, .int (nI L), .int (nI (cGr cc L n a).1), .int (FZ (cGr cc L n a).2.1)])), (tl, .inl (cB, 120, .inl lt))]) (r := (RX5, TX5, 4)) (ci := 5) hK (hP.pick [0, 1] rfl) hN (wr_dsub hD [0, 1] rfl rfl) (q0 := 0) rfl rfl) rfl rfl hl.1 rfl (lv_room (Nat.le_of_ble_eq_true rfl)) dX5_readStations_28 ⟨Nat.le_refl _, Nat.le_refl _⟩) (fun u => [(t, .inr (5, [.ref tl, .int (nI L), .int (nI u), .int (FZ (cGr cc L n a).2.1)])), (tl, .inl (cB, 120, .inl lt)), (o, .inr (3, [.ref ga, .ref ma, .int (nI n), .int rg, .int bl])), (ga, .inl (cI, 20, .inl fg)), (ma, .inl (cI, 20, .inl fm))]) (fun _ => rfl) (fun _ => rfl) (fun r_28 u_28 H locs h_28 hP hD hS => ?_)
    rcases h_28 with ⟨b1, rfl, rfl⟩ | ⟨b1, rfl, rfl⟩
    · skip
      have ha2 : skp cc L ((cGr cc L n a).1 + 1) ≤ L := skp_le (of_decide_eq_true b1).1
      refine lv_if_eq (tgt := 43) hx hb dX5_readStations_31 (by decide) (fun c_31 => ?_) (fun c_31 => ?_)
      · skip
        exact absurd c_31 (by decide)
      · skip
        refine lv_aload_n hx hb dX5_readStations_34 rfl (lv_at hl 2 rfl) ?_
        refine lv_iconst (v := 1) hx hb dX5_readStations_35 (by decide) ?_
        refine lv_topi (fun y_11 e_12 => ?_)
        have e_12 : nI 1 = y_11 := (e_12.trans (rfl)).symm
        subst e_12
        refine lv_iload_n hx hb dX5_readStations_36 rfl (lv_at hl 1 rfl) ?_
        refine lv_topi (fun y_13 e_14 => ?_)
        have e_14 : FZ (20 - n + 1) = y_13 := (e_14.trans ((FZ_s _).symm)).symm
        subst e_14
        refine wv_calli (wc := [(t, .inr (5, [.ref tl, .int (nI L), .int (nI (skp cc L ((cGr cc L n a).1 + 1))), .int (FZ (cGr cc L n a).2.1)])), (tl, .inl (cB, 120, .inl lt))]) hP hD hS [0, 1] rfl rfl (va_runV (As := [.int (nI 1), .int (FZ (20 - n + 1))]) (rest := []) ⟨hx, hb, hml, hown, hts⟩ (c_X5_readNumber l D cI cB cO t tl L lt cc (skp cc L ((cGr cc L n a).1 + 1)) ((cGr cc L n a).2.1) 1 (20 - n + 1) hL hlt hcc (by omega) (by omega) (by omega) (by omega)) (cwV 2 hts gX5_readStations_X5_readNumber rfl rfl rfl (by decide +kernel) ⟨Nat.le_of_ble_eq_true rfl, Nat.le_of_ble_eq_true rfl⟩) (wr_preV (wc := [(t, .inr (5, [.ref tl, .int (nI L), .int (nI (skp cc L ((cGr cc L n a).1 + 1))), .int (FZ (cGr cc L n a).2.1)])), (tl, .inl (cB, 120, .inl lt))]) (r := (RX5, TX5, 4)) (ci := 5) hK (hP.pick [0, 1] rfl) hN (wr_dsub hD [0, 1] rfl rfl) (q0 := 0) rfl rfl) rfl rfl hl.1 rfl (lv_room (Nat.le_of_ble_eq_true rfl)) dX5_readStations_37 ⟨Nat.le_refl _, Nat.le_refl _⟩) (fun _ => [(t, .inr (5, [.ref tl, .int (nI L), .int (nI (skp cc L (num cc L (skp cc L ((cGr cc L n a).1 + 1))).1)), .int (FZ (flN ((cGr cc L n a).2.1) (skp cc L ((cGr cc L n a).1 + 1)) (num cc L (skp cc L ((cGr cc L n a).1 + 1))).1 (num cc L (skp cc L ((cGr cc L n a).1 + 1))).2 1 (20 - n + 1)))])), (tl, .inl (cB, 120, .inl lt)), (o, .inr (3, [.ref ga, .ref ma, .int (nI n), .int rg, .int bl])), (ga, .inl (cI, 20, .inl fg)), (ma, .inl (cI, 20, .inl fm))]) (fun _ => rfl) (fun _ => rfl) (fun r_37 u_37 H locs h_37 hP hD hS => ?_)
        subst h_37
        have hP : va_P D vwCl [(t, .inr (5, [.ref tl, .int (nI L), .int (nI (skp cc L (num cc L (skp cc L ((cGr cc L n a).1 + 1))).1)), .int (FZ (flN ((cGr cc L n a).2.1) (skp cc L ((cGr cc L n a).1 + 1)) (num cc L (skp cc L ((cGr cc L n a).1 + 1))).1 (num cc L (skp cc L ((cGr cc L n a).1 + 1))).2 1 (20 - n + 1)))])), (tl, .inl (cB, 120, .inl lt)), (o, .inr (3, [.ref ga, .ref ma, .int (nI n), .int rg, .int bl])), (ga, .inl (cI, 20, .inl fg)), (ma, .inl (cI, 20, .inl fm))] _ := hP
        have hD : va_D (inW [(t, .inr (5, [.ref tl, .int (nI L), .int (nI a), .int (FZ 0)])), (tl, .inl (cB, 120, .inl lt)), (o, .inr (3, [.ref ga, .ref ma, .int (nI n), .int rg, .int bl])), (ga, .inl (cI, 20, .inl fg)), (ma, .inl (cI, 20, .inl fm))]) [(t, .inr (5, [.ref tl, .int (nI L), .int (nI (skp cc L (num cc L (skp cc L ((cGr cc L n a).1 + 1))).1)), .int (FZ (flN ((cGr cc L n a).2.1) (skp cc L ((cGr cc L n a).1 + 1)) (num cc L (skp cc L ((cGr cc L n a).1 + 1))).1 (num cc L (skp cc L ((cGr cc L n a).1 + 1))).2 1 (20 - n + 1)))])), (tl, .inl (cB, 120, .inl lt)), (o, .inr (3, [.ref ga, .ref ma, .int (nI n), .int rg, .int bl])), (ga, .inl (cI, 20, .inl fg)), (ma, .inl (cI, 20, .inl fm))] := hD
        refine lv_goto (tgt := 44) hx hb dX5_readStations_40 (by decide) ?_
        have e8 : cNum cc L (cGr cc L n a).2.1 1 (20 - n + 1) (skp cc L ((cGr cc L n a).1 + 1)) = cTm cc L n a := by unfold cTm cOpt; rw [if_pos b1]
        have e9 : ([(t, .inr (5, [.ref tl, .int (nI L), .int (nI (skp cc L (num cc L (skp cc L ((cGr cc L n a).1 + 1))).1)), .int (FZ (flN ((cGr cc L n a).2.1) (skp cc L ((cGr cc L n a).1 + 1)) (num cc L (skp cc L ((cGr cc L n a).1 + 1))).1 (num cc L (skp cc L ((cGr cc L n a).1 + 1))).2 1 (20 - n + 1)))])), (tl, .inl (cB, 120, .inl lt)), (o, .inr (3, [.ref ga, .ref ma, .int (nI n), .int rg, .int bl])), (ga, .inl (cI, 20, .inl fg)), (ma, .inl (cI, 20, .inl fm))] : va_W) = [(t, .inr (5, [.ref tl, .int (nI L), .int (nI (cTm cc L n a).1), .int (FZ (flN ((cGr cc L n a).2.1) (skp cc L ((cGr cc L n a).1 + 1)) (num cc L (skp cc L ((cGr cc L n a).1 + 1))).1 (num cc L (skp cc L ((cGr cc L n a).1 + 1))).2 1 (20 - n + 1)))])), (tl, .inl (cB, 120, .inl lt)), (o, .inr (3, [.ref ga, .ref ma, .int (nI n), .int rg, .int bl])), (ga, .inl (cI, 20, .inl fg)), (ma, .inl (cI, 20, .inl fm))] := congrArg (fun f9 : Int32 => ([(t, .inr (5, [.ref tl, .int (nI L), .int f9, .int (FZ (flN ((cGr cc L n a).2.1) (skp cc L ((cGr cc L n a).1 + 1)) (num cc L (skp cc L ((cGr cc L n a).1 + 1))).1 (num cc L (skp cc L ((cGr cc L n a).1 + 1))).2 1 (20 - n + 1)))])), (tl, .inl (cB, 120, .inl lt)), (o, .inr (3, [.ref ga, .ref ma, .int (nI n), .int rg, .int bl])), (ga, .inl (cI, 20, .inl fg)), (ma, .inl (cI, 20, .inl fm))] : va_W)) (show nI (skp cc L (num cc L (skp cc L ((cGr cc L n a).1 + 1))).1) = nI (cTm cc L n a).1 from congrArg nI (show (skp cc L (num cc L (skp cc L ((cGr cc L n a).1 + 1))).1) = (cTm cc L n a).1 from congrArg (fun z => z.1) e8))
        have hP := va_P_eq e9 hP
        have hD := va_D_eq e9 hD
        have e9 : ([(t, .inr (5, [.ref tl, .int (nI L), .int (nI (cTm cc L n a).1), .int (FZ (flN ((cGr cc L n a).2.1) (skp cc L ((cGr cc L n a).1 + 1)) (num cc L (skp cc L ((cGr cc L n a).1 + 1))).1 (num cc L (skp cc L ((cGr cc L n a).1 + 1))).2 1 (20 - n + 1)))])), (tl, .inl (cB, 120, .inl lt)), (o, .inr (3, [.ref ga, .ref ma, .int (nI n), .int rg, .int bl])), (ga, .inl (cI, 20, .inl fg)), (ma, .inl (cI, 20, .inl fm))] : va_W) = [(t, .inr (5, [.ref tl, .int (nI L), .int (nI (cTm cc L n a).1), .int (FZ (cTm cc L n a).2.1)])), (tl, .inl (cB, 120, .inl lt)), (o, .inr (3, [.ref ga, .ref ma, .int (nI n), .int rg, .int bl])), (ga, .inl (cI, 20, .inl fg)), (ma, .inl (cI, 20, .inl fm))] := congrArg (fun f9 : Int32 => ([(t, .inr (5, [.ref tl, .int (nI L), .int (nI (cTm cc L n a).1), .int f9])), (tl, .inl (cB, 120, .inl lt)), (o, .inr (3, [.ref ga, .ref ma, .int (nI n), .int rg, .int bl])), (ga, .inl (cI, 20, .inl fg)), (ma, .inl (cI, 20, .inl fm))] : va_W)) (show FZ (flN ((cGr cc L n a).2.1) (skp cc L ((cGr cc L n a).1 + 1)) (num cc L (skp cc L ((cGr cc L n a).1 + 1))).1 (num cc L (skp cc L ((cGr cc L n a).1 + 1))).2 1 (20 - n + 1)) = FZ (cTm cc L n a).2.1 from congrArg FZ (show (flN ((cGr cc L n a).2.1) (skp cc L ((cGr cc L n a).1 + 1)) (num cc L (skp cc L ((cGr cc L n a).1 + 1))).1 (num cc L (skp cc L ((cGr cc L n a).1 + 1))).2 1 (20 - n + 1)) = (cTm cc L n a).2.1 from congrArg (fun z => z.2.1) e8))
        have hP := va_P_eq e9 hP
        have hD := va_D_eq e9 hD
        refine lv_topi (fun y_15 e_16 => ?_)
        have e_16 : nI (cTm cc L n a).2.2 = y_15 := (e_16.trans (congrArg nI (show (num cc L (skp cc L ((cGr cc L n a).1 + 1))).2 = (cTm cc L n a).2.2 from congrArg (fun z => z.2.2) e8))).symm
        subst e_16
        have ht1 := (cTm_le (cc := cc) (n := n) ha).1
        have ht2 := (cTm_le (cc := cc) (n := n) ha).2
        refine lv_istore (lv' := [(4, .int (nI (cTm cc L n a).2.2)), (3, .int (nI (cGr cc L n a).2.2)), (2, .int (nI (20 - n))), (0, .ref t), (1, .ref o)]) hx hb dX5_readStations_44 hl (by decide) rfl (fun ls hl => ?_)
        refine lv_aload_n hx hb dX5_readStations_46 rfl (lv_at hl 3 rfl) ?_
        refine lv_bipush (v := 109) hx hb dX5_readStations_47 (by decide) ?_
        refine lv_topi (fun y_17 e_18 => ?_)
        have e_18 : nI 109 = y_17 := (e_18.trans (rfl)).symm
        subst e_18
        refine wv_calli (wc := [(t, .inr (5, [.ref tl, .int (nI L), .int (nI (cTm cc L n a).1), .int (FZ (cTm cc L n a).2.1)])), (tl, .inl (cB, 120, .inl lt))]) hP hD hS [0, 1] rfl rfl (va_runV (As := [.int (nI 109)]) (rest := []) ⟨hx, hb, hml, hown, hts⟩ (c_X5_accept l D cI cB cO t tl L lt cc ((cTm cc L n a).1) ((cTm cc L n a).2.1) 109 hL hlt hcc (by omega) (by decide)) (cwV 1 hts gX5_readStations_X5_accept rfl rfl rfl (by decide +kernel) ⟨Nat.le_of_ble_eq_true rfl, Nat.le_of_ble_eq_true rfl⟩) (wr_preV (wc := [(t, .inr (5, [.ref tl, .int (nI L), .int (nI (cTm cc L n a).1), .int (FZ (cTm cc L n a).2.1)])), (tl, .inl (cB, 120, .inl lt))]) (r := (RX5, TX5, 4)) (ci := 5) hK (hP.pick [0, 1] rfl) hN (wr_dsub hD [0, 1] rfl rfl) (q0 := 0) rfl rfl) rfl rfl hl.1 rfl (lv_room (Nat.le_of_ble_eq_true rfl)) dX5_readStations_49 ⟨Nat.le_refl _, Nat.le_refl _⟩) (fun u => [(t, .inr (5, [.ref tl, .int (nI L), .int (nI u), .int (FZ (cTm cc L n a).2.1)])), (tl, .inl (cB, 120, .inl lt)), (o, .inr (3, [.ref ga, .ref ma, .int (nI n), .int rg, .int bl])), (ga, .inl (cI, 20, .inl fg)), (ma, .inl (cI, 20, .inl fm))]) (fun _ => rfl) (fun _ => rfl) (fun r_49 u_49 H locs h_49 hP hD hS => ?_)
        rcases h_49 with ⟨b2, rfl, rfl⟩ | ⟨b2, rfl, rfl⟩
        · skip
          have ha3 : skp cc L ((cTm cc L n a).1 + 1) ≤ L := skp_le (of_decide_eq_true b2).1
          refine lv_if_eq (tgt := 66) hx hb dX5_readStations_52 (by decide) (fun c_52 => ?_) (fun c_52 => ?_)
          · skip
            exact absurd c_52 (by decide)
          · skip
            refine lv_aload_n hx hb dX5_readStations_55 rfl (lv_at hl 3 rfl) ?_
            refine lv_iconst (v := 1) hx hb dX5_readStations_56 (by decide) ?_
            refine lv_topi (fun y_19 e_20 => ?_)
            have e_20 : nI 1 = y_19 := (e_20.trans (rfl)).symm
            subst e_20
            refine lv_sipush (v := 200) hx hb dX5_readStations_57 (by decide) ?_
            refine lv_topi (fun y_21 e_22 => ?_)
            have e_22 : FZ 201 = y_21 := (e_22.trans (by decide)).symm
            subst e_22
            refine wv_calli (wc := [(t, .inr (5, [.ref tl, .int (nI L), .int (nI (skp cc L ((cTm cc L n a).1 + 1))), .int (FZ (cTm cc L n a).2.1)])), (tl, .inl (cB, 120, .inl lt))]) hP hD hS [0, 1] rfl rfl (va_runV (As := [.int (nI 1), .int (FZ 201)]) (rest := []) ⟨hx, hb, hml, hown, hts⟩ (c_X5_readNumber l D cI cB cO t tl L lt cc (skp cc L ((cTm cc L n a).1 + 1)) ((cTm cc L n a).2.1) 1 201 hL hlt hcc (by omega) (by omega) (by omega) (by omega)) (cwV 2 hts gX5_readStations_X5_readNumber rfl rfl rfl (by decide +kernel) ⟨Nat.le_of_ble_eq_true rfl, Nat.le_of_ble_eq_true rfl⟩) (wr_preV (wc := [(t, .inr (5, [.ref tl, .int (nI L), .int (nI (skp cc L ((cTm cc L n a).1 + 1))), .int (FZ (cTm cc L n a).2.1)])), (tl, .inl (cB, 120, .inl lt))]) (r := (RX5, TX5, 4)) (ci := 5) hK (hP.pick [0, 1] rfl) hN (wr_dsub hD [0, 1] rfl rfl) (q0 := 0) rfl rfl) rfl rfl hl.1 rfl (lv_room (Nat.le_of_ble_eq_true rfl)) dX5_readStations_60 ⟨Nat.le_refl _, Nat.le_refl _⟩) (fun _ => [(t, .inr (5, [.ref tl, .int (nI L), .int (nI (skp cc L (num cc L (skp cc L ((cTm cc L n a).1 + 1))).1)), .int (FZ (flN ((cTm cc L n a).2.1) (skp cc L ((cTm cc L n a).1 + 1)) (num cc L (skp cc L ((cTm cc L n a).1 + 1))).1 (num cc L (skp cc L ((cTm cc L n a).1 + 1))).2 1 201))])), (tl, .inl (cB, 120, .inl lt)), (o, .inr (3, [.ref ga, .ref ma, .int (nI n), .int rg, .int bl])), (ga, .inl (cI, 20, .inl fg)), (ma, .inl (cI, 20, .inl fm))]) (fun _ => rfl) (fun _ => rfl) (fun r_60 u_60 H locs h_60 hP hD hS => ?_)
            subst h_60
            have hP : va_P D vwCl [(t, .inr (5, [.ref tl, .int (nI L), .int (nI (skp cc L (num cc L (skp cc L ((cTm cc L n a).1 + 1))).1)), .int (FZ (flN ((cTm cc L n a).2.1) (skp cc L ((cTm cc L n a).1 + 1)) (num cc L (skp cc L ((cTm cc L n a).1 + 1))).1 (num cc L (skp cc L ((cTm cc L n a).1 + 1))).2 1 201))])), (tl, .inl (cB, 120, .inl lt)), (o, .inr (3, [.ref ga, .ref ma, .int (nI n), .int rg, .int bl])), (ga, .inl (cI, 20, .inl fg)), (ma, .inl (cI, 20, .inl fm))] _ := hP
            have hD : va_D (inW [(t, .inr (5, [.ref tl, .int (nI L), .int (nI a), .int (FZ 0)])), (tl, .inl (cB, 120, .inl lt)), (o, .inr (3, [.ref ga, .ref ma, .int (nI n), .int rg, .int bl])), (ga, .inl (cI, 20, .inl fg)), (ma, .inl (cI, 20, .inl fm))]) [(t, .inr (5, [.ref tl, .int (nI L), .int (nI (skp cc L (num cc L (skp cc L ((cTm cc L n a).1 + 1))).1)), .int (FZ (flN ((cTm cc L n a).2.1) (skp cc L ((cTm cc L n a).1 + 1)) (num cc L (skp cc L ((cTm cc L n a).1 + 1))).1 (num cc L (skp cc L ((cTm cc L n a).1 + 1))).2 1 201))])), (tl, .inl (cB, 120, .inl lt)), (o, .inr (3, [.ref ga, .ref ma, .int (nI n), .int rg, .int bl])), (ga, .inl (cI, 20, .inl fg)), (ma, .inl (cI, 20, .inl fm))] := hD
            refine lv_goto (tgt := 67) hx hb dX5_readStations_63 (by decide) ?_
            have e8 : cNum cc L (cTm cc L n a).2.1 1 201 (skp cc L ((cTm cc L n a).1 + 1)) = cMs cc L n a := by unfold cMs cOpt; rw [if_pos b2]
            have e9 : ([(t, .inr (5, [.ref tl, .int (nI L), .int (nI (skp cc L (num cc L (skp cc L ((cTm cc L n a).1 + 1))).1)), .int (FZ (flN ((cTm cc L n a).2.1) (skp cc L ((cTm cc L n a).1 + 1)) (num cc L (skp cc L ((cTm cc L n a).1 + 1))).1 (num cc L (skp cc L ((cTm cc L n a).1 + 1))).2 1 201))])), (tl, .inl (cB, 120, .inl lt)), (o, .inr (3, [.ref ga, .ref ma, .int (nI n), .int rg, .int bl])), (ga, .inl (cI, 20, .inl fg)), (ma, .inl (cI, 20, .inl fm))] : va_W) = [(t, .inr (5, [.ref tl, .int (nI L), .int (nI (cMs cc L n a).1), .int (FZ (flN ((cTm cc L n a).2.1) (skp cc L ((cTm cc L n a).1 + 1)) (num cc L (skp cc L ((cTm cc L n a).1 + 1))).1 (num cc L (skp cc L ((cTm cc L n a).1 + 1))).2 1 201))])), (tl, .inl (cB, 120, .inl lt)), (o, .inr (3, [.ref ga, .ref ma, .int (nI n), .int rg, .int bl])), (ga, .inl (cI, 20, .inl fg)), (ma, .inl (cI, 20, .inl fm))] := congrArg (fun f9 : Int32 => ([(t, .inr (5, [.ref tl, .int (nI L), .int f9, .int (FZ (flN ((cTm cc L n a).2.1) (skp cc L ((cTm cc L n a).1 + 1)) (num cc L (skp cc L ((cTm cc L n a).1 + 1))).1 (num cc L (skp cc L ((cTm cc L n a).1 + 1))).2 1 201))])), (tl, .inl (cB, 120, .inl lt)), (o, .inr (3, [.ref ga, .ref ma, .int (nI n), .int rg, .int bl])), (ga, .inl (cI, 20, .inl fg)), (ma, .inl (cI, 20, .inl fm))] : va_W)) (show nI (skp cc L (num cc L (skp cc L ((cTm cc L n a).1 + 1))).1) = nI (cMs cc L n a).1 from congrArg nI (show (skp cc L (num cc L (skp cc L ((cTm cc L n a).1 + 1))).1) = (cMs cc L n a).1 from congrArg (fun z => z.1) e8))
            have hP := va_P_eq e9 hP
            have hD := va_D_eq e9 hD
            have e9 : ([(t, .inr (5, [.ref tl, .int (nI L), .int (nI (cMs cc L n a).1), .int (FZ (flN ((cTm cc L n a).2.1) (skp cc L ((cTm cc L n a).1 + 1)) (num cc L (skp cc L ((cTm cc L n a).1 + 1))).1 (num cc L (skp cc L ((cTm cc L n a).1 + 1))).2 1 201))])), (tl, .inl (cB, 120, .inl lt)), (o, .inr (3, [.ref ga, .ref ma, .int (nI n), .int rg, .int bl])), (ga, .inl (cI, 20, .inl fg)), (ma, .inl (cI, 20, .inl fm))] : va_W) = [(t, .inr (5, [.ref tl, .int (nI L), .int (nI (cMs cc L n a).1), .int (FZ (cMs cc L n a).2.1)])), (tl, .inl (cB, 120, .inl lt)), (o, .inr (3, [.ref ga, .ref ma, .int (nI n), .int rg, .int bl])), (ga, .inl (cI, 20, .inl fg)), (ma, .inl (cI, 20, .inl fm))] := congrArg (fun f9 : Int32 => ([(t, .inr (5, [.ref tl, .int (nI L), .int (nI (cMs cc L n a).1), .int f9])), (tl, .inl (cB, 120, .inl lt)), (o, .inr (3, [.ref ga, .ref ma, .int (nI n), .int rg, .int bl])), (ga, .inl (cI, 20, .inl fg)), (ma, .inl (cI, 20, .inl fm))] : va_W)) (show FZ (flN ((cTm cc L n a).2.1) (skp cc L ((cTm cc L n a).1 + 1)) (num cc L (skp cc L ((cTm cc L n a).1 + 1))).1 (num cc L (skp cc L ((cTm cc L n a).1 + 1))).2 1 201) = FZ (cMs cc L n a).2.1 from congrArg FZ (show (flN ((cTm cc L n a).2.1) (skp cc L ((cTm cc L n a).1 + 1)) (num cc L (skp cc L ((cTm cc L n a).1 + 1))).1 (num cc L (skp cc L ((cTm cc L n a).1 + 1))).2 1 201) = (cMs cc L n a).2.1 from congrArg (fun z => z.2.1) e8))
            have hP := va_P_eq e9 hP
            have hD := va_D_eq e9 hD
            refine lv_topi (fun y_23 e_24 => ?_)
            have e_24 : nI (cMs cc L n a).2.2 = y_23 := (e_24.trans (congrArg nI (show (num cc L (skp cc L ((cTm cc L n a).1 + 1))).2 = (cMs cc L n a).2.2 from congrArg (fun z => z.2.2) e8))).symm
            subst e_24
            have hm1 := (cMs_le (cc := cc) (n := n) ha).1
            have hm2 := (cMs_le (cc := cc) (n := n) ha).2
            refine lv_istore (lv' := [(5, .int (nI (cMs cc L n a).2.2)), (4, .int (nI (cTm cc L n a).2.2)), (3, .int (nI (cGr cc L n a).2.2)), (2, .int (nI (20 - n))), (0, .ref t), (1, .ref o)]) hx hb dX5_readStations_67 hl (by decide) rfl (fun ls hl => ?_)
            refine lv_aload_n hx hb dX5_readStations_69 rfl (lv_at hl 4 rfl) ?_
            refine va_get (D := D) (ci := 5) (v := .int (FZ (cMs cc L n a).2.1)) (C := RX5) (T := TX5) (N := 4) hx hb hts kX5_readStations_2 hown hK hP 0 rfl rfl 3 (by decide) (hts (.fieldLink RX5 22 "SightRidge$Text" "flaw" "I") kX5_readStations_3) (fun _ h9 => h9) rfl dX5_readStations_70 ?_
            refine lv_iconst (v := (-1)) hx hb dX5_readStations_73 (by decide) ?_
            refine lv_icmp_ne (tgt := 86) hx hb dX5_readStations_74 (by decide) (fun c_74 => ?_) (fun c_74 => ?_)
            · skip
              have d1 : ¬ (cMs cc L n a).2.1 = 0 := fun q => c_74 (by rw [q]; rfl)
              exact W.vret hx hb hr (fun tS htS hWS => ⟨⟨(n, fg, fm), rfl, (by unfold cAdd; rw [if_neg d1]), retP htS hP⟩, hS.F htS⟩) hS.2.2 dX5_readStations_86
            · skip
              have d1 : (cMs cc L n a).2.1 = 0 := (FZ_eq (by omega)).mp c_74
              have h0 := cMs_0 d1
              refine lv_aload_n hx hb dX5_readStations_77 rfl (lv_at hl 5 rfl) ?_
              refine lv_iload hx hb dX5_readStations_78 (lv_at hl 1 rfl) ?_
              refine lv_iload_n hx hb dX5_readStations_80 rfl (lv_at hl 2 rfl) ?_
              refine lv_iload hx hb dX5_readStations_81 (lv_at hl 0 rfl) ?_
              refine wv_callv (wc := [(o, .inr (3, [.ref ga, .ref ma, .int (nI n), .int rg, .int bl])), (ga, .inl (cI, 20, .inl fg)), (ma, .inl (cI, 20, .inl fm))]) hP hD hS [2, 3, 4] rfl rfl (va_runV (As := [.int (nI (cTm cc L n a).2.2), .int (nI (cGr cc L n a).2.2), .int (nI (cMs cc L n a).2.2)]) (rest := []) ⟨hx, hb, hml, hown, hts⟩ (c_X3_append l D cI cB cO o ga ma n rg bl fg fm (cTm cc L n a).2.2 (nI (cGr cc L n a).2.2) (nI (cMs cc L n a).2.2) h0.2.2) (cwV 3 hts gX5_readStations_X3_append rfl rfl rfl (by decide +kernel) ⟨Nat.le_of_ble_eq_true rfl, Nat.le_of_ble_eq_true rfl⟩) (wr_preV (wc := [(o, .inr (3, [.ref ga, .ref ma, .int (nI n), .int rg, .int bl])), (ga, .inl (cI, 20, .inl fg)), (ma, .inl (cI, 20, .inl fm))]) (r := (RX3, TX3, 5)) (ci := 3) hK (hP.pick [2, 3, 4] rfl) hN (wr_dsub hD [2, 3, 4] rfl rfl) (q0 := 0) rfl rfl) rfl rfl hl.1 rfl (lv_room (Nat.le_of_ble_eq_true rfl)) dX5_readStations_83 ⟨Nat.le_refl _, Nat.le_refl _⟩) (fun _ => [(t, .inr (5, [.ref tl, .int (nI L), .int (nI (cMs cc L n a).1), .int (FZ (cMs cc L n a).2.1)])), (tl, .inl (cB, 120, .inl lt)), (o, .inr (3, [.ref ga, .ref ma, .int (nI (n + (cTm cc L n a).2.2)), .int rg, .int bl])), (ga, .inl (cI, 20, .inl (app n (cTm cc L n a).2.2 (nI (cGr cc L n a).2.2) fg))), (ma, .inl (cI, 20, .inl (app n (cTm cc L n a).2.2 (nI (cMs cc L n a).2.2) fm)))]) (fun _ => rfl) (fun _ => rfl) (fun u_83 H locs h_83 hP hD hS => ?_)
              have hP : va_P D vwCl [(t, .inr (5, [.ref tl, .int (nI L), .int (nI (cMs cc L n a).1), .int (FZ (cMs cc L n a).2.1)])), (tl, .inl (cB, 120, .inl lt)), (o, .inr (3, [.ref ga, .ref ma, .int (nI (n + (cTm cc L n a).2.2)), .int rg, .int bl])), (ga, .inl (cI, 20, .inl (app n (cTm cc L n a).2.2 (nI (cGr cc L n a).2.2) fg))), (ma, .inl (cI, 20, .inl (app n (cTm cc L n a).2.2 (nI (cMs cc L n a).2.2) fm)))] _ := hP
              have hD : va_D (inW [(t, .inr (5, [.ref tl, .int (nI L), .int (nI a), .int (FZ 0)])), (tl, .inl (cB, 120, .inl lt)), (o, .inr (3, [.ref ga, .ref ma, .int (nI n), .int rg, .int bl])), (ga, .inl (cI, 20, .inl fg)), (ma, .inl (cI, 20, .inl fm))]) [(t, .inr (5, [.ref tl, .int (nI L), .int (nI (cMs cc L n a).1), .int (FZ (cMs cc L n a).2.1)])), (tl, .inl (cB, 120, .inl lt)), (o, .inr (3, [.ref ga, .ref ma, .int (nI (n + (cTm cc L n a).2.2)), .int rg, .int bl])), (ga, .inl (cI, 20, .inl (app n (cTm cc L n a).2.2 (nI (cGr cc L n a).2.2) fg))), (ma, .inl (cI, 20, .inl (app n (cTm cc L n a).2.2 (nI (cMs cc L n a).2.2) fm)))] := hD
              exact W.vret hx hb hr (fun tS htS hWS => ⟨⟨(n + (cTm cc L n a).2.2, app n (cTm cc L n a).2.2 (nI (cGr cc L n a).2.2) fg, app n (cTm cc L n a).2.2 (nI (cMs cc L n a).2.2) fm), rfl, (by unfold cAdd; rw [if_pos d1]), retP htS hP⟩, hS.F htS⟩) hS.2.2 dX5_readStations_86
        · skip
          refine lv_if_eq (tgt := 66) hx hb dX5_readStations_52 (by decide) (fun c_52 => ?_) (fun c_52 => ?_)
          · skip
            refine lv_iconst (v := 0) hx hb dX5_readStations_66 (by decide) ?_
            refine lv_topi (fun y_25 e_26 => ?_)
            have e_26 : nI 0 = y_25 := (e_26.trans (rfl)).symm
            subst e_26
            have e8 : (((cTm cc L n a).1, (cTm cc L n a).2.1, 0) : Nat × Nat × Nat) = cMs cc L n a := by unfold cMs cOpt; rw [if_neg (by rw [b2]; exact Bool.false_ne_true)]
            have e9 : ([(t, .inr (5, [.ref tl, .int (nI L), .int (nI ((cTm cc L n a).1)), .int (FZ (cTm cc L n a).2.1)])), (tl, .inl (cB, 120, .inl lt)), (o, .inr (3, [.ref ga, .ref ma, .int (nI n), .int rg, .int bl])), (ga, .inl (cI, 20, .inl fg)), (ma, .inl (cI, 20, .inl fm))] : va_W) = [(t, .inr (5, [.ref tl, .int (nI L), .int (nI (cMs cc L n a).1), .int (FZ (cTm cc L n a).2.1)])), (tl, .inl (cB, 120, .inl lt)), (o, .inr (3, [.ref ga, .ref ma, .int (nI n), .int rg, .int bl])), (ga, .inl (cI, 20, .inl fg)), (ma, .inl (cI, 20, .inl fm))] := congrArg (fun f9 : Int32 => ([(t, .inr (5, [.ref tl, .int (nI L), .int f9, .int (FZ (cTm cc L n a).2.1)])), (tl, .inl (cB, 120, .inl lt)), (o, .inr (3, [.ref ga, .ref ma, .int (nI n), .int rg, .int bl])), (ga, .inl (cI, 20, .inl fg)), (ma, .inl (cI, 20, .inl fm))] : va_W)) (show nI ((cTm cc L n a).1) = nI (cMs cc L n a).1 from congrArg nI (show ((cTm cc L n a).1) = (cMs cc L n a).1 from congrArg (fun z => z.1) e8))
            have hP := va_P_eq e9 hP
            have hD := va_D_eq e9 hD
            have e9 : ([(t, .inr (5, [.ref tl, .int (nI L), .int (nI (cMs cc L n a).1), .int (FZ (cTm cc L n a).2.1)])), (tl, .inl (cB, 120, .inl lt)), (o, .inr (3, [.ref ga, .ref ma, .int (nI n), .int rg, .int bl])), (ga, .inl (cI, 20, .inl fg)), (ma, .inl (cI, 20, .inl fm))] : va_W) = [(t, .inr (5, [.ref tl, .int (nI L), .int (nI (cMs cc L n a).1), .int (FZ (cMs cc L n a).2.1)])), (tl, .inl (cB, 120, .inl lt)), (o, .inr (3, [.ref ga, .ref ma, .int (nI n), .int rg, .int bl])), (ga, .inl (cI, 20, .inl fg)), (ma, .inl (cI, 20, .inl fm))] := congrArg (fun f9 : Int32 => ([(t, .inr (5, [.ref tl, .int (nI L), .int (nI (cMs cc L n a).1), .int f9])), (tl, .inl (cB, 120, .inl lt)), (o, .inr (3, [.ref ga, .ref ma, .int (nI n), .int rg, .int bl])), (ga, .inl (cI, 20, .inl fg)), (ma, .inl (cI, 20, .inl fm))] : va_W)) (show FZ (cTm cc L n a).2.1 = FZ (cMs cc L n a).2.1 from congrArg FZ (show (cTm cc L n a).2.1 = (cMs cc L n a).2.1 from congrArg (fun z => z.2.1) e8))
            have hP := va_P_eq e9 hP
            have hD := va_D_eq e9 hD
            refine lv_topi (fun y_27 e_28 => ?_)
            have e_28 : nI (cMs cc L n a).2.2 = y_27 := (e_28.trans (congrArg nI (show 0 = (cMs cc L n a).2.2 from congrArg (fun z => z.2.2) e8))).symm
            subst e_28
            have hm1 := (cMs_le (cc := cc) (n := n) ha).1
            have hm2 := (cMs_le (cc := cc) (n := n) ha).2
            refine lv_istore (lv' := [(5, .int (nI (cMs cc L n a).2.2)), (4, .int (nI (cTm cc L n a).2.2)), (3, .int (nI (cGr cc L n a).2.2)), (2, .int (nI (20 - n))), (0, .ref t), (1, .ref o)]) hx hb dX5_readStations_67 hl (by decide) rfl (fun ls hl => ?_)
            refine lv_aload_n hx hb dX5_readStations_69 rfl (lv_at hl 4 rfl) ?_
            refine va_get (D := D) (ci := 5) (v := .int (FZ (cMs cc L n a).2.1)) (C := RX5) (T := TX5) (N := 4) hx hb hts kX5_readStations_2 hown hK hP 0 rfl rfl 3 (by decide) (hts (.fieldLink RX5 22 "SightRidge$Text" "flaw" "I") kX5_readStations_3) (fun _ h9 => h9) rfl dX5_readStations_70 ?_
            refine lv_iconst (v := (-1)) hx hb dX5_readStations_73 (by decide) ?_
            refine lv_icmp_ne (tgt := 86) hx hb dX5_readStations_74 (by decide) (fun c_74 => ?_) (fun c_74 => ?_)
            · skip
              have d1 : ¬ (cMs cc L n a).2.1 = 0 := fun q => c_74 (by rw [q]; rfl)
              exact W.vret hx hb hr (fun tS htS hWS => ⟨⟨(n, fg, fm), rfl, (by unfold cAdd; rw [if_neg d1]), retP htS hP⟩, hS.F htS⟩) hS.2.2 dX5_readStations_86
            · skip
              have d1 : (cMs cc L n a).2.1 = 0 := (FZ_eq (by omega)).mp c_74
              have h0 := cMs_0 d1
              refine lv_aload_n hx hb dX5_readStations_77 rfl (lv_at hl 5 rfl) ?_
              refine lv_iload hx hb dX5_readStations_78 (lv_at hl 1 rfl) ?_
              refine lv_iload_n hx hb dX5_readStations_80 rfl (lv_at hl 2 rfl) ?_
              refine lv_iload hx hb dX5_readStations_81 (lv_at hl 0 rfl) ?_
              refine wv_callv (wc := [(o, .inr (3, [.ref ga, .ref ma, .int (nI n), .int rg, .int bl])), (ga, .inl (cI, 20, .inl fg)), (ma, .inl (cI, 20, .inl fm))]) hP hD hS [2, 3, 4] rfl rfl (va_runV (As := [.int (nI (cTm cc L n a).2.2), .int (nI (cGr cc L n a).2.2), .int (nI (cMs cc L n a).2.2)]) (rest := []) ⟨hx, hb, hml, hown, hts⟩ (c_X3_append l D cI cB cO o ga ma n rg bl fg fm (cTm cc L n a).2.2 (nI (cGr cc L n a).2.2) (nI (cMs cc L n a).2.2) h0.2.2) (cwV 3 hts gX5_readStations_X3_append rfl rfl rfl (by decide +kernel) ⟨Nat.le_of_ble_eq_true rfl, Nat.le_of_ble_eq_true rfl⟩) (wr_preV (wc := [(o, .inr (3, [.ref ga, .ref ma, .int (nI n), .int rg, .int bl])), (ga, .inl (cI, 20, .inl fg)), (ma, .inl (cI, 20, .inl fm))]) (r := (RX3, TX3, 5)) (ci := 3) hK (hP.pick [2, 3, 4] rfl) hN (wr_dsub hD [2, 3, 4] rfl rfl) (q0 := 0) rfl rfl) rfl rfl hl.1 rfl (lv_room (Nat.le_of_ble_eq_true rfl)) dX5_readStations_83 ⟨Nat.le_refl _, Nat.le_refl _⟩) (fun _ => [(t, .inr (5, [.ref tl, .int (nI L), .int (nI (cMs cc L n a).1), .int (FZ (cMs cc L n a).2.1)])), (tl, .inl (cB, 120, .inl lt)), (o, .inr (3, [.ref ga, .ref ma, .int (nI (n + (cTm cc L n a).2.2)), .int rg, .int bl])), (ga, .inl (cI, 20, .inl (app n (cTm cc L n a).2.2 (nI (cGr cc L n a).2.2) fg))), (ma, .inl (cI, 20, .inl (app n (cTm cc L n a).2.2 (nI (cMs cc L n a).2.2) fm)))]) (fun _ => rfl) (fun _ => rfl) (fun u_83 H locs h_83 hP hD hS => ?_)
              have hP : va_P D vwCl [(t, .inr (5, [.ref tl, .int (nI L), .int (nI (cMs cc L n a).1), .int (FZ (cMs cc L n a).2.1)])), (tl, .inl (cB, 120, .inl lt)), (o, .inr (3, [.ref ga, .ref ma, .int (nI (n + (cTm cc L n a).2.2)), .int rg, .int bl])), (ga, .inl (cI, 20, .inl (app n (cTm cc L n a).2.2 (nI (cGr cc L n a).2.2) fg))), (ma, .inl (cI, 20, .inl (app n (cTm cc L n a).2.2 (nI (cMs cc L n a).2.2) fm)))] _ := hP
              have hD : va_D (inW [(t, .inr (5, [.ref tl, .int (nI L), .int (nI a), .int (FZ 0)])), (tl, .inl (cB, 120, .inl lt)), (o, .inr (3, [.ref ga, .ref ma, .int (nI n), .int rg, .int bl])), (ga, .inl (cI, 20, .inl fg)), (ma, .inl (cI, 20, .inl fm))]) [(t, .inr (5, [.ref tl, .int (nI L), .int (nI (cMs cc L n a).1), .int (FZ (cMs cc L n a).2.1)])), (tl, .inl (cB, 120, .inl lt)), (o, .inr (3, [.ref ga, .ref ma, .int (nI (n + (cTm cc L n a).2.2)), .int rg, .int bl])), (ga, .inl (cI, 20, .inl (app n (cTm cc L n a).2.2 (nI (cGr cc L n a).2.2) fg))), (ma, .inl (cI, 20, .inl (app n (cTm cc L n a).2.2 (nI (cMs cc L n a).2.2) fm)))] := hD
              exact W.vret hx hb hr (fun tS htS hWS => ⟨⟨(n + (cTm cc L n a).2.2, app n (cTm cc L n a).2.2 (nI (cGr cc L n a).2.2) fg, app n (cTm cc L n a).2.2 (nI (cMs cc L n a).2.2) fm), rfl, (by unfold cAdd; rw [if_pos d1]), retP htS hP⟩, hS.F htS⟩) hS.2.2 dX5_readStations_86
          · skip
            exact absurd (by decide) c_52
    · skip
      refine lv_if_eq (tgt := 43) hx hb dX5_readStations_31 (by decide) (fun c_31 => ?_) (fun c_31 => ?_)
      · skip
        refine lv_iconst (v := 1) hx hb dX5_readStations_43 (by decide) ?_
        refine lv_topi (fun y_29 e_30 => ?_)
        have e_30 : nI 1 = y_29 := (e_30.trans (rfl)).symm
        subst e_30
        have e8 : (((cGr cc L n a).1, (cGr cc L n a).2.1, 1) : Nat × Nat × Nat) = cTm cc L n a := by unfold cTm cOpt; rw [if_neg (by rw [b1]; exact Bool.false_ne_true)]
        have e9 : ([(t, .inr (5, [.ref tl, .int (nI L), .int (nI ((cGr cc L n a).1)), .int (FZ (cGr cc L n a).2.1)])), (tl, .inl (cB, 120, .inl lt)), (o, .inr (3, [.ref ga, .ref ma, .int (nI n), .int rg, .int bl])), (ga, .inl (cI, 20, .inl fg)), (ma, .inl (cI, 20, .inl fm))] : va_W) = [(t, .inr (5, [.ref tl, .int (nI L), .int (nI (cTm cc L n a).1), .int (FZ (cGr cc L n a).2.1)])), (tl, .inl (cB, 120, .inl lt)), (o, .inr (3, [.ref ga, .ref ma, .int (nI n), .int rg, .int bl])), (ga, .inl (cI, 20, .inl fg)), (ma, .inl (cI, 20, .inl fm))] := congrArg (fun f9 : Int32 => ([(t, .inr (5, [.ref tl, .int (nI L), .int f9, .int (FZ (cGr cc L n a).2.1)])), (tl, .inl (cB, 120, .inl lt)), (o, .inr (3, [.ref ga, .ref ma, .int (nI n), .int rg, .int bl])), (ga, .inl (cI, 20, .inl fg)), (ma, .inl (cI, 20, .inl fm))] : va_W)) (show nI ((cGr cc L n a).1) = nI (cTm cc L n a).1 from congrArg nI (show ((cGr cc L n a).1) = (cTm cc L n a).1 from congrArg (fun z => z.1) e8))
        have hP := va_P_eq e9 hP
        have hD := va_D_eq e9 hD
        have e9 : ([(t, .inr (5, [.ref tl, .int (nI L), .int (nI (cTm cc L n a).1), .int (FZ (cGr cc L n a).2.1)])), (tl, .inl (cB, 120, .inl lt)), (o, .inr (3, [.ref ga, .ref ma, .int (nI n), .int rg, .int bl])), (ga, .inl (cI, 20, .inl fg)), (ma, .inl (cI, 20, .inl fm))] : va_W) = [(t, .inr (5, [.ref tl, .int (nI L), .int (nI (cTm cc L n a).1), .int (FZ (cTm cc L n a).2.1)])), (tl, .inl (cB, 120, .inl lt)), (o, .inr (3, [.ref ga, .ref ma, .int (nI n), .int rg, .int bl])), (ga, .inl (cI, 20, .inl fg)), (ma, .inl (cI, 20, .inl fm))] := congrArg (fun f9 : Int32 => ([(t, .inr (5, [.ref tl, .int (nI L), .int (nI (cTm cc L n a).1), .int f9])), (tl, .inl (cB, 120, .inl lt)), (o, .inr (3, [.ref ga, .ref ma, .int (nI n), .int rg, .int bl])), (ga, .inl (cI, 20, .inl fg)), (ma, .inl (cI, 20, .inl fm))] : va_W)) (show FZ (cGr cc L n a).2.1 = FZ (cTm cc L n a).2.1 from congrArg FZ (show (cGr cc L n a).2.1 = (cTm cc L n a).2.1 from congrArg (fun z => z.2.1) e8))
        have hP := va_P_eq e9 hP
        have hD := va_D_eq e9 hD
        refine lv_topi (fun y_31 e_32 => ?_)
        have e_32 : nI (cTm cc L n a).2.2 = y_31 := (e_32.trans (congrArg nI (show 1 = (cTm cc L n a).2.2 from congrArg (fun z => z.2.2) e8))).symm
        subst e_32
        have ht1 := (cTm_le (cc := cc) (n := n) ha).1
        have ht2 := (cTm_le (cc := cc) (n := n) ha).2
        refine lv_istore (lv' := [(4, .int (nI (cTm cc L n a).2.2)), (3, .int (nI (cGr cc L n a).2.2)), (2, .int (nI (20 - n))), (0, .ref t), (1, .ref o)]) hx hb dX5_readStations_44 hl (by decide) rfl (fun ls hl => ?_)
        refine lv_aload_n hx hb dX5_readStations_46 rfl (lv_at hl 3 rfl) ?_
        refine lv_bipush (v := 109) hx hb dX5_readStations_47 (by decide) ?_
        refine lv_topi (fun y_33 e_34 => ?_)
        have e_34 : nI 109 = y_33 := (e_34.trans (rfl)).symm
        subst e_34
        refine wv_calli (wc := [(t, .inr (5, [.ref tl, .int (nI L), .int (nI (cTm cc L n a).1), .int (FZ (cTm cc L n a).2.1)])), (tl, .inl (cB, 120, .inl lt))]) hP hD hS [0, 1] rfl rfl (va_runV (As := [.int (nI 109)]) (rest := []) ⟨hx, hb, hml, hown, hts⟩ (c_X5_accept l D cI cB cO t tl L lt cc ((cTm cc L n a).1) ((cTm cc L n a).2.1) 109 hL hlt hcc (by omega) (by decide)) (cwV 1 hts gX5_readStations_X5_accept rfl rfl rfl (by decide +kernel) ⟨Nat.le_of_ble_eq_true rfl, Nat.le_of_ble_eq_true rfl⟩) (wr_preV (wc := [(t, .inr (5, [.ref tl, .int (nI L), .int (nI (cTm cc L n a).1), .int (FZ (cTm cc L n a).2.1)])), (tl, .inl (cB, 120, .inl lt))]) (r := (RX5, TX5, 4)) (ci := 5) hK (hP.pick [0, 1] rfl) hN (wr_dsub hD [0, 1] rfl rfl) (q0 := 0) rfl rfl) rfl rfl hl.1 rfl (lv_room (Nat.le_of_ble_eq_true rfl)) dX5_readStations_49 ⟨Nat.le_refl _, Nat.le_refl _⟩) (fun u => [(t, .inr (5, [.ref tl, .int (nI L), .int (nI u), .int (FZ (cTm cc L n a).2.1)])), (tl, .inl (cB, 120, .inl lt)), (o, .inr (3, [.ref ga, .ref ma, .int (nI n), .int rg, .int bl])), (ga, .inl (cI, 20, .inl fg)), (ma, .inl (cI, 20, .inl fm))]) (fun _ => rfl) (fun _ => rfl) (fun r_49 u_49 H locs h_49 hP hD hS => ?_)
        rcases h_49 with ⟨b2, rfl, rfl⟩ | ⟨b2, rfl, rfl⟩
        · skip
          have ha3 : skp cc L ((cTm cc L n a).1 + 1) ≤ L := skp_le (of_decide_eq_true b2).1
          refine lv_if_eq (tgt := 66) hx hb dX5_readStations_52 (by decide) (fun c_52 => ?_) (fun c_52 => ?_)
          · skip
            exact absurd c_52 (by decide)
          · skip
            refine lv_aload_n hx hb dX5_readStations_55 rfl (lv_at hl 3 rfl) ?_
            refine lv_iconst (v := 1) hx hb dX5_readStations_56 (by decide) ?_
            refine lv_topi (fun y_35 e_36 => ?_)
            have e_36 : nI 1 = y_35 := (e_36.trans (rfl)).symm
            subst e_36
            refine lv_sipush (v := 200) hx hb dX5_readStations_57 (by decide) ?_
            refine lv_topi (fun y_37 e_38 => ?_)
            have e_38 : FZ 201 = y_37 := (e_38.trans (by decide)).symm
            subst e_38
            refine wv_calli (wc := [(t, .inr (5, [.ref tl, .int (nI L), .int (nI (skp cc L ((cTm cc L n a).1 + 1))), .int (FZ (cTm cc L n a).2.1)])), (tl, .inl (cB, 120, .inl lt))]) hP hD hS [0, 1] rfl rfl (va_runV (As := [.int (nI 1), .int (FZ 201)]) (rest := []) ⟨hx, hb, hml, hown, hts⟩ (c_X5_readNumber l D cI cB cO t tl L lt cc (skp cc L ((cTm cc L n a).1 + 1)) ((cTm cc L n a).2.1) 1 201 hL hlt hcc (by omega) (by omega) (by omega) (by omega)) (cwV 2 hts gX5_readStations_X5_readNumber rfl rfl rfl (by decide +kernel) ⟨Nat.le_of_ble_eq_true rfl, Nat.le_of_ble_eq_true rfl⟩) (wr_preV (wc := [(t, .inr (5, [.ref tl, .int (nI L), .int (nI (skp cc L ((cTm cc L n a).1 + 1))), .int (FZ (cTm cc L n a).2.1)])), (tl, .inl (cB, 120, .inl lt))]) (r := (RX5, TX5, 4)) (ci := 5) hK (hP.pick [0, 1] rfl) hN (wr_dsub hD [0, 1] rfl rfl) (q0 := 0) rfl rfl) rfl rfl hl.1 rfl (lv_room (Nat.le_of_ble_eq_true rfl)) dX5_readStations_60 ⟨Nat.le_refl _, Nat.le_refl _⟩) (fun _ => [(t, .inr (5, [.ref tl, .int (nI L), .int (nI (skp cc L (num cc L (skp cc L ((cTm cc L n a).1 + 1))).1)), .int (FZ (flN ((cTm cc L n a).2.1) (skp cc L ((cTm cc L n a).1 + 1)) (num cc L (skp cc L ((cTm cc L n a).1 + 1))).1 (num cc L (skp cc L ((cTm cc L n a).1 + 1))).2 1 201))])), (tl, .inl (cB, 120, .inl lt)), (o, .inr (3, [.ref ga, .ref ma, .int (nI n), .int rg, .int bl])), (ga, .inl (cI, 20, .inl fg)), (ma, .inl (cI, 20, .inl fm))]) (fun _ => rfl) (fun _ => rfl) (fun r_60 u_60 H locs h_60 hP hD hS => ?_)
            subst h_60
            have hP : va_P D vwCl [(t, .inr (5, [.ref tl, .int (nI L), .int (nI (skp cc L (num cc L (skp cc L ((cTm cc L n a).1 + 1))).1)), .int (FZ (flN ((cTm cc L n a).2.1) (skp cc L ((cTm cc L n a).1 + 1)) (num cc L (skp cc L ((cTm cc L n a).1 + 1))).1 (num cc L (skp cc L ((cTm cc L n a).1 + 1))).2 1 201))])), (tl, .inl (cB, 120, .inl lt)), (o, .inr (3, [.ref ga, .ref ma, .int (nI n), .int rg, .int bl])), (ga, .inl (cI, 20, .inl fg)), (ma, .inl (cI, 20, .inl fm))] _ := hP
            have hD : va_D (inW [(t, .inr (5, [.ref tl, .int (nI L), .int (nI a), .int (FZ 0)])), (tl, .inl (cB, 120, .inl lt)), (o, .inr (3, [.ref ga, .ref ma, .int (nI n), .int rg, .int bl])), (ga, .inl (cI, 20, .inl fg)), (ma, .inl (cI, 20, .inl fm))]) [(t, .inr (5, [.ref tl, .int (nI L), .int (nI (skp cc L (num cc L (skp cc L ((cTm cc L n a).1 + 1))).1)), .int (FZ (flN ((cTm cc L n a).2.1) (skp cc L ((cTm cc L n a).1 + 1)) (num cc L (skp cc L ((cTm cc L n a).1 + 1))).1 (num cc L (skp cc L ((cTm cc L n a).1 + 1))).2 1 201))])), (tl, .inl (cB, 120, .inl lt)), (o, .inr (3, [.ref ga, .ref ma, .int (nI n), .int rg, .int bl])), (ga, .inl (cI, 20, .inl fg)), (ma, .inl (cI, 20, .inl fm))] := hD
            refine lv_goto (tgt := 67) hx hb dX5_readStations_63 (by decide) ?_
            have e8 : cNum cc L (cTm cc L n a).2.1 1 201 (skp cc L ((cTm cc L n a).1 + 1)) = cMs cc L n a := by unfold cMs cOpt; rw [if_pos b2]
            have e9 : ([(t, .inr (5, [.ref tl, .int (nI L), .int (nI (skp cc L (num cc L (skp cc L ((cTm cc L n a).1 + 1))).1)), .int (FZ (flN ((cTm cc L n a).2.1) (skp cc L ((cTm cc L n a).1 + 1)) (num cc L (skp cc L ((cTm cc L n a).1 + 1))).1 (num cc L (skp cc L ((cTm cc L n a).1 + 1))).2 1 201))])), (tl, .inl (cB, 120, .inl lt)), (o, .inr (3, [.ref ga, .ref ma, .int (nI n), .int rg, .int bl])), (ga, .inl (cI, 20, .inl fg)), (ma, .inl (cI, 20, .inl fm))] : va_W) = [(t, .inr (5, [.ref tl, .int (nI L), .int (nI (cMs cc L n a).1), .int (FZ (flN ((cTm cc L n a).2.1) (skp cc L ((cTm cc L n a).1 + 1)) (num cc L (skp cc L ((cTm cc L n a).1 + 1))).1 (num cc L (skp cc L ((cTm cc L n a).1 + 1))).2 1 201))])), (tl, .inl (cB, 120, .inl lt)), (o, .inr (3, [.ref ga, .ref ma, .int (nI n), .int rg, .int bl])), (ga, .inl (cI, 20, .inl fg)), (ma, .inl (cI, 20, .inl fm))] := congrArg (fun f9 : Int32 => ([(t, .inr (5, [.ref tl, .int (nI L), .int f9, .int (FZ (flN ((cTm cc L n a).2.1) (skp cc L ((cTm cc L n a).1 + 1)) (num cc L (skp cc L ((cTm cc L n a).1 + 1))).1 (num cc L (skp cc L ((cTm cc L n a).1 + 1))).2 1 201))])), (tl, .inl (cB, 120, .inl lt)), (o, .inr (3, [.ref ga, .ref ma, .int (nI n), .int rg, .int bl])), (ga, .inl (cI, 20, .inl fg)), (ma, .inl (cI, 20, .inl fm))] : va_W)) (show nI (skp cc L (num cc L (skp cc L ((cTm cc L n a).1 + 1))).1) = nI (cMs cc L n a).1 from congrArg nI (show (skp cc L (num cc L (skp cc L ((cTm cc L n a).1 + 1))).1) = (cMs cc L n a).1 from congrArg (fun z => z.1) e8))
            have hP := va_P_eq e9 hP
            have hD := va_D_eq e9 hD
            have e9 : ([(t, .inr (5, [.ref tl, .int (nI L), .int (nI (cMs cc L n a).1), .int (FZ (flN ((cTm cc L n a).2.1) (skp cc L ((cTm cc L n a).1 + 1)) (num cc L (skp cc L ((cTm cc L n a).1 + 1))).1 (num cc L (skp cc L ((cTm cc L n a).1 + 1))).2 1 201))])), (tl, .inl (cB, 120, .inl lt)), (o, .inr (3, [.ref ga, .ref ma, .int (nI n), .int rg, .int bl])), (ga, .inl (cI, 20, .inl fg)), (ma, .inl (cI, 20, .inl fm))] : va_W) = [(t, .inr (5, [.ref tl, .int (nI L), .int (nI (cMs cc L n a).1), .int (FZ (cMs cc L n a).2.1)])), (tl, .inl (cB, 120, .inl lt)), (o, .inr (3, [.ref ga, .ref ma, .int (nI n), .int rg, .int bl])), (ga, .inl (cI, 20, .inl fg)), (ma, .inl (cI, 20, .inl fm))] := congrArg (fun f9 : Int32 => ([(t, .inr (5, [.ref tl, .int (nI L), .int (nI (cMs cc L n a).1), .int f9])), (tl, .inl (cB, 120, .inl lt)), (o, .inr (3, [.ref ga, .ref ma, .int (nI n), .int rg, .int bl])), (ga, .inl (cI, 20, .inl fg)), (ma, .inl (cI, 20, .inl fm))] : va_W)) (show FZ (flN ((cTm cc L n a).2.1) (skp cc L ((cTm cc L n a).1 + 1)) (num cc L (skp cc L ((cTm cc L n a).1 + 1))).1 (num cc L (skp cc L ((cTm cc L n a).1 + 1))).2 1 201) = FZ (cMs cc L n a).2.1 from congrArg FZ (show (flN ((cTm cc L n a).2.1) (skp cc L ((cTm cc L n a).1 + 1)) (num cc L (skp cc L ((cTm cc L n a).1 + 1))).1 (num cc L (skp cc L ((cTm cc L n a).1 + 1))).2 1 201) = (cMs cc L n a).2.1 from congrArg (fun z => z.2.1) e8))
            have hP := va_P_eq e9 hP
            have hD := va_D_eq e9 hD
            refine lv_topi (fun y_39 e_40 => ?_)
            have e_40 : nI (cMs cc L n a).2.2 = y_39 := (e_40.trans (congrArg nI (show (num cc L (skp cc L ((cTm cc L n a).1 + 1))).2 = (cMs cc L n a).2.2 from congrArg (fun z => z.2.2) e8))).symm
            subst e_40
            have hm1 := (cMs_le (cc := cc) (n := n) ha).1
            have hm2 := (cMs_le (cc := cc) (n := n) ha).2
            refine lv_istore (lv' := [(5, .int (nI (cMs cc L n a).2.2)), (4, .int (nI (cTm cc L n a).2.2)), (3, .int (nI (cGr cc L n a).2.2)), (2, .int (nI (20 - n))), (0, .ref t), (1, .ref o)]) hx hb dX5_readStations_67 hl (by decide) rfl (fun ls hl => ?_)
            refine lv_aload_n hx hb dX5_readStations_69 rfl (lv_at hl 4 rfl) ?_
            refine va_get (D := D) (ci := 5) (v := .int (FZ (cMs cc L n a).2.1)) (C := RX5) (T := TX5) (N := 4) hx hb hts kX5_readStations_2 hown hK hP 0 rfl rfl 3 (by decide) (hts (.fieldLink RX5 22 "SightRidge$Text" "flaw" "I") kX5_readStations_3) (fun _ h9 => h9) rfl dX5_readStations_70 ?_
            refine lv_iconst (v := (-1)) hx hb dX5_readStations_73 (by decide) ?_
            refine lv_icmp_ne (tgt := 86) hx hb dX5_readStations_74 (by decide) (fun c_74 => ?_) (fun c_74 => ?_)
            · skip
              have d1 : ¬ (cMs cc L n a).2.1 = 0 := fun q => c_74 (by rw [q]; rfl)
              exact W.vret hx hb hr (fun tS htS hWS => ⟨⟨(n, fg, fm), rfl, (by unfold cAdd; rw [if_neg d1]), retP htS hP⟩, hS.F htS⟩) hS.2.2 dX5_readStations_86
            · skip
              have d1 : (cMs cc L n a).2.1 = 0 := (FZ_eq (by omega)).mp c_74
              have h0 := cMs_0 d1
              refine lv_aload_n hx hb dX5_readStations_77 rfl (lv_at hl 5 rfl) ?_
              refine lv_iload hx hb dX5_readStations_78 (lv_at hl 1 rfl) ?_
              refine lv_iload_n hx hb dX5_readStations_80 rfl (lv_at hl 2 rfl) ?_
              refine lv_iload hx hb dX5_readStations_81 (lv_at hl 0 rfl) ?_
              refine wv_callv (wc := [(o, .inr (3, [.ref ga, .ref ma, .int (nI n), .int rg, .int bl])), (ga, .inl (cI, 20, .inl fg)), (ma, .inl (cI, 20, .inl fm))]) hP hD hS [2, 3, 4] rfl rfl (va_runV (As := [.int (nI (cTm cc L n a).2.2), .int (nI (cGr cc L n a).2.2), .int (nI (cMs cc L n a).2.2)]) (rest := []) ⟨hx, hb, hml, hown, hts⟩ (c_X3_append l D cI cB cO o ga ma n rg bl fg fm (cTm cc L n a).2.2 (nI (cGr cc L n a).2.2) (nI (cMs cc L n a).2.2) h0.2.2) (cwV 3 hts gX5_readStations_X3_append rfl rfl rfl (by decide +kernel) ⟨Nat.le_of_ble_eq_true rfl, Nat.le_of_ble_eq_true rfl⟩) (wr_preV (wc := [(o, .inr (3, [.ref ga, .ref ma, .int (nI n), .int rg, .int bl])), (ga, .inl (cI, 20, .inl fg)), (ma, .inl (cI, 20, .inl fm))]) (r := (RX3, TX3, 5)) (ci := 3) hK (hP.pick [2, 3, 4] rfl) hN (wr_dsub hD [2, 3, 4] rfl rfl) (q0 := 0) rfl rfl) rfl rfl hl.1 rfl (lv_room (Nat.le_of_ble_eq_true rfl)) dX5_readStations_83 ⟨Nat.le_refl _, Nat.le_refl _⟩) (fun _ => [(t, .inr (5, [.ref tl, .int (nI L), .int (nI (cMs cc L n a).1), .int (FZ (cMs cc L n a).2.1)])), (tl, .inl (cB, 120, .inl lt)), (o, .inr (3, [.ref ga, .ref ma, .int (nI (n + (cTm cc L n a).2.2)), .int rg, .int bl])), (ga, .inl (cI, 20, .inl (app n (cTm cc L n a).2.2 (nI (cGr cc L n a).2.2) fg))), (ma, .inl (cI, 20, .inl (app n (cTm cc L n a).2.2 (nI (cMs cc L n a).2.2) fm)))]) (fun _ => rfl) (fun _ => rfl) (fun u_83 H locs h_83 hP hD hS => ?_)
              have hP : va_P D vwCl [(t, .inr (5, [.ref tl, .int (nI L), .int (nI (cMs cc L n a).1), .int (FZ (cMs cc L n a).2.1)])), (tl, .inl (cB, 120, .inl lt)), (o, .inr (3, [.ref ga, .ref ma, .int (nI (n + (cTm cc L n a).2.2)), .int rg, .int bl])), (ga, .inl (cI, 20, .inl (app n (cTm cc L n a).2.2 (nI (cGr cc L n a).2.2) fg))), (ma, .inl (cI, 20, .inl (app n (cTm cc L n a).2.2 (nI (cMs cc L n a).2.2) fm)))] _ := hP
              have hD : va_D (inW [(t, .inr (5, [.ref tl, .int (nI L), .int (nI a), .int (FZ 0)])), (tl, .inl (cB, 120, .inl lt)), (o, .inr (3, [.ref ga, .ref ma, .int (nI n), .int rg, .int bl])), (ga, .inl (cI, 20, .inl fg)), (ma, .inl (cI, 20, .inl fm))]) [(t, .inr (5, [.ref tl, .int (nI L), .int (nI (cMs cc L n a).1), .int (FZ (cMs cc L n a).2.1)])), (tl, .inl (cB, 120, .inl lt)), (o, .inr (3, [.ref ga, .ref ma, .int (nI (n + (cTm cc L n a).2.2)), .int rg, .int bl])), (ga, .inl (cI, 20, .inl (app n (cTm cc L n a).2.2 (nI (cGr cc L n a).2.2) fg))), (ma, .inl (cI, 20, .inl (app n (cTm cc L n a).2.2 (nI (cMs cc L n a).2.2) fm)))] := hD
              exact W.vret hx hb hr (fun tS htS hWS => ⟨⟨(n + (cTm cc L n a).2.2, app n (cTm cc L n a).2.2 (nI (cGr cc L n a).2.2) fg, app n (cTm cc L n a).2.2 (nI (cMs cc L n a).2.2) fm), rfl, (by unfold cAdd; rw [if_pos d1]), retP htS hP⟩, hS.F htS⟩) hS.2.2 dX5_readStations_86
        · skip
          refine lv_if_eq (tgt := 66) hx hb dX5_readStations_52 (by decide) (fun c_52 => ?_) (fun c_52 => ?_)
          · skip
            refine lv_iconst (v := 0) hx hb dX5_readStations_66 (by decide) ?_
            refine lv_topi (fun y_41 e_42 => ?_)
            have e_42 : nI 0 = y_41 := (e_42.trans (rfl)).symm
            subst e_42
            have e8 : (((cTm cc L n a).1, (cTm cc L n a).2.1, 0) : Nat × Nat × Nat) = cMs cc L n a := by unfold cMs cOpt; rw [if_neg (by rw [b2]; exact Bool.false_ne_true)]
            have e9 : ([(t, .inr (5, [.ref tl, .int (nI L), .int (nI ((cTm cc L n a).1)), .int (FZ (cTm cc L n a).2.1)])), (tl, .inl (cB, 120, .inl lt)), (o, .inr (3, [.ref ga, .ref ma, .int (nI n), .int rg, .int bl])), (ga, .inl (cI, 20, .inl fg)), (ma, .inl (cI, 20, .inl fm))] : va_W) = [(t, .inr (5, [.ref tl, .int (nI L), .int (nI (cMs cc L n a).1), .int (FZ (cTm cc L n a).2.1)])), (tl, .inl (cB, 120, .inl lt)), (o, .inr (3, [.ref ga, .ref ma, .int (nI n), .int rg, .int bl])), (ga, .inl (cI, 20, .inl fg)), (ma, .inl (cI, 20, .inl fm))] := congrArg (fun f9 : Int32 => ([(t, .inr (5, [.ref tl, .int (nI L), .int f9, .int (FZ (cTm cc L n a).2.1)])), (tl, .inl (cB, 120, .inl lt)), (o, .inr (3, [.ref ga, .ref ma, .int (nI n), .int rg, .int bl])), (ga, .inl (cI, 20, .inl fg)), (ma, .inl (cI, 20, .inl fm))] : va_W)) (show nI ((cTm cc L n a).1) = nI (cMs cc L n a).1 from congrArg nI (show ((cTm cc L n a).1) = (cMs cc L n a).1 from congrArg (fun z => z.1) e8))
            have hP := va_P_eq e9 hP
            have hD := va_D_eq e9 hD
            have e9 : ([(t, .inr (5, [.ref tl, .int (nI L), .int (nI (cMs cc L n a).1), .int (FZ (cTm cc L n a).2.1)])), (tl, .inl (cB, 120, .inl lt)), (o, .inr (3, [.ref ga, .ref ma, .int (nI n), .int rg, .int bl])), (ga, .inl (cI, 20, .inl fg)), (ma, .inl (cI, 20, .inl fm))] : va_W) = [(t, .inr (5, [.ref tl, .int (nI L), .int (nI (cMs cc L n a).1), .int (FZ (cMs cc L n a).2.1)])), (tl, .inl (cB, 120, .inl lt)), (o, .inr (3, [.ref ga, .ref ma, .int (nI n), .int rg, .int bl])), (ga, .inl (cI, 20, .inl fg)), (ma, .inl (cI, 20, .inl fm))] := congrArg (fun f9 : Int32 => ([(t, .inr (5, [.ref tl, .int (nI L), .int (nI (cMs cc L n a).1), .int f9])), (tl, .inl (cB, 120, .inl lt)), (o, .inr (3, [.ref ga, .ref ma, .int (nI n), .int rg, .int bl])), (ga, .inl (cI, 20, .inl fg)), (ma, .inl (cI, 20, .inl fm))] : va_W)) (show FZ (cTm cc L n a).2.1 = FZ (cMs cc L n a).2.1 from congrArg FZ (show (cTm cc L n a).2.1 = (cMs cc L n a).2.1 from congrArg (fun z => z.2.1) e8))
            have hP := va_P_eq e9 hP
            have hD := va_D_eq e9 hD
            refine lv_topi (fun y_43 e_44 => ?_)
            have e_44 : nI (cMs cc L n a).2.2 = y_43 := (e_44.trans (congrArg nI (show 0 = (cMs cc L n a).2.2 from congrArg (fun z => z.2.2) e8))).symm
            subst e_44
            have hm1 := (cMs_le (cc := cc) (n := n) ha).1
            have hm2 := (cMs_le (cc := cc) (n := n) ha).2
            refine lv_istore (lv' := [(5, .int (nI (cMs cc L n a).2.2)), (4, .int (nI (cTm cc L n a).2.2)), (3, .int (nI (cGr cc L n a).2.2)), (2, .int (nI (20 - n))), (0, .ref t), (1, .ref o)]) hx hb dX5_readStations_67 hl (by decide) rfl (fun ls hl => ?_)
            refine lv_aload_n hx hb dX5_readStations_69 rfl (lv_at hl 4 rfl) ?_
            refine va_get (D := D) (ci := 5) (v := .int (FZ (cMs cc L n a).2.1)) (C := RX5) (T := TX5) (N := 4) hx hb hts kX5_readStations_2 hown hK hP 0 rfl rfl 3 (by decide) (hts (.fieldLink RX5 22 "SightRidge$Text" "flaw" "I") kX5_readStations_3) (fun _ h9 => h9) rfl dX5_readStations_70 ?_
            refine lv_iconst (v := (-1)) hx hb dX5_readStations_73 (by decide) ?_
            refine lv_icmp_ne (tgt := 86) hx hb dX5_readStations_74 (by decide) (fun c_74 => ?_) (fun c_74 => ?_)
            · skip
              have d1 : ¬ (cMs cc L n a).2.1 = 0 := fun q => c_74 (by rw [q]; rfl)
              exact W.vret hx hb hr (fun tS htS hWS => ⟨⟨(n, fg, fm), rfl, (by unfold cAdd; rw [if_neg d1]), retP htS hP⟩, hS.F htS⟩) hS.2.2 dX5_readStations_86
            · skip
              have d1 : (cMs cc L n a).2.1 = 0 := (FZ_eq (by omega)).mp c_74
              have h0 := cMs_0 d1
              refine lv_aload_n hx hb dX5_readStations_77 rfl (lv_at hl 5 rfl) ?_
              refine lv_iload hx hb dX5_readStations_78 (lv_at hl 1 rfl) ?_
              refine lv_iload_n hx hb dX5_readStations_80 rfl (lv_at hl 2 rfl) ?_
              refine lv_iload hx hb dX5_readStations_81 (lv_at hl 0 rfl) ?_
              refine wv_callv (wc := [(o, .inr (3, [.ref ga, .ref ma, .int (nI n), .int rg, .int bl])), (ga, .inl (cI, 20, .inl fg)), (ma, .inl (cI, 20, .inl fm))]) hP hD hS [2, 3, 4] rfl rfl (va_runV (As := [.int (nI (cTm cc L n a).2.2), .int (nI (cGr cc L n a).2.2), .int (nI (cMs cc L n a).2.2)]) (rest := []) ⟨hx, hb, hml, hown, hts⟩ (c_X3_append l D cI cB cO o ga ma n rg bl fg fm (cTm cc L n a).2.2 (nI (cGr cc L n a).2.2) (nI (cMs cc L n a).2.2) h0.2.2) (cwV 3 hts gX5_readStations_X3_append rfl rfl rfl (by decide +kernel) ⟨Nat.le_of_ble_eq_true rfl, Nat.le_of_ble_eq_true rfl⟩) (wr_preV (wc := [(o, .inr (3, [.ref ga, .ref ma, .int (nI n), .int rg, .int bl])), (ga, .inl (cI, 20, .inl fg)), (ma, .inl (cI, 20, .inl fm))]) (r := (RX3, TX3, 5)) (ci := 3) hK (hP.pick [2, 3, 4] rfl) hN (wr_dsub hD [2, 3, 4] rfl rfl) (q0 := 0) rfl rfl) rfl rfl hl.1 rfl (lv_room (Nat.le_of_ble_eq_true rfl)) dX5_readStations_83 ⟨Nat.le_refl _, Nat.le_refl _⟩) (fun _ => [(t, .inr (5, [.ref tl, .int (nI L), .int (nI (cMs cc L n a).1), .int (FZ (cMs cc L n a).2.1)])), (tl, .inl (cB, 120, .inl lt)), (o, .inr (3, [.ref ga, .ref ma, .int (nI (n + (cTm cc L n a).2.2)), .int rg, .int bl])), (ga, .inl (cI, 20, .inl (app n (cTm cc L n a).2.2 (nI (cGr cc L n a).2.2) fg))), (ma, .inl (cI, 20, .inl (app n (cTm cc L n a).2.2 (nI (cMs cc L n a).2.2) fm)))]) (fun _ => rfl) (fun _ => rfl) (fun u_83 H locs h_83 hP hD hS => ?_)
              have hP : va_P D vwCl [(t, .inr (5, [.ref tl, .int (nI L), .int (nI (cMs cc L n a).1), .int (FZ (cMs cc L n a).2.1)])), (tl, .inl (cB, 120, .inl lt)), (o, .inr (3, [.ref ga, .ref ma, .int (nI (n + (cTm cc L n a).2.2)), .int rg, .int bl])), (ga, .inl (cI, 20, .inl (app n (cTm cc L n a).2.2 (nI (cGr cc L n a).2.2) fg))), (ma, .inl (cI, 20, .inl (app n (cTm cc L n a).2.2 (nI (cMs cc L n a).2.2) fm)))] _ := hP
              have hD : va_D (inW [(t, .inr (5, [.ref tl, .int (nI L), .int (nI a), .int (FZ 0)])), (tl, .inl (cB, 120, .inl lt)), (o, .inr (3, [.ref ga, .ref ma, .int (nI n), .int rg, .int bl])), (ga, .inl (cI, 20, .inl fg)), (ma, .inl (cI, 20, .inl fm))]) [(t, .inr (5, [.ref tl, .int (nI L), .int (nI (cMs cc L n a).1), .int (FZ (cMs cc L n a).2.1)])), (tl, .inl (cB, 120, .inl lt)), (o, .inr (3, [.ref ga, .ref ma, .int (nI (n + (cTm cc L n a).2.2)), .int rg, .int bl])), (ga, .inl (cI, 20, .inl (app n (cTm cc L n a).2.2 (nI (cGr cc L n a).2.2) fg))), (ma, .inl (cI, 20, .inl (app n (cTm cc L n a).2.2 (nI (cMs cc L n a).2.2) fm)))] := hD
              exact W.vret hx hb hr (fun tS htS hWS => ⟨⟨(n + (cTm cc L n a).2.2, app n (cTm cc L n a).2.2 (nI (cGr cc L n a).2.2) fg, app n (cTm cc L n a).2.2 (nI (cMs cc L n a).2.2) fm), rfl, (by unfold cAdd; rw [if_pos d1]), retP htS hP⟩, hS.F htS⟩) hS.2.2 dX5_readStations_86
          · skip
            exact absurd (by decide) c_52
      · skip
        exact absurd (by decide) c_31
  · skip
    have c1 : n < 20 := by rcases Nat.lt_or_ge n 20 with q | q; exact q; exact absurd (by rw [show 20 - n = 0 by omega]; decide) c_11
    refine lv_sipush (v := 999) hx hb dX5_readStations_14 (by decide) ?_
    refine lv_topi (fun y_45 e_46 => ?_)
    have e_46 : FZ 1000 = y_45 := (e_46.trans (by decide)).symm
    subst e_46
    refine lv_goto (tgt := 21) hx hb dX5_readStations_17 (by decide) ?_
    refine wv_calli (wc := [(t, .inr (5, [.ref tl, .int (nI L), .int (nI a), .int (FZ 0)])), (tl, .inl (cB, 120, .inl lt))]) hP hD hS [0, 1] rfl rfl (va_runV (As := [.int (nI 0), .int (FZ 1000)]) (rest := []) ⟨hx, hb, hml, hown, hts⟩ (c_X5_readNumber l D cI cB cO t tl L lt cc (a) (0) 0 1000 hL hlt hcc (by omega) (by omega) (by omega) (by omega)) (cwV 2 hts gX5_readStations_X5_readNumber rfl rfl rfl (by decide +kernel) ⟨Nat.le_of_ble_eq_true rfl, Nat.le_of_ble_eq_true rfl⟩) (wr_preV (wc := [(t, .inr (5, [.ref tl, .int (nI L), .int (nI a), .int (FZ 0)])), (tl, .inl (cB, 120, .inl lt))]) (r := (RX5, TX5, 4)) (ci := 5) hK (hP.pick [0, 1] rfl) hN (wr_dsub hD [0, 1] rfl rfl) (q0 := 0) rfl rfl) rfl rfl hl.1 rfl (lv_room (Nat.le_of_ble_eq_true rfl)) dX5_readStations_21 ⟨Nat.le_refl _, Nat.le_refl _⟩) (fun _ => [(t, .inr (5, [.ref tl, .int (nI L), .int (nI (skp cc L (num cc L (a)).1)), .int (FZ (flN (0) (a) (num cc L (a)).1 (num cc L (a)).2 0 1000))])), (tl, .inl (cB, 120, .inl lt)), (o, .inr (3, [.ref ga, .ref ma, .int (nI n), .int rg, .int bl])), (ga, .inl (cI, 20, .inl fg)), (ma, .inl (cI, 20, .inl fm))]) (fun _ => rfl) (fun _ => rfl) (fun r_21 u_21 H locs h_21 hP hD hS => ?_)
    subst h_21
    have hP : va_P D vwCl [(t, .inr (5, [.ref tl, .int (nI L), .int (nI (skp cc L (num cc L (a)).1)), .int (FZ (flN (0) (a) (num cc L (a)).1 (num cc L (a)).2 0 1000))])), (tl, .inl (cB, 120, .inl lt)), (o, .inr (3, [.ref ga, .ref ma, .int (nI n), .int rg, .int bl])), (ga, .inl (cI, 20, .inl fg)), (ma, .inl (cI, 20, .inl fm))] _ := hP
    have hD : va_D (inW [(t, .inr (5, [.ref tl, .int (nI L), .int (nI a), .int (FZ 0)])), (tl, .inl (cB, 120, .inl lt)), (o, .inr (3, [.ref ga, .ref ma, .int (nI n), .int rg, .int bl])), (ga, .inl (cI, 20, .inl fg)), (ma, .inl (cI, 20, .inl fm))]) [(t, .inr (5, [.ref tl, .int (nI L), .int (nI (skp cc L (num cc L (a)).1)), .int (FZ (flN (0) (a) (num cc L (a)).1 (num cc L (a)).2 0 1000))])), (tl, .inl (cB, 120, .inl lt)), (o, .inr (3, [.ref ga, .ref ma, .int (nI n), .int rg, .int bl])), (ga, .inl (cI, 20, .inl fg)), (ma, .inl (cI, 20, .inl fm))] := hD
    have e8 : cNum cc L 0 0 1000 a = cGr cc L n a := by unfold cGr; rw [if_pos c1]
    have e9 : ([(t, .inr (5, [.ref tl, .int (nI L), .int (nI (skp cc L (num cc L (a)).1)), .int (FZ (flN (0) (a) (num cc L (a)).1 (num cc L (a)).2 0 1000))])), (tl, .inl (cB, 120, .inl lt)), (o, .inr (3, [.ref ga, .ref ma, .int (nI n), .int rg, .int bl])), (ga, .inl (cI, 20, .inl fg)), (ma, .inl (cI, 20, .inl fm))] : va_W) = [(t, .inr (5, [.ref tl, .int (nI L), .int (nI (cGr cc L n a).1), .int (FZ (flN (0) (a) (num cc L (a)).1 (num cc L (a)).2 0 1000))])), (tl, .inl (cB, 120, .inl lt)), (o, .inr (3, [.ref ga, .ref ma, .int (nI n), .int rg, .int bl])), (ga, .inl (cI, 20, .inl fg)), (ma, .inl (cI, 20, .inl fm))] := congrArg (fun f9 : Int32 => ([(t, .inr (5, [.ref tl, .int (nI L), .int f9, .int (FZ (flN (0) (a) (num cc L (a)).1 (num cc L (a)).2 0 1000))])), (tl, .inl (cB, 120, .inl lt)), (o, .inr (3, [.ref ga, .ref ma, .int (nI n), .int rg, .int bl])), (ga, .inl (cI, 20, .inl fg)), (ma, .inl (cI, 20, .inl fm))] : va_W)) (show nI (skp cc L (num cc L (a)).1) = nI (cGr cc L n a).1 from congrArg nI (show (skp cc L (num cc L (a)).1) = (cGr cc L n a).1 from congrArg (fun z => z.1) e8))
    have hP := va_P_eq e9 hP
    have hD := va_D_eq e9 hD
    have e9 : ([(t, .inr (5, [.ref tl, .int (nI L), .int (nI (cGr cc L n a).1), .int (FZ (flN (0) (a) (num cc L (a)).1 (num cc L (a)).2 0 1000))])), (tl, .inl (cB, 120, .inl lt)), (o, .inr (3, [.ref ga, .ref ma, .int (nI n), .int rg, .int bl])), (ga, .inl (cI, 20, .inl fg)), (ma, .inl (cI, 20, .inl fm))] : va_W) = [(t, .inr (5, [.ref tl, .int (nI L), .int (nI (cGr cc L n a).1), .int (FZ (cGr cc L n a).2.1)])), (tl, .inl (cB, 120, .inl lt)), (o, .inr (3, [.ref ga, .ref ma, .int (nI n), .int rg, .int bl])), (ga, .inl (cI, 20, .inl fg)), (ma, .inl (cI, 20, .inl fm))] := congrArg (fun f9 : Int32 => ([(t, .inr (5, [.ref tl, .int (nI L), .int (nI (cGr cc L n a).1), .int f9])), (tl, .inl (cB, 120, .inl lt)), (o, .inr (3, [.ref ga, .ref ma, .int (nI n), .int rg, .int bl])), (ga, .inl (cI, 20, .inl fg)), (ma, .inl (cI, 20, .inl fm))] : va_W)) (show FZ (flN (0) (a) (num cc L (a)).1 (num cc L (a)).2 0 1000) = FZ (cGr cc L n a).2.1 from congrArg FZ (show (flN (0) (a) (num cc L (a)).1 (num cc L (a)).2 0 1000) = (cGr cc L n a).2.1 from congrArg (fun z => z.2.1) e8))
    have hP := va_P_eq e9 hP
    have hD := va_D_eq e9 hD
    refine lv_topi (fun y_47 e_48 => ?_)
    have e_48 : nI (cGr cc L n a).2.2 = y_47 := (e_48.trans (congrArg nI (show (num cc L (a)).2 = (cGr cc L n a).2.2 from congrArg (fun z => z.2.2) e8))).symm
    subst e_48
    have hg1 := (cGr_le (cc := cc) (n := n) ha).1
    have hg2 := (cGr_le (cc := cc) (n := n) ha).2
    refine lv_istore_n (lv' := [(3, .int (nI (cGr cc L n a).2.2)), (2, .int (nI (20 - n))), (0, .ref t), (1, .ref o)]) hx hb dX5_readStations_24 rfl hl (by decide) rfl (fun ls hl => ?_)
    refine lv_aload_n hx hb dX5_readStations_25 rfl (lv_at hl 2 rfl) ?_
    refine lv_bipush (v := 42) hx hb dX5_readStations_26 (by decide) ?_
    refine lv_topi (fun y_49 e_50 => ?_)
    have e_50 : nI 42 = y_49 := (e_50.trans (rfl)).symm
    subst e_50
    refine wv_calli (wc := [(t, .inr (5, [.ref tl, .int (nI L), .int (nI (cGr cc L n a).1), .int (FZ (cGr cc L n a).2.1)])), (tl, .inl (cB, 120, .inl lt))]) hP hD hS [0, 1] rfl rfl (va_runV (As := [.int (nI 42)]) (rest := []) ⟨hx, hb, hml, hown, hts⟩ (c_X5_accept l D cI cB cO t tl L lt cc ((cGr cc L n a).1) ((cGr cc L n a).2.1) 42 hL hlt hcc (by omega) (by decide)) (cwV 1 hts gX5_readStations_X5_accept rfl rfl rfl (by decide +kernel) ⟨Nat.le_of_ble_eq_true rfl, Nat.le_of_ble_eq_true rfl⟩) (wr_preV (wc := [(t, .inr (5, [.ref tl, .int (nI L), .int (nI (cGr cc L n a).1), .int (FZ (cGr cc L n a).2.1)])), (tl, .inl (cB, 120, .inl lt))]) (r := (RX5, TX5, 4)) (ci := 5) hK (hP.pick [0, 1] rfl) hN (wr_dsub hD [0, 1] rfl rfl) (q0 := 0) rfl rfl) rfl rfl hl.1 rfl (lv_room (Nat.le_of_ble_eq_true rfl)) dX5_readStations_28 ⟨Nat.le_refl _, Nat.le_refl _⟩) (fun u => [(t, .inr (5, [.ref tl, .int (nI L), .int (nI u), .int (FZ (cGr cc L n a).2.1)])), (tl, .inl (cB, 120, .inl lt)), (o, .inr (3, [.ref ga, .ref ma, .int (nI n), .int rg, .int bl])), (ga, .inl (cI, 20, .inl fg)), (ma, .inl (cI, 20, .inl fm))]) (fun _ => rfl) (fun _ => rfl) (fun r_28 u_28 H locs h_28 hP hD hS => ?_)
    rcases h_28 with ⟨b1, rfl, rfl⟩ | ⟨b1, rfl, rfl⟩
    · skip
      have ha2 : skp cc L ((cGr cc L n a).1 + 1) ≤ L := skp_le (of_decide_eq_true b1).1
      refine lv_if_eq (tgt := 43) hx hb dX5_readStations_31 (by decide) (fun c_31 => ?_) (fun c_31 => ?_)
      · skip
        exact absurd c_31 (by decide)
      · skip
        refine lv_aload_n hx hb dX5_readStations_34 rfl (lv_at hl 2 rfl) ?_
        refine lv_iconst (v := 1) hx hb dX5_readStations_35 (by decide) ?_
        refine lv_topi (fun y_51 e_52 => ?_)
        have e_52 : nI 1 = y_51 := (e_52.trans (rfl)).symm
        subst e_52
        refine lv_iload_n hx hb dX5_readStations_36 rfl (lv_at hl 1 rfl) ?_
        refine lv_topi (fun y_53 e_54 => ?_)
        have e_54 : FZ (20 - n + 1) = y_53 := (e_54.trans ((FZ_s _).symm)).symm
        subst e_54
        refine wv_calli (wc := [(t, .inr (5, [.ref tl, .int (nI L), .int (nI (skp cc L ((cGr cc L n a).1 + 1))), .int (FZ (cGr cc L n a).2.1)])), (tl, .inl (cB, 120, .inl lt))]) hP hD hS [0, 1] rfl rfl (va_runV (As := [.int (nI 1), .int (FZ (20 - n + 1))]) (rest := []) ⟨hx, hb, hml, hown, hts⟩ (c_X5_readNumber l D cI cB cO t tl L lt cc (skp cc L ((cGr cc L n a).1 + 1)) ((cGr cc L n a).2.1) 1 (20 - n + 1) hL hlt hcc (by omega) (by omega) (by omega) (by omega)) (cwV 2 hts gX5_readStations_X5_readNumber rfl rfl rfl (by decide +kernel) ⟨Nat.le_of_ble_eq_true rfl, Nat.le_of_ble_eq_true rfl⟩) (wr_preV (wc := [(t, .inr (5, [.ref tl, .int (nI L), .int (nI (skp cc L ((cGr cc L n a).1 + 1))), .int (FZ (cGr cc L n a).2.1)])), (tl, .inl (cB, 120, .inl lt))]) (r := (RX5, TX5, 4)) (ci := 5) hK (hP.pick [0, 1] rfl) hN (wr_dsub hD [0, 1] rfl rfl) (q0 := 0) rfl rfl) rfl rfl hl.1 rfl (lv_room (Nat.le_of_ble_eq_true rfl)) dX5_readStations_37 ⟨Nat.le_refl _, Nat.le_refl _⟩) (fun _ => [(t, .inr (5, [.ref tl, .int (nI L), .int (nI (skp cc L (num cc L (skp cc L ((cGr cc L n a).1 + 1))).1)), .int (FZ (flN ((cGr cc L n a).2.1) (skp cc L ((cGr cc L n a).1 + 1)) (num cc L (skp cc L ((cGr cc L n a).1 + 1))).1 (num cc L (skp cc L ((cGr cc L n a).1 + 1))).2 1 (20 - n + 1)))])), (tl, .inl (cB, 120, .inl lt)), (o, .inr (3, [.ref ga, .ref ma, .int (nI n), .int rg, .int bl])), (ga, .inl (cI, 20, .inl fg)), (ma, .inl (cI, 20, .inl fm))]) (fun _ => rfl) (fun _ => rfl) (fun r_37 u_37 H locs h_37 hP hD hS => ?_)
        subst h_37
        have hP : va_P D vwCl [(t, .inr (5, [.ref tl, .int (nI L), .int (nI (skp cc L (num cc L (skp cc L ((cGr cc L n a).1 + 1))).1)), .int (FZ (flN ((cGr cc L n a).2.1) (skp cc L ((cGr cc L n a).1 + 1)) (num cc L (skp cc L ((cGr cc L n a).1 + 1))).1 (num cc L (skp cc L ((cGr cc L n a).1 + 1))).2 1 (20 - n + 1)))])), (tl, .inl (cB, 120, .inl lt)), (o, .inr (3, [.ref ga, .ref ma, .int (nI n), .int rg, .int bl])), (ga, .inl (cI, 20, .inl fg)), (ma, .inl (cI, 20, .inl fm))] _ := hP
        have hD : va_D (inW [(t, .inr (5, [.ref tl, .int (nI L), .int (nI a), .int (FZ 0)])), (tl, .inl (cB, 120, .inl lt)), (o, .inr (3, [.ref ga, .ref ma, .int (nI n), .int rg, .int bl])), (ga, .inl (cI, 20, .inl fg)), (ma, .inl (cI, 20, .inl fm))]) [(t, .inr (5, [.ref tl, .int (nI L), .int (nI (skp cc L (num cc L (skp cc L ((cGr cc L n a).1 + 1))).1)), .int (FZ (flN ((cGr cc L n a).2.1) (skp cc L ((cGr cc L n a).1 + 1)) (num cc L (skp cc L ((cGr cc L n a).1 + 1))).1 (num cc L (skp cc L ((cGr cc L n a).1 + 1))).2 1 (20 - n + 1)))])), (tl, .inl (cB, 120, .inl lt)), (o, .inr (3, [.ref ga, .ref ma, .int (nI n), .int rg, .int bl])), (ga, .inl (cI, 20, .inl fg)), (ma, .inl (cI, 20, .inl fm))] := hD
        refine lv_goto (tgt := 44) hx hb dX5_readStations_40 (by decide) ?_
        have e8 : cNum cc L (cGr cc L n a).2.1 1 (20 - n + 1) (skp cc L ((cGr cc L n a).1 + 1)) = cTm cc L n a := by unfold cTm cOpt; rw [if_pos b1]
        have e9 : ([(t, .inr (5, [.ref tl, .int (nI L), .int (nI (skp cc L (num cc L (skp cc L ((cGr cc L n a).1 + 1))).1)), .int (FZ (flN ((cGr cc L n a).2.1) (skp cc L ((cGr cc L n a).1 + 1)) (num cc L (skp cc L ((cGr cc L n a).1 + 1))).1 (num cc L (skp cc L ((cGr cc L n a).1 + 1))).2 1 (20 - n + 1)))])), (tl, .inl (cB, 120, .inl lt)), (o, .inr (3, [.ref ga, .ref ma, .int (nI n), .int rg, .int bl])), (ga, .inl (cI, 20, .inl fg)), (ma, .inl (cI, 20, .inl fm))] : va_W) = [(t, .inr (5, [.ref tl, .int (nI L), .int (nI (cTm cc L n a).1), .int (FZ (flN ((cGr cc L n a).2.1) (skp cc L ((cGr cc L n a).1 + 1)) (num cc L (skp cc L ((cGr cc L n a).1 + 1))).1 (num cc L (skp cc L ((cGr cc L n a).1 + 1))).2 1 (20 - n + 1)))])), (tl, .inl (cB, 120, .inl lt)), (o, .inr (3, [.ref ga, .ref ma, .int (nI n), .int rg, .int bl])), (ga, .inl (cI, 20, .inl fg)), (ma, .inl (cI, 20, .inl fm))] := congrArg (fun f9 : Int32 => ([(t, .inr (5, [.ref tl, .int (nI L), .int f9, .int (FZ (flN ((cGr cc L n a).2.1) (skp cc L ((cGr cc L n a).1 + 1)) (num cc L (skp cc L ((cGr cc L n a).1 + 1))).1 (num cc L (skp cc L ((cGr cc L n a).1 + 1))).2 1 (20 - n + 1)))])), (tl, .inl (cB, 120, .inl lt)), (o, .inr (3, [.ref ga, .ref ma, .int (nI n), .int rg, .int bl])), (ga, .inl (cI, 20, .inl fg)), (ma, .inl (cI, 20, .inl fm))] : va_W)) (show nI (skp cc L (num cc L (skp cc L ((cGr cc L n a).1 + 1))).1) = nI (cTm cc L n a).1 from congrArg nI (show (skp cc L (num cc L (skp cc L ((cGr cc L n a).1 + 1))).1) = (cTm cc L n a).1 from congrArg (fun z => z.1) e8))
        have hP := va_P_eq e9 hP
        have hD := va_D_eq e9 hD
        have e9 : ([(t, .inr (5, [.ref tl, .int (nI L), .int (nI (cTm cc L n a).1), .int (FZ (flN ((cGr cc L n a).2.1) (skp cc L ((cGr cc L n a).1 + 1)) (num cc L (skp cc L ((cGr cc L n a).1 + 1))).1 (num cc L (skp cc L ((cGr cc L n a).1 + 1))).2 1 (20 - n + 1)))])), (tl, .inl (cB, 120, .inl lt)), (o, .inr (3, [.ref ga, .ref ma, .int (nI n), .int rg, .int bl])), (ga, .inl (cI, 20, .inl fg)), (ma, .inl (cI, 20, .inl fm))] : va_W) = [(t, .inr (5, [.ref tl, .int (nI L), .int (nI (cTm cc L n a).1), .int (FZ (cTm cc L n a).2.1)])), (tl, .inl (cB, 120, .inl lt)), (o, .inr (3, [.ref ga, .ref ma, .int (nI n), .int rg, .int bl])), (ga, .inl (cI, 20, .inl fg)), (ma, .inl (cI, 20, .inl fm))] := congrArg (fun f9 : Int32 => ([(t, .inr (5, [.ref tl, .int (nI L), .int (nI (cTm cc L n a).1), .int f9])), (tl, .inl (cB, 120, .inl lt)), (o, .inr (3, [.ref ga, .ref ma, .int (nI n), .int rg, .int bl])), (ga, .inl (cI, 20, .inl fg)), (ma, .inl (cI, 20, .inl fm))] : va_W)) (show FZ (flN ((cGr cc L n a).2.1) (skp cc L ((cGr cc L n a).1 + 1)) (num cc L (skp cc L ((cGr cc L n a).1 + 1))).1 (num cc L (skp cc L ((cGr cc L n a).1 + 1))).2 1 (20 - n + 1)) = FZ (cTm cc L n a).2.1 from congrArg FZ (show (flN ((cGr cc L n a).2.1) (skp cc L ((cGr cc L n a).1 + 1)) (num cc L (skp cc L ((cGr cc L n a).1 + 1))).1 (num cc L (skp cc L ((cGr cc L n a).1 + 1))).2 1 (20 - n + 1)) = (cTm cc L n a).2.1 from congrArg (fun z => z.2.1) e8))
        have hP := va_P_eq e9 hP
        have hD := va_D_eq e9 hD
        refine lv_topi (fun y_55 e_56 => ?_)
        have e_56 : nI (cTm cc L n a).2.2 = y_55 := (e_56.trans (congrArg nI (show (num cc L (skp cc L ((cGr cc L n a).1 + 1))).2 = (cTm cc L n a).2.2 from congrArg (fun z => z.2.2) e8))).symm
        subst e_56
        have ht1 := (cTm_le (cc := cc) (n := n) ha).1
        have ht2 := (cTm_le (cc := cc) (n := n) ha).2
        refine lv_istore (lv' := [(4, .int (nI (cTm cc L n a).2.2)), (3, .int (nI (cGr cc L n a).2.2)), (2, .int (nI (20 - n))), (0, .ref t), (1, .ref o)]) hx hb dX5_readStations_44 hl (by decide) rfl (fun ls hl => ?_)
        refine lv_aload_n hx hb dX5_readStations_46 rfl (lv_at hl 3 rfl) ?_
        refine lv_bipush (v := 109) hx hb dX5_readStations_47 (by decide) ?_
        refine lv_topi (fun y_57 e_58 => ?_)
        have e_58 : nI 109 = y_57 := (e_58.trans (rfl)).symm
        subst e_58
        refine wv_calli (wc := [(t, .inr (5, [.ref tl, .int (nI L), .int (nI (cTm cc L n a).1), .int (FZ (cTm cc L n a).2.1)])), (tl, .inl (cB, 120, .inl lt))]) hP hD hS [0, 1] rfl rfl (va_runV (As := [.int (nI 109)]) (rest := []) ⟨hx, hb, hml, hown, hts⟩ (c_X5_accept l D cI cB cO t tl L lt cc ((cTm cc L n a).1) ((cTm cc L n a).2.1) 109 hL hlt hcc (by omega) (by decide)) (cwV 1 hts gX5_readStations_X5_accept rfl rfl rfl (by decide +kernel) ⟨Nat.le_of_ble_eq_true rfl, Nat.le_of_ble_eq_true rfl⟩) (wr_preV (wc := [(t, .inr (5, [.ref tl, .int (nI L), .int (nI (cTm cc L n a).1), .int (FZ (cTm cc L n a).2.1)])), (tl, .inl (cB, 120, .inl lt))]) (r := (RX5, TX5, 4)) (ci := 5) hK (hP.pick [0, 1] rfl) hN (wr_dsub hD [0, 1] rfl rfl) (q0 := 0) rfl rfl) rfl rfl hl.1 rfl (lv_room (Nat.le_of_ble_eq_true rfl)) dX5_readStations_49 ⟨Nat.le_refl _, Nat.le_refl _⟩) (fun u => [(t, .inr (5, [.ref tl, .int (nI L), .int (nI u), .int (FZ (cTm cc L n a).2.1)])), (tl, .inl (cB, 120, .inl lt)), (o, .inr (3, [.ref ga, .ref ma, .int (nI n), .int rg, .int bl])), (ga, .inl (cI, 20, .inl fg)), (ma, .inl (cI, 20, .inl fm))]) (fun _ => rfl) (fun _ => rfl) (fun r_49 u_49 H locs h_49 hP hD hS => ?_)
        rcases h_49 with ⟨b2, rfl, rfl⟩ | ⟨b2, rfl, rfl⟩
        · skip
          have ha3 : skp cc L ((cTm cc L n a).1 + 1) ≤ L := skp_le (of_decide_eq_true b2).1
          refine lv_if_eq (tgt := 66) hx hb dX5_readStations_52 (by decide) (fun c_52 => ?_) (fun c_52 => ?_)
          · skip
            exact absurd c_52 (by decide)
          · skip
            refine lv_aload_n hx hb dX5_readStations_55 rfl (lv_at hl 3 rfl) ?_
            refine lv_iconst (v := 1) hx hb dX5_readStations_56 (by decide) ?_
            refine lv_topi (fun y_59 e_60 => ?_)
            have e_60 : nI 1 = y_59 := (e_60.trans (rfl)).symm
            subst e_60
            refine lv_sipush (v := 200) hx hb dX5_readStations_57 (by decide) ?_
            refine lv_topi (fun y_61 e_62 => ?_)
            have e_62 : FZ 201 = y_61 := (e_62.trans (by decide)).symm
            subst e_62
            refine wv_calli (wc := [(t, .inr (5, [.ref tl, .int (nI L), .int (nI (skp cc L ((cTm cc L n a).1 + 1))), .int (FZ (cTm cc L n a).2.1)])), (tl, .inl (cB, 120, .inl lt))]) hP hD hS [0, 1] rfl rfl (va_runV (As := [.int (nI 1), .int (FZ 201)]) (rest := []) ⟨hx, hb, hml, hown, hts⟩ (c_X5_readNumber l D cI cB cO t tl L lt cc (skp cc L ((cTm cc L n a).1 + 1)) ((cTm cc L n a).2.1) 1 201 hL hlt hcc (by omega) (by omega) (by omega) (by omega)) (cwV 2 hts gX5_readStations_X5_readNumber rfl rfl rfl (by decide +kernel) ⟨Nat.le_of_ble_eq_true rfl, Nat.le_of_ble_eq_true rfl⟩) (wr_preV (wc := [(t, .inr (5, [.ref tl, .int (nI L), .int (nI (skp cc L ((cTm cc L n a).1 + 1))), .int (FZ (cTm cc L n a).2.1)])), (tl, .inl (cB, 120, .inl lt))]) (r := (RX5, TX5, 4)) (ci := 5) hK (hP.pick [0, 1] rfl) hN (wr_dsub hD [0, 1] rfl rfl) (q0 := 0) rfl rfl) rfl rfl hl.1 rfl (lv_room (Nat.le_of_ble_eq_true rfl)) dX5_readStations_60 ⟨Nat.le_refl _, Nat.le_refl _⟩) (fun _ => [(t, .inr (5, [.ref tl, .int (nI L), .int (nI (skp cc L (num cc L (skp cc L ((cTm cc L n a).1 + 1))).1)), .int (FZ (flN ((cTm cc L n a).2.1) (skp cc L ((cTm cc L n a).1 + 1)) (num cc L (skp cc L ((cTm cc L n a).1 + 1))).1 (num cc L (skp cc L ((cTm cc L n a).1 + 1))).2 1 201))])), (tl, .inl (cB, 120, .inl lt)), (o, .inr (3, [.ref ga, .ref ma, .int (nI n), .int rg, .int bl])), (ga, .inl (cI, 20, .inl fg)), (ma, .inl (cI, 20, .inl fm))]) (fun _ => rfl) (fun _ => rfl) (fun r_60 u_60 H locs h_60 hP hD hS => ?_)
            subst h_60
            have hP : va_P D vwCl [(t, .inr (5, [.ref tl, .int (nI L), .int (nI (skp cc L (num cc L (skp cc L ((cTm cc L n a).1 + 1))).1)), .int (FZ (flN ((cTm cc L n a).2.1) (skp cc L ((cTm cc L n a).1 + 1)) (num cc L (skp cc L ((cTm cc L n a).1 + 1))).1 (num cc L (skp cc L ((cTm cc L n a).1 + 1))).2 1 201))])), (tl, .inl (cB, 120, .inl lt)), (o, .inr (3, [.ref ga, .ref ma, .int (nI n), .int rg, .int bl])), (ga, .inl (cI, 20, .inl fg)), (ma, .inl (cI, 20, .inl fm))] _ := hP
            have hD : va_D (inW [(t, .inr (5, [.ref tl, .int (nI L), .int (nI a), .int (FZ 0)])), (tl, .inl (cB, 120, .inl lt)), (o, .inr (3, [.ref ga, .ref ma, .int (nI n), .int rg, .int bl])), (ga, .inl (cI, 20, .inl fg)), (ma, .inl (cI, 20, .inl fm))]) [(t, .inr (5, [.ref tl, .int (nI L), .int (nI (skp cc L (num cc L (skp cc L ((cTm cc L n a).1 + 1))).1)), .int (FZ (flN ((cTm cc L n a).2.1) (skp cc L ((cTm cc L n a).1 + 1)) (num cc L (skp cc L ((cTm cc L n a).1 + 1))).1 (num cc L (skp cc L ((cTm cc L n a).1 + 1))).2 1 201))])), (tl, .inl (cB, 120, .inl lt)), (o, .inr (3, [.ref ga, .ref ma, .int (nI n), .int rg, .int bl])), (ga, .inl (cI, 20, .inl fg)), (ma, .inl (cI, 20, .inl fm))] := hD
            refine lv_goto (tgt := 67) hx hb dX5_readStations_63 (by decide) ?_
            have e8 : cNum cc L (cTm cc L n a).2.1 1 201 (skp cc L ((cTm cc L n a).1 + 1)) = cMs cc L n a := by unfold cMs cOpt; rw [if_pos b2]
            have e9 : ([(t, .inr (5, [.ref tl, .int (nI L), .int (nI (skp cc L (num cc L (skp cc L ((cTm cc L n a).1 + 1))).1)), .int (FZ (flN ((cTm cc L n a).2.1) (skp cc L ((cTm cc L n a).1 + 1)) (num cc L (skp cc L ((cTm cc L n a).1 + 1))).1 (num cc L (skp cc L ((cTm cc L n a).1 + 1))).2 1 201))])), (tl, .inl (cB, 120, .inl lt)), (o, .inr (3, [.ref ga, .ref ma, .int (nI n), .int rg, .int bl])), (ga, .inl (cI, 20, .inl fg)), (ma, .inl (cI, 20, .inl fm))] : va_W) = [(t, .inr (5, [.ref tl, .int (nI L), .int (nI (cMs cc L n a).1), .int (FZ (flN ((cTm cc L n a).2.1) (skp cc L ((cTm cc L n a).1 + 1)) (num cc L (skp cc L ((cTm cc L n a).1 + 1))).1 (num cc L (skp cc L ((cTm cc L n a).1 + 1))).2 1 201))])), (tl, .inl (cB, 120, .inl lt)), (o, .inr (3, [.ref ga, .ref ma, .int (nI n), .int rg, .int bl])), (ga, .inl (cI, 20, .inl fg)), (ma, .inl (cI, 20, .inl fm))] := congrArg (fun f9 : Int32 => ([(t, .inr (5, [.ref tl, .int (nI L), .int f9, .int (FZ (flN ((cTm cc L n a).2.1) (skp cc L ((cTm cc L n a).1 + 1)) (num cc L (skp cc L ((cTm cc L n a).1 + 1))).1 (num cc L (skp cc L ((cTm cc L n a).1 + 1))).2 1 201))])), (tl, .inl (cB, 120, .inl lt)), (o, .inr (3, [.ref ga, .ref ma, .int (nI n), .int rg, .int bl])), (ga, .inl (cI, 20, .inl fg)), (ma, .inl (cI, 20, .inl fm))] : va_W)) (show nI (skp cc L (num cc L (skp cc L ((cTm cc L n a).1 + 1))).1) = nI (cMs cc L n a).1 from congrArg nI (show (skp cc L (num cc L (skp cc L ((cTm cc L n a).1 + 1))).1) = (cMs cc L n a).1 from congrArg (fun z => z.1) e8))
            have hP := va_P_eq e9 hP
            have hD := va_D_eq e9 hD
            have e9 : ([(t, .inr (5, [.ref tl, .int (nI L), .int (nI (cMs cc L n a).1), .int (FZ (flN ((cTm cc L n a).2.1) (skp cc L ((cTm cc L n a).1 + 1)) (num cc L (skp cc L ((cTm cc L n a).1 + 1))).1 (num cc L (skp cc L ((cTm cc L n a).1 + 1))).2 1 201))])), (tl, .inl (cB, 120, .inl lt)), (o, .inr (3, [.ref ga, .ref ma, .int (nI n), .int rg, .int bl])), (ga, .inl (cI, 20, .inl fg)), (ma, .inl (cI, 20, .inl fm))] : va_W) = [(t, .inr (5, [.ref tl, .int (nI L), .int (nI (cMs cc L n a).1), .int (FZ (cMs cc L n a).2.1)])), (tl, .inl (cB, 120, .inl lt)), (o, .inr (3, [.ref ga, .ref ma, .int (nI n), .int rg, .int bl])), (ga, .inl (cI, 20, .inl fg)), (ma, .inl (cI, 20, .inl fm))] := congrArg (fun f9 : Int32 => ([(t, .inr (5, [.ref tl, .int (nI L), .int (nI (cMs cc L n a).1), .int f9])), (tl, .inl (cB, 120, .inl lt)), (o, .inr (3, [.ref ga, .ref ma, .int (nI n), .int rg, .int bl])), (ga, .inl (cI, 20, .inl fg)), (ma, .inl (cI, 20, .inl fm))] : va_W)) (show FZ (flN ((cTm cc L n a).2.1) (skp cc L ((cTm cc L n a).1 + 1)) (num cc L (skp cc L ((cTm cc L n a).1 + 1))).1 (num cc L (skp cc L ((cTm cc L n a).1 + 1))).2 1 201) = FZ (cMs cc L n a).2.1 from congrArg FZ (show (flN ((cTm cc L n a).2.1) (skp cc L ((cTm cc L n a).1 + 1)) (num cc L (skp cc L ((cTm cc L n a).1 + 1))).1 (num cc L (skp cc L ((cTm cc L n a).1 + 1))).2 1 201) = (cMs cc L n a).2.1 from congrArg (fun z => z.2.1) e8))
            have hP := va_P_eq e9 hP
            have hD := va_D_eq e9 hD
            refine lv_topi (fun y_63 e_64 => ?_)
            have e_64 : nI (cMs cc L n a).2.2 = y_63 := (e_64.trans (congrArg nI (show (num cc L (skp cc L ((cTm cc L n a).1 + 1))).2 = (cMs cc L n a).2.2 from congrArg (fun z => z.2.2) e8))).symm
            subst e_64
            have hm1 := (cMs_le (cc := cc) (n := n) ha).1
            have hm2 := (cMs_le (cc := cc) (n := n) ha).2
            refine lv_istore (lv' := [(5, .int (nI (cMs cc L n a).2.2)), (4, .int (nI (cTm cc L n a).2.2)), (3, .int (nI (cGr cc L n a).2.2)), (2, .int (nI (20 - n))), (0, .ref t), (1, .ref o)]) hx hb dX5_readStations_67 hl (by decide) rfl (fun ls hl => ?_)
            refine lv_aload_n hx hb dX5_readStations_69 rfl (lv_at hl 4 rfl) ?_
            refine va_get (D := D) (ci := 5) (v := .int (FZ (cMs cc L n a).2.1)) (C := RX5) (T := TX5) (N := 4) hx hb hts kX5_readStations_2 hown hK hP 0 rfl rfl 3 (by decide) (hts (.fieldLink RX5 22 "SightRidge$Text" "flaw" "I") kX5_readStations_3) (fun _ h9 => h9) rfl dX5_readStations_70 ?_
            refine lv_iconst (v := (-1)) hx hb dX5_readStations_73 (by decide) ?_
            refine lv_icmp_ne (tgt := 86) hx hb dX5_readStations_74 (by decide) (fun c_74 => ?_) (fun c_74 => ?_)
            · skip
              have d1 : ¬ (cMs cc L n a).2.1 = 0 := fun q => c_74 (by rw [q]; rfl)
              exact W.vret hx hb hr (fun tS htS hWS => ⟨⟨(n, fg, fm), rfl, (by unfold cAdd; rw [if_neg d1]), retP htS hP⟩, hS.F htS⟩) hS.2.2 dX5_readStations_86
            · skip
              have d1 : (cMs cc L n a).2.1 = 0 := (FZ_eq (by omega)).mp c_74
              have h0 := cMs_0 d1
              refine lv_aload_n hx hb dX5_readStations_77 rfl (lv_at hl 5 rfl) ?_
              refine lv_iload hx hb dX5_readStations_78 (lv_at hl 1 rfl) ?_
              refine lv_iload_n hx hb dX5_readStations_80 rfl (lv_at hl 2 rfl) ?_
              refine lv_iload hx hb dX5_readStations_81 (lv_at hl 0 rfl) ?_
              refine wv_callv (wc := [(o, .inr (3, [.ref ga, .ref ma, .int (nI n), .int rg, .int bl])), (ga, .inl (cI, 20, .inl fg)), (ma, .inl (cI, 20, .inl fm))]) hP hD hS [2, 3, 4] rfl rfl (va_runV (As := [.int (nI (cTm cc L n a).2.2), .int (nI (cGr cc L n a).2.2), .int (nI (cMs cc L n a).2.2)]) (rest := []) ⟨hx, hb, hml, hown, hts⟩ (c_X3_append l D cI cB cO o ga ma n rg bl fg fm (cTm cc L n a).2.2 (nI (cGr cc L n a).2.2) (nI (cMs cc L n a).2.2) h0.2.2) (cwV 3 hts gX5_readStations_X3_append rfl rfl rfl (by decide +kernel) ⟨Nat.le_of_ble_eq_true rfl, Nat.le_of_ble_eq_true rfl⟩) (wr_preV (wc := [(o, .inr (3, [.ref ga, .ref ma, .int (nI n), .int rg, .int bl])), (ga, .inl (cI, 20, .inl fg)), (ma, .inl (cI, 20, .inl fm))]) (r := (RX3, TX3, 5)) (ci := 3) hK (hP.pick [2, 3, 4] rfl) hN (wr_dsub hD [2, 3, 4] rfl rfl) (q0 := 0) rfl rfl) rfl rfl hl.1 rfl (lv_room (Nat.le_of_ble_eq_true rfl)) dX5_readStations_83 ⟨Nat.le_refl _, Nat.le_refl _⟩) (fun _ => [(t, .inr (5, [.ref tl, .int (nI L), .int (nI (cMs cc L n a).1), .int (FZ (cMs cc L n a).2.1)])), (tl, .inl (cB, 120, .inl lt)), (o, .inr (3, [.ref ga, .ref ma, .int (nI (n + (cTm cc L n a).2.2)), .int rg, .int bl])), (ga, .inl (cI, 20, .inl (app n (cTm cc L n a).2.2 (nI (cGr cc L n a).2.2) fg))), (ma, .inl (cI, 20, .inl (app n (cTm cc L n a).2.2 (nI (cMs cc L n a).2.2) fm)))]) (fun _ => rfl) (fun _ => rfl) (fun u_83 H locs h_83 hP hD hS => ?_)
              have hP : va_P D vwCl [(t, .inr (5, [.ref tl, .int (nI L), .int (nI (cMs cc L n a).1), .int (FZ (cMs cc L n a).2.1)])), (tl, .inl (cB, 120, .inl lt)), (o, .inr (3, [.ref ga, .ref ma, .int (nI (n + (cTm cc L n a).2.2)), .int rg, .int bl])), (ga, .inl (cI, 20, .inl (app n (cTm cc L n a).2.2 (nI (cGr cc L n a).2.2) fg))), (ma, .inl (cI, 20, .inl (app n (cTm cc L n a).2.2 (nI (cMs cc L n a).2.2) fm)))] _ := hP
              have hD : va_D (inW [(t, .inr (5, [.ref tl, .int (nI L), .int (nI a), .int (FZ 0)])), (tl, .inl (cB, 120, .inl lt)), (o, .inr (3, [.ref ga, .ref ma, .int (nI n), .int rg, .int bl])), (ga, .inl (cI, 20, .inl fg)), (ma, .inl (cI, 20, .inl fm))]) [(t, .inr (5, [.ref tl, .int (nI L), .int (nI (cMs cc L n a).1), .int (FZ (cMs cc L n a).2.1)])), (tl, .inl (cB, 120, .inl lt)), (o, .inr (3, [.ref ga, .ref ma, .int (nI (n + (cTm cc L n a).2.2)), .int rg, .int bl])), (ga, .inl (cI, 20, .inl (app n (cTm cc L n a).2.2 (nI (cGr cc L n a).2.2) fg))), (ma, .inl (cI, 20, .inl (app n (cTm cc L n a).2.2 (nI (cMs cc L n a).2.2) fm)))] := hD
              exact W.vret hx hb hr (fun tS htS hWS => ⟨⟨(n + (cTm cc L n a).2.2, app n (cTm cc L n a).2.2 (nI (cGr cc L n a).2.2) fg, app n (cTm cc L n a).2.2 (nI (cMs cc L n a).2.2) fm), rfl, (by unfold cAdd; rw [if_pos d1]), retP htS hP⟩, hS.F htS⟩) hS.2.2 dX5_readStations_86
        · skip
          refine lv_if_eq (tgt := 66) hx hb dX5_readStations_52 (by decide) (fun c_52 => ?_) (fun c_52 => ?_)
          · skip
            refine lv_iconst (v := 0) hx hb dX5_readStations_66 (by decide) ?_
            refine lv_topi (fun y_65 e_66 => ?_)
            have e_66 : nI 0 = y_65 := (e_66.trans (rfl)).symm
            subst e_66
            have e8 : (((cTm cc L n a).1, (cTm cc L n a).2.1, 0) : Nat × Nat × Nat) = cMs cc L n a := by unfold cMs cOpt; rw [if_neg (by rw [b2]; exact Bool.false_ne_true)]
            have e9 : ([(t, .inr (5, [.ref tl, .int (nI L), .int (nI ((cTm cc L n a).1)), .int (FZ (cTm cc L n a).2.1)])), (tl, .inl (cB, 120, .inl lt)), (o, .inr (3, [.ref ga, .ref ma, .int (nI n), .int rg, .int bl])), (ga, .inl (cI, 20, .inl fg)), (ma, .inl (cI, 20, .inl fm))] : va_W) = [(t, .inr (5, [.ref tl, .int (nI L), .int (nI (cMs cc L n a).1), .int (FZ (cTm cc L n a).2.1)])), (tl, .inl (cB, 120, .inl lt)), (o, .inr (3, [.ref ga, .ref ma, .int (nI n), .int rg, .int bl])), (ga, .inl (cI, 20, .inl fg)), (ma, .inl (cI, 20, .inl fm))] := congrArg (fun f9 : Int32 => ([(t, .inr (5, [.ref tl, .int (nI L), .int f9, .int (FZ (cTm cc L n a).2.1)])), (tl, .inl (cB, 120, .inl lt)), (o, .inr (3, [.ref ga, .ref ma, .int (nI n), .int rg, .int bl])), (ga, .inl (cI, 20, .inl fg)), (ma, .inl (cI, 20, .inl fm))] : va_W)) (show nI ((cTm cc L n a).1) = nI (cMs cc L n a).1 from congrArg nI (show ((cTm cc L n a).1) = (cMs cc L n a).1 from congrArg (fun z => z.1) e8))
            have hP := va_P_eq e9 hP
            have hD := va_D_eq e9 hD
            have e9 : ([(t, .inr (5, [.ref tl, .int (nI L), .int (nI (cMs cc L n a).1), .int (FZ (cTm cc L n a).2.1)])), (tl, .inl (cB, 120, .inl lt)), (o, .inr (3, [.ref ga, .ref ma, .int (nI n), .int rg, .int bl])), (ga, .inl (cI, 20, .inl fg)), (ma, .inl (cI, 20, .inl fm))] : va_W) = [(t, .inr (5, [.ref tl, .int (nI L), .int (nI (cMs cc L n a).1), .int (FZ (cMs cc L n a).2.1)])), (tl, .inl (cB, 120, .inl lt)), (o, .inr (3, [.ref ga, .ref ma, .int (nI n), .int rg, .int bl])), (ga, .inl (cI, 20, .inl fg)), (ma, .inl (cI, 20, .inl fm))] := congrArg (fun f9 : Int32 => ([(t, .inr (5, [.ref tl, .int (nI L), .int (nI (cMs cc L n a).1), .int f9])), (tl, .inl (cB, 120, .inl lt)), (o, .inr (3, [.ref ga, .ref ma, .int (nI n), .int rg, .int bl])), (ga, .inl (cI, 20, .inl fg)), (ma, .inl (cI, 20, .inl fm))] : va_W)) (show FZ (cTm cc L n a).2.1 = FZ (cMs cc L n a).2.1 from congrArg FZ (show (cTm cc L n a).2.1 = (cMs cc L n a).2.1 from congrArg (fun z => z.2.1) e8))
            have hP := va_P_eq e9 hP
            have hD := va_D_eq e9 hD
            refine lv_topi (fun y_67 e_68 => ?_)
            have e_68 : nI (cMs cc L n a).2.2 = y_67 := (e_68.trans (congrArg nI (show 0 = (cMs cc L n a).2.2 from congrArg (fun z => z.2.2) e8))).symm
            subst e_68
            have hm1 := (cMs_le (cc := cc) (n := n) ha).1
            have hm2 := (cMs_le (cc := cc) (n := n) ha).2
            refine lv_istore (lv' := [(5, .int (nI (cMs cc L n a).2.2)), (4, .int (nI (cTm cc L n a).2.2)), (3, .int (nI (cGr cc L n a).2.2)), (2, .int (nI (20 - n))), (0, .ref t), (1, .ref o)]) hx hb dX5_readStations_67 hl (by decide) rfl (fun ls hl => ?_)
            refine lv_aload_n hx hb dX5_readStations_69 rfl (lv_at hl 4 rfl) ?_
            refine va_get (D := D) (ci := 5) (v := .int (FZ (cMs cc L n a).2.1)) (C := RX5) (T := TX5) (N := 4) hx hb hts kX5_readStations_2 hown hK hP 0 rfl rfl 3 (by decide) (hts (.fieldLink RX5 22 "SightRidge$Text" "flaw" "I") kX5_readStations_3) (fun _ h9 => h9) rfl dX5_readStations_70 ?_
            refine lv_iconst (v := (-1)) hx hb dX5_readStations_73 (by decide) ?_
            refine lv_icmp_ne (tgt := 86) hx hb dX5_readStations_74 (by decide) (fun c_74 => ?_) (fun c_74 => ?_)
            · skip
              have d1 : ¬ (cMs cc L n a).2.1 = 0 := fun q => c_74 (by rw [q]; rfl)
              exact W.vret hx hb hr (fun tS htS hWS => ⟨⟨(n, fg, fm), rfl, (by unfold cAdd; rw [if_neg d1]), retP htS hP⟩, hS.F htS⟩) hS.2.2 dX5_readStations_86
            · skip
              have d1 : (cMs cc L n a).2.1 = 0 := (FZ_eq (by omega)).mp c_74
              have h0 := cMs_0 d1
              refine lv_aload_n hx hb dX5_readStations_77 rfl (lv_at hl 5 rfl) ?_
              refine lv_iload hx hb dX5_readStations_78 (lv_at hl 1 rfl) ?_
              refine lv_iload_n hx hb dX5_readStations_80 rfl (lv_at hl 2 rfl) ?_
              refine lv_iload hx hb dX5_readStations_81 (lv_at hl 0 rfl) ?_
              refine wv_callv (wc := [(o, .inr (3, [.ref ga, .ref ma, .int (nI n), .int rg, .int bl])), (ga, .inl (cI, 20, .inl fg)), (ma, .inl (cI, 20, .inl fm))]) hP hD hS [2, 3, 4] rfl rfl (va_runV (As := [.int (nI (cTm cc L n a).2.2), .int (nI (cGr cc L n a).2.2), .int (nI (cMs cc L n a).2.2)]) (rest := []) ⟨hx, hb, hml, hown, hts⟩ (c_X3_append l D cI cB cO o ga ma n rg bl fg fm (cTm cc L n a).2.2 (nI (cGr cc L n a).2.2) (nI (cMs cc L n a).2.2) h0.2.2) (cwV 3 hts gX5_readStations_X3_append rfl rfl rfl (by decide +kernel) ⟨Nat.le_of_ble_eq_true rfl, Nat.le_of_ble_eq_true rfl⟩) (wr_preV (wc := [(o, .inr (3, [.ref ga, .ref ma, .int (nI n), .int rg, .int bl])), (ga, .inl (cI, 20, .inl fg)), (ma, .inl (cI, 20, .inl fm))]) (r := (RX3, TX3, 5)) (ci := 3) hK (hP.pick [2, 3, 4] rfl) hN (wr_dsub hD [2, 3, 4] rfl rfl) (q0 := 0) rfl rfl) rfl rfl hl.1 rfl (lv_room (Nat.le_of_ble_eq_true rfl)) dX5_readStations_83 ⟨Nat.le_refl _, Nat.le_refl _⟩) (fun _ => [(t, .inr (5, [.ref tl, .int (nI L), .int (nI (cMs cc L n a).1), .int (FZ (cMs cc L n a).2.1)])), (tl, .inl (cB, 120, .inl lt)), (o, .inr (3, [.ref ga, .ref ma, .int (nI (n + (cTm cc L n a).2.2)), .int rg, .int bl])), (ga, .inl (cI, 20, .inl (app n (cTm cc L n a).2.2 (nI (cGr cc L n a).2.2) fg))), (ma, .inl (cI, 20, .inl (app n (cTm cc L n a).2.2 (nI (cMs cc L n a).2.2) fm)))]) (fun _ => rfl) (fun _ => rfl) (fun u_83 H locs h_83 hP hD hS => ?_)
              have hP : va_P D vwCl [(t, .inr (5, [.ref tl, .int (nI L), .int (nI (cMs cc L n a).1), .int (FZ (cMs cc L n a).2.1)])), (tl, .inl (cB, 120, .inl lt)), (o, .inr (3, [.ref ga, .ref ma, .int (nI (n + (cTm cc L n a).2.2)), .int rg, .int bl])), (ga, .inl (cI, 20, .inl (app n (cTm cc L n a).2.2 (nI (cGr cc L n a).2.2) fg))), (ma, .inl (cI, 20, .inl (app n (cTm cc L n a).2.2 (nI (cMs cc L n a).2.2) fm)))] _ := hP
              have hD : va_D (inW [(t, .inr (5, [.ref tl, .int (nI L), .int (nI a), .int (FZ 0)])), (tl, .inl (cB, 120, .inl lt)), (o, .inr (3, [.ref ga, .ref ma, .int (nI n), .int rg, .int bl])), (ga, .inl (cI, 20, .inl fg)), (ma, .inl (cI, 20, .inl fm))]) [(t, .inr (5, [.ref tl, .int (nI L), .int (nI (cMs cc L n a).1), .int (FZ (cMs cc L n a).2.1)])), (tl, .inl (cB, 120, .inl lt)), (o, .inr (3, [.ref ga, .ref ma, .int (nI (n + (cTm cc L n a).2.2)), .int rg, .int bl])), (ga, .inl (cI, 20, .inl (app n (cTm cc L n a).2.2 (nI (cGr cc L n a).2.2) fg))), (ma, .inl (cI, 20, .inl (app n (cTm cc L n a).2.2 (nI (cMs cc L n a).2.2) fm)))] := hD
              exact W.vret hx hb hr (fun tS htS hWS => ⟨⟨(n + (cTm cc L n a).2.2, app n (cTm cc L n a).2.2 (nI (cGr cc L n a).2.2) fg, app n (cTm cc L n a).2.2 (nI (cMs cc L n a).2.2) fm), rfl, (by unfold cAdd; rw [if_pos d1]), retP htS hP⟩, hS.F htS⟩) hS.2.2 dX5_readStations_86
          · skip
            exact absurd (by decide) c_52
    · skip
      refine lv_if_eq (tgt := 43) hx hb dX5_readStations_31 (by decide) (fun c_31 => ?_) (fun c_31 => ?_)
      · skip
        refine lv_iconst (v := 1) hx hb dX5_readStations_43 (by decide) ?_
        refine lv_topi (fun y_69 e_70 => ?_)
        have e_70 : nI 1 = y_69 := (e_70.trans (rfl)).symm
        subst e_70
        have e8 : (((cGr cc L n a).1, (cGr cc L n a).2.1, 1) : Nat × Nat × Nat) = cTm cc L n a := by unfold cTm cOpt; rw [if_neg (by rw [b1]; exact Bool.false_ne_true)]
        have e9 : ([(t, .inr (5, [.ref tl, .int (nI L), .int (nI ((cGr cc L n a).1)), .int (FZ (cGr cc L n a).2.1)])), (tl, .inl (cB, 120, .inl lt)), (o, .inr (3, [.ref ga, .ref ma, .int (nI n), .int rg, .int bl])), (ga, .inl (cI, 20, .inl fg)), (ma, .inl (cI, 20, .inl fm))] : va_W) = [(t, .inr (5, [.ref tl, .int (nI L), .int (nI (cTm cc L n a).1), .int (FZ (cGr cc L n a).2.1)])), (tl, .inl (cB, 120, .inl lt)), (o, .inr (3, [.ref ga, .ref ma, .int (nI n), .int rg, .int bl])), (ga, .inl (cI, 20, .inl fg)), (ma, .inl (cI, 20, .inl fm))] := congrArg (fun f9 : Int32 => ([(t, .inr (5, [.ref tl, .int (nI L), .int f9, .int (FZ (cGr cc L n a).2.1)])), (tl, .inl (cB, 120, .inl lt)), (o, .inr (3, [.ref ga, .ref ma, .int (nI n), .int rg, .int bl])), (ga, .inl (cI, 20, .inl fg)), (ma, .inl (cI, 20, .inl fm))] : va_W)) (show nI ((cGr cc L n a).1) = nI (cTm cc L n a).1 from congrArg nI (show ((cGr cc L n a).1) = (cTm cc L n a).1 from congrArg (fun z => z.1) e8))
        have hP := va_P_eq e9 hP
        have hD := va_D_eq e9 hD
        have e9 : ([(t, .inr (5, [.ref tl, .int (nI L), .int (nI (cTm cc L n a).1), .int (FZ (cGr cc L n a).2.1)])), (tl, .inl (cB, 120, .inl lt)), (o, .inr (3, [.ref ga, .ref ma, .int (nI n), .int rg, .int bl])), (ga, .inl (cI, 20, .inl fg)), (ma, .inl (cI, 20, .inl fm))] : va_W) = [(t, .inr (5, [.ref tl, .int (nI L), .int (nI (cTm cc L n a).1), .int (FZ (cTm cc L n a).2.1)])), (tl, .inl (cB, 120, .inl lt)), (o, .inr (3, [.ref ga, .ref ma, .int (nI n), .int rg, .int bl])), (ga, .inl (cI, 20, .inl fg)), (ma, .inl (cI, 20, .inl fm))] := congrArg (fun f9 : Int32 => ([(t, .inr (5, [.ref tl, .int (nI L), .int (nI (cTm cc L n a).1), .int f9])), (tl, .inl (cB, 120, .inl lt)), (o, .inr (3, [.ref ga, .ref ma, .int (nI n), .int rg, .int bl])), (ga, .inl (cI, 20, .inl fg)), (ma, .inl (cI, 20, .inl fm))] : va_W)) (show FZ (cGr cc L n a).2.1 = FZ (cTm cc L n a).2.1 from congrArg FZ (show (cGr cc L n a).2.1 = (cTm cc L n a).2.1 from congrArg (fun z => z.2.1) e8))
        have hP := va_P_eq e9 hP
        have hD := va_D_eq e9 hD
        refine lv_topi (fun y_71 e_72 => ?_)
        have e_72 : nI (cTm cc L n a).2.2 = y_71 := (e_72.trans (congrArg nI (show 1 = (cTm cc L n a).2.2 from congrArg (fun z => z.2.2) e8))).symm
        subst e_72
        have ht1 := (cTm_le (cc := cc) (n := n) ha).1
        have ht2 := (cTm_le (cc := cc) (n := n) ha).2
        refine lv_istore (lv' := [(4, .int (nI (cTm cc L n a).2.2)), (3, .int (nI (cGr cc L n a).2.2)), (2, .int (nI (20 - n))), (0, .ref t), (1, .ref o)]) hx hb dX5_readStations_44 hl (by decide) rfl (fun ls hl => ?_)
        refine lv_aload_n hx hb dX5_readStations_46 rfl (lv_at hl 3 rfl) ?_
        refine lv_bipush (v := 109) hx hb dX5_readStations_47 (by decide) ?_
        refine lv_topi (fun y_73 e_74 => ?_)
        have e_74 : nI 109 = y_73 := (e_74.trans (rfl)).symm
        subst e_74
        refine wv_calli (wc := [(t, .inr (5, [.ref tl, .int (nI L), .int (nI (cTm cc L n a).1), .int (FZ (cTm cc L n a).2.1)])), (tl, .inl (cB, 120, .inl lt))]) hP hD hS [0, 1] rfl rfl (va_runV (As := [.int (nI 109)]) (rest := []) ⟨hx, hb, hml, hown, hts⟩ (c_X5_accept l D cI cB cO t tl L lt cc ((cTm cc L n a).1) ((cTm cc L n a).2.1) 109 hL hlt hcc (by omega) (by decide)) (cwV 1 hts gX5_readStations_X5_accept rfl rfl rfl (by decide +kernel) ⟨Nat.le_of_ble_eq_true rfl, Nat.le_of_ble_eq_true rfl⟩) (wr_preV (wc := [(t, .inr (5, [.ref tl, .int (nI L), .int (nI (cTm cc L n a).1), .int (FZ (cTm cc L n a).2.1)])), (tl, .inl (cB, 120, .inl lt))]) (r := (RX5, TX5, 4)) (ci := 5) hK (hP.pick [0, 1] rfl) hN (wr_dsub hD [0, 1] rfl rfl) (q0 := 0) rfl rfl) rfl rfl hl.1 rfl (lv_room (Nat.le_of_ble_eq_true rfl)) dX5_readStations_49 ⟨Nat.le_refl _, Nat.le_refl _⟩) (fun u => [(t, .inr (5, [.ref tl, .int (nI L), .int (nI u), .int (FZ (cTm cc L n a).2.1)])), (tl, .inl (cB, 120, .inl lt)), (o, .inr (3, [.ref ga, .ref ma, .int (nI n), .int rg, .int bl])), (ga, .inl (cI, 20, .inl fg)), (ma, .inl (cI, 20, .inl fm))]) (fun _ => rfl) (fun _ => rfl) (fun r_49 u_49 H locs h_49 hP hD hS => ?_)
        rcases h_49 with ⟨b2, rfl, rfl⟩ | ⟨b2, rfl, rfl⟩
        · skip
          have ha3 : skp cc L ((cTm cc L n a).1 + 1) ≤ L := skp_le (of_decide_eq_true b2).1
          refine lv_if_eq (tgt := 66) hx hb dX5_readStations_52 (by decide) (fun c_52 => ?_) (fun c_52 => ?_)
          · skip
            exact absurd c_52 (by decide)
          · skip
            refine lv_aload_n hx hb dX5_readStations_55 rfl (lv_at hl 3 rfl) ?_
            refine lv_iconst (v := 1) hx hb dX5_readStations_56 (by decide) ?_
            refine lv_topi (fun y_75 e_76 => ?_)
            have e_76 : nI 1 = y_75 := (e_76.trans (rfl)).symm
            subst e_76
            refine lv_sipush (v := 200) hx hb dX5_readStations_57 (by decide) ?_
            refine lv_topi (fun y_77 e_78 => ?_)
            have e_78 : FZ 201 = y_77 := (e_78.trans (by decide)).symm
            subst e_78
            refine wv_calli (wc := [(t, .inr (5, [.ref tl, .int (nI L), .int (nI (skp cc L ((cTm cc L n a).1 + 1))), .int (FZ (cTm cc L n a).2.1)])), (tl, .inl (cB, 120, .inl lt))]) hP hD hS [0, 1] rfl rfl (va_runV (As := [.int (nI 1), .int (FZ 201)]) (rest := []) ⟨hx, hb, hml, hown, hts⟩ (c_X5_readNumber l D cI cB cO t tl L lt cc (skp cc L ((cTm cc L n a).1 + 1)) ((cTm cc L n a).2.1) 1 201 hL hlt hcc (by omega) (by omega) (by omega) (by omega)) (cwV 2 hts gX5_readStations_X5_readNumber rfl rfl rfl (by decide +kernel) ⟨Nat.le_of_ble_eq_true rfl, Nat.le_of_ble_eq_true rfl⟩) (wr_preV (wc := [(t, .inr (5, [.ref tl, .int (nI L), .int (nI (skp cc L ((cTm cc L n a).1 + 1))), .int (FZ (cTm cc L n a).2.1)])), (tl, .inl (cB, 120, .inl lt))]) (r := (RX5, TX5, 4)) (ci := 5) hK (hP.pick [0, 1] rfl) hN (wr_dsub hD [0, 1] rfl rfl) (q0 := 0) rfl rfl) rfl rfl hl.1 rfl (lv_room (Nat.le_of_ble_eq_true rfl)) dX5_readStations_60 ⟨Nat.le_refl _, Nat.le_refl _⟩) (fun _ => [(t, .inr (5, [.ref tl, .int (nI L), .int (nI (skp cc L (num cc L (skp cc L ((cTm cc L n a).1 + 1))).1)), .int (FZ (flN ((cTm cc L n a).2.1) (skp cc L ((cTm cc L n a).1 + 1)) (num cc L (skp cc L ((cTm cc L n a).1 + 1))).1 (num cc L (skp cc L ((cTm cc L n a).1 + 1))).2 1 201))])), (tl, .inl (cB, 120, .inl lt)), (o, .inr (3, [.ref ga, .ref ma, .int (nI n), .int rg, .int bl])), (ga, .inl (cI, 20, .inl fg)), (ma, .inl (cI, 20, .inl fm))]) (fun _ => rfl) (fun _ => rfl) (fun r_60 u_60 H locs h_60 hP hD hS => ?_)
            subst h_60
            have hP : va_P D vwCl [(t, .inr (5, [.ref tl, .int (nI L), .int (nI (skp cc L (num cc L (skp cc L ((cTm cc L n a).1 + 1))).1)), .int (FZ (flN ((cTm cc L n a).2.1) (skp cc L ((cTm cc L n a).1 + 1)) (num cc L (skp cc L ((cTm cc L n a).1 + 1))).1 (num cc L (skp cc L ((cTm cc L n a).1 + 1))).2 1 201))])), (tl, .inl (cB, 120, .inl lt)), (o, .inr (3, [.ref ga, .ref ma, .int (nI n), .int rg, .int bl])), (ga, .inl (cI, 20, .inl fg)), (ma, .inl (cI, 20, .inl fm))] _ := hP
            have hD : va_D (inW [(t, .inr (5, [.ref tl, .int (nI L), .int (nI a), .int (FZ 0)])), (tl, .inl (cB, 120, .inl lt)), (o, .inr (3, [.ref ga, .ref ma, .int (nI n), .int rg, .int bl])), (ga, .inl (cI, 20, .inl fg)), (ma, .inl (cI, 20, .inl fm))]) [(t, .inr (5, [.ref tl, .int (nI L), .int (nI (skp cc L (num cc L (skp cc L ((cTm cc L n a).1 + 1))).1)), .int (FZ (flN ((cTm cc L n a).2.1) (skp cc L ((cTm cc L n a).1 + 1)) (num cc L (skp cc L ((cTm cc L n a).1 + 1))).1 (num cc L (skp cc L ((cTm cc L n a).1 + 1))).2 1 201))])), (tl, .inl (cB, 120, .inl lt)), (o, .inr (3, [.ref ga, .ref ma, .int (nI n), .int rg, .int bl])), (ga, .inl (cI, 20, .inl fg)), (ma, .inl (cI, 20, .inl fm))] := hD
            refine lv_goto (tgt := 67) hx hb dX5_readStations_63 (by decide) ?_
            have e8 : cNum cc L (cTm cc L n a).2.1 1 201 (skp cc L ((cTm cc L n a).1 + 1)) = cMs cc L n a := by unfold cMs cOpt; rw [if_pos b2]
            have e9 : ([(t, .inr (5, [.ref tl, .int (nI L), .int (nI (skp cc L (num cc L (skp cc L ((cTm cc L n a).1 + 1))).1)), .int (FZ (flN ((cTm cc L n a).2.1) (skp cc L ((cTm cc L n a).1 + 1)) (num cc L (skp cc L ((cTm cc L n a).1 + 1))).1 (num cc L (skp cc L ((cTm cc L n a).1 + 1))).2 1 201))])), (tl, .inl (cB, 120, .inl lt)), (o, .inr (3, [.ref ga, .ref ma, .int (nI n), .int rg, .int bl])), (ga, .inl (cI, 20, .inl fg)), (ma, .inl (cI, 20, .inl fm))] : va_W) = [(t, .inr (5, [.ref tl, .int (nI L), .int (nI (cMs cc L n a).1), .int (FZ (flN ((cTm cc L n a).2.1) (skp cc L ((cTm cc L n a).1 + 1)) (num cc L (skp cc L ((cTm cc L n a).1 + 1))).1 (num cc L (skp cc L ((cTm cc L n a).1 + 1))).2 1 201))])), (tl, .inl (cB, 120, .inl lt)), (o, .inr (3, [.ref ga, .ref ma, .int (nI n), .int rg, .int bl])), (ga, .inl (cI, 20, .inl fg)), (ma, .inl (cI, 20, .inl fm))] := congrArg (fun f9 : Int32 => ([(t, .inr (5, [.ref tl, .int (nI L), .int f9, .int (FZ (flN ((cTm cc L n a).2.1) (skp cc L ((cTm cc L n a).1 + 1)) (num cc L (skp cc L ((cTm cc L n a).1 + 1))).1 (num cc L (skp cc L ((cTm cc L n a).1 + 1))).2 1 201))])), (tl, .inl (cB, 120, .inl lt)), (o, .inr (3, [.ref ga, .ref ma, .int (nI n), .int rg, .int bl])), (ga, .inl (cI, 20, .inl fg)), (ma, .inl (cI, 20, .inl fm))] : va_W)) (show nI (skp cc L (num cc L (skp cc L ((cTm cc L n a).1 + 1))).1) = nI (cMs cc L n a).1 from congrArg nI (show (skp cc L (num cc L (skp cc L ((cTm cc L n a).1 + 1))).1) = (cMs cc L n a).1 from congrArg (fun z => z.1) e8))
            have hP := va_P_eq e9 hP
            have hD := va_D_eq e9 hD
            have e9 : ([(t, .inr (5, [.ref tl, .int (nI L), .int (nI (cMs cc L n a).1), .int (FZ (flN ((cTm cc L n a).2.1) (skp cc L ((cTm cc L n a).1 + 1)) (num cc L (skp cc L ((cTm cc L n a).1 + 1))).1 (num cc L (skp cc L ((cTm cc L n a).1 + 1))).2 1 201))])), (tl, .inl (cB, 120, .inl lt)), (o, .inr (3, [.ref ga, .ref ma, .int (nI n), .int rg, .int bl])), (ga, .inl (cI, 20, .inl fg)), (ma, .inl (cI, 20, .inl fm))] : va_W) = [(t, .inr (5, [.ref tl, .int (nI L), .int (nI (cMs cc L n a).1), .int (FZ (cMs cc L n a).2.1)])), (tl, .inl (cB, 120, .inl lt)), (o, .inr (3, [.ref ga, .ref ma, .int (nI n), .int rg, .int bl])), (ga, .inl (cI, 20, .inl fg)), (ma, .inl (cI, 20, .inl fm))] := congrArg (fun f9 : Int32 => ([(t, .inr (5, [.ref tl, .int (nI L), .int (nI (cMs cc L n a).1), .int f9])), (tl, .inl (cB, 120, .inl lt)), (o, .inr (3, [.ref ga, .ref ma, .int (nI n), .int rg, .int bl])), (ga, .inl (cI, 20, .inl fg)), (ma, .inl (cI, 20, .inl fm))] : va_W)) (show FZ (flN ((cTm cc L n a).2.1) (skp cc L ((cTm cc L n a).1 + 1)) (num cc L (skp cc L ((cTm cc L n a).1 + 1))).1 (num cc L (skp cc L ((cTm cc L n a).1 + 1))).2 1 201) = FZ (cMs cc L n a).2.1 from congrArg FZ (show (flN ((cTm cc L n a).2.1) (skp cc L ((cTm cc L n a).1 + 1)) (num cc L (skp cc L ((cTm cc L n a).1 + 1))).1 (num cc L (skp cc L ((cTm cc L n a).1 + 1))).2 1 201) = (cMs cc L n a).2.1 from congrArg (fun z => z.2.1) e8))
            have hP := va_P_eq e9 hP
            have hD := va_D_eq e9 hD
            refine lv_topi (fun y_79 e_80 => ?_)
            have e_80 : nI (cMs cc L n a).2.2 = y_79 := (e_80.trans (congrArg nI (show (num cc L (skp cc L ((cTm cc L n a).1 + 1))).2 = (cMs cc L n a).2.2 from congrArg (fun z => z.2.2) e8))).symm
            subst e_80
            have hm1 := (cMs_le (cc := cc) (n := n) ha).1
            have hm2 := (cMs_le (cc := cc) (n := n) ha).2
            refine lv_istore (lv' := [(5, .int (nI (cMs cc L n a).2.2)), (4, .int (nI (cTm cc L n a).2.2)), (3, .int (nI (cGr cc L n a).2.2)), (2, .int (nI (20 - n))), (0, .ref t), (1, .ref o)]) hx hb dX5_readStations_67 hl (by decide) rfl (fun ls hl => ?_)
            refine lv_aload_n hx hb dX5_readStations_69 rfl (lv_at hl 4 rfl) ?_
            refine va_get (D := D) (ci := 5) (v := .int (FZ (cMs cc L n a).2.1)) (C := RX5) (T := TX5) (N := 4) hx hb hts kX5_readStations_2 hown hK hP 0 rfl rfl 3 (by decide) (hts (.fieldLink RX5 22 "SightRidge$Text" "flaw" "I") kX5_readStations_3) (fun _ h9 => h9) rfl dX5_readStations_70 ?_
            refine lv_iconst (v := (-1)) hx hb dX5_readStations_73 (by decide) ?_
            refine lv_icmp_ne (tgt := 86) hx hb dX5_readStations_74 (by decide) (fun c_74 => ?_) (fun c_74 => ?_)
            · skip
              have d1 : ¬ (cMs cc L n a).2.1 = 0 := fun q => c_74 (by rw [q]; rfl)
              exact W.vret hx hb hr (fun tS htS hWS => ⟨⟨(n, fg, fm), rfl, (by unfold cAdd; rw [if_neg d1]), retP htS hP⟩, hS.F htS⟩) hS.2.2 dX5_readStations_86
            · skip
              have d1 : (cMs cc L n a).2.1 = 0 := (FZ_eq (by omega)).mp c_74
              have h0 := cMs_0 d1
              refine lv_aload_n hx hb dX5_readStations_77 rfl (lv_at hl 5 rfl) ?_
              refine lv_iload hx hb dX5_readStations_78 (lv_at hl 1 rfl) ?_
              refine lv_iload_n hx hb dX5_readStations_80 rfl (lv_at hl 2 rfl) ?_
              refine lv_iload hx hb dX5_readStations_81 (lv_at hl 0 rfl) ?_
              refine wv_callv (wc := [(o, .inr (3, [.ref ga, .ref ma, .int (nI n), .int rg, .int bl])), (ga, .inl (cI, 20, .inl fg)), (ma, .inl (cI, 20, .inl fm))]) hP hD hS [2, 3, 4] rfl rfl (va_runV (As := [.int (nI (cTm cc L n a).2.2), .int (nI (cGr cc L n a).2.2), .int (nI (cMs cc L n a).2.2)]) (rest := []) ⟨hx, hb, hml, hown, hts⟩ (c_X3_append l D cI cB cO o ga ma n rg bl fg fm (cTm cc L n a).2.2 (nI (cGr cc L n a).2.2) (nI (cMs cc L n a).2.2) h0.2.2) (cwV 3 hts gX5_readStations_X3_append rfl rfl rfl (by decide +kernel) ⟨Nat.le_of_ble_eq_true rfl, Nat.le_of_ble_eq_true rfl⟩) (wr_preV (wc := [(o, .inr (3, [.ref ga, .ref ma, .int (nI n), .int rg, .int bl])), (ga, .inl (cI, 20, .inl fg)), (ma, .inl (cI, 20, .inl fm))]) (r := (RX3, TX3, 5)) (ci := 3) hK (hP.pick [2, 3, 4] rfl) hN (wr_dsub hD [2, 3, 4] rfl rfl) (q0 := 0) rfl rfl) rfl rfl hl.1 rfl (lv_room (Nat.le_of_ble_eq_true rfl)) dX5_readStations_83 ⟨Nat.le_refl _, Nat.le_refl _⟩) (fun _ => [(t, .inr (5, [.ref tl, .int (nI L), .int (nI (cMs cc L n a).1), .int (FZ (cMs cc L n a).2.1)])), (tl, .inl (cB, 120, .inl lt)), (o, .inr (3, [.ref ga, .ref ma, .int (nI (n + (cTm cc L n a).2.2)), .int rg, .int bl])), (ga, .inl (cI, 20, .inl (app n (cTm cc L n a).2.2 (nI (cGr cc L n a).2.2) fg))), (ma, .inl (cI, 20, .inl (app n (cTm cc L n a).2.2 (nI (cMs cc L n a).2.2) fm)))]) (fun _ => rfl) (fun _ => rfl) (fun u_83 H locs h_83 hP hD hS => ?_)
              have hP : va_P D vwCl [(t, .inr (5, [.ref tl, .int (nI L), .int (nI (cMs cc L n a).1), .int (FZ (cMs cc L n a).2.1)])), (tl, .inl (cB, 120, .inl lt)), (o, .inr (3, [.ref ga, .ref ma, .int (nI (n + (cTm cc L n a).2.2)), .int rg, .int bl])), (ga, .inl (cI, 20, .inl (app n (cTm cc L n a).2.2 (nI (cGr cc L n a).2.2) fg))), (ma, .inl (cI, 20, .inl (app n (cTm cc L n a).2.2 (nI (cMs cc L n a).2.2) fm)))] _ := hP
              have hD : va_D (inW [(t, .inr (5, [.ref tl, .int (nI L), .int (nI a), .int (FZ 0)])), (tl, .inl (cB, 120, .inl lt)), (o, .inr (3, [.ref ga, .ref ma, .int (nI n), .int rg, .int bl])), (ga, .inl (cI, 20, .inl fg)), (ma, .inl (cI, 20, .inl fm))]) [(t, .inr (5, [.ref tl, .int (nI L), .int (nI (cMs cc L n a).1), .int (FZ (cMs cc L n a).2.1)])), (tl, .inl (cB, 120, .inl lt)), (o, .inr (3, [.ref ga, .ref ma, .int (nI (n + (cTm cc L n a).2.2)), .int rg, .int bl])), (ga, .inl (cI, 20, .inl (app n (cTm cc L n a).2.2 (nI (cGr cc L n a).2.2) fg))), (ma, .inl (cI, 20, .inl (app n (cTm cc L n a).2.2 (nI (cMs cc L n a).2.2) fm)))] := hD
              exact W.vret hx hb hr (fun tS htS hWS => ⟨⟨(n + (cTm cc L n a).2.2, app n (cTm cc L n a).2.2 (nI (cGr cc L n a).2.2) fg, app n (cTm cc L n a).2.2 (nI (cMs cc L n a).2.2) fm), rfl, (by unfold cAdd; rw [if_pos d1]), retP htS hP⟩, hS.F htS⟩) hS.2.2 dX5_readStations_86
        · skip
          refine lv_if_eq (tgt := 66) hx hb dX5_readStations_52 (by decide) (fun c_52 => ?_) (fun c_52 => ?_)
          · skip
            refine lv_iconst (v := 0) hx hb dX5_readStations_66 (by decide) ?_
            refine lv_topi (fun y_81 e_82 => ?_)
            have e_82 : nI 0 = y_81 := (e_82.trans (rfl)).symm
            subst e_82
            have e8 : (((cTm cc L n a).1, (cTm cc L n a).2.1, 0) : Nat × Nat × Nat) = cMs cc L n a := by unfold cMs cOpt; rw [if_neg (by rw [b2]; exact Bool.false_ne_true)]
            have e9 : ([(t, .inr (5, [.ref tl, .int (nI L), .int (nI ((cTm cc L n a).1)), .int (FZ (cTm cc L n a).2.1)])), (tl, .inl (cB, 120, .inl lt)), (o, .inr (3, [.ref ga, .ref ma, .int (nI n), .int rg, .int bl])), (ga, .inl (cI, 20, .inl fg)), (ma, .inl (cI, 20, .inl fm))] : va_W) = [(t, .inr (5, [.ref tl, .int (nI L), .int (nI (cMs cc L n a).1), .int (FZ (cTm cc L n a).2.1)])), (tl, .inl (cB, 120, .inl lt)), (o, .inr (3, [.ref ga, .ref ma, .int (nI n), .int rg, .int bl])), (ga, .inl (cI, 20, .inl fg)), (ma, .inl (cI, 20, .inl fm))] := congrArg (fun f9 : Int32 => ([(t, .inr (5, [.ref tl, .int (nI L), .int f9, .int (FZ (cTm cc L n a).2.1)])), (tl, .inl (cB, 120, .inl lt)), (o, .inr (3, [.ref ga, .ref ma, .int (nI n), .int rg, .int bl])), (ga, .inl (cI, 20, .inl fg)), (ma, .inl (cI, 20, .inl fm))] : va_W)) (show nI ((cTm cc L n a).1) = nI (cMs cc L n a).1 from congrArg nI (show ((cTm cc L n a).1) = (cMs cc L n a).1 from congrArg (fun z => z.1) e8))
            have hP := va_P_eq e9 hP
            have hD := va_D_eq e9 hD
            have e9 : ([(t, .inr (5, [.ref tl, .int (nI L), .int (nI (cMs cc L n a).1), .int (FZ (cTm cc L n a).2.1)])), (tl, .inl (cB, 120, .inl lt)), (o, .inr (3, [.ref ga, .ref ma, .int (nI n), .int rg, .int bl])), (ga, .inl (cI, 20, .inl fg)), (ma, .inl (cI, 20, .inl fm))] : va_W) = [(t, .inr (5, [.ref tl, .int (nI L), .int (nI (cMs cc L n a).1), .int (FZ (cMs cc L n a).2.1)])), (tl, .inl (cB, 120, .inl lt)), (o, .inr (3, [.ref ga, .ref ma, .int (nI n), .int rg, .int bl])), (ga, .inl (cI, 20, .inl fg)), (ma, .inl (cI, 20, .inl fm))] := congrArg (fun f9 : Int32 => ([(t, .inr (5, [.ref tl, .int (nI L), .int (nI (cMs cc L n a).1), .int f9])), (tl, .inl (cB, 120, .inl lt)), (o, .inr (3, [.ref ga, .ref ma, .int (nI n), .int rg, .int bl])), (ga, .inl (cI, 20, .inl fg)), (ma, .inl (cI, 20, .inl fm))] : va_W)) (show FZ (cTm cc L n a).2.1 = FZ (cMs cc L n a).2.1 from congrArg FZ (show (cTm cc L n a).2.1 = (cMs cc L n a).2.1 from congrArg (fun z => z.2.1) e8))
            have hP := va_P_eq e9 hP
            have hD := va_D_eq e9 hD
            refine lv_topi (fun y_83 e_84 => ?_)
            have e_84 : nI (cMs cc L n a).2.2 = y_83 := (e_84.trans (congrArg nI (show 0 = (cMs cc L n a).2.2 from congrArg (fun z => z.2.2) e8))).symm
            subst e_84
            have hm1 := (cMs_le (cc := cc) (n := n) ha).1
            have hm2 := (cMs_le (cc := cc) (n := n) ha).2
            refine lv_istore (lv' := [(5, .int (nI (cMs cc L n a).2.2)), (4, .int (nI (cTm cc L n a).2.2)), (3, .int (nI (cGr cc L n a).2.2)), (2, .int (nI (20 - n))), (0, .ref t), (1, .ref o)]) hx hb dX5_readStations_67 hl (by decide) rfl (fun ls hl => ?_)
            refine lv_aload_n hx hb dX5_readStations_69 rfl (lv_at hl 4 rfl) ?_
            refine va_get (D := D) (ci := 5) (v := .int (FZ (cMs cc L n a).2.1)) (C := RX5) (T := TX5) (N := 4) hx hb hts kX5_readStations_2 hown hK hP 0 rfl rfl 3 (by decide) (hts (.fieldLink RX5 22 "SightRidge$Text" "flaw" "I") kX5_readStations_3) (fun _ h9 => h9) rfl dX5_readStations_70 ?_
            refine lv_iconst (v := (-1)) hx hb dX5_readStations_73 (by decide) ?_
            refine lv_icmp_ne (tgt := 86) hx hb dX5_readStations_74 (by decide) (fun c_74 => ?_) (fun c_74 => ?_)
            · skip
              have d1 : ¬ (cMs cc L n a).2.1 = 0 := fun q => c_74 (by rw [q]; rfl)
              exact W.vret hx hb hr (fun tS htS hWS => ⟨⟨(n, fg, fm), rfl, (by unfold cAdd; rw [if_neg d1]), retP htS hP⟩, hS.F htS⟩) hS.2.2 dX5_readStations_86
            · skip
              have d1 : (cMs cc L n a).2.1 = 0 := (FZ_eq (by omega)).mp c_74
              have h0 := cMs_0 d1
              refine lv_aload_n hx hb dX5_readStations_77 rfl (lv_at hl 5 rfl) ?_
              refine lv_iload hx hb dX5_readStations_78 (lv_at hl 1 rfl) ?_
              refine lv_iload_n hx hb dX5_readStations_80 rfl (lv_at hl 2 rfl) ?_
              refine lv_iload hx hb dX5_readStations_81 (lv_at hl 0 rfl) ?_
              refine wv_callv (wc := [(o, .inr (3, [.ref ga, .ref ma, .int (nI n), .int rg, .int bl])), (ga, .inl (cI, 20, .inl fg)), (ma, .inl (cI, 20, .inl fm))]) hP hD hS [2, 3, 4] rfl rfl (va_runV (As := [.int (nI (cTm cc L n a).2.2), .int (nI (cGr cc L n a).2.2), .int (nI (cMs cc L n a).2.2)]) (rest := []) ⟨hx, hb, hml, hown, hts⟩ (c_X3_append l D cI cB cO o ga ma n rg bl fg fm (cTm cc L n a).2.2 (nI (cGr cc L n a).2.2) (nI (cMs cc L n a).2.2) h0.2.2) (cwV 3 hts gX5_readStations_X3_append rfl rfl rfl (by decide +kernel) ⟨Nat.le_of_ble_eq_true rfl, Nat.le_of_ble_eq_true rfl⟩) (wr_preV (wc := [(o, .inr (3, [.ref ga, .ref ma, .int (nI n), .int rg, .int bl])), (ga, .inl (cI, 20, .inl fg)), (ma, .inl (cI, 20, .inl fm))]) (r := (RX3, TX3, 5)) (ci := 3) hK (hP.pick [2, 3, 4] rfl) hN (wr_dsub hD [2, 3, 4] rfl rfl) (q0 := 0) rfl rfl) rfl rfl hl.1 rfl (lv_room (Nat.le_of_ble_eq_true rfl)) dX5_readStations_83 ⟨Nat.le_refl _, Nat.le_refl _⟩) (fun _ => [(t, .inr (5, [.ref tl, .int (nI L), .int (nI (cMs cc L n a).1), .int (FZ (cMs cc L n a).2.1)])), (tl, .inl (cB, 120, .inl lt)), (o, .inr (3, [.ref ga, .ref ma, .int (nI (n + (cTm cc L n a).2.2)), .int rg, .int bl])), (ga, .inl (cI, 20, .inl (app n (cTm cc L n a).2.2 (nI (cGr cc L n a).2.2) fg))), (ma, .inl (cI, 20, .inl (app n (cTm cc L n a).2.2 (nI (cMs cc L n a).2.2) fm)))]) (fun _ => rfl) (fun _ => rfl) (fun u_83 H locs h_83 hP hD hS => ?_)
              have hP : va_P D vwCl [(t, .inr (5, [.ref tl, .int (nI L), .int (nI (cMs cc L n a).1), .int (FZ (cMs cc L n a).2.1)])), (tl, .inl (cB, 120, .inl lt)), (o, .inr (3, [.ref ga, .ref ma, .int (nI (n + (cTm cc L n a).2.2)), .int rg, .int bl])), (ga, .inl (cI, 20, .inl (app n (cTm cc L n a).2.2 (nI (cGr cc L n a).2.2) fg))), (ma, .inl (cI, 20, .inl (app n (cTm cc L n a).2.2 (nI (cMs cc L n a).2.2) fm)))] _ := hP
              have hD : va_D (inW [(t, .inr (5, [.ref tl, .int (nI L), .int (nI a), .int (FZ 0)])), (tl, .inl (cB, 120, .inl lt)), (o, .inr (3, [.ref ga, .ref ma, .int (nI n), .int rg, .int bl])), (ga, .inl (cI, 20, .inl fg)), (ma, .inl (cI, 20, .inl fm))]) [(t, .inr (5, [.ref tl, .int (nI L), .int (nI (cMs cc L n a).1), .int (FZ (cMs cc L n a).2.1)])), (tl, .inl (cB, 120, .inl lt)), (o, .inr (3, [.ref ga, .ref ma, .int (nI (n + (cTm cc L n a).2.2)), .int rg, .int bl])), (ga, .inl (cI, 20, .inl (app n (cTm cc L n a).2.2 (nI (cGr cc L n a).2.2) fg))), (ma, .inl (cI, 20, .inl (app n (cTm cc L n a).2.2 (nI (cMs cc L n a).2.2) fm)))] := hD
              exact W.vret hx hb hr (fun tS htS hWS => ⟨⟨(n + (cTm cc L n a).2.2, app n (cTm cc L n a).2.2 (nI (cGr cc L n a).2.2) fg, app n (cTm cc L n a).2.2 (nI (cMs cc L n a).2.2) fm), rfl, (by unfold cAdd; rw [if_pos d1]), retP htS hP⟩, hS.F htS⟩) hS.2.2 dX5_readStations_86
          · skip
            exact absurd (by decide) c_52
      · skip
        exact absurd (by decide) c_31
