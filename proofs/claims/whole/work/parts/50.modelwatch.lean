/-! watch: the reference -/
def cvB (V : Nat → Nat) (X i t : Nat) : Bool := decide (∃ k, k < i ∧ X.testBit k = true ∧ (V k).testBit t = true)
theorem cv_0 (V : Nat → Nat) (X : Nat) : ∀ j, 0 = bs (cvB V X 0) j
  | 0 => rfl
  | j + 1 => by
    rw [bs, ← cv_0 V X j, if_neg]
    intro q
    obtain ⟨k, hk, -⟩ := of_decide_eq_true q
    exact absurd hk (Nat.not_lt_zero _)
theorem bs_orV {P : Nat → Bool} {n v : Nat} (h : v < 2 ^ n) : bs P n ||| v = bs (fun t => P t || v.testBit t) n := by
  refine Nat.eq_of_testBit_eq (fun i => ?_)
  rw [Nat.testBit_or, bs_bit, bs_bit]
  by_cases q : i < n
  · rw [decide_eq_true q, Bool.true_and, Bool.true_and]
  · rw [decide_eq_false q, Bool.false_and, Bool.false_and, Bool.false_or]
    exact Nat.testBit_lt_two_pow (Nat.lt_of_lt_of_le h (Nat.pow_le_pow_right (by decide) (by omega)))
theorem cv_T {V : Nat → Nat} {n i X s : Nat} (hv : V i < 2 ^ n) (h : X.testBit i = true) (hs : s = bs (cvB V X i) n) : s ||| V i = bs (cvB V X (i + 1)) n := by
  rw [hs, bs_orV hv]
  refine bs_cong (fun t _ => ?_)
  cases q : (V i).testBit t with
  | true => rw [Bool.or_true]; exact (decide_eq_true ⟨i, by omega, h, q⟩).symm
  | false =>
    rw [Bool.or_false]
    refine decide_eq_decide.mpr ⟨fun ⟨k, h1, h2⟩ => ⟨k, by omega, h2⟩, fun ⟨k, h1, h2, h3⟩ => ⟨k, ?_, h2, h3⟩⟩
    rcases Nat.lt_or_ge k i with z | z
    · exact z
    · rw [show k = i by omega, q] at h3; cases h3
theorem cv_F {V : Nat → Nat} {n i X s : Nat} (h : X.testBit i = false) (hs : s = bs (cvB V X i) n) : s ||| 0 = bs (cvB V X (i + 1)) n := by
  rw [hs, Nat.or_zero]
  refine bs_cong (fun t _ => decide_eq_decide.mpr ⟨fun ⟨k, h1, h2⟩ => ⟨k, by omega, h2⟩, fun ⟨k, h1, h2, h3⟩ => ⟨k, ?_, h2, h3⟩⟩)
  rcases Nat.lt_or_ge k i with z | z
  · exact z
  · rw [show k = i by omega, h] at h2; cases h2
def coB (V : Nat → Nat) (n X : Nat) : Bool := decide (bs (cvB V X n) n = 2 ^ n - 1)
theorem co_iff {V : Nat → Nat} {n X : Nat} (hX : X < 2 ^ n) : coB V n X = true ↔ covM V X (2 ^ n - 1) := by
  unfold coB
  rw [decide_eq_true_iff]
  constructor
  · intro h i hi
    have h1 := congrArg (fun z => z.testBit i) h
    have h1 : (bs (cvB V X n) n).testBit i = (2 ^ n - 1).testBit i := h1
    rw [hi, bs_bit, Bool.and_eq_true] at h1
    obtain ⟨k, -, h2, h3⟩ := of_decide_eq_true h1.2
    exact ⟨k, h2, h3⟩
  · intro h
    refine all_bits (bs_lt _ n) (fun v hv => ?_)
    rw [bs_in hv]
    obtain ⟨k, h1, h2⟩ := h v (by rw [Nat.testBit_two_pow_sub_one]; exact decide_eq_true hv)
    exact decide_eq_true ⟨k, bit_lt hX h1, h1, h2⟩
theorem gV_ltn (n : Nat) (bl : Int32) (G : Nat → Int32) (h : Int32) (s : Nat) : gV n bl G h s < 2 ^ n := bs_lt _ n
theorem kX7_coversAll_0 : ∀ w ∈ wsX70, w ∈ wsX7_coversAll := by decide +kernel
theorem kX7_coversAll_1 : (.fieldLink RX7 7 "SightRidgeModel" "m" "[I" : Cond) ∈ wsX7_coversAll := by decide +kernel
theorem kX7_coversAll_2 : (.fieldLink RX7 35 "SightRidgeModel" "cover" "[I" : Cond) ∈ wsX7_coversAll := by decide +kernel
set_option maxHeartbeats 4000000 in
set_option maxRecDepth 100000 in
/-- coversAll(set) -/
theorem c_X7_coversAll (l : Launch) (D : va_G) (cI cB cO : ClassId) (q0 q1 q2 q3 q4 q5 q6 q7 q8 : Nat) (mm pp fd tx rgd rmd wy cvr : Nat → Int32) (un fi tl re at0 fa : Int32) (hsh : Int64) (n : Nat) (rg bl : Int32) (G M : Nat → Int32) (V : Nat → Nat) (X : Nat) (hm : MOK n mm rg bl G M) (hX : X < 2 ^ n) (hcv : ∀ k, k < n → cvr k = nI (V k)) (hvl : ∀ k, k < n → V k < 2 ^ n) : Met l yX7_coversAll wsX7_coversAll (rmD 2) (rdPc D (tyL cI cB cO) [.ref q0, .int (nI X)] [(q0, .inr (7, [.ref q1, .ref q2, .int un, .ref q3, .int fi, .ref q4, .int tl, .ref q5, .ref q6, .int re, .int at0, .int fa, .ref q7, .ref q8, .long hsh])), (q1, .inl (cI, 43, .inl mm)), (q8, .inl (cI, 20, .inl cvr))]) (rdQi (fun r => r = bI (coB V n X))) 0 0 noA := by
  refine Met.ofW (cc := cX7_coversAll) (maxL := 4) (ret := (some .boolean)) (by decide) rfl ?_
  intro p e s m args below meth c s₁ B hml hv
  obtain ⟨rfl, hP, hK, hN⟩ := hv
  have hx := B.exec
  have hb := B.bytes
  have hr := B.returns
  have hts := atoms_spec (ws := wsX7_coversAll) B.pre
  have hown : s.vm.findClass RX7 = some m.cls := findClass_of_methodNamed B.named
  have hlocks := B.notSynchronized
  have hS : va_S noA s.heap s.heap [] := va_S.rf
  have hl := lv_entry ([.ref q0, .int (nI X)]) (n := 4) (Nat.le_of_ble_eq_true rfl)
  rw [lg_entry_eq]
  generalize (lg_sl ([.ref q0, .int (nI X)]) ++ List.replicate (4 - (lg_sl ([.ref q0, .int (nI X)])).length) Slot.unset).toArray = ls at hl ⊢
  have hl : lv_has ls 4 [(0, .ref q0), (1, .int (nI X))] := hl
  obtain ⟨hn, hn1, hm0, hm1, hm2, hG, hM⟩ := id hm
  have hp : (2 : Nat) ^ n ≤ 2 ^ 20 := Nat.pow_le_pow_right (by decide) hn
  refine lv_iconst (v := 0) hx hb dX7_coversAll_0 (by decide) ?_
  refine lv_istore_n (lv' := [(2, .int 0), (0, .ref q0), (1, .int (nI X))]) hx hb dX7_coversAll_1 rfl hl (by decide) rfl (fun ls hl => ?_)
  refine lv_iconst (v := 0) hx hb dX7_coversAll_2 (by decide) ?_
  refine lv_istore_n (lv' := [(3, .int 0), (2, .int 0), (0, .ref q0), (1, .int (nI X))]) hx hb dX7_coversAll_3 rfl hl (by decide) rfl (fun ls hl => ?_)
  have L_4 : ∀ (k_4 : Nat) (i : Nat) (w : Nat), n - i < k_4 → (i ≤ n) → (w = bs (cvB V X i) n) → ∀ (H : Heap) (locs : List Loc), va_P D vwCl [(q0, .inr (7, [.ref q1, .ref q2, .int un, .ref q3, .int fi, .ref q4, .int tl, .ref q5, .ref q6, .int re, .int at0, .int fa, .ref q7, .ref q8, .long hsh])), (q1, .inl (cI, 43, .inl mm)), (q8, .inl (cI, 20, .inl cvr))] H → va_S noA s.heap H locs → ∀ (ls : Array Slot), lv_has ls 4 [(0, .ref q0), (1, .int (nI X)), (2, .int (nI w)), (3, .int (nI i))] → W p l e (rmD 2) s m ([.ref q0, .int (nI X)] : List Value).toArray below meth c H locs 0 0 (MQ below (rdQi (fun r => r = bI (coB V n X))) ([.ref q0, .int (nI X)] : List Value).toArray s 0 0 noA) (F0 m 4 ls []) := by
    intro k_4
    induction k_4 with
    | zero => intro i w h9; exact absurd h9 (Nat.not_lt_zero _)
    | succ k_4 ih_4 =>
      intro i w hm_4 hi hw H locs hP hS ls hl
      refine lv_iload_n hx hb dX7_coversAll_4 rfl (lv_at hl 3 rfl) ?_
      refine lv_aload_n hx hb dX7_coversAll_5 rfl (lv_at hl 0 rfl) ?_
      refine va_get (D := D) (ci := 7) (v := .ref q1) (C := RX7) (T := TX7) (N := 15) hx hb hts kX7_coversAll_0 hown hK hP 0 rfl rfl 0 (by decide) (hts (.fieldLink RX7 7 "SightRidgeModel" "m" "[I") kX7_coversAll_1) (fun _ h9 => h9) rfl dX7_coversAll_6 ?_
      refine lv_iconst (v := 0) hx hb dX7_coversAll_9 (by decide) ?_
      refine va_iald hx hb hK hP 1 0 rfl rfl (i := nI 0) (vp_in_nI (N := 43) (by decide) (by decide)) dX7_coversAll_10 ?_
      rw [nI_clamp (n := 0) (by decide)]
      refine lv_topi (fun y_1 e_2 => ?_)
      have e_2 : nI n = y_1 := (e_2.trans (hm0)).symm
      subst e_2
      refine lv_icmp_ge (tgt := 42) hx hb dX7_coversAll_11 (by decide) (fun c_11 => ?_) (fun c_11 => ?_)
      · skip
        have c0 : n ≤ i := ge_t (by omega) c_11
        have hw9 : w = bs (cvB V X n) n := by rw [hw, show i = n by omega]
        have hwl : w < 2 ^ n := by rw [hw9]; exact bs_lt _ n
        refine lv_iload_n hx hb dX7_coversAll_42 rfl (lv_at hl 2 rfl) ?_
        refine lv_iconst (v := 1) hx hb dX7_coversAll_43 (by decide) ?_
        refine lv_aload_n hx hb dX7_coversAll_44 rfl (lv_at hl 0 rfl) ?_
        refine va_get (D := D) (ci := 7) (v := .ref q1) (C := RX7) (T := TX7) (N := 15) hx hb hts kX7_coversAll_0 hown hK hP 0 rfl rfl 0 (by decide) (hts (.fieldLink RX7 7 "SightRidgeModel" "m" "[I") kX7_coversAll_1) (fun _ h9 => h9) rfl dX7_coversAll_45 ?_
        refine lv_iconst (v := 0) hx hb dX7_coversAll_48 (by decide) ?_
        refine va_iald hx hb hK hP 1 0 rfl rfl (i := nI 0) (vp_in_nI (N := 43) (by decide) (by decide)) dX7_coversAll_49 ?_
        rw [nI_clamp (n := 0) (by decide)]
        refine lv_topi (fun y_3 e_4 => ?_)
        have e_4 : nI n = y_3 := (e_4.trans (hm0)).symm
        subst e_4
        refine lv_ishl hx hb dX7_coversAll_50 ?_
        refine lv_topi (fun y_5 e_6 => ?_)
        have e_6 : nI (2 ^ n) = y_5 := (e_6.trans (shl1 (by omega))).symm
        subst e_6
        refine lv_iconst (v := 1) hx hb dX7_coversAll_51 (by decide) ?_
        refine lv_isub hx hb dX7_coversAll_52 ?_
        refine lv_topi (fun y_7 e_8 => ?_)
        have e_8 : nI (2 ^ n - 1) = y_7 := (e_8.trans ((pk_sub (a := 2 ^ n) (b := 1) (Nat.pos_of_ne_zero (by simp))))).symm
        subst e_8
        refine lv_icmp_ne (tgt := 60) hx hb dX7_coversAll_53 (by decide) (fun c_53 => ?_) (fun c_53 => ?_)
        · skip
          have c2 : coB V n X = false := decide_eq_false (fun q => c_53 (congrArg nI (hw9.trans q)))
          refine lv_iconst (v := 0) hx hb dX7_coversAll_60 (by decide) ?_
          exact W.zret (v := 0) hx hb hr (rfl) (fun tS htS hWS => ⟨⟨0, (), rfl, (by first | exact bI_t c2 | exact bI_f c2 | fail), trivial⟩, hS.F htS⟩) hS.2.2 dX7_coversAll_61
        · skip
          have c2 : coB V n X = true := decide_eq_true (hw9.symm.trans ((nI_eq (by omega) (by omega)).mp c_53))
          refine lv_iconst (v := 1) hx hb dX7_coversAll_56 (by decide) ?_
          refine lv_goto (tgt := 61) hx hb dX7_coversAll_57 (by decide) ?_
          exact W.zret (v := 1) hx hb hr (rfl) (fun tS htS hWS => ⟨⟨1, (), rfl, (by first | exact bI_t c2 | exact bI_f c2 | fail), trivial⟩, hS.F htS⟩) hS.2.2 dX7_coversAll_61
      · skip
        have c0 : i < n := ge_f (by omega) c_11
        refine lv_iload_n hx hb dX7_coversAll_14 rfl (lv_at hl 2 rfl) ?_
        refine lv_iload_n hx hb dX7_coversAll_15 rfl (lv_at hl 1 rfl) ?_
        refine lv_iload_n hx hb dX7_coversAll_16 rfl (lv_at hl 3 rfl) ?_
        refine lv_ishr hx hb dX7_coversAll_17 ?_
        refine lv_topi (fun y_9 e_10 => ?_)
        have e_10 : nI (X / 2 ^ i) = y_9 := (e_10.trans (pk_shrN (by omega) (nI i &&& 31) i (s_l i (by omega)))).symm
        subst e_10
        refine lv_iconst (v := 1) hx hb dX7_coversAll_18 (by decide) ?_
        refine lv_iand hx hb dX7_coversAll_19 ?_
        refine lv_topi (fun y_11 e_12 => ?_)
        have e_12 : nI (X / 2 ^ i % 2) = y_11 := (e_12.trans (pk_andN (by have := Nat.div_le_self X (2 ^ i); omega) 1 (by decide))).symm
        subst e_12
        refine lv_iconst (v := 1) hx hb dX7_coversAll_20 (by decide) ?_
        refine lv_icmp_ne (tgt := 33) hx hb dX7_coversAll_21 (by decide) (fun c_21 => ?_) (fun c_21 => ?_)
        · skip
          have c1 : X.testBit i = false := Bool.eq_false_iff.mpr (fun q => c_21 (tb_is.mpr q))
          refine lv_iconst (v := 0) hx hb dX7_coversAll_33 (by decide) ?_
          refine lv_ior hx hb dX7_coversAll_34 ?_
          refine lv_topi (fun y_13 e_14 => ?_)
          have e_14 : nI (w ||| 0) = y_13 := (e_14.trans (fa_or _ 0)).symm
          subst e_14
          refine lv_istore_n (lv' := [(2, .int (nI (w ||| 0))), (0, .ref q0), (1, .int (nI X)), (3, .int (nI i))]) hx hb dX7_coversAll_35 rfl hl (by decide) rfl (fun ls hl => ?_)
          refine lv_iinc (v := nI (i + 1)) (lv' := [(3, .int (nI (i + 1))), (2, .int (nI (w ||| 0))), (0, .ref q0), (1, .int (nI X))]) hx hb dX7_coversAll_36 hl (k := 3) rfl (inc1 _) (by decide) rfl (fun ls hl => ?_)
          refine lv_goto (tgt := 4) hx hb dX7_coversAll_39 (by decide) ?_
          exact ih_4 (i + 1) (w ||| 0) (by omega) (by omega) (by first | exact cv_T (hvl _ c0) c1 hw | exact cv_F c1 hw | fail) _ _ hP hS ls (lv_sub hl [2, 3, 1, 0] rfl)
        · skip
          have c1 : X.testBit i = true := tb_is.mp c_21
          refine lv_aload_n hx hb dX7_coversAll_24 rfl (lv_at hl 0 rfl) ?_
          refine va_get (D := D) (ci := 7) (v := .ref q8) (C := RX7) (T := TX7) (N := 15) hx hb hts kX7_coversAll_0 hown hK hP 0 rfl rfl 13 (by decide) (hts (.fieldLink RX7 35 "SightRidgeModel" "cover" "[I") kX7_coversAll_2) (fun _ h9 => h9) rfl dX7_coversAll_25 ?_
          refine lv_iload_n hx hb dX7_coversAll_28 rfl (lv_at hl 3 rfl) ?_
          refine va_iald hx hb hK hP 2 0 rfl rfl (i := nI i) (vp_in_nI (N := 20) (by omega) (by decide)) dX7_coversAll_29 ?_
          rw [nI_clamp (n := i) (by omega)]
          refine lv_topi (fun y_15 e_16 => ?_)
          have e_16 : nI (V i) = y_15 := (e_16.trans (hcv i c0)).symm
          subst e_16
          refine lv_goto (tgt := 34) hx hb dX7_coversAll_30 (by decide) ?_
          refine lv_ior hx hb dX7_coversAll_34 ?_
          refine lv_topi (fun y_17 e_18 => ?_)
          have e_18 : nI (w ||| V i) = y_17 := (e_18.trans (fa_or _ _)).symm
          subst e_18
          refine lv_istore_n (lv' := [(2, .int (nI (w ||| V i))), (0, .ref q0), (1, .int (nI X)), (3, .int (nI i))]) hx hb dX7_coversAll_35 rfl hl (by decide) rfl (fun ls hl => ?_)
          refine lv_iinc (v := nI (i + 1)) (lv' := [(3, .int (nI (i + 1))), (2, .int (nI (w ||| V i))), (0, .ref q0), (1, .int (nI X))]) hx hb dX7_coversAll_36 hl (k := 3) rfl (inc1 _) (by decide) rfl (fun ls hl => ?_)
          refine lv_goto (tgt := 4) hx hb dX7_coversAll_39 (by decide) ?_
          exact ih_4 (i + 1) (w ||| V i) (by omega) (by omega) (by first | exact cv_T (hvl _ c0) c1 hw | exact cv_F c1 hw | fail) _ _ hP hS ls (lv_sub hl [2, 3, 1, 0] rfl)
  exact L_4 _ 0 0 (Nat.lt_succ_self _) (by omega) (cv_0 _ _ _) _ _ hP hS ls (lv_sub hl [2, 3, 1, 0] rfl)
set_option maxHeartbeats 4000000 in
set_option maxRecDepth 100000 in
theorem c_X7_watch_no (l : Launch) (D : va_G) (cI cB cO : ClassId) (A : Nat → Nat) (n : Nat) (rg : Int32) (bl : Int32) (G : Nat → Int32) (M : Nat → Int32) (hs : List Prf) (tL : Nat) (tc : Nat → Nat) (fk : Nat) (fc : Nat → Nat) (h : Int32) (hok : okS n rg bl G M hs tL tc fk fc) (hno : inB h 1 200 = false) : Met l yX7_watch wsX7_watch (rmD 8) (mrPc D cI cB cO A [.ref (A 0), .int h] n rg bl G M hs tL tc fk fc) (mrQi A (fun (r : Int32) (u : Unit) => r = -2) (fun (u : Unit) H => MRI D cI cB cO A H n rg bl G M hs tL tc fk fc)) 0 0 (inW (bdW A)) := by
  refine Met.ofW (cc := cX7_watch) (maxL := 6) (ret := (some .int)) (by decide) rfl ?_
  intro p e s m args below meth c s₁ B hml hv
  obtain ⟨rfl, hI, hK, hN, hA⟩ := hv
  have hx := B.exec
  have hb := B.bytes
  have hr := B.returns
  have hts := atoms_spec (ws := wsX7_watch) B.pre
  have hown : s.vm.findClass RX7 = some m.cls := findClass_of_methodNamed B.named
  have hlocks := B.notSynchronized
  have hS : va_S (inW (bdW A)) s.heap s.heap [] := va_S.rf
  obtain ⟨mm, pp, fd, tx, rgd, rmd, wy, cvr, re, at0, fa, hsh, hP, hm, hpp, hsl, htx, hfd⟩ := hI
  have hD : va_D (inW (bdW A)) [(A 0, .inr (7, [.ref (A 1), .ref (A 2), .int (nI hs.length), .ref (A 3), .int (FZ fk), .ref (A 4), .int (nI tL), .ref (A 5), .ref (A 6), .int re, .int at0, .int fa, .ref (A 7), .ref (A 8), .long hsh])), (A 1, .inl (cI, 43, .inl mm)), (A 2, .inl (cI, 430, .inl pp)), (A 3, .inl (cI, 20, .inl fd)), (A 4, .inl (cI, 120, .inl tx)), (A 5, .inl (cI, 20, .inl rgd)), (A 6, .inl (cI, 20, .inl rmd)), (A 7, .inl (cI, 20, .inl wy)), (A 8, .inl (cI, 20, .inl cvr))] := da_D hA rfl
  have hl := lv_entry ([.ref (A 0), .int h]) (n := 6) (Nat.le_of_ble_eq_true rfl)
  rw [lg_entry_eq]
  generalize (lg_sl ([.ref (A 0), .int h]) ++ List.replicate (6 - (lg_sl ([.ref (A 0), .int h])).length) Slot.unset).toArray = ls at hl ⊢
  have hl : lv_has ls 6 [(0, .ref (A 0)), (1, .int h)] := hl
  obtain ⟨hokP, hokH, hL, hcc, hfk⟩ := id hok
  have hn : n ≤ 20 := hokP.2.1
  have hn2 : 2 ≤ n := hokP.1
  obtain ⟨-, -, hm0, hm1, hm2, hG, hM⟩ := id hm
  refine lv_iload_n hx hb dX7_watch_0 rfl (lv_at hl 1 rfl) ?_
  refine lv_iconst (v := 1) hx hb dX7_watch_1 (by decide) ?_
  refine lv_sipush (v := 200) hx hb dX7_watch_2 (by decide) ?_
  refine rd_calli hP hS (va_runS (As := [.int h, .int 1, .int 200]) (rest := []) ⟨hx, hb, hml, hown, hts⟩ (c_X7_in l D cI cB cO h 1 200 ) (va_cwS 3 hts gX7_watch_X7_in rfl rfl rfl (by decide +kernel) ⟨Nat.le_of_ble_eq_true rfl, Nat.le_of_ble_eq_true rfl⟩) (rd_preS hK (hP.pick [] rfl) hN) rfl rfl hl.1 rfl (lv_room (Nat.le_of_ble_eq_true rfl)) dX7_watch_5 ⟨Nat.le_refl _, Nat.le_refl _⟩) (fun r_5 H locs h_5 hP hS => ?_)
  refine lv_if_ne (tgt := 14) hx hb dX7_watch_8 (by decide) (fun c_8 => ?_) (fun c_8 => ?_)
  · skip
    have d2 := bI_n0 (fun q => c_8 (h_5.trans q))
    exact absurd hno (by rw [d2]; decide)
  · skip
    refine lv_bipush (v := (-2)) hx hb dX7_watch_11 (by decide) ?_
    have hI := mri_mk (D := D) (cI := cI) (cB := cB) (cO := cO) (A := A) n rg bl G M hs tL tc fk fc mm pp fd tx rgd rmd wy cvr re at0 fa hsh hP hm hpp hsl htx hfd
    refine W.iret (v := -2) hx hb hr ?_ hS.2.2 dX7_watch_13
    intro tS htS hWS
    refine ⟨⟨(-2), (), rfl, ?_, ?_⟩, ?_⟩
    · exact rfl
    · exact retM htS hI
    · exact hS.F htS
theorem kX7_watch_ok_0 : ∀ w ∈ wsX70, w ∈ wsX7_watch := by decide +kernel
theorem kX7_watch_ok_1 : (.fieldLink RX7 7 "SightRidgeModel" "m" "[I" : Cond) ∈ wsX7_watch := by decide +kernel
theorem kX7_watch_ok_2 : (.fieldLink RX7 35 "SightRidgeModel" "cover" "[I" : Cond) ∈ wsX7_watch := by decide +kernel
set_option maxHeartbeats 4000000 in
set_option maxRecDepth 100000 in
theorem c_X7_watch_ok (l : Launch) (D : va_G) (cI cB cO : ClassId) (A : Nat → Nat) (n : Nat) (rg : Int32) (bl : Int32) (G : Nat → Int32) (M : Nat → Int32) (hs : List Prf) (tL : Nat) (tc : Nat → Nat) (fk : Nat) (fc : Nat → Nat) (h : Int32) (hok : okS n rg bl G M hs tL tc fk fc) (hy : inB h 1 200 = true) : Met l yX7_watch wsX7_watch (rmD 8) (mrPc D cI cB cO A [.ref (A 0), .int h] n rg bl G M hs tL tc fk fc) (mrQi A (fun (r : Int32) (u : Unit) => r = nI (wat n (gV n bl G h))) (fun (u : Unit) H => MRI D cI cB cO A H n rg bl G M hs tL tc (fb_ct (fun z => (wat n (gV n bl G h)).testBit z) 20 + 1) (nthB (fun z => (wat n (gV n bl G h)).testBit z) 20))) 0 0 (inW (bdW A)) := by
  refine Met.ofW (cc := cX7_watch) (maxL := 6) (ret := (some .int)) (by decide) rfl ?_
  intro p e s m args below meth c s₁ B hml hv
  obtain ⟨rfl, hI, hK, hN, hA⟩ := hv
  have hx := B.exec
  have hb := B.bytes
  have hr := B.returns
  have hts := atoms_spec (ws := wsX7_watch) B.pre
  have hown : s.vm.findClass RX7 = some m.cls := findClass_of_methodNamed B.named
  have hlocks := B.notSynchronized
  have hS : va_S (inW (bdW A)) s.heap s.heap [] := va_S.rf
  obtain ⟨mm, pp, fd, tx, rgd, rmd, wy, cvr, re, at0, fa, hsh, hP, hm, hpp, hsl, htx, hfd⟩ := hI
  have hD : va_D (inW (bdW A)) [(A 0, .inr (7, [.ref (A 1), .ref (A 2), .int (nI hs.length), .ref (A 3), .int (FZ fk), .ref (A 4), .int (nI tL), .ref (A 5), .ref (A 6), .int re, .int at0, .int fa, .ref (A 7), .ref (A 8), .long hsh])), (A 1, .inl (cI, 43, .inl mm)), (A 2, .inl (cI, 430, .inl pp)), (A 3, .inl (cI, 20, .inl fd)), (A 4, .inl (cI, 120, .inl tx)), (A 5, .inl (cI, 20, .inl rgd)), (A 6, .inl (cI, 20, .inl rmd)), (A 7, .inl (cI, 20, .inl wy)), (A 8, .inl (cI, 20, .inl cvr))] := da_D hA rfl
  have hl := lv_entry ([.ref (A 0), .int h]) (n := 6) (Nat.le_of_ble_eq_true rfl)
  rw [lg_entry_eq]
  generalize (lg_sl ([.ref (A 0), .int h]) ++ List.replicate (6 - (lg_sl ([.ref (A 0), .int h])).length) Slot.unset).toArray = ls at hl ⊢
  have hl : lv_has ls 6 [(0, .ref (A 0)), (1, .int h)] := hl
  obtain ⟨hokP, hokH, hL, hcc, hfk⟩ := id hok
  have hn : n ≤ 20 := hokP.2.1
  have hn2 : 2 ≤ n := hokP.1
  have hp : (2 : Nat) ^ n ≤ 2 ^ 20 := Nat.pow_le_pow_right (by decide) hn
  obtain ⟨-, -, hm0, hm1, hm2, hG, hM⟩ := id hm
  refine lv_iload_n hx hb dX7_watch_0 rfl (lv_at hl 1 rfl) ?_
  refine lv_iconst (v := 1) hx hb dX7_watch_1 (by decide) ?_
  refine lv_sipush (v := 200) hx hb dX7_watch_2 (by decide) ?_
  refine rd_calli hP hS (va_runS (As := [.int h, .int 1, .int 200]) (rest := []) ⟨hx, hb, hml, hown, hts⟩ (c_X7_in l D cI cB cO h 1 200 ) (va_cwS 3 hts gX7_watch_X7_in rfl rfl rfl (by decide +kernel) ⟨Nat.le_of_ble_eq_true rfl, Nat.le_of_ble_eq_true rfl⟩) (rd_preS hK (hP.pick [] rfl) hN) rfl rfl hl.1 rfl (lv_room (Nat.le_of_ble_eq_true rfl)) dX7_watch_5 ⟨Nat.le_refl _, Nat.le_refl _⟩) (fun r_5 H locs h_5 hP hS => ?_)
  refine lv_if_ne (tgt := 14) hx hb dX7_watch_8 (by decide) (fun c_8 => ?_) (fun c_8 => ?_)
  · skip
    refine lv_iconst (v := 0) hx hb dX7_watch_14 (by decide) ?_
    refine lv_istore_n (lv' := [(2, .int 0), (0, .ref (A 0)), (1, .int h)]) hx hb dX7_watch_15 rfl hl (by decide) rfl (fun ls hl => ?_)
    have L_16 : ∀ (k_16 : Nat) (i : Nat) (u8 : Nat → Int32), n - i < k_16 → (i ≤ n) → (∀ k, k < i → u8 k = nI ((gV n bl G h) k)) → ∀ (H : Heap) (locs : List Loc), va_P D vwCl [(A 0, .inr (7, [.ref (A 1), .ref (A 2), .int (nI hs.length), .ref (A 3), .int (FZ fk), .ref (A 4), .int (nI tL), .ref (A 5), .ref (A 6), .int re, .int at0, .int fa, .ref (A 7), .ref (A 8), .long hsh])), (A 1, .inl (cI, 43, .inl mm)), (A 2, .inl (cI, 430, .inl pp)), (A 3, .inl (cI, 20, .inl fd)), (A 4, .inl (cI, 120, .inl tx)), (A 5, .inl (cI, 20, .inl rgd)), (A 6, .inl (cI, 20, .inl rmd)), (A 7, .inl (cI, 20, .inl wy)), (A 8, .inl (cI, 20, .inl u8))] H → va_D (inW (bdW A)) [(A 0, .inr (7, [.ref (A 1), .ref (A 2), .int (nI hs.length), .ref (A 3), .int (FZ fk), .ref (A 4), .int (nI tL), .ref (A 5), .ref (A 6), .int re, .int at0, .int fa, .ref (A 7), .ref (A 8), .long hsh])), (A 1, .inl (cI, 43, .inl mm)), (A 2, .inl (cI, 430, .inl pp)), (A 3, .inl (cI, 20, .inl fd)), (A 4, .inl (cI, 120, .inl tx)), (A 5, .inl (cI, 20, .inl rgd)), (A 6, .inl (cI, 20, .inl rmd)), (A 7, .inl (cI, 20, .inl wy)), (A 8, .inl (cI, 20, .inl u8))] → va_S (inW (bdW A)) s.heap H locs → ∀ (ls : Array Slot), lv_has ls 6 [(0, .ref (A 0)), (1, .int h), (2, .int (nI i))] → W p l e (rmD 8) s m ([.ref (A 0), .int h] : List Value).toArray below meth c H locs 0 0 (MQ below (mrQi A (fun (r : Int32) (u : Unit) => r = nI (wat n (gV n bl G h))) (fun (u : Unit) H => MRI D cI cB cO A H n rg bl G M hs tL tc (fb_ct (fun z => (wat n (gV n bl G h)).testBit z) 20 + 1) (nthB (fun z => (wat n (gV n bl G h)).testBit z) 20))) ([.ref (A 0), .int h] : List Value).toArray s 0 0 (inW (bdW A))) (F0 m 16 ls []) := by
      intro k_16
      induction k_16 with
      | zero => intro i u8 h9; exact absurd h9 (Nat.not_lt_zero _)
      | succ k_16 ih_16 =>
        intro i u8 hm_16 hi hu8 H locs hP hD hS ls hl
        refine lv_iload_n hx hb dX7_watch_16 rfl (lv_at hl 2 rfl) ?_
        refine lv_aload_n hx hb dX7_watch_17 rfl (lv_at hl 0 rfl) ?_
        refine va_get (D := D) (ci := 7) (v := .ref (A 1)) (C := RX7) (T := TX7) (N := 15) hx hb hts kX7_watch_ok_0 hown hK hP 0 rfl rfl 0 (by decide) (hts (.fieldLink RX7 7 "SightRidgeModel" "m" "[I") kX7_watch_ok_1) (fun _ h9 => h9) rfl dX7_watch_18 ?_
        refine lv_iconst (v := 0) hx hb dX7_watch_21 (by decide) ?_
        refine va_iald hx hb hK hP 1 0 rfl rfl (i := nI 0) (vp_in_nI (N := 43) (by decide) (by decide)) dX7_watch_22 ?_
        rw [nI_clamp (n := 0) (by decide)]
        refine lv_topi (fun y_1 e_2 => ?_)
        have e_2 : nI n = y_1 := (e_2.trans (hm0)).symm
        subst e_2
        refine lv_icmp_ge (tgt := 53) hx hb dX7_watch_23 (by decide) (fun c_23 => ?_) (fun c_23 => ?_)
        · skip
          have c0 : n ≤ i := ge_t (by omega) c_23
          refine lv_iconst (v := 1) hx hb dX7_watch_53 (by decide) ?_
          refine lv_istore_n (lv' := [(2, .int 1), (0, .ref (A 0)), (1, .int h)]) hx hb dX7_watch_54 rfl hl (by decide) rfl (fun ls hl => ?_)
          have hu8n : ∀ k, k < n → u8 k = nI ((gV n bl G h) k) := fun k hk => hu8 k (by omega)
          have L_55 : ∀ (k_55 : Nat) (z : Nat), 22 - z < k_55 → (1 ≤ z ∧ z ≤ n) → (∀ Y, Y < 2 ^ n → covM (gV n bl G h) Y (2 ^ n - 1) → z ≤ pcn Y 32) → ∀ (H : Heap) (locs : List Loc), va_P D vwCl [(A 0, .inr (7, [.ref (A 1), .ref (A 2), .int (nI hs.length), .ref (A 3), .int (FZ fk), .ref (A 4), .int (nI tL), .ref (A 5), .ref (A 6), .int re, .int at0, .int fa, .ref (A 7), .ref (A 8), .long hsh])), (A 1, .inl (cI, 43, .inl mm)), (A 2, .inl (cI, 430, .inl pp)), (A 3, .inl (cI, 20, .inl fd)), (A 4, .inl (cI, 120, .inl tx)), (A 5, .inl (cI, 20, .inl rgd)), (A 6, .inl (cI, 20, .inl rmd)), (A 7, .inl (cI, 20, .inl wy)), (A 8, .inl (cI, 20, .inl u8))] H → va_D (inW (bdW A)) [(A 0, .inr (7, [.ref (A 1), .ref (A 2), .int (nI hs.length), .ref (A 3), .int (FZ fk), .ref (A 4), .int (nI tL), .ref (A 5), .ref (A 6), .int re, .int at0, .int fa, .ref (A 7), .ref (A 8), .long hsh])), (A 1, .inl (cI, 43, .inl mm)), (A 2, .inl (cI, 430, .inl pp)), (A 3, .inl (cI, 20, .inl fd)), (A 4, .inl (cI, 120, .inl tx)), (A 5, .inl (cI, 20, .inl rgd)), (A 6, .inl (cI, 20, .inl rmd)), (A 7, .inl (cI, 20, .inl wy)), (A 8, .inl (cI, 20, .inl u8))] → va_S (inW (bdW A)) s.heap H locs → ∀ (ls : Array Slot), lv_has ls 6 [(0, .ref (A 0)), (1, .int h), (2, .int (nI z))] → W p l e (rmD 8) s m ([.ref (A 0), .int h] : List Value).toArray below meth c H locs 0 0 (MQ below (mrQi A (fun (r : Int32) (u : Unit) => r = nI (wat n (gV n bl G h))) (fun (u : Unit) H => MRI D cI cB cO A H n rg bl G M hs tL tc (fb_ct (fun z => (wat n (gV n bl G h)).testBit z) 20 + 1) (nthB (fun z => (wat n (gV n bl G h)).testBit z) 20))) ([.ref (A 0), .int h] : List Value).toArray s 0 0 (inW (bdW A))) (F0 m 55 ls []) := by
            intro k_55
            induction k_55 with
            | zero => intro z h9; exact absurd h9 (Nat.not_lt_zero _)
            | succ k_55 ih_55 =>
              intro z hm_55 hz hnone H locs hP hD hS ls hl
              refine lv_iload_n hx hb dX7_watch_55 rfl (lv_at hl 2 rfl) ?_
              refine lv_aload_n hx hb dX7_watch_56 rfl (lv_at hl 0 rfl) ?_
              refine va_get (D := D) (ci := 7) (v := .ref (A 1)) (C := RX7) (T := TX7) (N := 15) hx hb hts kX7_watch_ok_0 hown hK hP 0 rfl rfl 0 (by decide) (hts (.fieldLink RX7 7 "SightRidgeModel" "m" "[I") kX7_watch_ok_1) (fun _ h9 => h9) rfl dX7_watch_57 ?_
              refine lv_iconst (v := 0) hx hb dX7_watch_60 (by decide) ?_
              refine va_iald hx hb hK hP 1 0 rfl rfl (i := nI 0) (vp_in_nI (N := 43) (by decide) (by decide)) dX7_watch_61 ?_
              rw [nI_clamp (n := 0) (by decide)]
              refine lv_topi (fun y_3 e_4 => ?_)
              have e_4 : nI n = y_3 := (e_4.trans (hm0)).symm
              subst e_4
              refine lv_icmp_gt (tgt := 132) hx hb dX7_watch_62 (by decide) (fun c_62 => ?_) (fun c_62 => ?_)
              · skip
                exact absurd (gt_t (by omega) c_62) (by omega)
              · skip
                refine lv_iconst (v := 1) hx hb dX7_watch_65 (by decide) ?_
                refine lv_iload_n hx hb dX7_watch_66 rfl (lv_at hl 2 rfl) ?_
                refine lv_ishl hx hb dX7_watch_67 ?_
                refine lv_topi (fun y_5 e_6 => ?_)
                have e_6 : nI (2 ^ z) = y_5 := (e_6.trans (shl1 (by omega))).symm
                subst e_6
                refine lv_iconst (v := 1) hx hb dX7_watch_68 (by decide) ?_
                refine lv_isub hx hb dX7_watch_69 ?_
                have hpz : (2 : Nat) ^ z ≤ 2 ^ 20 := Nat.pow_le_pow_right (by decide) (by omega)
                have hpz1 : (2 : Nat) ^ 1 ≤ 2 ^ z := Nat.pow_le_pow_right (by decide) hz.1
                have hpc0 : pcn (2 ^ z - 1) 32 = z := by rw [pcn_more (m := z) (by omega) (by omega), pcn_ones]
                refine lv_topi (fun y_7 e_8 => ?_)
                have e_8 : nI (2 ^ z - 1) = y_7 := (e_8.trans ((pk_sub (a := 2 ^ z) (b := 1) (Nat.pos_of_ne_zero (by simp))))).symm
                subst e_8
                refine lv_istore_n (lv' := [(3, .int (nI (2 ^ z - 1))), (0, .ref (A 0)), (1, .int h), (2, .int (nI z))]) hx hb dX7_watch_70 rfl hl (by decide) rfl (fun ls hl => ?_)
                have L_71 : ∀ (k_71 : Nat) (X : Nat), 2 ^ 22 - X < k_71 → (0 < X ∧ X < 2 ^ 22) → (pcn X 32 = z) → (∀ Y, Y < X → pcn Y 32 = z → ¬ covM (gV n bl G h) Y (2 ^ n - 1)) → ∀ (H : Heap) (locs : List Loc), va_P D vwCl [(A 0, .inr (7, [.ref (A 1), .ref (A 2), .int (nI hs.length), .ref (A 3), .int (FZ fk), .ref (A 4), .int (nI tL), .ref (A 5), .ref (A 6), .int re, .int at0, .int fa, .ref (A 7), .ref (A 8), .long hsh])), (A 1, .inl (cI, 43, .inl mm)), (A 2, .inl (cI, 430, .inl pp)), (A 3, .inl (cI, 20, .inl fd)), (A 4, .inl (cI, 120, .inl tx)), (A 5, .inl (cI, 20, .inl rgd)), (A 6, .inl (cI, 20, .inl rmd)), (A 7, .inl (cI, 20, .inl wy)), (A 8, .inl (cI, 20, .inl u8))] H → va_D (inW (bdW A)) [(A 0, .inr (7, [.ref (A 1), .ref (A 2), .int (nI hs.length), .ref (A 3), .int (FZ fk), .ref (A 4), .int (nI tL), .ref (A 5), .ref (A 6), .int re, .int at0, .int fa, .ref (A 7), .ref (A 8), .long hsh])), (A 1, .inl (cI, 43, .inl mm)), (A 2, .inl (cI, 430, .inl pp)), (A 3, .inl (cI, 20, .inl fd)), (A 4, .inl (cI, 120, .inl tx)), (A 5, .inl (cI, 20, .inl rgd)), (A 6, .inl (cI, 20, .inl rmd)), (A 7, .inl (cI, 20, .inl wy)), (A 8, .inl (cI, 20, .inl u8))] → va_S (inW (bdW A)) s.heap H locs → ∀ (ls : Array Slot), lv_has ls 6 [(0, .ref (A 0)), (1, .int h), (2, .int (nI z)), (3, .int (nI X))] → W p l e (rmD 8) s m ([.ref (A 0), .int h] : List Value).toArray below meth c H locs 0 0 (MQ below (mrQi A (fun (r : Int32) (u : Unit) => r = nI (wat n (gV n bl G h))) (fun (u : Unit) H => MRI D cI cB cO A H n rg bl G M hs tL tc (fb_ct (fun z => (wat n (gV n bl G h)).testBit z) 20 + 1) (nthB (fun z => (wat n (gV n bl G h)).testBit z) 20))) ([.ref (A 0), .int h] : List Value).toArray s 0 0 (inW (bdW A))) (F0 m 71 ls []) := by
                  intro k_71
                  induction k_71 with
                  | zero => intro X h9; exact absurd h9 (Nat.not_lt_zero _)
                  | succ k_71 ih_71 =>
                    intro X hm_71 hX0 hX1 hX3 H locs hP hD hS ls hl
                    refine lv_iload_n hx hb dX7_watch_71 rfl (lv_at hl 3 rfl) ?_
                    refine lv_iconst (v := 1) hx hb dX7_watch_72 (by decide) ?_
                    refine lv_aload_n hx hb dX7_watch_73 rfl (lv_at hl 0 rfl) ?_
                    refine va_get (D := D) (ci := 7) (v := .ref (A 1)) (C := RX7) (T := TX7) (N := 15) hx hb hts kX7_watch_ok_0 hown hK hP 0 rfl rfl 0 (by decide) (hts (.fieldLink RX7 7 "SightRidgeModel" "m" "[I") kX7_watch_ok_1) (fun _ h9 => h9) rfl dX7_watch_74 ?_
                    refine lv_iconst (v := 0) hx hb dX7_watch_77 (by decide) ?_
                    refine va_iald hx hb hK hP 1 0 rfl rfl (i := nI 0) (vp_in_nI (N := 43) (by decide) (by decide)) dX7_watch_78 ?_
                    rw [nI_clamp (n := 0) (by decide)]
                    refine lv_topi (fun y_9 e_10 => ?_)
                    have e_10 : nI n = y_9 := (e_10.trans (hm0)).symm
                    subst e_10
                    refine lv_ishl hx hb dX7_watch_79 ?_
                    refine lv_topi (fun y_11 e_12 => ?_)
                    have e_12 : nI (2 ^ n) = y_11 := (e_12.trans (shl1 (by omega))).symm
                    subst e_12
                    refine lv_icmp_ge (tgt := 126) hx hb dX7_watch_80 (by decide) (fun c_80 => ?_) (fun c_80 => ?_)
                    · skip
                      have cX : 2 ^ n ≤ X := (nI_leI (by omega) (by omega)).mp c_80
                      have hno9 := WatS_zz hnone cX hX3
                      refine lv_iinc (v := nI (z + 1)) (lv' := [(2, .int (nI (z + 1))), (0, .ref (A 0)), (1, .int h), (3, .int (nI X))]) hx hb dX7_watch_126 hl (k := 2) rfl (inc1 _) (by decide) rfl (fun ls hl => ?_)
                      refine lv_goto (tgt := 55) hx hb dX7_watch_129 (by decide) ?_
                      exact ih_55 (z + 1) (by omega) (⟨by omega, WatS_full hn gV_self hno9⟩) (hno9) _ _ hP hD hS ls (lv_sub hl [1, 2, 0] rfl)
                    · skip
                      have cX : X < 2 ^ n := Nat.lt_of_not_le (fun q => c_80 ((nI_leI (by omega) (by omega)).mpr q))
                      refine lv_aload_n hx hb dX7_watch_83 rfl (lv_at hl 0 rfl) ?_
                      refine lv_iload_n hx hb dX7_watch_84 rfl (lv_at hl 3 rfl) ?_
                      refine rd_calli hP hS (va_runV (As := [.int (nI X)]) (rest := []) ⟨hx, hb, hml, hown, hts⟩ (c_X7_coversAll l D cI cB cO (A 0) (A 1) (A 2) (A 3) (A 4) (A 5) (A 6) (A 7) (A 8) mm pp fd tx rgd rmd wy u8 (nI hs.length) (FZ fk) (nI tL) re at0 fa hsh n rg bl G M (gV n bl G h) X hm cX hu8n (fun k _ => gV_ltn n bl G h k)) (cwV 1 hts gX7_watch_X7_coversAll rfl rfl rfl (by decide +kernel) ⟨Nat.le_of_ble_eq_true rfl, Nat.le_of_ble_eq_true rfl⟩) (rd_preV (r := (RX7, TX7, 15)) (ci := 7) hK (hP.pick [0, 1, 8] rfl) hN (q0 := 0) rfl rfl) rfl rfl hl.1 rfl (lv_room (Nat.le_of_ble_eq_true rfl)) dX7_watch_85 ⟨Nat.le_refl _, Nat.le_refl _⟩) (fun r_85 H locs h_85 hP hS => ?_)
                      refine lv_if_eq (tgt := 98) hx hb dX7_watch_88 (by decide) (fun c_88 => ?_) (fun c_88 => ?_)
                      · skip
                        have c3 : ¬ covM (gV n bl G h) X (2 ^ n - 1) := fun q => by have := (co_iff cX).mpr q; rw [bI_e0 (h_85.symm.trans c_88)] at this; cases this
                        obtain ⟨gb, ga2, gk, hg⟩ := gos_form hX0.1
                        have hg : X = gX gb ga2 gk := hg
                        subst hg
                        have hx20 : gX gb ga2 gk < 2 ^ 20 := by omega
                        obtain ⟨hb1, hb2, hb3⟩ := gX_bnd hx20
                        have hY1 : pcn (gY gb ga2 gk) 32 = z := (gY_32 hx20).trans hX1
                        have hY3 := gY_none hx20 hX1 c3 hX3
                        have hYX := @gX_lt gb ga2 gk
                        refine lv_iload_n hx hb dX7_watch_98 rfl (lv_at hl 3 rfl) ?_
                        refine lv_iload_n hx hb dX7_watch_99 rfl (lv_at hl 3 rfl) ?_
                        refine lv_ineg hx hb dX7_watch_100 ?_
                        refine lv_iand hx hb dX7_watch_101 ?_
                        refine lv_topi (fun y_13 e_14 => ?_)
                        have e_14 : nI (2 ^ gb) = y_13 := (e_14.trans (low_nI (by omega))).symm
                        subst e_14
                        refine lv_istore (lv' := [(4, .int (nI (2 ^ gb))), (0, .ref (A 0)), (1, .int h), (2, .int (nI z)), (3, .int (nI (gX gb ga2 gk)))]) hx hb dX7_watch_102 hl (by decide) rfl (fun ls hl => ?_)
                        refine lv_iload_n hx hb dX7_watch_104 rfl (lv_at hl 4 rfl) ?_
                        refine lv_iload hx hb dX7_watch_105 (lv_at hl 0 rfl) ?_
                        refine lv_iadd hx hb dX7_watch_107 ?_
                        refine lv_topi (fun y_15 e_16 => ?_)
                        have e_16 : nI ((gX gb ga2 gk) + (2 ^ gb)) = y_15 := (e_16.trans (nI_add (gX gb ga2 gk) (2 ^ gb))).symm
                        subst e_16
                        refine lv_istore (lv' := [(5, .int (nI ((gX gb ga2 gk) + (2 ^ gb)))), (4, .int (nI (2 ^ gb))), (0, .ref (A 0)), (1, .int h), (2, .int (nI z)), (3, .int (nI (gX gb ga2 gk)))]) hx hb dX7_watch_108 hl (by decide) rfl (fun ls hl => ?_)
                        refine lv_iload hx hb dX7_watch_110 (lv_at hl 0 rfl) ?_
                        refine lv_iload_n hx hb dX7_watch_112 rfl (lv_at hl 5 rfl) ?_
                        refine lv_iload hx hb dX7_watch_113 (lv_at hl 0 rfl) ?_
                        refine lv_ixor hx hb dX7_watch_115 ?_
                        refine lv_topi (fun y_17 e_18 => ?_)
                        have e_18 : nI (gX gb ga2 gk ^^^ (gX gb ga2 gk + 2 ^ gb)) = y_17 := (e_18.trans (xor_nI _ _)).symm
                        subst e_18
                        refine lv_iload hx hb dX7_watch_116 (lv_at hl 1 rfl) ?_
                        refine lv_idiv hx hb dX7_watch_118 (nI_ne0 (Nat.two_pow_pos gb) (by omega)) ?_
                        refine lv_topi (fun y_19 e_20 => ?_)
                        have e_20 : nI ((gX gb ga2 gk ^^^ (gX gb ga2 gk + 2 ^ gb)) / 2 ^ gb) = y_19 := (e_20.trans (pk_div (by have := @Nat.xor_lt_two_pow (gX gb ga2 gk) (gX gb ga2 gk + 2 ^ gb) 22 (by omega) (by omega); omega) (Nat.two_pow_pos gb) (by omega))).symm
                        subst e_20
                        refine lv_iconst (v := 2) hx hb dX7_watch_119 (by decide) ?_
                        refine lv_ishr hx hb dX7_watch_120 ?_
                        refine lv_topi (fun y_21 e_22 => ?_)
                        have e_22 : nI (2 ^ ga2 - 1) = y_21 := (e_22.trans ((pk_shrN (by have := @Nat.xor_lt_two_pow (gX gb ga2 gk) (gX gb ga2 gk + 2 ^ gb) 22 (by omega) (by omega); have := Nat.div_le_self (gX gb ga2 gk ^^^ (gX gb ga2 gk + 2 ^ gb)) (2 ^ gb); omega) (2 &&& 31) 2 (by decide)).trans (congrArg nI g_xor))).symm
                        subst e_22
                        refine lv_ior hx hb dX7_watch_121 ?_
                        refine lv_topi (fun y_23 e_24 => ?_)
                        have e_24 : nI (gY gb ga2 gk) = y_23 := (e_24.trans ((fa_or _ _).trans (congrArg nI gz_or))).symm
                        subst e_24
                        refine lv_istore_n (lv' := [(3, .int (nI (gY gb ga2 gk))), (5, .int (nI ((gX gb ga2 gk) + (2 ^ gb)))), (4, .int (nI (2 ^ gb))), (0, .ref (A 0)), (1, .int h), (2, .int (nI z))]) hx hb dX7_watch_122 rfl hl (by decide) rfl (fun ls hl => ?_)
                        refine lv_goto (tgt := 71) hx hb dX7_watch_123 (by decide) ?_
                        exact ih_71 (gY gb ga2 gk) (by omega) (⟨by omega, by omega⟩) (hY1) (hY3) _ _ hP hD hS ls (lv_sub hl [3, 4, 5, 0] rfl)
                      · skip
                        have c3 : covM (gV n bl G h) X (2 ^ n - 1) := (co_iff cX).mp (bI_n0 (fun q => c_88 (h_85.trans q)))
                        have eW := WatS_X hnone cX hX1 c3 hX3
                        subst eW
                        refine lv_aload_n hx hb dX7_watch_91 rfl (lv_at hl 0 rfl) ?_
                        refine lv_iload_n hx hb dX7_watch_92 rfl (lv_at hl 3 rfl) ?_
                        refine wv_callv (wc := [(A 0, .inr (7, [.ref (A 1), .ref (A 2), .int (nI hs.length), .ref (A 3), .int (FZ fk), .ref (A 4), .int (nI tL), .ref (A 5), .ref (A 6), .int re, .int at0, .int fa, .ref (A 7), .ref (A 8), .long hsh])), (A 1, .inl (cI, 43, .inl mm)), (A 3, .inl (cI, 20, .inl fd))]) hP hD hS [0, 1, 3] rfl rfl (va_runV (As := [.int (nI (wat n (gV n bl G h)))]) (rest := []) ⟨hx, hb, hml, hown, hts⟩ (c_X7_findsSet l D cI cB cO (A 0) (A 1) (A 2) (A 3) (A 4) (A 5) (A 6) (A 7) (A 8) mm pp fd tx rgd rmd wy u8 (nI hs.length) (FZ fk) (nI tL) re at0 fa hsh n rg bl G M (wat n (gV n bl G h)) hm cX) (cwV 1 hts gX7_watch_X7_findsSet rfl rfl rfl (by decide +kernel) ⟨Nat.le_of_ble_eq_true rfl, Nat.le_of_ble_eq_true rfl⟩) (wr_preV (wc := [(A 0, .inr (7, [.ref (A 1), .ref (A 2), .int (nI hs.length), .ref (A 3), .int (FZ fk), .ref (A 4), .int (nI tL), .ref (A 5), .ref (A 6), .int re, .int at0, .int fa, .ref (A 7), .ref (A 8), .long hsh])), (A 1, .inl (cI, 43, .inl mm)), (A 3, .inl (cI, 20, .inl fd))]) (r := (RX7, TX7, 15)) (ci := 7) hK (hP.pick [0, 1, 3] rfl) hN (wr_dsub hD [0, 1, 3] rfl rfl) (q0 := 0) rfl rfl) rfl rfl hl.1 rfl (lv_room (Nat.le_of_ble_eq_true rfl)) dX7_watch_93 ⟨Nat.le_refl _, Nat.le_refl _⟩) (fun uk => [(A 0, .inr (7, [.ref (A 1), .ref (A 2), .int (nI hs.length), .ref (A 3), .int (nI (fb_ct (fun z => (wat n (gV n bl G h)).testBit z) 20)), .ref (A 4), .int (nI tL), .ref (A 5), .ref (A 6), .int re, .int at0, .int fa, .ref (A 7), .ref (A 8), .long hsh])), (A 1, .inl (cI, 43, .inl mm)), (A 2, .inl (cI, 430, .inl pp)), (A 3, .inl (cI, 20, .inl uk)), (A 4, .inl (cI, 120, .inl tx)), (A 5, .inl (cI, 20, .inl rgd)), (A 6, .inl (cI, 20, .inl rmd)), (A 7, .inl (cI, 20, .inl wy)), (A 8, .inl (cI, 20, .inl u8))]) (fun _ => rfl) (fun _ => rfl) (fun uk H locs huk hP hD hS => ?_)
                        have e9 : ([(A 0, .inr (7, [.ref (A 1), .ref (A 2), .int (nI hs.length), .ref (A 3), .int (nI (fb_ct (fun z => (wat n (gV n bl G h)).testBit z) 20)), .ref (A 4), .int (nI tL), .ref (A 5), .ref (A 6), .int re, .int at0, .int fa, .ref (A 7), .ref (A 8), .long hsh])), (A 1, .inl (cI, 43, .inl mm)), (A 2, .inl (cI, 430, .inl pp)), (A 3, .inl (cI, 20, .inl uk)), (A 4, .inl (cI, 120, .inl tx)), (A 5, .inl (cI, 20, .inl rgd)), (A 6, .inl (cI, 20, .inl rmd)), (A 7, .inl (cI, 20, .inl wy)), (A 8, .inl (cI, 20, .inl u8))] : va_W) = [(A 0, .inr (7, [.ref (A 1), .ref (A 2), .int (nI hs.length), .ref (A 3), .int (FZ (fb_ct (fun z => (wat n (gV n bl G h)).testBit z) 20 + 1)), .ref (A 4), .int (nI tL), .ref (A 5), .ref (A 6), .int re, .int at0, .int fa, .ref (A 7), .ref (A 8), .long hsh])), (A 1, .inl (cI, 43, .inl mm)), (A 2, .inl (cI, 430, .inl pp)), (A 3, .inl (cI, 20, .inl uk)), (A 4, .inl (cI, 120, .inl tx)), (A 5, .inl (cI, 20, .inl rgd)), (A 6, .inl (cI, 20, .inl rmd)), (A 7, .inl (cI, 20, .inl wy)), (A 8, .inl (cI, 20, .inl u8))] := congrArg (fun f9 : Int32 => ([(A 0, .inr (7, [.ref (A 1), .ref (A 2), .int (nI hs.length), .ref (A 3), .int f9, .ref (A 4), .int (nI tL), .ref (A 5), .ref (A 6), .int re, .int at0, .int fa, .ref (A 7), .ref (A 8), .long hsh])), (A 1, .inl (cI, 43, .inl mm)), (A 2, .inl (cI, 430, .inl pp)), (A 3, .inl (cI, 20, .inl uk)), (A 4, .inl (cI, 120, .inl tx)), (A 5, .inl (cI, 20, .inl rgd)), (A 6, .inl (cI, 20, .inl rmd)), (A 7, .inl (cI, 20, .inl wy)), (A 8, .inl (cI, 20, .inl u8))] : va_W)) (show nI (fb_ct (fun z => (wat n (gV n bl G h)).testBit z) 20) = FZ (fb_ct (fun z => (wat n (gV n bl G h)).testBit z) 20 + 1) from (FZ_s _).symm)
                        have hP := va_P_eq e9 hP
                        have hD := va_D_eq e9 hD
                        have hP : va_P D vwCl [(A 0, .inr (7, [.ref (A 1), .ref (A 2), .int (nI hs.length), .ref (A 3), .int (FZ (fb_ct (fun z => (wat n (gV n bl G h)).testBit z) 20 + 1)), .ref (A 4), .int (nI tL), .ref (A 5), .ref (A 6), .int re, .int at0, .int fa, .ref (A 7), .ref (A 8), .long hsh])), (A 1, .inl (cI, 43, .inl mm)), (A 2, .inl (cI, 430, .inl pp)), (A 3, .inl (cI, 20, .inl uk)), (A 4, .inl (cI, 120, .inl tx)), (A 5, .inl (cI, 20, .inl rgd)), (A 6, .inl (cI, 20, .inl rmd)), (A 7, .inl (cI, 20, .inl wy)), (A 8, .inl (cI, 20, .inl u8))] _ := hP
                        have hD : va_D (inW (bdW A)) [(A 0, .inr (7, [.ref (A 1), .ref (A 2), .int (nI hs.length), .ref (A 3), .int (FZ (fb_ct (fun z => (wat n (gV n bl G h)).testBit z) 20 + 1)), .ref (A 4), .int (nI tL), .ref (A 5), .ref (A 6), .int re, .int at0, .int fa, .ref (A 7), .ref (A 8), .long hsh])), (A 1, .inl (cI, 43, .inl mm)), (A 2, .inl (cI, 430, .inl pp)), (A 3, .inl (cI, 20, .inl uk)), (A 4, .inl (cI, 120, .inl tx)), (A 5, .inl (cI, 20, .inl rgd)), (A 6, .inl (cI, 20, .inl rmd)), (A 7, .inl (cI, 20, .inl wy)), (A 8, .inl (cI, 20, .inl u8))] := hD
                        refine lv_iload_n hx hb dX7_watch_96 rfl (lv_at hl 3 rfl) ?_
                        have hI := mri_mk (D := D) (cI := cI) (cB := cB) (cO := cO) (A := A) n rg bl G M hs tL tc (fb_ct (fun z => (wat n (gV n bl G h)).testBit z) 20 + 1) (nthB (fun z => (wat n (gV n bl G h)).testBit z) 20) mm pp uk tx rgd rmd wy u8 re at0 fa hsh hP hm hpp hsl htx (fun j hj => huk j (Nat.lt_of_succ_lt_succ hj))
                        refine W.iret (v := nI (wat n (gV n bl G h))) hx hb hr ?_ hS.2.2 dX7_watch_97
                        intro tS htS hWS
                        refine ⟨⟨nI (wat n (gV n bl G h)), (), rfl, ?_, ?_⟩, ?_⟩
                        · exact rfl
                        · exact retM htS hI
                        · exact hS.F htS
                exact L_71 _ (2 ^ z - 1) (Nat.lt_succ_self _) (⟨by omega, by omega⟩) (hpc0) (fun Y hY hc => absurd (pcn_min (v := Y) (n := 32) (a := z) (by omega) (by omega)) (by omega)) _ _ hP hD hS ls (lv_sub hl [1, 2, 3, 0] rfl)
          exact L_55 _ 1 (Nat.lt_succ_self _) (⟨by decide, by omega⟩) (cov_0 (by omega) hn rfl) _ _ hP hD hS ls (lv_sub hl [1, 2, 0] rfl)
        · skip
          have c0 : i < n := ge_f (by omega) c_23
          refine lv_aload_n hx hb dX7_watch_26 rfl (lv_at hl 0 rfl) ?_
          refine va_get (D := D) (ci := 7) (v := .ref (A 8)) (C := RX7) (T := TX7) (N := 15) hx hb hts kX7_watch_ok_0 hown hK hP 0 rfl rfl 13 (by decide) (hts (.fieldLink RX7 35 "SightRidgeModel" "cover" "[I") kX7_watch_ok_2) (fun _ h9 => h9) rfl dX7_watch_27 ?_
          refine lv_iload_n hx hb dX7_watch_30 rfl (lv_at hl 2 rfl) ?_
          refine lv_aload_n hx hb dX7_watch_31 rfl (lv_at hl 0 rfl) ?_
          refine lv_iload_n hx hb dX7_watch_32 rfl (lv_at hl 2 rfl) ?_
          refine lv_aload_n hx hb dX7_watch_33 rfl (lv_at hl 0 rfl) ?_
          refine va_get (D := D) (ci := 7) (v := .ref (A 1)) (C := RX7) (T := TX7) (N := 15) hx hb hts kX7_watch_ok_0 hown hK hP 0 rfl rfl 0 (by decide) (hts (.fieldLink RX7 7 "SightRidgeModel" "m" "[I") kX7_watch_ok_1) (fun _ h9 => h9) rfl dX7_watch_34 ?_
          refine lv_iconst (v := 3) hx hb dX7_watch_37 (by decide) ?_
          refine lv_iload_n hx hb dX7_watch_38 rfl (lv_at hl 2 rfl) ?_
          refine lv_iadd hx hb dX7_watch_39 ?_
          refine lv_topi (fun y_25 e_26 => ?_)
          have e_26 : nI (3 + i) = y_25 := (e_26.trans (nI_add 3 i)).symm
          subst e_26
          refine va_iald hx hb hK hP 1 0 rfl rfl (i := nI (3 + i)) (vp_in_nI (N := 43) (by omega) (by decide)) dX7_watch_40 ?_
          rw [nI_clamp (n := 3 + i) (by omega)]
          refine lv_topi (fun y_27 e_28 => ?_)
          have e_28 : G i = y_27 := (e_28.trans (hG i c0)).symm
          subst e_28
          refine lv_iload_n hx hb dX7_watch_41 rfl (lv_at hl 1 rfl) ?_
          refine lv_iadd hx hb dX7_watch_42 ?_
          refine rd_calli hP hS (va_runV (As := [.int (nI i), .int ((G i) + h)]) (rest := [.int (nI i), .ref (A 8)]) ⟨hx, hb, hml, hown, hts⟩ (c_X7_grounds l D cI cB cO (A 0) (A 1) [.ref (A 2), .int (nI hs.length), .ref (A 3), .int (FZ fk), .ref (A 4), .int (nI tL), .ref (A 5), .ref (A 6), .int re, .int at0, .int fa, .ref (A 7), .ref (A 8), .long hsh] n mm rg bl G M i (G i + h) hm c0) (cwV 2 hts gX7_watch_X7_grounds rfl rfl rfl (by decide +kernel) ⟨Nat.le_of_ble_eq_true rfl, Nat.le_of_ble_eq_true rfl⟩) (rd_preV (r := (RX7, TX7, 15)) (ci := 7) hK (hP.pick [0, 1] rfl) hN (q0 := 0) rfl rfl) rfl rfl hl.1 rfl (lv_room (Nat.le_of_ble_eq_true rfl)) dX7_watch_43 ⟨Nat.le_refl _, Nat.le_refl _⟩) (fun r_43 H locs h_43 hP hS => ?_)
          subst h_43
          refine va_iast hx hb hK hP hD hS 8 0 rfl rfl (i := nI i) (vp_in_nI (N := 20) (by omega) (by decide)) dX7_watch_46 (fun H locs hP hD hS => ?_)
          rw [nI_clamp (n := i) (by omega)] at hP hD
          have hP : va_P D vwCl [(A 0, .inr (7, [.ref (A 1), .ref (A 2), .int (nI hs.length), .ref (A 3), .int (FZ fk), .ref (A 4), .int (nI tL), .ref (A 5), .ref (A 6), .int re, .int at0, .int fa, .ref (A 7), .ref (A 8), .long hsh])), (A 1, .inl (cI, 43, .inl mm)), (A 2, .inl (cI, 430, .inl pp)), (A 3, .inl (cI, 20, .inl fd)), (A 4, .inl (cI, 120, .inl tx)), (A 5, .inl (cI, 20, .inl rgd)), (A 6, .inl (cI, 20, .inl rmd)), (A 7, .inl (cI, 20, .inl wy)), (A 8, .inl (cI, 20, .inl (upd u8 i (nI ((gV n bl G h) i)))))] _ := hP
          have hD : va_D (inW (bdW A)) [(A 0, .inr (7, [.ref (A 1), .ref (A 2), .int (nI hs.length), .ref (A 3), .int (FZ fk), .ref (A 4), .int (nI tL), .ref (A 5), .ref (A 6), .int re, .int at0, .int fa, .ref (A 7), .ref (A 8), .long hsh])), (A 1, .inl (cI, 43, .inl mm)), (A 2, .inl (cI, 430, .inl pp)), (A 3, .inl (cI, 20, .inl fd)), (A 4, .inl (cI, 120, .inl tx)), (A 5, .inl (cI, 20, .inl rgd)), (A 6, .inl (cI, 20, .inl rmd)), (A 7, .inl (cI, 20, .inl wy)), (A 8, .inl (cI, 20, .inl (upd u8 i (nI ((gV n bl G h) i)))))] := hD
          refine lv_iinc (v := nI (i + 1)) (lv' := [(2, .int (nI (i + 1))), (0, .ref (A 0)), (1, .int h)]) hx hb dX7_watch_47 hl (k := 2) rfl (inc1 _) (by decide) rfl (fun ls hl => ?_)
          refine lv_goto (tgt := 16) hx hb dX7_watch_50 (by decide) ?_
          exact ih_16 (i + 1) (upd u8 i (nI ((gV n bl G h) i))) (by omega) (by omega) (up_s hu8 (F := fun k => nI ((gV n bl G h) k)) rfl) _ _ hP hD hS ls (lv_sub hl [1, 2, 0] rfl)
    exact L_16 _ 0 cvr (Nat.lt_succ_self _) (by omega) (up_0) _ _ hP hD hS ls (lv_sub hl [1, 2, 0] rfl)
  · skip
    have d2 := bI_e0 (h_5.symm.trans c_8)
    exact absurd d2 (by rw [hy]; decide)
