/-! shadow(x, which, end), of both -/
def runS (P : Nat → Bool) (k : Nat) : Bool := P k && !(decide (0 < k) && P (k - 1))
def runE (n : Nat) (P : Nat → Bool) (k : Nat) : Bool := P k && !(decide (k + 1 < n) && P (k + 1))
def kthF (P : Nat → Bool) (n y : Nat) : Int32 := if fa_first (fun k => P k && decide (fb_ct P k = y)) n < n then nI (fa_first (fun k => P k && decide (fb_ct P k = y)) n) else -1
theorem kth_at {P : Nat → Bool} {n y i : Nat} (h : P i = true) (hc : fb_ct P i = y) (hi : i < n) : kthF P n y = nI i := by
  have e : fa_first (fun k => P k && decide (fb_ct P k = y)) n = i := by
    refine fa_first_eq (fun j hj => ?_) (by show (P i && decide (fb_ct P i = y)) = true; rw [h, decide_eq_true hc]; rfl) hi
    show (P j && decide (fb_ct P j = y)) = false
    cases q : P j with
    | false => rfl
    | true =>
      rw [Bool.true_and]
      refine decide_eq_false (fun z => ?_)
      have := fb_ct_kth_one q h (z.trans hc.symm)
      omega
  unfold kthF
  rw [e, if_pos hi]
theorem kth_no {P : Nat → Bool} {n y : Nat} (h : ∀ j, j < n → ¬ (P j = true ∧ fb_ct P j = y)) : kthF P n y = -1 := by
  unfold kthF
  rw [if_neg (fa_first_none (fun j hj => ?_))]
  show (P j && decide (fb_ct P j = y)) = false
  cases q : P j with
  | false => rfl
  | true => rw [Bool.true_and]; exact decide_eq_false (fun z => h j hj ⟨q, z⟩)
theorem kth_few {P : Nat → Bool} {n y : Nat} (h : fb_ct P n ≤ y) : kthF P n y = -1 := kth_no (fun j hj q => by
  have h1 := fb_ct_T q.1
  have h2 := fb_ct_mono P (show j + 1 ≤ n by omega)
  have h3 := q.2
  omega)
theorem kth_bs {P : Nat → Bool} {n y : Nat} (hn : n ≤ 20) : kthF (fun t => (bs P n).testBit t) 20 y = kthF P n y := by
  have hc : ∀ i, i ≤ n → fb_ct (fun t => (bs P n).testBit t) i = fb_ct P i := fun i hi => fb_ct_cong (fun k hk => by show (bs P n).testBit k = P k; rw [bs_bit, decide_eq_true (by omega), Bool.true_and])
  by_cases q : ∃ i, i < n ∧ P i = true ∧ fb_ct P i = y
  · obtain ⟨i, h1, h2, h3⟩ := q
    rw [kth_at h2 h3 h1]
    exact kth_at (by show (bs P n).testBit i = true; rw [bs_bit, decide_eq_true h1, h2]; rfl) ((hc i (by omega)).trans h3) (by omega)
  · rw [kth_no (P := P) (fun j hj z => q ⟨j, hj, z⟩)]
    refine kth_no (fun j _ z => ?_)
    have z1 : (bs P n).testBit j = true := z.1
    rw [bs_bit, Bool.and_eq_true, decide_eq_true_iff] at z1
    exact q ⟨j, z1.1, z1.2, (hc j (by omega)).symm.trans z.2⟩
/-- a run that goes on counts among the starts only -/
theorem run_ct (P : Nat → Bool) (n : Nat) : ∀ k, k ≤ n → fb_ct (runS P) k = fb_ct (runE n P) k + (if (decide (0 < k) && P (k - 1) && (decide (k < n) && P k)) = true then 1 else 0)
  | 0, _ => rfl
  | k + 1, hk => by
    have ih := run_ct P n k (by omega)
    rw [fb_ct_succ, fb_ct_succ, ih, Nat.add_sub_cancel, decide_eq_true (show 0 < k + 1 by omega), decide_eq_true (show k < n by omega)]
    unfold runS runE
    cases P k <;> cases (decide (0 < k) && P (k - 1)) <;> cases (decide (k + 1 < n) && P (k + 1)) <;> simp
theorem run_n (P : Nat → Bool) (n : Nat) : fb_ct (runS P) n = fb_ct (runE n P) n := by
  rw [run_ct P n n (Nat.le_refl n), decide_eq_false (show ¬ n < n by omega)]; simp
theorem run_end {P : Nat → Bool} {n i j y : Nat} (hs : runS P i = true) (hc : fb_ct (runS P) i = y) (hij : i ≤ j) (hj : j < n) (hr : ∀ t, i ≤ t → t ≤ j → P t = true) (he : (decide (j + 1 < n) && P (j + 1)) = false) : kthF (runE n P) n y = nI j := by
  have h1 : fb_ct (runE n P) i = y := by
    rw [← hc, run_ct P n i (by omega), if_neg, Nat.add_zero]
    intro q
    unfold runS at hs
    rw [Bool.and_eq_true] at q hs
    rw [q.1] at hs
    exact absurd hs.2 (by decide)
  refine kth_at (by unfold runE; rw [hr j hij (Nat.le_refl j), he]; rfl) ?_ hj
  rw [← h1]
  refine fb_ct_stop hij (fun t h2 h3 => ?_)
  unfold runE
  rw [hr (t + 1) (by omega) (by omega), decide_eq_true (show t + 1 < n by omega)]
  simp
def hidB (bl : Int32) (G M : Nat → Int32) (a t : Nat) : Bool := !(gsB G bl a (tp G M a) t)
def A_shadow (n : Nat) (bl : Int32) (G M : Nat → Int32) (x y w : Int32) : Int32 := if hasB n x = true ∧ 0 ≤ y ∧ inB w 0 1 = true then (if w = 0 then kthF (runS (hidB bl G M (cN x))) n (cN y) else kthF (runE n (hidB bl G M (cN x))) n (cN y)) else -2
theorem sh_m {n : Nat} (hn : n ≤ 20) (S : Nat → Bool) : nI (2 ^ n - 1) &&& (nI (bs S n) ^^^ (-1)) = nI (bs (fun t => !S t) n) := by
  have hp : (2 : Nat) ^ n ≤ 2 ^ 20 := Nat.pow_le_pow_right (by decide) hn
  have h1 := bs_lt S n
  have h2 := bs_lt (fun t => !S t) n
  refine b_ext (fun i hi => ?_)
  rw [b_and, b_xor, b_m1 i hi, wt_nI _ _ (by omega), wt_nI _ _ (by omega), wt_nI _ _ (by omega), Nat.testBit_two_pow_sub_one, bs_bit, bs_bit]
  cases decide (i < n) <;> cases S i <;> rfl
theorem sh_S {n : Nat} (hn : n ≤ 20) (H : Nat → Bool) : nI (bs H n) &&& (nI (bs H n * 2) ^^^ (-1)) = nI (bs (runS H) n) := by
  have hp : (2 : Nat) ^ n ≤ 2 ^ 20 := Nat.pow_le_pow_right (by decide) hn
  have h1 := bs_lt H n
  have h2 := bs_lt (runS H) n
  refine b_ext (fun i hi => ?_)
  rw [b_and, b_xor, b_m1 i hi, wt_nI _ _ (by omega), wt_nI _ _ (by omega), wt_nI _ _ (by omega), bs_bit, bs_bit]
  unfold runS
  cases i with
  | zero => rw [Nat.testBit_zero, decide_eq_false (show ¬ bs H n * 2 % 2 = 1 by omega)]; simp
  | succ i =>
    rw [Nat.testBit_succ, Nat.mul_div_cancel _ (by decide), bs_bit, Nat.add_sub_cancel, decide_eq_true (show 0 < i + 1 by omega)]
    by_cases h3 : i + 1 < n
    · rw [decide_eq_true h3, decide_eq_true (show i < n by omega)]; cases H (i + 1) <;> cases H i <;> rfl
    · rw [decide_eq_false h3]; rfl
theorem sh_E {n : Nat} (hn : n ≤ 20) (H : Nat → Bool) : nI (bs H n) &&& (nI (bs H n / 2) ^^^ (-1)) = nI (bs (runE n H) n) := by
  have hp : (2 : Nat) ^ n ≤ 2 ^ 20 := Nat.pow_le_pow_right (by decide) hn
  have h1 := bs_lt H n
  have h2 := bs_lt (runE n H) n
  refine b_ext (fun i hi => ?_)
  rw [b_and, b_xor, b_m1 i hi, wt_nI _ _ (by omega), wt_nI _ _ (by omega), wt_nI _ _ (by omega), bs_bit, ← Nat.testBit_succ, bs_bit, bs_bit]
  unfold runE
  cases decide (i < n) <;> cases H i <;> cases (decide (i + 1 < n) && H (i + 1)) <;> rfl
set_option maxHeartbeats 4000000 in
set_option maxRecDepth 100000 in
/-- nthOf(set, which) -/
theorem c_X6_nthOf (l : Launch) (D : va_G) (cI cB cO : ClassId) (X Y : Nat) (hX : X < 2 ^ 31) (hY : Y < 2 ^ 31) : Met l yX6_nthOf wsX6_nthOf (rmD 2) (rdPc D (tyL cI cB cO) [.int (nI X), .int (nI Y)] []) (rdQi (fun r => r = kthF (fun t => X.testBit t) 20 Y)) 0 0 noA := by
  refine Met.ofW (cc := cX6_nthOf) (maxL := 4) (ret := (some .int)) (by decide) rfl ?_
  intro p e s m args below meth c s₁ B hml hv
  obtain ⟨rfl, hP, hK, hN⟩ := hv
  have hx := B.exec
  have hb := B.bytes
  have hr := B.returns
  have hts := atoms_spec (ws := wsX6_nthOf) B.pre
  have hown : s.vm.findClass RX6 = some m.cls := findClass_of_methodNamed B.named
  have hlocks := B.notSynchronized
  have hS : va_S noA s.heap s.heap [] := va_S.rf
  have hl := lv_entry ([.int (nI X), .int (nI Y)]) (n := 4) (Nat.le_of_ble_eq_true rfl)
  rw [lg_entry_eq]
  generalize (lg_sl ([.int (nI X), .int (nI Y)]) ++ List.replicate (4 - (lg_sl ([.int (nI X), .int (nI Y)])).length) Slot.unset).toArray = ls at hl ⊢
  have hl : lv_has ls 4 [(0, .int (nI X)), (1, .int (nI Y))] := hl
  refine lv_iconst (v := 0) hx hb dX6_nthOf_0 (by decide) ?_
  refine lv_istore_n (lv' := [(2, .int 0), (0, .int (nI X)), (1, .int (nI Y))]) hx hb dX6_nthOf_1 rfl hl (by decide) rfl (fun ls hl => ?_)
  refine lv_iconst (v := 0) hx hb dX6_nthOf_2 (by decide) ?_
  refine lv_istore_n (lv' := [(3, .int 0), (2, .int 0), (0, .int (nI X)), (1, .int (nI Y))]) hx hb dX6_nthOf_3 rfl hl (by decide) rfl (fun ls hl => ?_)
  have L_4 : ∀ (k_4 : Nat) (i : Nat) (t : Nat), 20 - i < k_4 → (i ≤ 20) → (t = fb_ct (fun t => X.testBit t) i) → (t ≤ Y) → ∀ (H : Heap) (locs : List Loc), va_P D vwCl [] H → va_S noA s.heap H locs → ∀ (ls : Array Slot), lv_has ls 4 [(0, .int (nI X)), (1, .int (nI Y)), (2, .int (nI t)), (3, .int (nI i))] → W p l e (rmD 2) s m ([.int (nI X), .int (nI Y)] : List Value).toArray below meth c H locs 0 0 (MQ below (rdQi (fun r => r = kthF (fun t => X.testBit t) 20 Y)) ([.int (nI X), .int (nI Y)] : List Value).toArray s 0 0 noA) (F0 m 4 ls []) := by
    intro k_4
    induction k_4 with
    | zero => intro i t h9; exact absurd h9 (Nat.not_lt_zero _)
    | succ k_4 ih_4 =>
      intro i t hm_4 hi ht hy H locs hP hS ls hl
      refine lv_iload_n hx hb dX6_nthOf_4 rfl (lv_at hl 3 rfl) ?_
      refine lv_bipush (v := 20) hx hb dX6_nthOf_5 (by decide) ?_
      refine lv_icmp_ge (tgt := 34) hx hb dX6_nthOf_7 (by decide) (fun c_7 => ?_) (fun c_7 => ?_)
      · skip
        have c0 : 20 ≤ i := ge_t (n := 20) (by decide) c_7
        refine lv_iconst (v := (-1)) hx hb dX6_nthOf_34 (by decide) ?_
        exact W.iret (v := -1) hx hb hr (fun tS htS hWS => ⟨⟨-1, (), rfl, (kth_few (P := fun t => X.testBit t) (by rw [show (20 : Nat) = i by omega, ← ht]; exact hy)).symm, trivial⟩, hS.F htS⟩) hS.2.2 dX6_nthOf_35
      · skip
        have c0 : i < 20 := ge_f (n := 20) (by omega) c_7
        refine lv_iload_n hx hb dX6_nthOf_10 rfl (lv_at hl 0 rfl) ?_
        refine lv_iload_n hx hb dX6_nthOf_11 rfl (lv_at hl 3 rfl) ?_
        refine rd_calli hP hS (va_runS (As := [.int (nI X), .int (nI i)]) (rest := []) ⟨hx, hb, hml, hown, hts⟩ (c_X6_holds l D cI cB cO X i hX (by omega)) (va_cwS 2 hts gX6_nthOf_X6_holds rfl rfl rfl (by decide +kernel) ⟨Nat.le_of_ble_eq_true rfl, Nat.le_of_ble_eq_true rfl⟩) (rd_preS hK (hP.pick [] rfl) hN) rfl rfl hl.1 rfl (lv_room (Nat.le_of_ble_eq_true rfl)) dX6_nthOf_12 ⟨Nat.le_refl _, Nat.le_refl _⟩) (fun r_12 H locs h_12 hP hS => ?_)
        refine lv_if_eq (tgt := 28) hx hb dX6_nthOf_15 (by decide) (fun c_15 => ?_) (fun c_15 => ?_)
        · skip
          have c1 := bI_e0 (h_12.symm.trans c_15)
          refine lv_iinc (v := nI (i + 1)) (lv' := [(3, .int (nI (i + 1))), (0, .int (nI X)), (1, .int (nI Y)), (2, .int (nI t))]) hx hb dX6_nthOf_28 hl (k := 3) rfl (inc1 _) (by decide) rfl (fun ls hl => ?_)
          refine lv_goto (tgt := 4) hx hb dX6_nthOf_31 (by decide) ?_
          exact ih_4 (i + 1) t (by omega) (by omega) (by first | exact ht.trans (fb_ct_F (P := fun t => X.testBit t) c1).symm | exact (congrArg (fun z => z + 1) ht).trans (fb_ct_T (P := fun t => X.testBit t) c1).symm | fail) (by omega) _ _ hP hS ls (lv_sub hl [1, 2, 3, 0] rfl)
        · skip
          have c1 := bI_n0 (fun q => c_15 (h_12.trans q))
          refine lv_iload_n hx hb dX6_nthOf_18 rfl (lv_at hl 2 rfl) ?_
          refine lv_iload_n hx hb dX6_nthOf_19 rfl (lv_at hl 1 rfl) ?_
          refine lv_icmp_ne (tgt := 25) hx hb dX6_nthOf_20 (by decide) (fun c_20 => ?_) (fun c_20 => ?_)
          · skip
            have hi31 := fb_ct_le (fun t => X.testBit t) i
            have c3 : ¬ t = Y := fun q => c_20 (by rw [q])
            refine lv_iinc (v := nI (t + 1)) (lv' := [(2, .int (nI (t + 1))), (0, .int (nI X)), (1, .int (nI Y)), (3, .int (nI i))]) hx hb dX6_nthOf_25 hl (k := 2) rfl (inc1 _) (by decide) rfl (fun ls hl => ?_)
            refine lv_iinc (v := nI (i + 1)) (lv' := [(3, .int (nI (i + 1))), (2, .int (nI (t + 1))), (0, .int (nI X)), (1, .int (nI Y))]) hx hb dX6_nthOf_28 hl (k := 3) rfl (inc1 _) (by decide) rfl (fun ls hl => ?_)
            refine lv_goto (tgt := 4) hx hb dX6_nthOf_31 (by decide) ?_
            exact ih_4 (i + 1) (t + 1) (by omega) (by omega) (by first | exact ht.trans (fb_ct_F (P := fun t => X.testBit t) c1).symm | exact (congrArg (fun z => z + 1) ht).trans (fb_ct_T (P := fun t => X.testBit t) c1).symm | fail) (by omega) _ _ hP hS ls (lv_sub hl [2, 3, 1, 0] rfl)
          · skip
            have hi31 := fb_ct_le (fun t => X.testBit t) i
            have c3 : t = Y := (nI_eq (by omega) hY).mp c_20
            refine lv_iload_n hx hb dX6_nthOf_23 rfl (lv_at hl 3 rfl) ?_
            exact W.iret (v := nI i) hx hb hr (fun tS htS hWS => ⟨⟨nI i, (), rfl, (kth_at (P := fun t => X.testBit t) c1 (ht.symm.trans c3) c0).symm, trivial⟩, hS.F htS⟩) hS.2.2 dX6_nthOf_24
  exact L_4 _ 0 0 (Nat.lt_succ_self _) (by omega) (rfl) (Nat.zero_le _) _ _ hP hS ls (lv_sub hl [2, 3, 1, 0] rfl)
theorem kX6_shadow_0 : ∀ w ∈ wsX60, w ∈ wsX6_shadow := by decide +kernel
theorem kX6_shadow_1 : (.fieldLink RX6 10 "SightRidge" "ridge" "LSightRidge$Profile;" : Cond) ∈ wsX6_shadow := by decide +kernel
set_option maxHeartbeats 4000000 in
set_option maxRecDepth 100000 in
/-- shadow(x, which, end) -/
theorem c_X6_shadow (l : Launch) (D : va_G) (cI cB cO : ClassId) (z : Nat) (fs : List Value) (o ga ma : Nat) (n : Nat) (rg bl : Int32) (fg fm : Nat → Int32) (G M : Nat → Int32) (x y w : Int32) (hn : n ≤ 20) (hG : ∀ k, k < n → fg k = G k) (hM : ∀ k, k < n → fm k = M k) : Met l yX6_shadow wsX6_shadow (rmD 6) (rdPc D (tyL cI cB cO) [.ref z, .int x, .int y, .int w] [(z, .inr (6, .ref o :: fs)), (o, .inr (3, [.ref ga, .ref ma, .int (nI n), .int rg, .int bl])), (ga, .inl (cI, 20, .inl fg)), (ma, .inl (cI, 20, .inl fm))]) (rdQi (fun r => r = A_shadow n bl G M x y w)) 0 0 noA := by
  refine Met.ofW (cc := cX6_shadow) (maxL := 6) (ret := (some .int)) (by decide) rfl ?_
  intro p e s m args below meth c s₁ B hml hv
  obtain ⟨rfl, hP, hK, hN⟩ := hv
  have hx := B.exec
  have hb := B.bytes
  have hr := B.returns
  have hts := atoms_spec (ws := wsX6_shadow) B.pre
  have hown : s.vm.findClass RX6 = some m.cls := findClass_of_methodNamed B.named
  have hlocks := B.notSynchronized
  have hS : va_S noA s.heap s.heap [] := va_S.rf
  have hl := lv_entry ([.ref z, .int x, .int y, .int w]) (n := 6) (Nat.le_of_ble_eq_true rfl)
  rw [lg_entry_eq]
  generalize (lg_sl ([.ref z, .int x, .int y, .int w]) ++ List.replicate (6 - (lg_sl ([.ref z, .int x, .int y, .int w])).length) Slot.unset).toArray = ls at hl ⊢
  have hl : lv_has ls 6 [(0, .ref z), (1, .int x), (2, .int y), (3, .int w)] := hl
  refine lv_aload_n hx hb dX6_shadow_0 rfl (lv_at hl 0 rfl) ?_
  refine va_get (D := D) (ci := 6) (v := .ref o) (C := RX6) (T := TX6) (N := 7) hx hb hts kX6_shadow_0 hown hK hP 0 rfl rfl 0 (by decide) (hts (.fieldLink RX6 10 "SightRidge" "ridge" "LSightRidge$Profile;") kX6_shadow_1) (fun _ h9 => h9) rfl dX6_shadow_1 ?_
  refine lv_iload_n hx hb dX6_shadow_4 rfl (lv_at hl 1 rfl) ?_
  refine rd_calli hP hS (va_runV (As := [.int x]) (rest := []) ⟨hx, hb, hml, hown, hts⟩ (c_X3_has l D cI cB cO o ga ma n rg bl fg fm x ) (cwV 1 hts gX6_shadow_X3_has rfl rfl rfl (by decide +kernel) ⟨Nat.le_of_ble_eq_true rfl, Nat.le_of_ble_eq_true rfl⟩) (rd_preV (r := (RX3, TX3, 5)) (ci := 3) hK (hP.pick [1, 2, 3] rfl) hN (q0 := 0) rfl rfl) rfl rfl hl.1 rfl (lv_room (Nat.le_of_ble_eq_true rfl)) dX6_shadow_5 ⟨Nat.le_refl _, Nat.le_refl _⟩) (fun r_5 H locs h_5 hP hS => ?_)
  refine lv_if_eq (tgt := 24) hx hb dX6_shadow_8 (by decide) (fun c_8 => ?_) (fun c_8 => ?_)
  · skip
    have d1 := bI_e0 (h_5.symm.trans c_8)
    refine lv_bipush (v := (-2)) hx hb dX6_shadow_24 (by decide) ?_
    exact W.iret (v := -2) hx hb hr (fun tS htS hWS => ⟨⟨-2, (), rfl, (by unfold A_shadow; rw [if_neg]; intro q; first | exact Bool.false_ne_true (d1.symm.trans q.1) | exact d2 q.2.1 | exact Bool.false_ne_true (d3.symm.trans q.2.2) | fail), trivial⟩, hS.F htS⟩) hS.2.2 dX6_shadow_26
  · skip
    have d1 := bI_n0 (fun q => c_8 (h_5.trans q))
    refine lv_iload_n hx hb dX6_shadow_11 rfl (lv_at hl 2 rfl) ?_
    refine lv_if_lt (tgt := 24) hx hb dX6_shadow_12 (by decide) (fun c_12 => ?_) (fun c_12 => ?_)
    · skip
      have d2 : ¬ 0 ≤ y := Int32.not_le.mpr c_12
      refine lv_bipush (v := (-2)) hx hb dX6_shadow_24 (by decide) ?_
      exact W.iret (v := -2) hx hb hr (fun tS htS hWS => ⟨⟨-2, (), rfl, (by unfold A_shadow; rw [if_neg]; intro q; first | exact Bool.false_ne_true (d1.symm.trans q.1) | exact d2 q.2.1 | exact Bool.false_ne_true (d3.symm.trans q.2.2) | fail), trivial⟩, hS.F htS⟩) hS.2.2 dX6_shadow_26
    · skip
      have d2 : 0 ≤ y := Int32.not_lt.mp c_12
      refine lv_iload_n hx hb dX6_shadow_15 rfl (lv_at hl 3 rfl) ?_
      refine lv_iconst (v := 0) hx hb dX6_shadow_16 (by decide) ?_
      refine lv_iconst (v := 1) hx hb dX6_shadow_17 (by decide) ?_
      refine rd_calli hP hS (va_runS (As := [.int w, .int 0, .int 1]) (rest := []) ⟨hx, hb, hml, hown, hts⟩ (c_X6_within l D cI cB cO w 0 1 ) (va_cwS 3 hts gX6_shadow_X6_within rfl rfl rfl (by decide +kernel) ⟨Nat.le_of_ble_eq_true rfl, Nat.le_of_ble_eq_true rfl⟩) (rd_preS hK (hP.pick [] rfl) hN) rfl rfl hl.1 rfl (lv_room (Nat.le_of_ble_eq_true rfl)) dX6_shadow_18 ⟨Nat.le_refl _, Nat.le_refl _⟩) (fun r_18 H locs h_18 hP hS => ?_)
      refine lv_if_ne (tgt := 27) hx hb dX6_shadow_21 (by decide) (fun c_21 => ?_) (fun c_21 => ?_)
      · skip
        have d3 := bI_n0 (fun q => c_21 (h_18.trans q))
        have ea : A_shadow n bl G M x y w = if w = 0 then kthF (runS (hidB bl G M (cN x))) n (cN y) else kthF (runE n (hidB bl G M (cN x))) n (cN y) := if_pos ⟨d1, d2, d3⟩
        obtain ⟨k, hk, rfl⟩ := hasB_T d1 hn
        obtain ⟨Y, hY, rfl⟩ := nI_of c_12
        rw [cN_nI (by omega), cN_nI hY] at ea
        have hp : (2 : Nat) ^ n ≤ 2 ^ 20 := Nat.pow_le_pow_right (by decide) hn
        have hb0 := bs_lt (hidB bl G M k) n
        refine lv_aload_n hx hb dX6_shadow_27 rfl (lv_at hl 0 rfl) ?_
        refine va_get (D := D) (ci := 6) (v := .ref o) (C := RX6) (T := TX6) (N := 7) hx hb hts kX6_shadow_0 hown hK hP 0 rfl rfl 0 (by decide) (hts (.fieldLink RX6 10 "SightRidge" "ridge" "LSightRidge$Profile;") kX6_shadow_1) (fun _ h9 => h9) rfl dX6_shadow_28 ?_
        refine rd_calli hP hS (va_runV (As := []) (rest := []) ⟨hx, hb, hml, hown, hts⟩ (c_X3_all l D cI cB cO o ga ma n rg bl fg fm hn) (cwV 0 hts gX6_shadow_X3_all rfl rfl rfl (by decide +kernel) ⟨Nat.le_of_ble_eq_true rfl, Nat.le_of_ble_eq_true rfl⟩) (rd_preV (r := (RX3, TX3, 5)) (ci := 3) hK (hP.pick [1, 2, 3] rfl) hN (q0 := 0) rfl rfl) rfl rfl hl.1 rfl (lv_room (Nat.le_of_ble_eq_true rfl)) dX6_shadow_31 ⟨Nat.le_refl _, Nat.le_refl _⟩) (fun r_31 H locs h_31 hP hS => ?_)
        subst h_31
        refine lv_aload_n hx hb dX6_shadow_34 rfl (lv_at hl 0 rfl) ?_
        refine va_get (D := D) (ci := 6) (v := .ref o) (C := RX6) (T := TX6) (N := 7) hx hb hts kX6_shadow_0 hown hK hP 0 rfl rfl 0 (by decide) (hts (.fieldLink RX6 10 "SightRidge" "ridge" "LSightRidge$Profile;") kX6_shadow_1) (fun _ h9 => h9) rfl dX6_shadow_35 ?_
        refine lv_iload_n hx hb dX6_shadow_38 rfl (lv_at hl 1 rfl) ?_
        refine lv_aload_n hx hb dX6_shadow_39 rfl (lv_at hl 0 rfl) ?_
        refine va_get (D := D) (ci := 6) (v := .ref o) (C := RX6) (T := TX6) (N := 7) hx hb hts kX6_shadow_0 hown hK hP 0 rfl rfl 0 (by decide) (hts (.fieldLink RX6 10 "SightRidge" "ridge" "LSightRidge$Profile;") kX6_shadow_1) (fun _ h9 => h9) rfl dX6_shadow_40 ?_
        refine lv_iload_n hx hb dX6_shadow_43 rfl (lv_at hl 1 rfl) ?_
        refine rd_calli hP hS (va_runV (As := [.int (nI k)]) (rest := [.int (nI k), .ref o, .int (nI (2 ^ n - 1))]) ⟨hx, hb, hml, hown, hts⟩ (c_X3_topOf l D cI cB cO o ga ma n rg bl fg fm G M k hn hG hM hk) (cwV 1 hts gX6_shadow_X3_topOf rfl rfl rfl (by decide +kernel) ⟨Nat.le_of_ble_eq_true rfl, Nat.le_of_ble_eq_true rfl⟩) (rd_preV (r := (RX3, TX3, 5)) (ci := 3) hK (hP.pick [1, 2, 3] rfl) hN (q0 := 0) rfl rfl) rfl rfl hl.1 rfl (lv_room (Nat.le_of_ble_eq_true rfl)) dX6_shadow_44 ⟨Nat.le_refl _, Nat.le_refl _⟩) (fun r_44 H locs h_44 hP hS => ?_)
        subst h_44
        refine rd_calli hP hS (va_runV (As := [.int (nI k), .int (tp G M k)]) (rest := [.int (nI (2 ^ n - 1))]) ⟨hx, hb, hml, hown, hts⟩ (c_X3_groundsSeen l D cI cB cO o ga ma n rg bl fg fm G M k (tp G M k) hn hG hM hk) (cwV 2 hts gX6_shadow_X3_groundsSeen rfl rfl rfl (by decide +kernel) ⟨Nat.le_of_ble_eq_true rfl, Nat.le_of_ble_eq_true rfl⟩) (rd_preV (r := (RX3, TX3, 5)) (ci := 3) hK (hP.pick [1, 2, 3] rfl) hN (q0 := 0) rfl rfl) rfl rfl hl.1 rfl (lv_room (Nat.le_of_ble_eq_true rfl)) dX6_shadow_47 ⟨Nat.le_refl _, Nat.le_refl _⟩) (fun r_47 H locs h_47 hP hS => ?_)
        subst h_47
        refine lv_iconst (v := (-1)) hx hb dX6_shadow_50 (by decide) ?_
        refine lv_ixor hx hb dX6_shadow_51 ?_
        refine lv_iand hx hb dX6_shadow_52 ?_
        refine lv_topi (fun y_1 e_2 => ?_)
        have e_2 : nI (bs (hidB bl G M k) n) = y_1 := (e_2.trans (sh_m hn _)).symm
        subst e_2
        refine lv_istore (lv' := [(4, .int (nI (bs (hidB bl G M k) n))), (0, .ref z), (1, .int (nI k)), (2, .int (nI Y)), (3, .int w)]) hx hb dX6_shadow_53 hl (by decide) rfl (fun ls hl => ?_)
        refine lv_iload_n hx hb dX6_shadow_55 rfl (lv_at hl 4 rfl) ?_
        refine lv_if_ne (tgt := 71) hx hb dX6_shadow_56 (by decide) (fun c_56 => ?_) (fun c_56 => ?_)
        · skip
          refine lv_iload hx hb dX6_shadow_71 (lv_at hl 0 rfl) ?_
          refine lv_iload hx hb dX6_shadow_73 (lv_at hl 0 rfl) ?_
          refine lv_iconst (v := 1) hx hb dX6_shadow_75 (by decide) ?_
          refine lv_ishr hx hb dX6_shadow_76 ?_
          refine lv_topi (fun y_3 e_4 => ?_)
          have e_4 : nI (bs (hidB bl G M k) n / 2) = y_3 := (e_4.trans (pk_shrN (by omega) (1 &&& 31) 1 (by decide))).symm
          subst e_4
          refine lv_iconst (v := (-1)) hx hb dX6_shadow_77 (by decide) ?_
          refine lv_ixor hx hb dX6_shadow_78 ?_
          refine lv_iand hx hb dX6_shadow_79 ?_
          refine lv_topi (fun y_5 e_6 => ?_)
          have e_6 : nI (bs (runE n (hidB bl G M k)) n) = y_5 := (e_6.trans (sh_E hn _)).symm
          subst e_6
          refine lv_istore (lv' := [(5, .int (nI (bs (runE n (hidB bl G M k)) n))), (4, .int (nI (bs (hidB bl G M k) n))), (0, .ref z), (1, .int (nI k)), (2, .int (nI Y)), (3, .int w)]) hx hb dX6_shadow_80 hl (by decide) rfl (fun ls hl => ?_)
          refine lv_iload hx hb dX6_shadow_82 (lv_at hl 0 rfl) ?_
          refine lv_iload_n hx hb dX6_shadow_84 rfl (lv_at hl 4 rfl) ?_
          refine rd_calli hP hS (va_runS (As := [.int (nI (bs (runE n (hidB bl G M k)) n)), .int (nI Y)]) (rest := []) ⟨hx, hb, hml, hown, hts⟩ (c_X6_nthOf l D cI cB cO (bs (runE n (hidB bl G M k)) n) Y (by have := bs_lt (runE n (hidB bl G M k)) n; omega) hY) (va_cwS 2 hts gX6_shadow_X6_nthOf rfl rfl rfl (by decide +kernel) ⟨Nat.le_of_ble_eq_true rfl, Nat.le_of_ble_eq_true rfl⟩) (rd_preS hK (hP.pick [] rfl) hN) rfl rfl hl.1 rfl (lv_room (Nat.le_of_ble_eq_true rfl)) dX6_shadow_85 ⟨Nat.le_refl _, Nat.le_refl _⟩) (fun r_85 H locs h_85 hP hS => ?_)
          exact W.iret (v := r_85) hx hb hr (fun tS htS hWS => ⟨⟨r_85, (), rfl, (h_85.trans ((kth_bs hn).trans (by rw [ea, if_neg c_56]))), trivial⟩, hS.F htS⟩) hS.2.2 dX6_shadow_88
        · skip
          refine lv_iload hx hb dX6_shadow_59 (lv_at hl 0 rfl) ?_
          refine lv_iload hx hb dX6_shadow_61 (lv_at hl 0 rfl) ?_
          refine lv_iconst (v := 1) hx hb dX6_shadow_63 (by decide) ?_
          refine lv_ishl hx hb dX6_shadow_64 ?_
          refine lv_topi (fun y_7 e_8 => ?_)
          have e_8 : nI (bs (hidB bl G M k) n * 2) = y_7 := (e_8.trans (pk_shlN (1 &&& 31) 1 (by decide) (by omega))).symm
          subst e_8
          refine lv_iconst (v := (-1)) hx hb dX6_shadow_65 (by decide) ?_
          refine lv_ixor hx hb dX6_shadow_66 ?_
          refine lv_iand hx hb dX6_shadow_67 ?_
          refine lv_topi (fun y_9 e_10 => ?_)
          have e_10 : nI (bs (runS (hidB bl G M k)) n) = y_9 := (e_10.trans (sh_S hn _)).symm
          subst e_10
          refine lv_goto (tgt := 80) hx hb dX6_shadow_68 (by decide) ?_
          refine lv_istore (lv' := [(5, .int (nI (bs (runS (hidB bl G M k)) n))), (4, .int (nI (bs (hidB bl G M k) n))), (0, .ref z), (1, .int (nI k)), (2, .int (nI Y)), (3, .int w)]) hx hb dX6_shadow_80 hl (by decide) rfl (fun ls hl => ?_)
          refine lv_iload hx hb dX6_shadow_82 (lv_at hl 0 rfl) ?_
          refine lv_iload_n hx hb dX6_shadow_84 rfl (lv_at hl 4 rfl) ?_
          refine rd_calli hP hS (va_runS (As := [.int (nI (bs (runS (hidB bl G M k)) n)), .int (nI Y)]) (rest := []) ⟨hx, hb, hml, hown, hts⟩ (c_X6_nthOf l D cI cB cO (bs (runS (hidB bl G M k)) n) Y (by have := bs_lt (runS (hidB bl G M k)) n; omega) hY) (va_cwS 2 hts gX6_shadow_X6_nthOf rfl rfl rfl (by decide +kernel) ⟨Nat.le_of_ble_eq_true rfl, Nat.le_of_ble_eq_true rfl⟩) (rd_preS hK (hP.pick [] rfl) hN) rfl rfl hl.1 rfl (lv_room (Nat.le_of_ble_eq_true rfl)) dX6_shadow_85 ⟨Nat.le_refl _, Nat.le_refl _⟩) (fun r_85 H locs h_85 hP hS => ?_)
          exact W.iret (v := r_85) hx hb hr (fun tS htS hWS => ⟨⟨r_85, (), rfl, (h_85.trans ((kth_bs hn).trans (by rw [ea, if_pos (by first | exact c_56 | exact Decidable.not_not.mp c_56)]))), trivial⟩, hS.F htS⟩) hS.2.2 dX6_shadow_88
      · skip
        have d3 := bI_e0 (h_18.symm.trans c_21)
        refine lv_bipush (v := (-2)) hx hb dX6_shadow_24 (by decide) ?_
        exact W.iret (v := -2) hx hb hr (fun tS htS hWS => ⟨⟨-2, (), rfl, (by unfold A_shadow; rw [if_neg]; intro q; first | exact Bool.false_ne_true (d1.symm.trans q.1) | exact d2 q.2.1 | exact Bool.false_ne_true (d3.symm.trans q.2.2) | fail), trivial⟩, hS.F htS⟩) hS.2.2 dX6_shadow_26
