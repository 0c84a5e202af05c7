/-! watched(set), of both -/
def wpB (n : Nat) (bl : Int32) (G M : Nat → Int32) (X i t : Nat) : Bool := decide (∃ k, k < i ∧ X.testBit k = true ∧ gsB G bl k (tp G M k) t = true)
theorem wp_0 (n : Nat) (bl : Int32) (G M : Nat → Int32) (X : Nat) : ∀ j, 0 = bs (wpB n bl G M X 0) j
  | 0 => rfl
  | j + 1 => by
    rw [bs, ← wp_0 n bl G M X j, if_neg]
    intro q
    obtain ⟨k, hk, -⟩ := of_decide_eq_true q
    exact absurd hk (Nat.not_lt_zero _)
theorem bs_cong {P Q : Nat → Bool} : ∀ {n : Nat}, (∀ k, k < n → P k = Q k) → bs P n = bs Q n
  | 0, _ => rfl
  | n + 1, h => by rw [bs, bs, bs_cong (fun k hk => h k (by omega)), h n (by omega)]
theorem wp_T {n i X s : Nat} {bl : Int32} {G M : Nat → Int32} (h : X.testBit i = true) (hs : s = bs (wpB n bl G M X i) n) : s ||| bs (gsB G bl i (tp G M i)) n = bs (wpB n bl G M X (i + 1)) n := by
  rw [hs, bs_or]
  refine bs_cong (fun t _ => ?_)
  cases q : gsB G bl i (tp G M i) t with
  | true => rw [Bool.or_true]; exact (decide_eq_true ⟨i, by omega, h, q⟩).symm
  | false =>
    rw [Bool.or_false]
    refine decide_eq_decide.mpr ⟨fun ⟨k, h1, h2⟩ => ⟨k, by omega, h2⟩, fun ⟨k, h1, h2, h3⟩ => ⟨k, ?_, h2, h3⟩⟩
    rcases Nat.lt_or_ge k i with z | z
    · exact z
    · rw [show k = i by omega, q] at h3; cases h3
theorem wp_F {n i X s : Nat} {bl : Int32} {G M : Nat → Int32} (h : X.testBit i = false) (hs : s = bs (wpB n bl G M X i) n) : s = bs (wpB n bl G M X (i + 1)) n := by
  rw [hs]
  refine bs_cong (fun t _ => decide_eq_decide.mpr ⟨fun ⟨k, h1, h2⟩ => ⟨k, by omega, h2⟩, fun ⟨k, h1, h2, h3⟩ => ⟨k, ?_, h2, h3⟩⟩)
  rcases Nat.lt_or_ge k i with z | z
  · exact z
  · rw [show k = i by omega, h] at h2; cases h2
theorem wp_lt {P : Nat → Bool} {n s : Nat} (hn : n ≤ 20) (hs : s = bs P n) : s < 2 ^ 20 := by rw [hs]; exact Nat.lt_of_lt_of_le (bs_lt _ n) (Nat.pow_le_pow_right (by decide) hn)
theorem wp_n {P : Nat → Bool} {n s : Nat} (hs : s = bs P n) : fb_ct (fun t => s.testBit t) n = fb_ct P n := fb_ct_cong (fun t ht => by rw [hs, bs_bit, decide_eq_true ht, Bool.true_and])
theorem wp_20 {P : Nat → Bool} {n s : Nat} (hn : n ≤ 20) (hs : s = bs P n) : fb_ct (fun t => s.testBit t) 20 = fb_ct P n := by
  rw [fb_ct_stop (P := fun t => s.testBit t) hn (fun j h1 _ => by show s.testBit j = false; rw [hs, bs_bit, decide_eq_false (by omega), Bool.false_and])]
  exact wp_n hs
theorem wt_bt {x : Int32} (i : Nat) : bt x i = x.toBitVec.toNat.testBit i := rfl
theorem wt_nI (X i : Nat) (h : X < 2 ^ 32) : bt (nI X) i = X.testBit i := by
  show (BitVec.ofNat 32 X).toNat.testBit i = _
  rw [BitVec.toNat_ofNat, Nat.mod_eq_of_lt h]
theorem wt_t {x : Int32} {n : Nat} (hn : n ≤ 20) (h : x &&& (nI (2 ^ n - 1) ^^^ (-1)) = 0) : ∃ X, X < 2 ^ n ∧ x = nI X := by
  have hp : (2 : Nat) ^ n ≤ 2 ^ 20 := Nat.pow_le_pow_right (by decide) hn
  refine ⟨x.toBitVec.toNat, Nat.lt_pow_two_of_testBit _ (fun i hi => ?_), ?_⟩
  · rcases Nat.lt_or_ge i 32 with h3 | h3
    · have e := congrArg (fun z => bt z i) h
      have e2 : (bt x i && (bt (nI (2 ^ n - 1)) i ^^ bt (-1) i)) = bt 0 i := by rw [← b_xor, ← b_and]; exact e
      rw [b_0, b_m1 i h3, wt_nI _ _ (by omega), Nat.testBit_two_pow_sub_one, decide_eq_false (by omega)] at e2
      rw [← wt_bt]
      simpa using e2
    · rw [← wt_bt]; exact b_big h3
  · apply Int32.toBitVec_inj.mp
    show x.toBitVec = BitVec.ofNat 32 x.toBitVec.toNat
    rw [BitVec.ofNat_toNat, BitVec.setWidth_eq]
theorem wt_f {X n : Nat} (hn : n ≤ 20) (hX : X < 2 ^ n) : nI X &&& (nI (2 ^ n - 1) ^^^ (-1)) = 0 := by
  have hp : (2 : Nat) ^ n ≤ 2 ^ 20 := Nat.pow_le_pow_right (by decide) hn
  refine b_ext (fun i hi => ?_)
  rw [b_and, b_xor, b_0, b_m1 i hi, wt_nI _ _ (by omega), wt_nI _ _ (by omega), Nat.testBit_two_pow_sub_one]
  rcases Nat.lt_or_ge i n with h | h
  · rw [decide_eq_true h]; simp
  · rw [Nat.testBit_lt_two_pow (Nat.lt_of_lt_of_le hX (Nat.pow_le_pow_right (by decide) h))]; rfl
theorem wt_in {X n : Nat} (hn : n ≤ 20) (hX : X < 2 ^ n) : ¬ ((nI X).toInt < 0 ∨ (2 : Int) ^ n ≤ (nI X).toInt) := by
  have hp : (2 : Nat) ^ n ≤ 2 ^ 20 := Nat.pow_le_pow_right (by decide) hn
  have hc : ((2 ^ n : Nat) : Int) = (2 : Int) ^ n := by simp
  rw [nI_toInt (by omega), ← hc]
  omega
theorem wt_of {x : Int32} {n : Nat} (hn : n ≤ 20) (h : ¬ (x.toInt < 0 ∨ (2 : Int) ^ n ≤ x.toInt)) : ∃ X, X < 2 ^ n ∧ x = nI X := by
  have hc : ((2 ^ n : Nat) : Int) = (2 : Int) ^ n := by simp
  obtain ⟨X, hX, rfl⟩ := nI_of (x := x) (fun q => h (Or.inl (by rw [Int32.lt_iff_toInt_lt] at q; exact q)))
  rw [nI_toInt hX, ← hc] at h
  exact ⟨X, by omega, rfl⟩
theorem wA_in {n X : Nat} {bl : Int32} {G M : Nat → Int32} (hn : n ≤ 20) (hX : X < 2 ^ n) : A_watched n bl G M (nI X) = nI (fb_ct (wpB n bl G M X n) n) := by
  have hp : (2 : Nat) ^ n ≤ 2 ^ 20 := Nat.pow_le_pow_right (by decide) hn
  unfold A_watched
  rw [if_neg (wt_in hn hX), cN_nI (by omega)]
  rfl
theorem wA_out {n : Nat} {x bl : Int32} {G M : Nat → Int32} (h : x.toInt < 0 ∨ (2 : Int) ^ n ≤ x.toInt) : A_watched n bl G M x = -2 := by unfold A_watched; rw [if_pos h]
theorem tb_is {X i : Nat} : nI (X / 2 ^ i % 2) = 1 ↔ X.testBit i = true := by
  rw [Nat.testBit_eq_decide_div_mod_eq, decide_eq_true_iff]
  exact nI_eq (b := 1) (by omega) (by decide)
theorem tb_add {s i c : Nat} (hc : c = fb_ct (fun t => s.testBit t) i) : c + s / 2 ^ i % 2 = fb_ct (fun t => s.testBit t) (i + 1) := by
  rw [fb_ct_succ, hc, Nat.testBit_eq_decide_div_mod_eq]
  have h : s / 2 ^ i % 2 = 0 ∨ s / 2 ^ i % 2 = 1 := by omega
  rcases h with h | h <;> rw [h] <;> simp
theorem kX6_watched_0 : ∀ w ∈ wsX60, w ∈ wsX6_watched := by decide +kernel
theorem kX6_watched_1 : (.fieldLink RX6 10 "SightRidge" "ridge" "LSightRidge$Profile;" : Cond) ∈ wsX6_watched := by decide +kernel
theorem kX6_watched_2 : ∀ w ∈ wsX30, w ∈ wsX6_watched := by decide +kernel
theorem kX6_watched_3 : (.fieldLink RX6 115 "SightRidge$Profile" "stations" "I" : Cond) ∈ wsX6_watched := by decide +kernel
set_option maxHeartbeats 4000000 in
set_option maxRecDepth 100000 in
/-- watched(set) -/
theorem c_X6_watched (l : Launch) (D : va_G) (cI cB cO : ClassId) (z : Nat) (fs : List Value) (o ga ma : Nat) (n : Nat) (rg bl : Int32) (fg fm : Nat → Int32) (G M : Nat → Int32) (x : Int32) (hn : n ≤ 20) (hG : ∀ k, k < n → fg k = G k) (hM : ∀ k, k < n → fm k = M k) : Met l yX6_watched wsX6_watched (rmD 6) (rdPc D (tyL cI cB cO) [.ref z, .int x] [(z, .inr (6, .ref o :: fs)), (o, .inr (3, [.ref ga, .ref ma, .int (nI n), .int rg, .int bl])), (ga, .inl (cI, 20, .inl fg)), (ma, .inl (cI, 20, .inl fm))]) (rdQi (fun r => r = A_watched n bl G M x)) 0 0 noA := by
  refine Met.ofW (cc := cX6_watched) (maxL := 4) (ret := (some .int)) (by decide) rfl ?_
  intro p e s m args below meth c s₁ B hml hv
  obtain ⟨rfl, hP, hK, hN⟩ := hv
  have hx := B.exec
  have hb := B.bytes
  have hr := B.returns
  have hts := atoms_spec (ws := wsX6_watched) B.pre
  have hown : s.vm.findClass RX6 = some m.cls := findClass_of_methodNamed B.named
  have hlocks := B.notSynchronized
  have hS : va_S noA s.heap s.heap [] := va_S.rf
  have hl := lv_entry ([.ref z, .int x]) (n := 4) (Nat.le_of_ble_eq_true rfl)
  rw [lg_entry_eq]
  generalize (lg_sl ([.ref z, .int x]) ++ List.replicate (4 - (lg_sl ([.ref z, .int x])).length) Slot.unset).toArray = ls at hl ⊢
  have hl : lv_has ls 4 [(0, .ref z), (1, .int x)] := hl
  refine lv_iload_n hx hb dX6_watched_0 rfl (lv_at hl 1 rfl) ?_
  refine lv_aload_n hx hb dX6_watched_1 rfl (lv_at hl 0 rfl) ?_
  refine va_get (D := D) (ci := 6) (v := .ref o) (C := RX6) (T := TX6) (N := 7) hx hb hts kX6_watched_0 hown hK hP 0 rfl rfl 0 (by decide) (hts (.fieldLink RX6 10 "SightRidge" "ridge" "LSightRidge$Profile;") kX6_watched_1) (fun _ h9 => h9) rfl dX6_watched_2 ?_
  refine rd_calli hP hS (va_runV (As := []) (rest := [.int x]) ⟨hx, hb, hml, hown, hts⟩ (c_X3_all l D cI cB cO o ga ma n rg bl fg fm hn) (cwV 0 hts gX6_watched_X3_all rfl rfl rfl (by decide +kernel) ⟨Nat.le_of_ble_eq_true rfl, Nat.le_of_ble_eq_true rfl⟩) (rd_preV (r := (RX3, TX3, 5)) (ci := 3) hK (hP.pick [1, 2, 3] rfl) hN (q0 := 0) rfl rfl) rfl rfl hl.1 rfl (lv_room (Nat.le_of_ble_eq_true rfl)) dX6_watched_5 ⟨Nat.le_refl _, Nat.le_refl _⟩) (fun r_5 H locs h_5 hP hS => ?_)
  subst h_5
  refine lv_iconst (v := (-1)) hx hb dX6_watched_8 (by decide) ?_
  refine lv_ixor hx hb dX6_watched_9 ?_
  refine lv_iand hx hb dX6_watched_10 ?_
  refine lv_if_eq (tgt := 17) hx hb dX6_watched_11 (by decide) (fun c_11 => ?_) (fun c_11 => ?_)
  · skip
    obtain ⟨X, hX, rfl⟩ := wt_t hn c_11
    have hp : (2 : Nat) ^ n ≤ 2 ^ 20 := Nat.pow_le_pow_right (by decide) hn
    refine lv_iconst (v := 0) hx hb dX6_watched_17 (by decide) ?_
    refine lv_istore_n (lv' := [(2, .int 0), (0, .ref z), (1, .int (nI X))]) hx hb dX6_watched_18 rfl hl (by decide) rfl (fun ls hl => ?_)
    refine lv_iconst (v := 0) hx hb dX6_watched_19 (by decide) ?_
    refine lv_istore_n (lv' := [(3, .int 0), (2, .int 0), (0, .ref z), (1, .int (nI X))]) hx hb dX6_watched_20 rfl hl (by decide) rfl (fun ls hl => ?_)
    have L_21 : ∀ (k_21 : Nat) (i : Nat) (w : Nat), n - i < k_21 → (i ≤ n) → (w = bs (wpB n bl G M X i) n) → ∀ (H : Heap) (locs : List Loc), va_P D vwCl [(z, .inr (6, .ref o :: fs)), (o, .inr (3, [.ref ga, .ref ma, .int (nI n), .int rg, .int bl])), (ga, .inl (cI, 20, .inl fg)), (ma, .inl (cI, 20, .inl fm))] H → va_S noA s.heap H locs → ∀ (ls : Array Slot), lv_has ls 4 [(0, .ref z), (1, .int (nI X)), (2, .int (nI w)), (3, .int (nI i))] → W p l e (rmD 6) s m ([.ref z, .int (nI X)] : List Value).toArray below meth c H locs 0 0 (MQ below (rdQi (fun r => r = A_watched n bl G M (nI X))) ([.ref z, .int (nI X)] : List Value).toArray s 0 0 noA) (F0 m 21 ls []) := by
      intro k_21
      induction k_21 with
      | zero => intro i w h9; exact absurd h9 (Nat.not_lt_zero _)
      | succ k_21 ih_21 =>
        intro i w hm_21 hi hw H locs hP hS ls hl
        refine lv_iload_n hx hb dX6_watched_21 rfl (lv_at hl 3 rfl) ?_
        refine lv_aload_n hx hb dX6_watched_22 rfl (lv_at hl 0 rfl) ?_
        refine va_get (D := D) (ci := 6) (v := .ref o) (C := RX6) (T := TX6) (N := 7) hx hb hts kX6_watched_0 hown hK hP 0 rfl rfl 0 (by decide) (hts (.fieldLink RX6 10 "SightRidge" "ridge" "LSightRidge$Profile;") kX6_watched_1) (fun _ h9 => h9) rfl dX6_watched_23 ?_
        refine va_get (D := D) (ci := 3) (v := .int (nI n)) (C := RX3) (T := TX3) (N := 5) hx hb hts kX6_watched_2 hown hK hP 1 rfl rfl 2 (by decide) (hts (.fieldLink RX6 115 "SightRidge$Profile" "stations" "I") kX6_watched_3) (fun _ h9 => h9) rfl dX6_watched_26 ?_
        refine lv_icmp_ge (tgt := 65) hx hb dX6_watched_29 (by decide) (fun c_29 => ?_) (fun c_29 => ?_)
        · skip
          have c0 : n ≤ i := ge_t (by omega) c_29
          refine lv_iload_n hx hb dX6_watched_65 rfl (lv_at hl 2 rfl) ?_
          refine rd_calli hP hS (va_runS (As := [.int (nI w)]) (rest := []) ⟨hx, hb, hml, hown, hts⟩ (c_J6_bitCount_0f7a4 l D cI cB cO w (wp_lt hn hw)) (va_cwS 1 hts gX6_watched_J6_bitCount_0f7a4 rfl rfl rfl (by decide +kernel) ⟨Nat.le_of_ble_eq_true rfl, Nat.le_of_ble_eq_true rfl⟩) (rd_preS hK (hP.pick [] rfl) hN) rfl rfl hl.1 rfl (lv_room (Nat.le_of_ble_eq_true rfl)) dX6_watched_66 ⟨Nat.le_refl _, Nat.le_refl _⟩) (fun r_66 H locs h_66 hP hS => ?_)
          exact W.iret (v := r_66) hx hb hr (fun tS htS hWS => ⟨⟨r_66, (), rfl, (h_66.trans (by rw [wA_in hn hX, wp_20 hn hw, show i = n by omega])), trivial⟩, hS.F htS⟩) hS.2.2 dX6_watched_69
        · skip
          have c0 : i < n := ge_f (by omega) c_29
          refine lv_iload_n hx hb dX6_watched_32 rfl (lv_at hl 1 rfl) ?_
          refine lv_iload_n hx hb dX6_watched_33 rfl (lv_at hl 3 rfl) ?_
          refine rd_calli hP hS (va_runS (As := [.int (nI X), .int (nI i)]) (rest := []) ⟨hx, hb, hml, hown, hts⟩ (c_X6_holds l D cI cB cO X i (by omega) (by omega)) (va_cwS 2 hts gX6_watched_X6_holds rfl rfl rfl (by decide +kernel) ⟨Nat.le_of_ble_eq_true rfl, Nat.le_of_ble_eq_true rfl⟩) (rd_preS hK (hP.pick [] rfl) hN) rfl rfl hl.1 rfl (lv_room (Nat.le_of_ble_eq_true rfl)) dX6_watched_34 ⟨Nat.le_refl _, Nat.le_refl _⟩) (fun r_34 H locs h_34 hP hS => ?_)
          refine lv_if_eq (tgt := 59) hx hb dX6_watched_37 (by decide) (fun c_37 => ?_) (fun c_37 => ?_)
          · skip
            have c1 := bI_e0 (h_34.symm.trans c_37)
            refine lv_iinc (v := nI (i + 1)) (lv' := [(3, .int (nI (i + 1))), (0, .ref z), (1, .int (nI X)), (2, .int (nI w))]) hx hb dX6_watched_59 hl (k := 3) rfl (inc1 _) (by decide) rfl (fun ls hl => ?_)
            refine lv_goto (tgt := 21) hx hb dX6_watched_62 (by decide) ?_
            exact ih_21 (i + 1) w (by omega) (by omega) (by first | exact wp_T c1 hw | exact wp_F c1 hw | fail) _ _ hP hS ls (lv_sub hl [1, 2, 3, 0] rfl)
          · skip
            have c1 := bI_n0 (fun q => c_37 (h_34.trans q))
            refine lv_iload_n hx hb dX6_watched_40 rfl (lv_at hl 2 rfl) ?_
            refine lv_aload_n hx hb dX6_watched_41 rfl (lv_at hl 0 rfl) ?_
            refine va_get (D := D) (ci := 6) (v := .ref o) (C := RX6) (T := TX6) (N := 7) hx hb hts kX6_watched_0 hown hK hP 0 rfl rfl 0 (by decide) (hts (.fieldLink RX6 10 "SightRidge" "ridge" "LSightRidge$Profile;") kX6_watched_1) (fun _ h9 => h9) rfl dX6_watched_42 ?_
            refine lv_iload_n hx hb dX6_watched_45 rfl (lv_at hl 3 rfl) ?_
            refine lv_aload_n hx hb dX6_watched_46 rfl (lv_at hl 0 rfl) ?_
            refine va_get (D := D) (ci := 6) (v := .ref o) (C := RX6) (T := TX6) (N := 7) hx hb hts kX6_watched_0 hown hK hP 0 rfl rfl 0 (by decide) (hts (.fieldLink RX6 10 "SightRidge" "ridge" "LSightRidge$Profile;") kX6_watched_1) (fun _ h9 => h9) rfl dX6_watched_47 ?_
            refine lv_iload_n hx hb dX6_watched_50 rfl (lv_at hl 3 rfl) ?_
            refine rd_calli hP hS (va_runV (As := [.int (nI i)]) (rest := [.int (nI i), .ref o, .int (nI w)]) ⟨hx, hb, hml, hown, hts⟩ (c_X3_topOf l D cI cB cO o ga ma n rg bl fg fm G M i hn hG hM c0) (cwV 1 hts gX6_watched_X3_topOf rfl rfl rfl (by decide +kernel) ⟨Nat.le_of_ble_eq_true rfl, Nat.le_of_ble_eq_true rfl⟩) (rd_preV (r := (RX3, TX3, 5)) (ci := 3) hK (hP.pick [1, 2, 3] rfl) hN (q0 := 0) rfl rfl) rfl rfl hl.1 rfl (lv_room (Nat.le_of_ble_eq_true rfl)) dX6_watched_51 ⟨Nat.le_refl _, Nat.le_refl _⟩) (fun r_51 H locs h_51 hP hS => ?_)
            subst h_51
            refine rd_calli hP hS (va_runV (As := [.int (nI i), .int (tp G M i)]) (rest := [.int (nI w)]) ⟨hx, hb, hml, hown, hts⟩ (c_X3_groundsSeen l D cI cB cO o ga ma n rg bl fg fm G M i (tp G M i) hn hG hM c0) (cwV 2 hts gX6_watched_X3_groundsSeen rfl rfl rfl (by decide +kernel) ⟨Nat.le_of_ble_eq_true rfl, Nat.le_of_ble_eq_true rfl⟩) (rd_preV (r := (RX3, TX3, 5)) (ci := 3) hK (hP.pick [1, 2, 3] rfl) hN (q0 := 0) rfl rfl) rfl rfl hl.1 rfl (lv_room (Nat.le_of_ble_eq_true rfl)) dX6_watched_54 ⟨Nat.le_refl _, Nat.le_refl _⟩) (fun r_54 H locs h_54 hP hS => ?_)
            subst h_54
            refine lv_ior hx hb dX6_watched_57 ?_
            refine lv_topi (fun y_1 e_2 => ?_)
            have e_2 : nI (w ||| bs (gsB G bl i (tp G M i)) n) = y_1 := (e_2.trans (fa_or _ _)).symm
            subst e_2
            refine lv_istore_n (lv' := [(2, .int (nI (w ||| bs (gsB G bl i (tp G M i)) n))), (0, .ref z), (1, .int (nI X)), (3, .int (nI i))]) hx hb dX6_watched_58 rfl hl (by decide) rfl (fun ls hl => ?_)
            refine lv_iinc (v := nI (i + 1)) (lv' := [(3, .int (nI (i + 1))), (2, .int (nI (w ||| bs (gsB G bl i (tp G M i)) n))), (0, .ref z), (1, .int (nI X))]) hx hb dX6_watched_59 hl (k := 3) rfl (inc1 _) (by decide) rfl (fun ls hl => ?_)
            refine lv_goto (tgt := 21) hx hb dX6_watched_62 (by decide) ?_
            exact ih_21 (i + 1) (w ||| bs (gsB G bl i (tp G M i)) n) (by omega) (by omega) (by first | exact wp_T c1 hw | exact wp_F c1 hw | fail) _ _ hP hS ls (lv_sub hl [2, 3, 1, 0] rfl)
    exact L_21 _ 0 0 (Nat.lt_succ_self _) (by omega) (wp_0 _ _ _ _ _ _) _ _ hP hS ls (lv_sub hl [2, 3, 1, 0] rfl)
  · skip
    have d1 : x.toInt < 0 ∨ (2 : Int) ^ n ≤ x.toInt := Decidable.byContradiction (fun q => by obtain ⟨X, hX, rfl⟩ := wt_of hn q; exact c_11 (wt_f hn hX))
    refine lv_bipush (v := (-2)) hx hb dX6_watched_14 (by decide) ?_
    exact W.iret (v := -2) hx hb hr (fun tS htS hWS => ⟨⟨-2, (), rfl, (wA_out d1).symm, trivial⟩, hS.F htS⟩) hS.2.2 dX6_watched_16
theorem kX7_watched_0 : ∀ w ∈ wsX70, w ∈ wsX7_watched := by decide +kernel
theorem kX7_watched_1 : (.fieldLink RX7 7 "SightRidgeModel" "m" "[I" : Cond) ∈ wsX7_watched := by decide +kernel
set_option maxHeartbeats 4000000 in
set_option maxRecDepth 100000 in
/-- watched(set) -/
theorem c_X7_watched (l : Launch) (D : va_G) (cI cB cO : ClassId) (o q1 : Nat) (fs : List Value) (n : Nat) (mm : Nat → Int32) (rg bl : Int32) (G M : Nat → Int32) (x : Int32) (hm : MOK n mm rg bl G M) : Met l yX7_watched wsX7_watched (rmD 5) (rdPc D (tyL cI cB cO) [.ref o, .int x] [(o, .inr (7, .ref q1 :: fs)), (q1, .inl (cI, 43, .inl mm))]) (rdQi (fun r => r = A_watched n bl G M x)) 0 0 noA := by
  refine Met.ofW (cc := cX7_watched) (maxL := 5) (ret := (some .int)) (by decide) rfl ?_
  intro p e s m args below meth c s₁ B hml hv
  obtain ⟨rfl, hP, hK, hN⟩ := hv
  have hx := B.exec
  have hb := B.bytes
  have hr := B.returns
  have hts := atoms_spec (ws := wsX7_watched) B.pre
  have hown : s.vm.findClass RX7 = some m.cls := findClass_of_methodNamed B.named
  have hlocks := B.notSynchronized
  have hS : va_S noA s.heap s.heap [] := va_S.rf
  have hl := lv_entry ([.ref o, .int x]) (n := 5) (Nat.le_of_ble_eq_true rfl)
  rw [lg_entry_eq]
  generalize (lg_sl ([.ref o, .int x]) ++ List.replicate (5 - (lg_sl ([.ref o, .int x])).length) Slot.unset).toArray = ls at hl ⊢
  have hl : lv_has ls 5 [(0, .ref o), (1, .int x)] := hl
  obtain ⟨hn, hn1, hm0, hm1, hm2, hG, hM⟩ := id hm
  refine lv_iload_n hx hb dX7_watched_0 rfl (lv_at hl 1 rfl) ?_
  refine lv_if_lt (tgt := 15) hx hb dX7_watched_1 (by decide) (fun c_1 => ?_) (fun c_1 => ?_)
  · skip
    have d1 : x.toInt < 0 ∨ (2 : Int) ^ n ≤ x.toInt := Or.inl (by rw [Int32.lt_iff_toInt_lt] at c_1; exact c_1)
    refine lv_bipush (v := (-2)) hx hb dX7_watched_15 (by decide) ?_
    exact W.iret (v := -2) hx hb hr (fun tS htS hWS => ⟨⟨-2, (), rfl, (wA_out d1).symm, trivial⟩, hS.F htS⟩) hS.2.2 dX7_watched_17
  · skip
    obtain ⟨X, hX31, rfl⟩ := nI_of c_1
    refine lv_iload_n hx hb dX7_watched_4 rfl (lv_at hl 1 rfl) ?_
    refine lv_aload_n hx hb dX7_watched_5 rfl (lv_at hl 0 rfl) ?_
    refine va_get (D := D) (ci := 7) (v := .ref q1) (C := RX7) (T := TX7) (N := 15) hx hb hts kX7_watched_0 hown hK hP 0 rfl rfl 0 (by decide) (hts (.fieldLink RX7 7 "SightRidgeModel" "m" "[I") kX7_watched_1) (fun _ h9 => h9) rfl dX7_watched_6 ?_
    refine lv_iconst (v := 0) hx hb dX7_watched_9 (by decide) ?_
    refine va_iald hx hb hK hP 1 0 rfl rfl (i := nI 0) (vp_in_nI (N := 43) (by decide) (by decide)) dX7_watched_10 ?_
    rw [nI_clamp (n := 0) (by decide)]
    refine lv_topi (fun y_1 e_2 => ?_)
    have e_2 : nI n = y_1 := (e_2.trans (hm0)).symm
    subst e_2
    refine lv_ishr hx hb dX7_watched_11 ?_
    refine lv_topi (fun y_3 e_4 => ?_)
    have e_4 : nI (X / 2 ^ n) = y_3 := (e_4.trans (pk_shrN hX31 (nI n &&& 31) n (s_l n (by omega)))).symm
    subst e_4
    refine lv_if_eq (tgt := 18) hx hb dX7_watched_12 (by decide) (fun c_12 => ?_) (fun c_12 => ?_)
    · skip
      have hX : X < 2 ^ n := by
        have q := (nI_eq (a := X / 2 ^ n) (b := 0) (by have := Nat.div_le_self X (2 ^ n); omega) (by decide)).mp c_12
        rcases Nat.div_eq_zero_iff.mp q with q | q
        · exact absurd q (Nat.ne_of_gt (Nat.two_pow_pos n))
        · exact q
      have hp : (2 : Nat) ^ n ≤ 2 ^ 20 := Nat.pow_le_pow_right (by decide) hn
      refine lv_iconst (v := 0) hx hb dX7_watched_18 (by decide) ?_
      refine lv_istore_n (lv' := [(2, .int 0), (0, .ref o), (1, .int (nI X))]) hx hb dX7_watched_19 rfl hl (by decide) rfl (fun ls hl => ?_)
      refine lv_iconst (v := 0) hx hb dX7_watched_20 (by decide) ?_
      refine lv_istore_n (lv' := [(3, .int 0), (2, .int 0), (0, .ref o), (1, .int (nI X))]) hx hb dX7_watched_21 rfl hl (by decide) rfl (fun ls hl => ?_)
      refine lv_iconst (v := 0) hx hb dX7_watched_22 (by decide) ?_
      refine lv_istore (lv' := [(4, .int 0), (3, .int 0), (2, .int 0), (0, .ref o), (1, .int (nI X))]) hx hb dX7_watched_23 hl (by decide) rfl (fun ls hl => ?_)
      have L_25 : ∀ (k_25 : Nat) (i : Nat) (w : Nat), n - i < k_25 → (i ≤ n) → (w = bs (wpB n bl G M X i) n) → ∀ (H : Heap) (locs : List Loc), va_P D vwCl [(o, .inr (7, .ref q1 :: fs)), (q1, .inl (cI, 43, .inl mm))] H → va_S noA s.heap H locs → ∀ (ls : Array Slot), lv_has ls 5 [(0, .ref o), (1, .int (nI X)), (2, .int (nI w)), (3, .int 0), (4, .int (nI i))] → W p l e (rmD 5) s m ([.ref o, .int (nI X)] : List Value).toArray below meth c H locs 0 0 (MQ below (rdQi (fun r => r = A_watched n bl G M (nI X))) ([.ref o, .int (nI X)] : List Value).toArray s 0 0 noA) (F0 m 25 ls []) := by
        intro k_25
        induction k_25 with
        | zero => intro i w h9; exact absurd h9 (Nat.not_lt_zero _)
        | succ k_25 ih_25 =>
          intro i w hm_25 hi hw H locs hP hS ls hl
          refine lv_iload hx hb dX7_watched_25 (lv_at hl 4 rfl) ?_
          refine lv_aload_n hx hb dX7_watched_27 rfl (lv_at hl 0 rfl) ?_
          refine va_get (D := D) (ci := 7) (v := .ref q1) (C := RX7) (T := TX7) (N := 15) hx hb hts kX7_watched_0 hown hK hP 0 rfl rfl 0 (by decide) (hts (.fieldLink RX7 7 "SightRidgeModel" "m" "[I") kX7_watched_1) (fun _ h9 => h9) rfl dX7_watched_28 ?_
          refine lv_iconst (v := 0) hx hb dX7_watched_31 (by decide) ?_
          refine va_iald hx hb hK hP 1 0 rfl rfl (i := nI 0) (vp_in_nI (N := 43) (by decide) (by decide)) dX7_watched_32 ?_
          rw [nI_clamp (n := 0) (by decide)]
          refine lv_topi (fun y_5 e_6 => ?_)
          have e_6 : nI n = y_5 := (e_6.trans (hm0)).symm
          subst e_6
          refine lv_icmp_ge (tgt := 71) hx hb dX7_watched_33 (by decide) (fun c_33 => ?_) (fun c_33 => ?_)
          · skip
            have c0 : n ≤ i := ge_t (by omega) c_33
            have hwn : w = bs (wpB n bl G M X n) n := by rw [hw, show i = n by omega]
            have hwl := wp_lt hn hwn
            refine lv_iconst (v := 0) hx hb dX7_watched_71 (by decide) ?_
            refine lv_istore (lv' := [(4, .int 0), (0, .ref o), (1, .int (nI X)), (2, .int (nI w)), (3, .int 0)]) hx hb dX7_watched_72 hl (by decide) rfl (fun ls hl => ?_)
            have L_74 : ∀ (k_74 : Nat) (j : Nat) (t : Nat), n - j < k_74 → (j ≤ n) → (t = fb_ct (fun t => w.testBit t) j) → ∀ (H : Heap) (locs : List Loc), va_P D vwCl [(o, .inr (7, .ref q1 :: fs)), (q1, .inl (cI, 43, .inl mm))] H → va_S noA s.heap H locs → ∀ (ls : Array Slot), lv_has ls 5 [(0, .ref o), (1, .int (nI X)), (2, .int (nI w)), (3, .int (nI t)), (4, .int (nI j))] → W p l e (rmD 5) s m ([.ref o, .int (nI X)] : List Value).toArray below meth c H locs 0 0 (MQ below (rdQi (fun r => r = A_watched n bl G M (nI X))) ([.ref o, .int (nI X)] : List Value).toArray s 0 0 noA) (F0 m 74 ls []) := by
              intro k_74
              induction k_74 with
              | zero => intro j t h9; exact absurd h9 (Nat.not_lt_zero _)
              | succ k_74 ih_74 =>
                intro j t hm_74 hj ht H locs hP hS ls hl
                refine lv_iload hx hb dX7_watched_74 (lv_at hl 4 rfl) ?_
                refine lv_aload_n hx hb dX7_watched_76 rfl (lv_at hl 0 rfl) ?_
                refine va_get (D := D) (ci := 7) (v := .ref q1) (C := RX7) (T := TX7) (N := 15) hx hb hts kX7_watched_0 hown hK hP 0 rfl rfl 0 (by decide) (hts (.fieldLink RX7 7 "SightRidgeModel" "m" "[I") kX7_watched_1) (fun _ h9 => h9) rfl dX7_watched_77 ?_
                refine lv_iconst (v := 0) hx hb dX7_watched_80 (by decide) ?_
                refine va_iald hx hb hK hP 1 0 rfl rfl (i := nI 0) (vp_in_nI (N := 43) (by decide) (by decide)) dX7_watched_81 ?_
                rw [nI_clamp (n := 0) (by decide)]
                refine lv_topi (fun y_7 e_8 => ?_)
                have e_8 : nI n = y_7 := (e_8.trans (hm0)).symm
                subst e_8
                refine lv_icmp_ge (tgt := 100) hx hb dX7_watched_82 (by decide) (fun c_82 => ?_) (fun c_82 => ?_)
                · skip
                  have c2 : n ≤ j := ge_t (by omega) c_82
                  refine lv_iload_n hx hb dX7_watched_100 rfl (lv_at hl 3 rfl) ?_
                  exact W.iret (v := nI t) hx hb hr (fun tS htS hWS => ⟨⟨nI t, (), rfl, (by rw [wA_in hn hX, ht, show j = n by omega, wp_n hwn]), trivial⟩, hS.F htS⟩) hS.2.2 dX7_watched_101
                · skip
                  have c2 : j < n := ge_f (by omega) c_82
                  refine lv_iload_n hx hb dX7_watched_85 rfl (lv_at hl 3 rfl) ?_
                  refine lv_iload_n hx hb dX7_watched_86 rfl (lv_at hl 2 rfl) ?_
                  refine lv_iload hx hb dX7_watched_87 (lv_at hl 4 rfl) ?_
                  refine lv_ishr hx hb dX7_watched_89 ?_
                  refine lv_topi (fun y_9 e_10 => ?_)
                  have e_10 : nI (w / 2 ^ j) = y_9 := (e_10.trans (pk_shrN (by omega) (nI j &&& 31) j (s_l j (by omega)))).symm
                  subst e_10
                  refine lv_iconst (v := 1) hx hb dX7_watched_90 (by decide) ?_
                  refine lv_iand hx hb dX7_watched_91 ?_
                  refine lv_topi (fun y_11 e_12 => ?_)
                  have e_12 : nI (w / 2 ^ j % 2) = y_11 := (e_12.trans (pk_andN (by have := Nat.div_le_self w (2 ^ j); omega) 1 (by decide))).symm
                  subst e_12
                  refine lv_iadd hx hb dX7_watched_92 ?_
                  refine lv_topi (fun y_13 e_14 => ?_)
                  have e_14 : nI (t + (w / 2 ^ j % 2)) = y_13 := (e_14.trans (nI_add t (w / 2 ^ j % 2))).symm
                  subst e_14
                  refine lv_istore_n (lv' := [(3, .int (nI (t + (w / 2 ^ j % 2)))), (0, .ref o), (1, .int (nI X)), (2, .int (nI w)), (4, .int (nI j))]) hx hb dX7_watched_93 rfl hl (by decide) rfl (fun ls hl => ?_)
                  refine lv_iinc (v := nI (j + 1)) (lv' := [(4, .int (nI (j + 1))), (3, .int (nI (t + (w / 2 ^ j % 2)))), (0, .ref o), (1, .int (nI X)), (2, .int (nI w))]) hx hb dX7_watched_94 hl (k := 4) rfl (inc1 _) (by decide) rfl (fun ls hl => ?_)
                  refine lv_goto (tgt := 74) hx hb dX7_watched_97 (by decide) ?_
                  exact ih_74 (j + 1) (t + (w / 2 ^ j % 2)) (by omega) (by omega) (tb_add ht) _ _ hP hS ls (lv_sub hl [2, 3, 4, 1, 0] rfl)
            exact L_74 _ 0 0 (Nat.lt_succ_self _) (by omega) (rfl) _ _ hP hS ls (lv_sub hl [1, 2, 3, 4, 0] rfl)
          · skip
            have c0 : i < n := ge_f (by omega) c_33
            refine lv_iload_n hx hb dX7_watched_36 rfl (lv_at hl 2 rfl) ?_
            refine lv_iload_n hx hb dX7_watched_37 rfl (lv_at hl 1 rfl) ?_
            refine lv_iload hx hb dX7_watched_38 (lv_at hl 4 rfl) ?_
            refine lv_ishr hx hb dX7_watched_40 ?_
            refine lv_topi (fun y_15 e_16 => ?_)
            have e_16 : nI (X / 2 ^ i) = y_15 := (e_16.trans (pk_shrN hX31 (nI i &&& 31) i (s_l i (by omega)))).symm
            subst e_16
            refine lv_iconst (v := 1) hx hb dX7_watched_41 (by decide) ?_
            refine lv_iand hx hb dX7_watched_42 ?_
            refine lv_topi (fun y_17 e_18 => ?_)
            have e_18 : nI (X / 2 ^ i % 2) = y_17 := (e_18.trans (pk_andN (by have := Nat.div_le_self X (2 ^ i); omega) 1 (by decide))).symm
            subst e_18
            refine lv_iconst (v := 1) hx hb dX7_watched_43 (by decide) ?_
            refine lv_icmp_ne (tgt := 62) hx hb dX7_watched_44 (by decide) (fun c_44 => ?_) (fun c_44 => ?_)
            · skip
              have c1 : X.testBit i = false := Bool.eq_false_iff.mpr (fun q => c_44 (tb_is.mpr q))
              refine lv_iconst (v := 0) hx hb dX7_watched_62 (by decide) ?_
              refine lv_ior hx hb dX7_watched_63 ?_
              refine lv_topi (fun y_19 e_20 => ?_)
              have e_20 : nI w = y_19 := (e_20.trans ((fa_or w 0).trans (congrArg nI (Nat.or_zero w)))).symm
              subst e_20
              refine lv_istore_n (lv' := [(2, .int (nI w)), (0, .ref o), (1, .int (nI X)), (3, .int 0), (4, .int (nI i))]) hx hb dX7_watched_64 rfl hl (by decide) rfl (fun ls hl => ?_)
              refine lv_iinc (v := nI (i + 1)) (lv' := [(4, .int (nI (i + 1))), (2, .int (nI w)), (0, .ref o), (1, .int (nI X)), (3, .int 0)]) hx hb dX7_watched_65 hl (k := 4) rfl (inc1 _) (by decide) rfl (fun ls hl => ?_)
              refine lv_goto (tgt := 25) hx hb dX7_watched_68 (by decide) ?_
              exact ih_25 (i + 1) w (by omega) (by omega) (by first | exact wp_T c1 hw | exact wp_F c1 hw | fail) _ _ hP hS ls (lv_sub hl [2, 3, 1, 4, 0] rfl)
            · skip
              have c1 : X.testBit i = true := tb_is.mp c_44
              refine lv_aload_n hx hb dX7_watched_47 rfl (lv_at hl 0 rfl) ?_
              refine lv_iload hx hb dX7_watched_48 (lv_at hl 4 rfl) ?_
              refine lv_aload_n hx hb dX7_watched_50 rfl (lv_at hl 0 rfl) ?_
              refine lv_iload hx hb dX7_watched_51 (lv_at hl 4 rfl) ?_
              refine rd_calli hP hS (va_runV (As := [.int (nI i)]) (rest := [.int (nI i), .ref o, .int (nI w)]) ⟨hx, hb, hml, hown, hts⟩ (c_X7_top l D cI cB cO o q1 fs n mm rg bl G M i hm c0) (cwV 1 hts gX7_watched_X7_top rfl rfl rfl (by decide +kernel) ⟨Nat.le_of_ble_eq_true rfl, Nat.le_of_ble_eq_true rfl⟩) (rd_preV (r := (RX7, TX7, 15)) (ci := 7) hK (hP.pick [0, 1] rfl) hN (q0 := 0) rfl rfl) rfl rfl hl.1 rfl (lv_room (Nat.le_of_ble_eq_true rfl)) dX7_watched_53 ⟨Nat.le_refl _, Nat.le_refl _⟩) (fun r_53 H locs h_53 hP hS => ?_)
              subst h_53
              refine rd_calli hP hS (va_runV (As := [.int (nI i), .int (tp G M i)]) (rest := [.int (nI w)]) ⟨hx, hb, hml, hown, hts⟩ (c_X7_grounds l D cI cB cO o q1 fs n mm rg bl G M i (tp G M i) hm c0) (cwV 2 hts gX7_watched_X7_grounds rfl rfl rfl (by decide +kernel) ⟨Nat.le_of_ble_eq_true rfl, Nat.le_of_ble_eq_true rfl⟩) (rd_preV (r := (RX7, TX7, 15)) (ci := 7) hK (hP.pick [0, 1] rfl) hN (q0 := 0) rfl rfl) rfl rfl hl.1 rfl (lv_room (Nat.le_of_ble_eq_true rfl)) dX7_watched_56 ⟨Nat.le_refl _, Nat.le_refl _⟩) (fun r_56 H locs h_56 hP hS => ?_)
              subst h_56
              refine lv_goto (tgt := 63) hx hb dX7_watched_59 (by decide) ?_
              refine lv_ior hx hb dX7_watched_63 ?_
              refine lv_topi (fun y_21 e_22 => ?_)
              have e_22 : nI (w ||| bs (gsB G bl i (tp G M i)) n) = y_21 := (e_22.trans (fa_or _ _)).symm
              subst e_22
              refine lv_istore_n (lv' := [(2, .int (nI (w ||| bs (gsB G bl i (tp G M i)) n))), (0, .ref o), (1, .int (nI X)), (3, .int 0), (4, .int (nI i))]) hx hb dX7_watched_64 rfl hl (by decide) rfl (fun ls hl => ?_)
              refine lv_iinc (v := nI (i + 1)) (lv' := [(4, .int (nI (i + 1))), (2, .int (nI (w ||| bs (gsB G bl i (tp G M i)) n))), (0, .ref o), (1, .int (nI X)), (3, .int 0)]) hx hb dX7_watched_65 hl (k := 4) rfl (inc1 _) (by decide) rfl (fun ls hl => ?_)
              refine lv_goto (tgt := 25) hx hb dX7_watched_68 (by decide) ?_
              exact ih_25 (i + 1) (w ||| bs (gsB G bl i (tp G M i)) n) (by omega) (by omega) (by first | exact wp_T c1 hw | exact wp_F c1 hw | fail) _ _ hP hS ls (lv_sub hl [2, 3, 1, 4, 0] rfl)
      exact L_25 _ 0 0 (Nat.lt_succ_self _) (by omega) (wp_0 _ _ _ _ _ _) _ _ hP hS ls (lv_sub hl [3, 4, 2, 1, 0] rfl)
    · skip
      have d1 : (nI X).toInt < 0 ∨ (2 : Int) ^ n ≤ (nI X).toInt := Decidable.byContradiction (fun q => by obtain ⟨Y, hY, e⟩ := wt_of hn q; have hp : (2 : Nat) ^ n ≤ 2 ^ 20 := Nat.pow_le_pow_right (by decide) hn; have e2 : X = Y := (nI_eq hX31 (by omega)).mp e; exact c_12 (by rw [e2, Nat.div_eq_of_lt hY]; rfl))
      refine lv_bipush (v := (-2)) hx hb dX7_watched_15 (by decide) ?_
      exact W.iret (v := -2) hx hb hr (fun tS htS hWS => ⟨⟨-2, (), rfl, (wA_out d1).symm, trivial⟩, hS.F htS⟩) hS.2.2 dX7_watched_17
