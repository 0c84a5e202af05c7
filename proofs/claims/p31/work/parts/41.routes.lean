/-! Routes: what reads -/
/-- the tops, h higher where no mast stands -/
def hT (G M : Nat → Int32) (h : Int32) (s : Nat) : Int32 := tp G M s + (if M s = 0 then h else 0)
/-- two stations in contact with their tops at T -/
def lkB (G : Nat → Int32) (rg bl : Int32) (T : Nat → Int32) (a b : Nat) : Bool := decide (a ≠ b ∧ nI (dd a b) ≤ rg ∧ seesB G bl a (T a) b (T b) = true)
theorem lk_con (G M : Nat → Int32) (rg bl : Int32) (a b : Nat) : conB G M rg bl a b = lkB G rg bl (tp G M) a b := rfl
/-- may t follow s on the way to 'to' -/
def EX (Lk : Nat → Nat → Bool) (Xr : Nat → Bool) (to s t : Nat) : Bool := Lk s t && (decide (t = to) || Xr t)
theorem bs_in {P : Nat → Bool} {n k : Nat} (h : k < n) : (bs P n).testBit k = P k := by rw [bs_bit, decide_eq_true h, Bool.true_and]
theorem bs_31 {P : Nat → Bool} {n : Nat} (hn : n ≤ 20) : bs P n < 2 ^ 31 := Nat.lt_of_lt_of_le (bs_lt P n) (Nat.pow_le_pow_right (by decide) (by omega))
theorem lt_31 {x n : Nat} (hn : n ≤ 20) (h : x < 2 ^ n) : x < 2 ^ 31 := Nat.lt_of_lt_of_le h (Nat.pow_le_pow_right (by decide) (by omega))
theorem and_31 {x y : Nat} (h : x < 2 ^ 31) : x &&& y < 2 ^ 31 := Nat.lt_of_le_of_lt Nat.and_le_left h
theorem nI_tb (X i : Nat) (h : X < 2 ^ 32) : bt (nI X) i = X.testBit i := by
  show (BitVec.ofNat 32 X).toNat.testBit i = _
  rw [BitVec.toNat_ofNat, Nat.mod_eq_of_lt h]
/-- a set without one -/
theorem bs_less {P : Nat → Bool} {n k : Nat} (hn : n ≤ 20) (hk : k < n) : nI (bs P n) &&& (((1 : Int32) <<< (nI k &&& 31)) ^^^ (-1)) = nI (bs (fun t => P t && decide (t ≠ k)) n) := by
  rw [shl1 (by omega)]
  have hp : (2 : Nat) ^ k ≤ 2 ^ 20 := Nat.pow_le_pow_right (by decide) (by omega)
  have h1 := @bs_31 P n hn
  have h2 := @bs_31 (fun t => P t && decide (t ≠ k)) n hn
  refine b_ext (fun i hi => ?_)
  rw [b_and, b_xor, b_m1 i hi, nI_tb _ _ (by omega), nI_tb _ _ (by omega), nI_tb _ _ (by omega), bs_bit, bs_bit, Nat.testBit_two_pow]
  by_cases q : k = i
  · subst q; simp
  · have q2 : i ≠ k := fun z => q z.symm
    simp [q, q2]
/-! rounds of reaching: S at the round's start, Z while it goes on -/
def RO (Lk : Nat → Nat → Bool) (n : Nat) (T a r S : Nat) : Prop := S < 2 ^ n ∧ S.testBit a = true ∧ (∀ v, v < n → S.testBit v = true → Rch Lk n (fun k => T.testBit k) a v) ∧ ((∀ v, Rch Lk n (fun k => T.testBit k) a v → S.testBit v = true) ∨ r + 1 ≤ fb_ct (fun k => S.testBit k) n)
def RI (Lk : Nat → Nat → Bool) (n : Nat) (T a S j Z : Nat) : Prop := Z < 2 ^ n ∧ (∀ v, v < n → S.testBit v = true → Z.testBit v = true) ∧ (∀ v, v < n → Z.testBit v = true → Rch Lk n (fun k => T.testBit k) a v) ∧ (∀ k, k < j → S.testBit k = true → (k = a ∨ T.testBit k = true) → ∀ v, v < n → Lk k v = true → Z.testBit v = true)
section RR
variable {Lk : Nat → Nat → Bool} {n T a r S j Z : Nat}
theorem RO_0 (ha : a < n) : RO Lk n T a 0 (2 ^ a) := by
  refine ⟨Nat.pow_lt_pow_right (by decide) ha, by rw [Nat.testBit_two_pow]; simp, fun v hv h => ?_, Or.inr ?_⟩
  · rw [Nat.testBit_two_pow] at h
    have h := of_decide_eq_true h
    rw [← h]; exact .base
  · exact fb_ct_pos.mpr ⟨a, ha, by rw [Nat.testBit_two_pow]; simp⟩
theorem RI_0 (h : RO Lk n T a r S) : RI Lk n T a S 0 S := ⟨h.1, fun _ _ h => h, h.2.2.1, fun k hk => absurd hk (Nat.not_lt_zero _)⟩
theorem RI_T (ha : a < n) (hj : j < n) (h : RI Lk n T a S j Z) (c : j = a ∨ (Z &&& T).testBit j = true) : RI Lk n T a S (j + 1) (Z ||| bs (Lk j) n) := by
  obtain ⟨h1, h2, h3, h4⟩ := h
  refine ⟨Nat.or_lt_two_pow h1 (bs_lt _ n), fun v hv q => ?_, fun v hv q => ?_, fun k hk q1 q2 v hv q3 => ?_⟩
  · rw [Nat.testBit_or, h2 v hv q]; rfl
  · rw [Nat.testBit_or, bs_in hv, Bool.or_eq_true] at q
    rcases q with q | q
    · exact h3 v hv q
    · rcases c with e | e
      · subst e; exact .step .base (Or.inl rfl) q hv
      · rw [Nat.testBit_and, Bool.and_eq_true] at e
        exact .step (h3 j hj e.1) (Or.inr e.2) q hv
  · rw [Nat.testBit_or, bs_in hv]
    rcases Nat.lt_succ_iff_lt_or_eq.mp hk with z | z
    · rw [h4 k z q1 q2 v hv q3]; rfl
    · rw [← z, q3, Bool.or_true]
theorem RI_F (hj : j < n) (h : RI Lk n T a S j Z) (c1 : ¬ j = a) (c2 : (Z &&& T).testBit j = false) : RI Lk n T a S (j + 1) Z := by
  obtain ⟨h1, h2, h3, h4⟩ := h
  refine ⟨h1, h2, h3, fun k hk q1 q2 v hv q3 => ?_⟩
  rcases Nat.lt_succ_iff_lt_or_eq.mp hk with z | z
  · exact h4 k z q1 q2 v hv q3
  · subst z
    rw [Nat.testBit_and, h2 k hj q1, Bool.true_and] at c2
    rcases q2 with e | e
    · exact absurd e c1
    · rw [c2] at e; cases e
theorem RO_s (ha : a < n) (h : RO Lk n T a r S) (h2 : RI Lk n T a S j Z) (hj : n ≤ j) : RO Lk n T a (r + 1) Z := by
  obtain ⟨g1, g2, g3, g4⟩ := h
  obtain ⟨h1, h2, h3, h4⟩ := h2
  exact ⟨h1, h2 a ha g2, h3, Rch_round ha (S := fun k => S.testBit k) (T := fun k => Z.testBit k) g2 g4 h2 (fun k hk q1 q2 v hv q3 => h4 k (by omega) q1 q2 v hv q3)⟩
theorem RO_end (ha : a < n) (h : RO Lk n T a r S) (hr : n ≤ r) : S < 2 ^ n ∧ ∀ v, v < n → (S.testBit v = true ↔ Rch Lk n (fun k => T.testBit k) a v) :=
  ⟨h.1, fun v hv => ⟨h.2.2.1 v hv, Rch_all (S := fun k => S.testBit k) hr h.2.2.2 v⟩⟩
end RR
theorem EX_cong {Lk : Nat → Nat → Bool} {X Y : Nat → Bool} {n to : Nat} (h : ∀ t, t < n → X t = Y t) : ∀ s t, s < n → t < n → EX Lk X to s t = EX Lk Y to s t := fun s t _ ht => by unfold EX; rw [h t ht]
noncomputable def joB (Lk : Nat → Nat → Bool) (X : Nat → Bool) (n a b : Nat) : Bool := decide (dst (EX Lk X b) (fun _ => 1) n b a ≠ 0)
theorem jo_eq {Lk : Nat → Nat → Bool} {n T a b S : Nat} {X : Nat → Bool} (ha : a < n) (hb : b < n) (hX : ∀ k, k < n → T.testBit k = X k) (hS : ∀ v, v < n → (S.testBit v = true ↔ Rch Lk n (fun k => T.testBit k) a v)) : S.testBit b = joB Lk X n a b := by
  unfold joB
  rw [← dst_cong' (E := EX Lk (fun k => T.testBit k) b) (w := fun _ => 1) (EX_cong hX) (fun _ _ => rfl)]
  refine Bool.eq_iff_iff.mpr ?_
  rw [decide_eq_true_iff, hS b hb]
  exact Rch_dst (fun _ _ => Nat.one_pos) ha hb
/-- the relays between a and b without which there is no chain -/
noncomputable def viB (Lk : Nat → Nat → Bool) (X : Nat → Bool) (n a b s : Nat) : Bool := decide (s ≠ a ∧ s ≠ b ∧ X s = true) && !joB Lk (fun t => X t && decide (t ≠ s)) n a b
theorem vi_T {Lk : Nat → Nat → Bool} {X : Nat → Bool} {n a b s : Nat} (h1 : ¬ s = a) (h2 : ¬ s = b) (h3 : X s = true) (h4 : joB Lk (fun t => X t && decide (t ≠ s)) n a b = false) : viB Lk X n a b s = true := by unfold viB; rw [decide_eq_true ⟨h1, h2, h3⟩, h4]; rfl
theorem vi_J {Lk : Nat → Nat → Bool} {X : Nat → Bool} {n a b s : Nat} (h4 : joB Lk (fun t => X t && decide (t ≠ s)) n a b = true) : viB Lk X n a b s = false := by unfold viB; rw [h4]; exact Bool.and_false _
theorem vi_F {Lk : Nat → Nat → Bool} {X : Nat → Bool} {n a b s : Nat} (h : ¬ (s ≠ a ∧ s ≠ b ∧ X s = true)) : viB Lk X n a b s = false := by unfold viB; rw [decide_eq_false h]; rfl
/-- all bits -/
theorem all_bits {S n : Nat} (h : S < 2 ^ n) (h2 : ∀ v, v < n → S.testBit v = true) : S = 2 ^ n - 1 := by
  refine Nat.eq_of_testBit_eq (fun i => ?_)
  rw [Nat.testBit_two_pow_sub_one]
  by_cases q : i < n
  · rw [h2 i q, decide_eq_true q]
  · rw [decide_eq_false q]
    exact Nat.testBit_lt_two_pow (Nat.lt_of_lt_of_le h (Nat.pow_le_pow_right (by decide) (by omega)))
theorem kX4_linksOf_0 : ∀ w ∈ wsX40, w ∈ wsX4_linksOf := by decide +kernel
theorem kX4_linksOf_1 : (.fieldLink RX4 24 "SightRidge$Routes" "stations" "I" : Cond) ∈ wsX4_linksOf := by decide +kernel
theorem kX4_linksOf_2 : (.methodLink RX4 45 Lib.Math.abs.name : Cond) ∈ wsX4_linksOf := by decide +kernel
theorem kX4_linksOf_3 : (.static Lib.Math.abs.name : Cond) ∈ wsX4_linksOf := by decide +kernel
theorem kX4_linksOf_4 : (.initialized "java/lang/Math" : Cond) ∈ wsX4_linksOf := by decide +kernel
theorem kX4_linksOf_5 : (.code Lib.Math.abs.name Lib.Math.abs.code 1 (some .int) : Cond) ∈ wsX4_linksOf := by decide +kernel
theorem kX4_linksOf_6 : ∀ w ∈ wsX30, w ∈ wsX4_linksOf := by decide +kernel
theorem kX4_linksOf_7 : (.fieldLink RX4 50 "SightRidge$Profile" "range" "I" : Cond) ∈ wsX4_linksOf := by decide +kernel
theorem kX4_linksOf_8 : (.fieldLink RX4 9 "SightRidge$Routes" "tops" "[I" : Cond) ∈ wsX4_linksOf := by decide +kernel
set_option maxHeartbeats 4000000 in
set_option maxRecDepth 100000 in
/-- linksOf(profile, s) -/
theorem c_X4_linksOf (l : Launch) (D : va_G) (cI cB cO : ClassId) (q qt ql qp qc : Nat) (n : Nat) (rr : Int32) (ft fl fp fco : Nat → Int32) (T : Nat → Int32) (o ga ma : Nat) (rg bl : Int32) (fg fm : Nat → Int32) (G M : Nat → Int32) (k : Nat) (hn : n ≤ 20) (hG : ∀ k, k < n → fg k = G k) (hM : ∀ k, k < n → fm k = M k) (hft : ∀ k, k < n → ft k = T k) (hk : k < n) : Met l yX4_linksOf wsX4_linksOf (rmD 4) (rdPc D (tyL cI cB cO) [.ref q, .ref o, .int (nI k)] [(q, .inr (4, [.ref qt, .ref ql, .ref qp, .ref qc, .int (nI n), .int rr])), (qt, .inl (cI, 20, .inl ft)), (o, .inr (3, [.ref ga, .ref ma, .int (nI n), .int rg, .int bl])), (ga, .inl (cI, 20, .inl fg)), (ma, .inl (cI, 20, .inl fm))]) (rdQi (fun r => r = nI (bs (lkB G rg bl T k) n))) 0 0 noA := by
  refine Met.ofW (cc := cX4_linksOf) (maxL := 6) (ret := (some .int)) (by decide) rfl ?_
  intro p e s m args below meth c s₁ B hml hv
  obtain ⟨rfl, hP, hK, hN⟩ := hv
  have hx := B.exec
  have hb := B.bytes
  have hr := B.returns
  have hts := atoms_spec (ws := wsX4_linksOf) B.pre
  have hown : s.vm.findClass RX4 = some m.cls := findClass_of_methodNamed B.named
  have hlocks := B.notSynchronized
  have hS : va_S noA s.heap s.heap [] := va_S.rf
  have hl := lv_entry ([.ref q, .ref o, .int (nI k)]) (n := 6) (Nat.le_of_ble_eq_true rfl)
  rw [lg_entry_eq]
  generalize (lg_sl ([.ref q, .ref o, .int (nI k)]) ++ List.replicate (6 - (lg_sl ([.ref q, .ref o, .int (nI k)])).length) Slot.unset).toArray = ls at hl ⊢
  have hl : lv_has ls 6 [(0, .ref q), (1, .ref o), (2, .int (nI k))] := hl
  refine lv_iconst (v := 0) hx hb dX4_linksOf_0 (by decide) ?_
  refine lv_istore_n (lv' := [(3, .int 0), (0, .ref q), (1, .ref o), (2, .int (nI k))]) hx hb dX4_linksOf_1 rfl hl (by decide) rfl (fun ls hl => ?_)
  refine lv_iconst (v := 0) hx hb dX4_linksOf_2 (by decide) ?_
  refine lv_istore (lv' := [(4, .int 0), (3, .int 0), (0, .ref q), (1, .ref o), (2, .int (nI k))]) hx hb dX4_linksOf_3 hl (by decide) rfl (fun ls hl => ?_)
  have L_5 : ∀ (k_5 : Nat) (i : Nat) (v : Int32), n - i < k_5 → (i ≤ n) → (v = nI (bs (lkB G rg bl T k) i)) → ∀ (H : Heap) (locs : List Loc), va_P D vwCl [(q, .inr (4, [.ref qt, .ref ql, .ref qp, .ref qc, .int (nI n), .int rr])), (qt, .inl (cI, 20, .inl ft)), (o, .inr (3, [.ref ga, .ref ma, .int (nI n), .int rg, .int bl])), (ga, .inl (cI, 20, .inl fg)), (ma, .inl (cI, 20, .inl fm))] H → va_S noA s.heap H locs → ∀ (ls : Array Slot), lv_has ls 6 [(0, .ref q), (1, .ref o), (2, .int (nI k)), (3, .int v), (4, .int (nI i))] → W p l e (rmD 4) s m ([.ref q, .ref o, .int (nI k)] : List Value).toArray below meth c H locs 0 0 (MQ below (rdQi (fun r => r = nI (bs (lkB G rg bl T k) n))) ([.ref q, .ref o, .int (nI k)] : List Value).toArray s 0 0 noA) (F0 m 5 ls []) := by
    intro k_5
    induction k_5 with
    | zero => intro i v h9; exact absurd h9 (Nat.not_lt_zero _)
    | succ k_5 ih_5 =>
      intro i v hm_5 hi hv H locs hP hS ls hl
      refine lv_iload hx hb dX4_linksOf_5 (lv_at hl 4 rfl) ?_
      refine lv_aload_n hx hb dX4_linksOf_7 rfl (lv_at hl 0 rfl) ?_
      refine va_get (D := D) (ci := 4) (v := .int (nI n)) (C := RX4) (T := TX4) (N := 6) hx hb hts kX4_linksOf_0 hown hK hP 0 rfl rfl 4 (by decide) (hts (.fieldLink RX4 24 "SightRidge$Routes" "stations" "I") kX4_linksOf_1) (fun _ h9 => h9) rfl dX4_linksOf_8 ?_
      refine lv_icmp_ge (tgt := 82) hx hb dX4_linksOf_11 (by decide) (fun c_11 => ?_) (fun c_11 => ?_)
      · skip
        have c0 : n ≤ i := ge_t (by omega) c_11
        refine lv_iload_n hx hb dX4_linksOf_82 rfl (lv_at hl 3 rfl) ?_
        exact W.iret (v := v) hx hb hr (fun tS htS hWS => ⟨⟨v, (), rfl, (by rw [show n = i by omega]; exact hv), trivial⟩, hS.F htS⟩) hS.2.2 dX4_linksOf_83
      · skip
        have c0 : i < n := ge_f (by omega) c_11
        refine lv_iload hx hb dX4_linksOf_14 (lv_at hl 4 rfl) ?_
        refine lv_iload_n hx hb dX4_linksOf_16 rfl (lv_at hl 2 rfl) ?_
        refine lv_icmp_eq (tgt := 38) hx hb dX4_linksOf_17 (by decide) (fun c_17 => ?_) (fun c_17 => ?_)
        · skip
          have c1 : i = k := (nI_eq (by omega) (by omega)).mp c_17
          have c9 : lkB G rg bl T k i = false := decide_eq_false (fun z => z.1 c1.symm)
          refine lv_iconst (v := 0) hx hb dX4_linksOf_38 (by decide) ?_
          refine lv_istore (lv' := [(5, .int 0), (0, .ref q), (1, .ref o), (2, .int (nI k)), (3, .int v), (4, .int (nI i))]) hx hb dX4_linksOf_39 hl (by decide) rfl (fun ls hl => ?_)
          refine lv_iload hx hb dX4_linksOf_41 (lv_at hl 0 rfl) ?_
          refine lv_if_eq (tgt := 76) hx hb dX4_linksOf_43 (by decide) (fun c_43 => ?_) (fun c_43 => ?_)
          · skip
            refine lv_iinc (v := nI (i + 1)) (lv' := [(4, .int (nI (i + 1))), (5, .int 0), (0, .ref q), (1, .ref o), (2, .int (nI k)), (3, .int v)]) hx hb dX4_linksOf_76 hl (k := 5) rfl (inc1 _) (by decide) rfl (fun ls hl => ?_)
            refine lv_goto (tgt := 5) hx hb dX4_linksOf_79 (by decide) ?_
            exact ih_5 (i + 1) v (by omega) (by omega) (by subst hv; first | exact bs_orT (by omega) c9 | exact bs_orF c9 | fail) _ _ hP hS ls (lv_sub hl [2, 3, 4, 5, 0] rfl)
          · skip
            exact absurd (by decide) c_43
        · skip
          have c1 : ¬ i = k := fun z => c_17 (by rw [z])
          refine lv_iload hx hb dX4_linksOf_20 (lv_at hl 4 rfl) ?_
          refine lv_iload_n hx hb dX4_linksOf_22 rfl (lv_at hl 2 rfl) ?_
          refine lv_isub hx hb dX4_linksOf_23 ?_
          refine va_mabs hx hb (hml.trans hl.1.symm) hown (hts (.methodLink RX4 45 Lib.Math.abs.name) kX4_linksOf_2) (hts (.static Lib.Math.abs.name) kX4_linksOf_3) (hts (.initialized "java/lang/Math") kX4_linksOf_4) (hts (.code Lib.Math.abs.name Lib.Math.abs.code 1 (some .int)) kX4_linksOf_5) (Nat.le_of_ble_eq_true rfl) (Nat.le_of_ble_eq_true rfl) (Nat.le_refl _) (Nat.le_refl _) dX4_linksOf_24 ?_
          refine lv_topi (fun y_1 e_2 => ?_)
          have e_2 : nI (dd k i) = y_1 := (e_2.trans ((absd (by omega) (by omega)).trans (congrArg nI (dd_comm i k)))).symm
          subst e_2
          refine lv_aload_n hx hb dX4_linksOf_27 rfl (lv_at hl 1 rfl) ?_
          refine va_get (D := D) (ci := 3) (v := .int rg) (C := RX3) (T := TX3) (N := 5) hx hb hts kX4_linksOf_6 hown hK hP 2 rfl rfl 3 (by decide) (hts (.fieldLink RX4 50 "SightRidge$Profile" "range" "I") kX4_linksOf_7) (fun _ h9 => h9) rfl dX4_linksOf_28 ?_
          refine lv_icmp_gt (tgt := 38) hx hb dX4_linksOf_31 (by decide) (fun c_31 => ?_) (fun c_31 => ?_)
          · skip
            have c9 : lkB G rg bl T k i = false := decide_eq_false (fun z => absurd z.2.1 (Int32.not_le.mpr c_31))
            refine lv_iconst (v := 0) hx hb dX4_linksOf_38 (by decide) ?_
            refine lv_istore (lv' := [(5, .int 0), (0, .ref q), (1, .ref o), (2, .int (nI k)), (3, .int v), (4, .int (nI i))]) hx hb dX4_linksOf_39 hl (by decide) rfl (fun ls hl => ?_)
            refine lv_iload hx hb dX4_linksOf_41 (lv_at hl 0 rfl) ?_
            refine lv_if_eq (tgt := 76) hx hb dX4_linksOf_43 (by decide) (fun c_43 => ?_) (fun c_43 => ?_)
            · skip
              refine lv_iinc (v := nI (i + 1)) (lv' := [(4, .int (nI (i + 1))), (5, .int 0), (0, .ref q), (1, .ref o), (2, .int (nI k)), (3, .int v)]) hx hb dX4_linksOf_76 hl (k := 5) rfl (inc1 _) (by decide) rfl (fun ls hl => ?_)
              refine lv_goto (tgt := 5) hx hb dX4_linksOf_79 (by decide) ?_
              exact ih_5 (i + 1) v (by omega) (by omega) (by subst hv; first | exact bs_orT (by omega) c9 | exact bs_orF c9 | fail) _ _ hP hS ls (lv_sub hl [2, 3, 4, 5, 0] rfl)
            · skip
              exact absurd (by decide) c_43
          · skip
            have c2 : nI (dd k i) ≤ rg := Int32.not_lt.mp c_31
            refine lv_iconst (v := 1) hx hb dX4_linksOf_34 (by decide) ?_
            refine lv_goto (tgt := 39) hx hb dX4_linksOf_35 (by decide) ?_
            refine lv_istore (lv' := [(5, .int 1), (0, .ref q), (1, .ref o), (2, .int (nI k)), (3, .int v), (4, .int (nI i))]) hx hb dX4_linksOf_39 hl (by decide) rfl (fun ls hl => ?_)
            refine lv_iload hx hb dX4_linksOf_41 (lv_at hl 0 rfl) ?_
            refine lv_if_eq (tgt := 76) hx hb dX4_linksOf_43 (by decide) (fun c_43 => ?_) (fun c_43 => ?_)
            · skip
              exact absurd c_43 (by decide)
            · skip
              refine lv_aload_n hx hb dX4_linksOf_46 rfl (lv_at hl 2 rfl) ?_
              refine lv_iload_n hx hb dX4_linksOf_47 rfl (lv_at hl 3 rfl) ?_
              refine lv_aload_n hx hb dX4_linksOf_48 rfl (lv_at hl 1 rfl) ?_
              refine va_get (D := D) (ci := 4) (v := .ref qt) (C := RX4) (T := TX4) (N := 6) hx hb hts kX4_linksOf_0 hown hK hP 0 rfl rfl 0 (by decide) (hts (.fieldLink RX4 9 "SightRidge$Routes" "tops" "[I") kX4_linksOf_8) (fun _ h9 => h9) rfl dX4_linksOf_49 ?_
              refine lv_iload_n hx hb dX4_linksOf_52 rfl (lv_at hl 3 rfl) ?_
              refine va_iald hx hb hK hP 1 0 rfl rfl (i := nI k) (vp_in_nI (N := 20) (by omega) (by decide)) dX4_linksOf_53 ?_
              rw [nI_clamp (n := k) (by omega)]
              refine lv_topi (fun y_3 e_4 => ?_)
              have e_4 : T k = y_3 := (e_4.trans (hft k hk)).symm
              subst e_4
              refine lv_iload hx hb dX4_linksOf_54 (lv_at hl 5 rfl) ?_
              refine lv_aload_n hx hb dX4_linksOf_56 rfl (lv_at hl 1 rfl) ?_
              refine va_get (D := D) (ci := 4) (v := .ref qt) (C := RX4) (T := TX4) (N := 6) hx hb hts kX4_linksOf_0 hown hK hP 0 rfl rfl 0 (by decide) (hts (.fieldLink RX4 9 "SightRidge$Routes" "tops" "[I") kX4_linksOf_8) (fun _ h9 => h9) rfl dX4_linksOf_57 ?_
              refine lv_iload hx hb dX4_linksOf_60 (lv_at hl 5 rfl) ?_
              refine va_iald hx hb hK hP 1 0 rfl rfl (i := nI i) (vp_in_nI (N := 20) (by omega) (by decide)) dX4_linksOf_62 ?_
              rw [nI_clamp (n := i) (by omega)]
              refine lv_topi (fun y_5 e_6 => ?_)
              have e_6 : T i = y_5 := (e_6.trans (hft i c0)).symm
              subst e_6
              refine rd_calli hP hS (va_runV (As := [.int (nI k), .int (T k), .int (nI i), .int (T i)]) (rest := []) ⟨hx, hb, hml, hown, hts⟩ (c_X3_pointsSee l D cI cB cO o ga ma n rg bl fg fm G M k (T k) i (T i) hn hG hM hk c0) (cwV 4 hts gX4_linksOf_X3_pointsSee rfl rfl rfl (by decide +kernel) ⟨Nat.le_of_ble_eq_true rfl, Nat.le_of_ble_eq_true rfl⟩) (rd_preV (r := (RX3, TX3, 5)) (ci := 3) hK (hP.pick [2, 3, 4] rfl) hN (q0 := 0) rfl rfl) rfl rfl hl.1 rfl (lv_room (Nat.le_of_ble_eq_true rfl)) dX4_linksOf_63 ⟨Nat.le_refl _, Nat.le_refl _⟩) (fun r_63 H locs h_63 hP hS => ?_)
              refine lv_if_eq (tgt := 76) hx hb dX4_linksOf_66 (by decide) (fun c_66 => ?_) (fun c_66 => ?_)
              · skip
                have c3 := bI_e0 (h_63.symm.trans c_66)
                have c9 : lkB G rg bl T k i = false := decide_eq_false (fun z => Bool.false_ne_true (c3.symm.trans z.2.2))
                refine lv_iinc (v := nI (i + 1)) (lv' := [(4, .int (nI (i + 1))), (5, .int 1), (0, .ref q), (1, .ref o), (2, .int (nI k)), (3, .int v)]) hx hb dX4_linksOf_76 hl (k := 5) rfl (inc1 _) (by decide) rfl (fun ls hl => ?_)
                refine lv_goto (tgt := 5) hx hb dX4_linksOf_79 (by decide) ?_
                exact ih_5 (i + 1) v (by omega) (by omega) (by subst hv; first | exact bs_orT (by omega) c9 | exact bs_orF c9 | fail) _ _ hP hS ls (lv_sub hl [2, 3, 4, 5, 0] rfl)
              · skip
                have c3 := bI_n0 (fun q => c_66 (h_63.trans q))
                have c9 : lkB G rg bl T k i = true := decide_eq_true ⟨fun z => c1 z.symm, c2, c3⟩
                refine lv_iload_n hx hb dX4_linksOf_69 rfl (lv_at hl 4 rfl) ?_
                refine lv_iconst (v := 1) hx hb dX4_linksOf_70 (by decide) ?_
                refine lv_iload hx hb dX4_linksOf_71 (lv_at hl 5 rfl) ?_
                refine lv_ishl hx hb dX4_linksOf_73 ?_
                refine lv_ior hx hb dX4_linksOf_74 ?_
                refine lv_istore_n (lv' := [(3, .int (v ||| (1 <<< ((nI i) &&& 31)))), (5, .int 1), (0, .ref q), (1, .ref o), (2, .int (nI k)), (4, .int (nI i))]) hx hb dX4_linksOf_75 rfl hl (by decide) rfl (fun ls hl => ?_)
                refine lv_iinc (v := nI (i + 1)) (lv' := [(4, .int (nI (i + 1))), (3, .int (v ||| (1 <<< ((nI i) &&& 31)))), (5, .int 1), (0, .ref q), (1, .ref o), (2, .int (nI k))]) hx hb dX4_linksOf_76 hl (k := 5) rfl (inc1 _) (by decide) rfl (fun ls hl => ?_)
                refine lv_goto (tgt := 5) hx hb dX4_linksOf_79 (by decide) ?_
                exact ih_5 (i + 1) (v ||| (1 <<< ((nI i) &&& 31))) (by omega) (by omega) (by subst hv; first | exact bs_orT (by omega) c9 | exact bs_orF c9 | fail) _ _ hP hS ls (lv_sub hl [3, 4, 5, 1, 0] rfl)
  exact L_5 _ 0 0 (Nat.lt_succ_self _) (by omega) (rfl) _ _ hP hS ls (lv_sub hl [2, 3, 4, 1, 0] rfl)
theorem kX4_reached_0 : ∀ w ∈ wsX40, w ∈ wsX4_reached := by decide +kernel
theorem kX4_reached_1 : (.fieldLink RX4 24 "SightRidge$Routes" "stations" "I" : Cond) ∈ wsX4_reached := by decide +kernel
theorem kX4_reached_2 : (.fieldLink RX4 15 "SightRidge$Routes" "links" "[I" : Cond) ∈ wsX4_reached := by decide +kernel
theorem kX4_reached_3 : (.initialized RX6 : Cond) ∈ wsX4_reached := by decide +kernel
theorem kX4_reached_4 : (.static yX6_holds : Cond) ∈ wsX4_reached := by decide +kernel
set_option maxHeartbeats 4000000 in
set_option maxRecDepth 100000 in
/-- reached(from, through) -/
theorem c_X4_reached (l : Launch) (D : va_G) (cI cB cO : ClassId) (q qt ql qp qc : Nat) (n : Nat) (rr : Int32) (ft fl fp fco : Nat → Int32) (Lk : Nat → Nat → Bool) (a T : Nat) (hn : n ≤ 20) (hlk : ∀ k, k < n → fl k = nI (bs (Lk k) n)) (ha : a < n) (hT : T < 2 ^ 31) : Met l yX4_reached wsX4_reached (rmD 2) (rdPc D (tyL cI cB cO) [.ref q, .int (nI a), .int (nI T)] [(q, .inr (4, [.ref qt, .ref ql, .ref qp, .ref qc, .int (nI n), .int rr])), (ql, .inl (cI, 20, .inl fl))]) (rdQi (fun r => ∃ S, r = nI S ∧ S < 2 ^ n ∧ ∀ v, v < n → (S.testBit v = true ↔ Rch Lk n (fun k => T.testBit k) a v))) 0 0 noA := by
  refine Met.ofW (cc := cX4_reached) (maxL := 6) (ret := (some .int)) (by decide) rfl ?_
  intro p e s m args below meth c s₁ B hml hv
  obtain ⟨rfl, hP, hK, hN⟩ := hv
  have hx := B.exec
  have hb := B.bytes
  have hr := B.returns
  have hts := atoms_spec (ws := wsX4_reached) B.pre
  have hown : s.vm.findClass RX4 = some m.cls := findClass_of_methodNamed B.named
  have hlocks := B.notSynchronized
  have hS : va_S noA s.heap s.heap [] := va_S.rf
  have hl := lv_entry ([.ref q, .int (nI a), .int (nI T)]) (n := 6) (Nat.le_of_ble_eq_true rfl)
  rw [lg_entry_eq]
  generalize (lg_sl ([.ref q, .int (nI a), .int (nI T)]) ++ List.replicate (6 - (lg_sl ([.ref q, .int (nI a), .int (nI T)])).length) Slot.unset).toArray = ls at hl ⊢
  have hl : lv_has ls 6 [(0, .ref q), (1, .int (nI a)), (2, .int (nI T))] := hl
  refine lv_iconst (v := 1) hx hb dX4_reached_0 (by decide) ?_
  refine lv_iload_n hx hb dX4_reached_1 rfl (lv_at hl 1 rfl) ?_
  refine lv_ishl hx hb dX4_reached_2 ?_
  refine lv_topi (fun y_1 e_2 => ?_)
  have e_2 : nI (2 ^ a) = y_1 := (e_2.trans (shl1 (by omega))).symm
  subst e_2
  refine lv_istore_n (lv' := [(3, .int (nI (2 ^ a))), (0, .ref q), (1, .int (nI a)), (2, .int (nI T))]) hx hb dX4_reached_3 rfl hl (by decide) rfl (fun ls hl => ?_)
  refine lv_iconst (v := 0) hx hb dX4_reached_4 (by decide) ?_
  refine lv_istore (lv' := [(4, .int 0), (3, .int (nI (2 ^ a))), (0, .ref q), (1, .int (nI a)), (2, .int (nI T))]) hx hb dX4_reached_5 hl (by decide) rfl (fun ls hl => ?_)
  have L_7 : ∀ (k_7 : Nat) (i : Nat) (S : Nat), n - i < k_7 → (i ≤ n) → (RO Lk n T a i S) → ∀ (H : Heap) (locs : List Loc), va_P D vwCl [(q, .inr (4, [.ref qt, .ref ql, .ref qp, .ref qc, .int (nI n), .int rr])), (ql, .inl (cI, 20, .inl fl))] H → va_S noA s.heap H locs → ∀ (ls : Array Slot), lv_has ls 6 [(0, .ref q), (1, .int (nI a)), (2, .int (nI T)), (3, .int (nI S)), (4, .int (nI i))] → W p l e (rmD 2) s m ([.ref q, .int (nI a), .int (nI T)] : List Value).toArray below meth c H locs 0 0 (MQ below (rdQi (fun r => ∃ S, r = nI S ∧ S < 2 ^ n ∧ ∀ v, v < n → (S.testBit v = true ↔ Rch Lk n (fun k => T.testBit k) a v))) ([.ref q, .int (nI a), .int (nI T)] : List Value).toArray s 0 0 noA) (F0 m 7 ls []) := by
    intro k_7
    induction k_7 with
    | zero => intro i S h9; exact absurd h9 (Nat.not_lt_zero _)
    | succ k_7 ih_7 =>
      intro i S hm_7 hi hS1 H locs hP hS ls hl
      refine lv_iload hx hb dX4_reached_7 (lv_at hl 4 rfl) ?_
      refine lv_aload_n hx hb dX4_reached_9 rfl (lv_at hl 0 rfl) ?_
      refine va_get (D := D) (ci := 4) (v := .int (nI n)) (C := RX4) (T := TX4) (N := 6) hx hb hts kX4_reached_0 hown hK hP 0 rfl rfl 4 (by decide) (hts (.fieldLink RX4 24 "SightRidge$Routes" "stations" "I") kX4_reached_1) (fun _ h9 => h9) rfl dX4_reached_10 ?_
      refine lv_icmp_ge (tgt := 67) hx hb dX4_reached_13 (by decide) (fun c_13 => ?_) (fun c_13 => ?_)
      · skip
        have c0 : n ≤ i := ge_t (by omega) c_13
        refine lv_iload_n hx hb dX4_reached_67 rfl (lv_at hl 3 rfl) ?_
        exact W.iret (v := nI S) hx hb hr (fun tS htS hWS => ⟨⟨nI S, (), rfl, ⟨S, rfl, RO_end ha hS1 c0⟩, trivial⟩, hS.F htS⟩) hS.2.2 dX4_reached_68
      · skip
        have c0 : i < n := ge_f (by omega) c_13
        refine lv_iconst (v := 0) hx hb dX4_reached_16 (by decide) ?_
        refine lv_istore (lv' := [(5, .int 0), (0, .ref q), (1, .int (nI a)), (2, .int (nI T)), (3, .int (nI S)), (4, .int (nI i))]) hx hb dX4_reached_17 hl (by decide) rfl (fun ls hl => ?_)
        have L_19 : ∀ (k_19 : Nat) (j : Nat) (Z : Nat), n - j < k_19 → (j ≤ n) → (RI Lk n T a S j Z) → ∀ (H : Heap) (locs : List Loc), va_P D vwCl [(q, .inr (4, [.ref qt, .ref ql, .ref qp, .ref qc, .int (nI n), .int rr])), (ql, .inl (cI, 20, .inl fl))] H → va_S noA s.heap H locs → ∀ (ls : Array Slot), lv_has ls 6 [(0, .ref q), (1, .int (nI a)), (2, .int (nI T)), (3, .int (nI Z)), (4, .int (nI i)), (5, .int (nI j))] → W p l e (rmD 2) s m ([.ref q, .int (nI a), .int (nI T)] : List Value).toArray below meth c H locs 0 0 (MQ below (rdQi (fun r => ∃ S, r = nI S ∧ S < 2 ^ n ∧ ∀ v, v < n → (S.testBit v = true ↔ Rch Lk n (fun k => T.testBit k) a v))) ([.ref q, .int (nI a), .int (nI T)] : List Value).toArray s 0 0 noA) (F0 m 19 ls []) := by
          intro k_19
          induction k_19 with
          | zero => intro j Z h9; exact absurd h9 (Nat.not_lt_zero _)
          | succ k_19 ih_19 =>
            intro j Z hm_19 hj hZ1 H locs hP hS ls hl
            refine lv_iload hx hb dX4_reached_19 (lv_at hl 5 rfl) ?_
            refine lv_aload_n hx hb dX4_reached_21 rfl (lv_at hl 0 rfl) ?_
            refine va_get (D := D) (ci := 4) (v := .int (nI n)) (C := RX4) (T := TX4) (N := 6) hx hb hts kX4_reached_0 hown hK hP 0 rfl rfl 4 (by decide) (hts (.fieldLink RX4 24 "SightRidge$Routes" "stations" "I") kX4_reached_1) (fun _ h9 => h9) rfl dX4_reached_22 ?_
            refine lv_icmp_ge (tgt := 61) hx hb dX4_reached_25 (by decide) (fun c_25 => ?_) (fun c_25 => ?_)
            · skip
              have c4 : n ≤ j := ge_t (by omega) c_25
              refine lv_iinc (v := nI (i + 1)) (lv' := [(4, .int (nI (i + 1))), (0, .ref q), (1, .int (nI a)), (2, .int (nI T)), (3, .int (nI Z)), (5, .int (nI j))]) hx hb dX4_reached_61 hl (k := 4) rfl (inc1 _) (by decide) rfl (fun ls hl => ?_)
              refine lv_goto (tgt := 7) hx hb dX4_reached_64 (by decide) ?_
              exact ih_7 (i + 1) Z (by omega) (by omega) (RO_s ha hS1 hZ1 c4) _ _ hP hS ls (lv_sub hl [1, 2, 3, 4, 0] rfl)
            · skip
              have c4 : j < n := ge_f (by omega) c_25
              refine lv_iload hx hb dX4_reached_28 (lv_at hl 5 rfl) ?_
              refine lv_iload_n hx hb dX4_reached_30 rfl (lv_at hl 1 rfl) ?_
              refine lv_icmp_eq (tgt := 45) hx hb dX4_reached_31 (by decide) (fun c_31 => ?_) (fun c_31 => ?_)
              · skip
                have c5 : j = a := (nI_eq (by omega) (by omega)).mp c_31
                refine lv_iload_n hx hb dX4_reached_45 rfl (lv_at hl 3 rfl) ?_
                refine lv_aload_n hx hb dX4_reached_46 rfl (lv_at hl 0 rfl) ?_
                refine va_get (D := D) (ci := 4) (v := .ref ql) (C := RX4) (T := TX4) (N := 6) hx hb hts kX4_reached_0 hown hK hP 0 rfl rfl 1 (by decide) (hts (.fieldLink RX4 15 "SightRidge$Routes" "links" "[I") kX4_reached_2) (fun _ h9 => h9) rfl dX4_reached_47 ?_
                refine lv_iload hx hb dX4_reached_50 (lv_at hl 5 rfl) ?_
                refine va_iald hx hb hK hP 1 0 rfl rfl (i := nI j) (vp_in_nI (N := 20) (by omega) (by decide)) dX4_reached_52 ?_
                rw [nI_clamp (n := j) (by omega)]
                refine lv_topi (fun y_3 e_4 => ?_)
                have e_4 : nI (bs (Lk j) n) = y_3 := (e_4.trans (hlk j c4)).symm
                subst e_4
                refine lv_ior hx hb dX4_reached_53 ?_
                refine lv_topi (fun y_5 e_6 => ?_)
                have e_6 : nI (Z ||| bs (Lk j) n) = y_5 := (e_6.trans (fa_or _ _)).symm
                subst e_6
                refine lv_istore_n (lv' := [(3, .int (nI (Z ||| bs (Lk j) n))), (0, .ref q), (1, .int (nI a)), (2, .int (nI T)), (4, .int (nI i)), (5, .int (nI j))]) hx hb dX4_reached_54 rfl hl (by decide) rfl (fun ls hl => ?_)
                refine lv_iinc (v := nI (j + 1)) (lv' := [(5, .int (nI (j + 1))), (3, .int (nI (Z ||| bs (Lk j) n))), (0, .ref q), (1, .int (nI a)), (2, .int (nI T)), (4, .int (nI i))]) hx hb dX4_reached_55 hl (k := 5) rfl (inc1 _) (by decide) rfl (fun ls hl => ?_)
                refine lv_goto (tgt := 19) hx hb dX4_reached_58 (by decide) ?_
                exact ih_19 (j + 1) (Z ||| bs (Lk j) n) (by omega) (by omega) (RI_T ha c4 hZ1 (Or.inl c5)) _ _ hP hS ls (lv_sub hl [2, 3, 4, 1, 5, 0] rfl)
              · skip
                have c5 : ¬ j = a := fun z => c_31 (by rw [z])
                refine lv_iload_n hx hb dX4_reached_34 rfl (lv_at hl 3 rfl) ?_
                refine lv_iload_n hx hb dX4_reached_35 rfl (lv_at hl 2 rfl) ?_
                refine lv_iand hx hb dX4_reached_36 ?_
                refine lv_topi (fun y_7 e_8 => ?_)
                have e_8 : nI (Z &&& T) = y_7 := (e_8.trans (fa_and _ _)).symm
                subst e_8
                refine lv_iload hx hb dX4_reached_37 (lv_at hl 5 rfl) ?_
                refine rd_calli hP hS (va_runSN (As := [.int (nI (Z &&& T)), .int (nI j)]) (rest := []) ⟨hx, hb, hml, hown, hts⟩ (c_X6_holds l D cI cB cO (Z &&& T) j (and_31 (lt_31 hn hZ1.1)) (by omega)) ⟨va_cnB 2 hts gX4_reached_X6_holds_n81 rfl rfl rfl hN.2.2.2.2.2.2.2.1 (hts (.initialized RX6) kX4_reached_3) (by decide +kernel) ⟨Nat.le_of_ble_eq_true rfl, Nat.le_of_ble_eq_true rfl⟩, hts (.static yX6_holds) kX4_reached_4, trivial⟩ (rd_preS hK (hP.pick [] rfl) hN) rfl rfl hl.1 rfl (lv_room (Nat.le_of_ble_eq_true rfl)) dX4_reached_39 ⟨Nat.le_refl _, Nat.le_refl _⟩) (fun r_39 H locs h_39 hP hS => ?_)
                refine lv_if_eq (tgt := 55) hx hb dX4_reached_42 (by decide) (fun c_42 => ?_) (fun c_42 => ?_)
                · skip
                  have c6 := bI_e0 (h_39.symm.trans c_42)
                  refine lv_iinc (v := nI (j + 1)) (lv' := [(5, .int (nI (j + 1))), (0, .ref q), (1, .int (nI a)), (2, .int (nI T)), (3, .int (nI Z)), (4, .int (nI i))]) hx hb dX4_reached_55 hl (k := 5) rfl (inc1 _) (by decide) rfl (fun ls hl => ?_)
                  refine lv_goto (tgt := 19) hx hb dX4_reached_58 (by decide) ?_
                  exact ih_19 (j + 1) Z (by omega) (by omega) (RI_F c4 hZ1 c5 c6) _ _ hP hS ls (lv_sub hl [1, 2, 3, 4, 5, 0] rfl)
                · skip
                  have c6 := bI_n0 (fun q => c_42 (h_39.trans q))
                  refine lv_iload_n hx hb dX4_reached_45 rfl (lv_at hl 3 rfl) ?_
                  refine lv_aload_n hx hb dX4_reached_46 rfl (lv_at hl 0 rfl) ?_
                  refine va_get (D := D) (ci := 4) (v := .ref ql) (C := RX4) (T := TX4) (N := 6) hx hb hts kX4_reached_0 hown hK hP 0 rfl rfl 1 (by decide) (hts (.fieldLink RX4 15 "SightRidge$Routes" "links" "[I") kX4_reached_2) (fun _ h9 => h9) rfl dX4_reached_47 ?_
                  refine lv_iload hx hb dX4_reached_50 (lv_at hl 5 rfl) ?_
                  refine va_iald hx hb hK hP 1 0 rfl rfl (i := nI j) (vp_in_nI (N := 20) (by omega) (by decide)) dX4_reached_52 ?_
                  rw [nI_clamp (n := j) (by omega)]
                  refine lv_topi (fun y_9 e_10 => ?_)
                  have e_10 : nI (bs (Lk j) n) = y_9 := (e_10.trans (hlk j c4)).symm
                  subst e_10
                  refine lv_ior hx hb dX4_reached_53 ?_
                  refine lv_topi (fun y_11 e_12 => ?_)
                  have e_12 : nI (Z ||| bs (Lk j) n) = y_11 := (e_12.trans (fa_or _ _)).symm
                  subst e_12
                  refine lv_istore_n (lv' := [(3, .int (nI (Z ||| bs (Lk j) n))), (0, .ref q), (1, .int (nI a)), (2, .int (nI T)), (4, .int (nI i)), (5, .int (nI j))]) hx hb dX4_reached_54 rfl hl (by decide) rfl (fun ls hl => ?_)
                  refine lv_iinc (v := nI (j + 1)) (lv' := [(5, .int (nI (j + 1))), (3, .int (nI (Z ||| bs (Lk j) n))), (0, .ref q), (1, .int (nI a)), (2, .int (nI T)), (4, .int (nI i))]) hx hb dX4_reached_55 hl (k := 5) rfl (inc1 _) (by decide) rfl (fun ls hl => ?_)
                  refine lv_goto (tgt := 19) hx hb dX4_reached_58 (by decide) ?_
                  exact ih_19 (j + 1) (Z ||| bs (Lk j) n) (by omega) (by omega) (RI_T ha c4 hZ1 (Or.inr c6)) _ _ hP hS ls (lv_sub hl [2, 3, 4, 1, 5, 0] rfl)
        exact L_19 _ 0 S (Nat.lt_succ_self _) (by omega) (RI_0 hS1) _ _ hP hS ls (lv_sub hl [1, 2, 3, 4, 5, 0] rfl)
  exact L_7 _ 0 (2 ^ a) (Nat.lt_succ_self _) (by omega) (RO_0 ha) _ _ hP hS ls (lv_sub hl [2, 3, 4, 1, 0] rfl)
theorem kX4_countGroups_0 : ∀ w ∈ wsX40, w ∈ wsX4_countGroups := by decide +kernel
theorem kX4_countGroups_1 : (.fieldLink RX4 24 "SightRidge$Routes" "stations" "I" : Cond) ∈ wsX4_countGroups := by decide +kernel
theorem kX4_countGroups_2 : (.initialized RX6 : Cond) ∈ wsX4_countGroups := by decide +kernel
theorem kX4_countGroups_3 : (.static yX6_holds : Cond) ∈ wsX4_countGroups := by decide +kernel
set_option maxHeartbeats 4000000 in
set_option maxRecDepth 100000 in
/-- countGroups() -/
theorem c_X4_countGroups (l : Launch) (D : va_G) (cI cB cO : ClassId) (q qt ql qp qc : Nat) (n : Nat) (rr : Int32) (ft fl fp fco : Nat → Int32) (Lk : Nat → Nat → Bool) (hn : n ≤ 20) (hlk : ∀ k, k < n → fl k = nI (bs (Lk k) n)) (hn0 : 0 < n) (hrow : ∀ k, k + 1 < n → Lk k (k + 1) = true) : Met l yX4_countGroups wsX4_countGroups (rmD 3) (rdPc D (tyL cI cB cO) [.ref q] [(q, .inr (4, [.ref qt, .ref ql, .ref qp, .ref qc, .int (nI n), .int rr])), (ql, .inl (cI, 20, .inl fl))]) (rdQi (fun r => r = 1)) 0 0 noA := by
  refine Met.ofW (cc := cX4_countGroups) (maxL := 5) (ret := (some .int)) (by decide) rfl ?_
  intro p e s m args below meth c s₁ B hml hv
  obtain ⟨rfl, hP, hK, hN⟩ := hv
  have hx := B.exec
  have hb := B.bytes
  have hr := B.returns
  have hts := atoms_spec (ws := wsX4_countGroups) B.pre
  have hown : s.vm.findClass RX4 = some m.cls := findClass_of_methodNamed B.named
  have hlocks := B.notSynchronized
  have hS : va_S noA s.heap s.heap [] := va_S.rf
  have hl := lv_entry ([.ref q]) (n := 5) (Nat.le_of_ble_eq_true rfl)
  rw [lg_entry_eq]
  generalize (lg_sl ([.ref q]) ++ List.replicate (5 - (lg_sl ([.ref q])).length) Slot.unset).toArray = ls at hl ⊢
  have hl : lv_has ls 5 [(0, .ref q)] := hl
  refine lv_iconst (v := 1) hx hb dX4_countGroups_0 (by decide) ?_
  refine lv_aload_n hx hb dX4_countGroups_1 rfl (lv_at hl 0 rfl) ?_
  refine va_get (D := D) (ci := 4) (v := .int (nI n)) (C := RX4) (T := TX4) (N := 6) hx hb hts kX4_countGroups_0 hown hK hP 0 rfl rfl 4 (by decide) (hts (.fieldLink RX4 24 "SightRidge$Routes" "stations" "I") kX4_countGroups_1) (fun _ h9 => h9) rfl dX4_countGroups_2 ?_
  refine lv_ishl hx hb dX4_countGroups_5 ?_
  refine lv_topi (fun y_1 e_2 => ?_)
  have e_2 : nI (2 ^ n) = y_1 := (e_2.trans (shl1 (by omega))).symm
  subst e_2
  refine lv_iconst (v := 1) hx hb dX4_countGroups_6 (by decide) ?_
  refine lv_isub hx hb dX4_countGroups_7 ?_
  refine lv_topi (fun y_3 e_4 => ?_)
  have e_4 : nI (2 ^ n - 1) = y_3 := (e_4.trans ((pk_sub (a := 2 ^ n) (b := 1) (Nat.pos_of_ne_zero (by simp))))).symm
  subst e_4
  refine lv_istore_n (lv' := [(1, .int (nI (2 ^ n - 1))), (0, .ref q)]) hx hb dX4_countGroups_8 rfl hl (by decide) rfl (fun ls hl => ?_)
  refine lv_iconst (v := 0) hx hb dX4_countGroups_9 (by decide) ?_
  refine lv_istore_n (lv' := [(2, .int 0), (1, .int (nI (2 ^ n - 1))), (0, .ref q)]) hx hb dX4_countGroups_10 rfl hl (by decide) rfl (fun ls hl => ?_)
  refine lv_iconst (v := 0) hx hb dX4_countGroups_11 (by decide) ?_
  refine lv_istore_n (lv' := [(3, .int 0), (2, .int 0), (1, .int (nI (2 ^ n - 1))), (0, .ref q)]) hx hb dX4_countGroups_12 rfl hl (by decide) rfl (fun ls hl => ?_)
  refine lv_iconst (v := 0) hx hb dX4_countGroups_13 (by decide) ?_
  refine lv_istore (lv' := [(4, .int 0), (3, .int 0), (2, .int 0), (1, .int (nI (2 ^ n - 1))), (0, .ref q)]) hx hb dX4_countGroups_14 hl (by decide) rfl (fun ls hl => ?_)
  have hp : (2 : Nat) ^ n ≤ 2 ^ 20 := Nat.pow_le_pow_right (by decide) hn
  have L_16 : ∀ (k_16 : Nat) (i : Nat) (w : Nat) (g : Nat), n - i < k_16 → (i ≤ n) → ((i = 0 ∧ w = 0 ∧ g = 0) ∨ (0 < i ∧ w = 2 ^ n - 1 ∧ g = 1)) → ∀ (H : Heap) (locs : List Loc), va_P D vwCl [(q, .inr (4, [.ref qt, .ref ql, .ref qp, .ref qc, .int (nI n), .int rr])), (ql, .inl (cI, 20, .inl fl))] H → va_S noA s.heap H locs → ∀ (ls : Array Slot), lv_has ls 5 [(0, .ref q), (1, .int (nI (2 ^ n - 1))), (2, .int (nI w)), (3, .int (nI g)), (4, .int (nI i))] → W p l e (rmD 3) s m ([.ref q] : List Value).toArray below meth c H locs 0 0 (MQ below (rdQi (fun r => r = 1)) ([.ref q] : List Value).toArray s 0 0 noA) (F0 m 16 ls []) := by
    intro k_16
    induction k_16 with
    | zero => intro i w g h9; exact absurd h9 (Nat.not_lt_zero _)
    | succ k_16 ih_16 =>
      intro i w g hm_16 hi hw H locs hP hS ls hl
      refine lv_iload hx hb dX4_countGroups_16 (lv_at hl 4 rfl) ?_
      refine lv_aload_n hx hb dX4_countGroups_18 rfl (lv_at hl 0 rfl) ?_
      refine va_get (D := D) (ci := 4) (v := .int (nI n)) (C := RX4) (T := TX4) (N := 6) hx hb hts kX4_countGroups_0 hown hK hP 0 rfl rfl 4 (by decide) (hts (.fieldLink RX4 24 "SightRidge$Routes" "stations" "I") kX4_countGroups_1) (fun _ h9 => h9) rfl dX4_countGroups_19 ?_
      refine lv_icmp_ge (tgt := 53) hx hb dX4_countGroups_22 (by decide) (fun c_22 => ?_) (fun c_22 => ?_)
      · skip
        have c0 : n ≤ i := ge_t (by omega) c_22
        refine lv_iload_n hx hb dX4_countGroups_53 rfl (lv_at hl 3 rfl) ?_
        exact W.iret (v := nI g) hx hb hr (fun tS htS hWS => ⟨⟨nI g, (), rfl, (by rw [(hw.resolve_left (fun z => by omega)).2.2]; rfl), trivial⟩, hS.F htS⟩) hS.2.2 dX4_countGroups_54
      · skip
        have c0 : i < n := ge_f (by omega) c_22
        refine lv_iload_n hx hb dX4_countGroups_25 rfl (lv_at hl 2 rfl) ?_
        refine lv_iload hx hb dX4_countGroups_26 (lv_at hl 4 rfl) ?_
        refine rd_calli hP hS (va_runSN (As := [.int (nI w), .int (nI i)]) (rest := []) ⟨hx, hb, hml, hown, hts⟩ (c_X6_holds l D cI cB cO w i (by omega) (by omega)) ⟨va_cnB 2 hts gX4_countGroups_X6_holds_n81 rfl rfl rfl hN.2.2.2.2.2.2.2.1 (hts (.initialized RX6) kX4_countGroups_2) (by decide +kernel) ⟨Nat.le_of_ble_eq_true rfl, Nat.le_of_ble_eq_true rfl⟩, hts (.static yX6_holds) kX4_countGroups_3, trivial⟩ (rd_preS hK (hP.pick [] rfl) hN) rfl rfl hl.1 rfl (lv_room (Nat.le_of_ble_eq_true rfl)) dX4_countGroups_28 ⟨Nat.le_refl _, Nat.le_refl _⟩) (fun r_28 H locs h_28 hP hS => ?_)
        refine lv_if_ne (tgt := 47) hx hb dX4_countGroups_31 (by decide) (fun c_31 => ?_) (fun c_31 => ?_)
        · skip
          have c1 := bI_n0 (fun q => c_31 (h_28.trans q))
          have hw2 : 0 < i ∧ w = 2 ^ n - 1 ∧ g = 1 := hw.resolve_left (fun z => by rw [z.2.1, Nat.zero_testBit] at c1; cases c1)
          refine lv_iinc (v := nI (i + 1)) (lv' := [(4, .int (nI (i + 1))), (0, .ref q), (1, .int (nI (2 ^ n - 1))), (2, .int (nI w)), (3, .int (nI g))]) hx hb dX4_countGroups_47 hl (k := 4) rfl (inc1 _) (by decide) rfl (fun ls hl => ?_)
          refine lv_goto (tgt := 16) hx hb dX4_countGroups_50 (by decide) ?_
          exact ih_16 (i + 1) w g (by omega) (by omega) (Or.inr ⟨by omega, hw2.2⟩) _ _ hP hS ls (lv_sub hl [1, 2, 3, 4, 0] rfl)
        · skip
          have c1 := bI_e0 (h_28.symm.trans c_31)
          have hw2 : i = 0 ∧ w = 0 ∧ g = 0 := hw.resolve_right (fun z => by rw [z.2.1, Nat.testBit_two_pow_sub_one, decide_eq_true c0] at c1; cases c1)
          obtain ⟨e1, e2, e3⟩ := hw2
          subst e1
          subst e2
          subst e3
          refine lv_iload_n hx hb dX4_countGroups_34 rfl (lv_at hl 2 rfl) ?_
          refine lv_aload_n hx hb dX4_countGroups_35 rfl (lv_at hl 0 rfl) ?_
          refine lv_iload hx hb dX4_countGroups_36 (lv_at hl 4 rfl) ?_
          refine lv_iload_n hx hb dX4_countGroups_38 rfl (lv_at hl 1 rfl) ?_
          refine rd_calli hP hS (va_runV (As := [.int (nI 0), .int (nI (2 ^ n - 1))]) (rest := [.int (nI 0)]) ⟨hx, hb, hml, hown, hts⟩ (c_X4_reached l D cI cB cO q qt ql qp qc n rr ft fl fp fco Lk 0 (2 ^ n - 1) hn hlk hn0 (by omega)) (cwV 2 hts gX4_countGroups_X4_reached rfl rfl rfl (by decide +kernel) ⟨Nat.le_of_ble_eq_true rfl, Nat.le_of_ble_eq_true rfl⟩) (rd_preV (r := (RX4, TX4, 6)) (ci := 4) hK (hP.pick [0, 1] rfl) hN (q0 := 0) rfl rfl) rfl rfl hl.1 rfl (lv_room (Nat.le_of_ble_eq_true rfl)) dX4_countGroups_39 ⟨Nat.le_refl _, Nat.le_refl _⟩) (fun r_39 H locs h_39 hP hS => ?_)
          obtain ⟨S, hS, hS2, hS3⟩ := h_39
          subst hS
          have eS0 : S = 2 ^ n - 1 := all_bits hS2 (fun v hv => (hS3 v hv).mpr (Rch_row hrow (fun k hk => by show (2 ^ n - 1).testBit k = true; rw [Nat.testBit_two_pow_sub_one]; exact decide_eq_true hk) v hv))
          refine lv_ior hx hb dX4_countGroups_42 ?_
          refine lv_topi (fun y_5 e_6 => ?_)
          have e_6 : nI (0 ||| S) = y_5 := (e_6.trans (fa_or _ _)).symm
          subst e_6
          have eS : 0 ||| S = 2 ^ n - 1 := by rw [Nat.zero_or]; exact eS0
          refine lv_istore_n (lv' := [(2, .int (nI (0 ||| S))), (0, .ref q), (1, .int (nI (2 ^ n - 1))), (3, .int (nI 0)), (4, .int (nI 0))]) hx hb dX4_countGroups_43 rfl hl (by decide) rfl (fun ls hl => ?_)
          refine lv_iinc (v := nI (0 + 1)) (lv' := [(3, .int (nI (0 + 1))), (2, .int (nI (0 ||| S))), (0, .ref q), (1, .int (nI (2 ^ n - 1))), (4, .int (nI 0))]) hx hb dX4_countGroups_44 hl (k := 3) rfl (inc1 _) (by decide) rfl (fun ls hl => ?_)
          refine lv_iinc (v := nI (0 + 1)) (lv' := [(4, .int (nI (0 + 1))), (3, .int (nI (0 + 1))), (2, .int (nI (0 ||| S))), (0, .ref q), (1, .int (nI (2 ^ n - 1)))]) hx hb dX4_countGroups_47 hl (k := 4) rfl (inc1 _) (by decide) rfl (fun ls hl => ?_)
          refine lv_goto (tgt := 16) hx hb dX4_countGroups_50 (by decide) ?_
          exact ih_16 (0 + 1) (0 ||| S) (0 + 1) (by omega) (by omega) (Or.inr ⟨by omega, eS, rfl⟩) _ _ hP hS ls (lv_sub hl [3, 4, 2, 1, 0] rfl)
  exact L_16 _ 0 0 0 (Nat.lt_succ_self _) (by omega) (Or.inl ⟨rfl, rfl, rfl⟩) _ _ hP hS ls (lv_sub hl [4, 3, 2, 1, 0] rfl)
