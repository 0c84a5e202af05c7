/-! the bits of a number, counted -/
theorem bs_or (P Q : Nat → Bool) (n : Nat) : bs P n ||| bs Q n = bs (fun t => P t || Q t) n := by
  apply Nat.eq_of_testBit_eq
  intro k
  rw [Nat.testBit_or, bs_bit, bs_bit, bs_bit]
  cases decide (k < n) <;> rfl
theorem bc_ush {k j : Nat} (hk : k < 2 ^ 31) (hj : j < 32) : ((nI k).toUInt32 >>> ((nI j).toUInt32 &&& Int32.toUInt32 31)).toInt32 = nI (k >>> j) := by
  have hs : k >>> j ≤ k := by
    rw [Nat.shiftRight_eq_div_pow]
    exact Nat.div_le_self _ _
  have e2 : UInt32.ofNat k >>> (UInt32.ofNat j &&& Int32.toUInt32 31) = UInt32.ofNat (k >>> j) := by
    apply UInt32.toNat_inj.1
    have h1 : (UInt32.ofNat k).toNat = k := Nat.mod_eq_of_lt (by omega)
    have h2 : (UInt32.ofNat (k >>> j)).toNat = k >>> j := Nat.mod_eq_of_lt (by omega)
    rw [UInt32.toNat_shiftRight, nx_cnt ⟨j, hj⟩, h1, h2]
  show (UInt32.ofNat k >>> (UInt32.ofNat j &&& Int32.toUInt32 31)).toInt32 = _
  rw [e2]
  rfl
theorem bc_and {a b c d : Nat} (ha : a < 16) (hc : c < 16) : (16 * b + a) &&& (16 * d + c) = 16 * (b &&& d) + (a &&& c) := by
  apply Nat.eq_of_testBit_eq
  intro k
  have hac : a &&& c < 2 ^ 4 := Nat.lt_of_le_of_lt Nat.and_le_left (by omega)
  rw [Nat.testBit_and, show (16 : Nat) = 2 ^ 4 from rfl, Nat.testBit_two_pow_mul_add b (by omega) k, Nat.testBit_two_pow_mul_add d (by omega) k, Nat.testBit_two_pow_mul_add _ hac k]
  by_cases h : k < 4
  · rw [if_pos h, if_pos h, if_pos h, Nat.testBit_and]
  · rw [if_neg h, if_neg h, if_neg h, Nat.testBit_and]
theorem bc_f1 : ∀ e, e < 16 → ∀ q, q < 2 → (8 * q + e / 2) &&& 5 = (e / 2) &&& 5 := by decide +kernel
theorem bc_f2 : ∀ e, e < 16 → ∀ q, q < 4 → (4 * q + e / 4) &&& 3 = (e / 4) &&& 3 := by decide +kernel
/-- step one of a nibble, step two -/
def bcD (e : Nat) : Nat := e - ((e / 2) &&& 5)
def bcE (d : Nat) : Nat := (d &&& 3) + ((d / 4) &&& 3)
theorem bc_D : ∀ e, e < 16 → bcD e < 16 ∧ (e / 2) &&& 5 ≤ e ∧ bcE (bcD e) ≤ 4 ∧ bcE (bcD e) = fb_ct (fun t => e.testBit t) 4 := by decide +kernel
theorem bc_1 {e Y m : Nat} (he : e < 16) : ((16 * Y + e) >>> 1) &&& (16 * m + 5) = 16 * ((Y >>> 1) &&& m) + ((e / 2) &&& 5) := by
  rw [Nat.shiftRight_eq_div_pow, Nat.shiftRight_eq_div_pow, show (16 * Y + e) / 2 ^ 1 = 16 * (Y / 2 ^ 1) + (8 * (Y % 2) + e / 2) by omega, bc_and (by omega) (by decide), bc_f1 e he _ (Nat.mod_lt _ (by decide))]
theorem bc_2 {e Y m : Nat} (he : e < 16) : ((16 * Y + e) >>> 2) &&& (16 * m + 3) = 16 * ((Y >>> 2) &&& m) + ((e / 4) &&& 3) := by
  rw [Nat.shiftRight_eq_div_pow, Nat.shiftRight_eq_div_pow, show (16 * Y + e) / 2 ^ 2 = 16 * (Y / 2 ^ 2) + (4 * (Y % 4) + e / 4) by omega, bc_and (by omega) (by decide), bc_f2 e he _ (Nat.mod_lt _ (by decide))]
theorem bc_s1 {e Y m Z : Nat} (he : e < 16) (hle : (Y >>> 1) &&& m ≤ Y) (h : Y - ((Y >>> 1) &&& m) = Z) : ((16 * Y + e) >>> 1) &&& (16 * m + 5) ≤ 16 * Y + e ∧ (16 * Y + e) - (((16 * Y + e) >>> 1) &&& (16 * m + 5)) = 16 * Z + bcD e := by
  have h1 := (bc_D e he).2.1
  rw [bc_1 he]
  unfold bcD
  omega
theorem bc_s2 {e Y m Z : Nat} (he : e < 16) (h : (Y &&& m) + ((Y >>> 2) &&& m) = Z) : ((16 * Y + e) &&& (16 * m + 3)) + (((16 * Y + e) >>> 2) &&& (16 * m + 3)) = 16 * Z + bcE e := by
  rw [bc_2 he, bc_and he (by decide)]
  unfold bcE
  omega
theorem bc_pop {e Y n : Nat} (he : e < 16) : fb_ct (fun t => (16 * Y + e).testBit t) (4 + n) = bcE (bcD e) + fb_ct (fun t => Y.testBit t) n := by
  rw [fb_ct_split, (bc_D e he).2.2.2]
  refine congr (congrArg _ (fb_ct_cong (fun k hk => ?_))) (fb_ct_cong (fun k _ => ?_))
  · show (16 * Y + e).testBit k = _
    rw [show (16 : Nat) = 2 ^ 4 from rfl, Nat.testBit_two_pow_mul_add Y (by omega) k, if_pos hk]
  · show (16 * Y + e).testBit (4 + k) = _
    rw [show (16 : Nat) = 2 ^ 4 from rfl, Nat.testBit_two_pow_mul_add Y (by omega) (4 + k), if_neg (by omega), Nat.add_sub_cancel_left]
/-- the five steps, as natural numbers -/
def bc1 (x : Nat) : Nat := x - ((x >>> 1) &&& 1431655765)
def bc2 (x : Nat) : Nat := (x &&& 858993459) + ((x >>> 2) &&& 858993459)
def bc3 (x : Nat) : Nat := (x + (x >>> 4)) &&& 252645135
theorem bc_fin {q0 q1 q2 q3 q4 w : Nat} (h0 : q0 ≤ 4) (h1 : q1 ≤ 4) (h2 : q2 ≤ 4) (h3 : q3 ≤ 4) (h4 : q4 ≤ 4) (hw : w = 16 * (16 * (16 * (16 * q4 + 0) + (q2 + q3)) + 0) + (q0 + q1)) : ((w + w / 2 ^ 8) + (w + w / 2 ^ 8) / 2 ^ 16) % 2 ^ 6 = q0 + (q1 + (q2 + (q3 + (q4 + 0)))) := by
  have e1 : w / 2 ^ 8 = (q2 + q3) + 256 * q4 := by omega
  have e2 : (w + w / 2 ^ 8) / 2 ^ 16 = q4 := by rw [e1]; omega
  rw [e2, e1]; omega
theorem bc_all {X : Nat} (hX : X < 2 ^ 20) : (X >>> 1) &&& 1431655765 ≤ X ∧ bc1 X < 2 ^ 20 ∧ bc2 (bc1 X) < 2 ^ 20 ∧ bc3 (bc2 (bc1 X)) < 2 ^ 20 ∧ (bc3 (bc2 (bc1 X)) + (bc3 (bc2 (bc1 X))) >>> 8) < 2 ^ 21 ∧ ((bc3 (bc2 (bc1 X)) + (bc3 (bc2 (bc1 X))) >>> 8) + (bc3 (bc2 (bc1 X)) + (bc3 (bc2 (bc1 X))) >>> 8) >>> 16) &&& 63 = fb_ct (fun t => X.testBit t) 20 := by
  obtain ⟨e0, Y0, h0, rfl⟩ : ∃ e Y, e < 16 ∧ X = 16 * Y + e := ⟨X % 16, X / 16, Nat.mod_lt _ (by decide), by omega⟩
  obtain ⟨e1, Y1, h1, rfl⟩ : ∃ e Y, e < 16 ∧ Y0 = 16 * Y + e := ⟨Y0 % 16, Y0 / 16, Nat.mod_lt _ (by decide), by omega⟩
  obtain ⟨e2, Y2, h2, rfl⟩ : ∃ e Y, e < 16 ∧ Y1 = 16 * Y + e := ⟨Y1 % 16, Y1 / 16, Nat.mod_lt _ (by decide), by omega⟩
  obtain ⟨e3, Y3, h3, rfl⟩ : ∃ e Y, e < 16 ∧ Y2 = 16 * Y + e := ⟨Y2 % 16, Y2 / 16, Nat.mod_lt _ (by decide), by omega⟩
  obtain ⟨e4, Y4, h4, rfl⟩ : ∃ e Y, e < 16 ∧ Y3 = 16 * Y + e := ⟨Y3 % 16, Y3 / 16, Nat.mod_lt _ (by decide), by omega⟩
  have hY : Y4 = 0 := by omega
  subst hY
  obtain ⟨a0, a1⟩ := bc_s1 (m := 1365) h4 (show (0 >>> 1) &&& 1365 ≤ 0 by decide) (show 0 - ((0 >>> 1) &&& 1365) = 0 by decide)
  obtain ⟨b0, b1⟩ := bc_s1 (m := 21845) h3 a0 a1
  obtain ⟨c0, c1⟩ := bc_s1 (m := 349525) h2 b0 b1
  obtain ⟨d0, d1⟩ := bc_s1 (m := 5592405) h1 c0 c1
  obtain ⟨f0, f1⟩ := bc_s1 (m := 89478485) h0 d0 d1
  obtain ⟨g4, -, g4b, -⟩ := bc_D e4 h4
  obtain ⟨g3, -, g3b, -⟩ := bc_D e3 h3
  obtain ⟨g2, -, g2b, -⟩ := bc_D e2 h2
  obtain ⟨g1, -, g1b, -⟩ := bc_D e1 h1
  obtain ⟨g0, -, g0b, -⟩ := bc_D e0 h0
  have i4 := bc_s2 (m := 819) (Z := 0) g4 (show (0 &&& 819) + ((0 >>> 2) &&& 819) = 0 by decide)
  have i3 := bc_s2 (m := 13107) g3 i4
  have i2 := bc_s2 (m := 209715) g2 i3
  have i1 := bc_s2 (m := 3355443) g1 i2
  have i0 := bc_s2 (m := 53687091) g0 i1
  have hp0 := bc_pop (Y := 16 * (16 * (16 * (16 * 0 + e4) + e3) + e2) + e1) (n := 16) h0
  have hp1 := bc_pop (Y := 16 * (16 * (16 * 0 + e4) + e3) + e2) (n := 12) h1
  have hp2 := bc_pop (Y := 16 * (16 * 0 + e4) + e3) (n := 8) h2
  have hp3 := bc_pop (Y := 16 * 0 + e4) (n := 4) h3
  have hp4 := bc_pop (Y := 0) (n := 0) h4
  obtain ⟨q0, hq0⟩ : ∃ q, bcE (bcD e0) = q := ⟨_, rfl⟩
  obtain ⟨q1, hq1⟩ : ∃ q, bcE (bcD e1) = q := ⟨_, rfl⟩
  obtain ⟨q2, hq2⟩ : ∃ q, bcE (bcD e2) = q := ⟨_, rfl⟩
  obtain ⟨q3, hq3⟩ : ∃ q, bcE (bcD e3) = q := ⟨_, rfl⟩
  obtain ⟨q4, hq4⟩ : ∃ q, bcE (bcD e4) = q := ⟨_, rfl⟩
  rw [hq0, hq1, hq2, hq3, hq4] at i0
  rw [hq0] at hp0 g0b
  rw [hq1] at hp1 g1b
  rw [hq2] at hp2 g2b
  rw [hq3] at hp3 g3b
  rw [hq4] at hp4 g4b
  have hpop : fb_ct (fun t => (16 * (16 * (16 * (16 * (16 * 0 + e4) + e3) + e2) + e1) + e0).testBit t) 20 = q0 + (q1 + (q2 + (q3 + (q4 + 0)))) := hp0.trans (congrArg (fun z => q0 + z) (hp1.trans (congrArg (fun z => q1 + z) (hp2.trans (congrArg (fun z => q2 + z) (hp3.trans (congrArg (fun z => q3 + z) hp4)))))))
  have j1 : bc1 (16 * (16 * (16 * (16 * (16 * 0 + e4) + e3) + e2) + e1) + e0) = 16 * (16 * (16 * (16 * (16 * 0 + bcD e4) + bcD e3) + bcD e2) + bcD e1) + bcD e0 := f1
  have j2 : bc2 (16 * (16 * (16 * (16 * (16 * 0 + bcD e4) + bcD e3) + bcD e2) + bcD e1) + bcD e0) = 16 * (16 * (16 * (16 * (16 * 0 + q4) + q3) + q2) + q1) + q0 := i0
  have j3 : bc3 (16 * (16 * (16 * (16 * (16 * 0 + q4) + q3) + q2) + q1) + q0) = 16 * (16 * (16 * (16 * q4 + 0) + (q2 + q3)) + 0) + (q0 + q1) := by
    unfold bc3
    rw [Nat.shiftRight_eq_div_pow, show (16 * (16 * (16 * (16 * (16 * 0 + q4) + q3) + q2) + q1) + q0) + (16 * (16 * (16 * (16 * (16 * 0 + q4) + q3) + q2) + q1) + q0) / 2 ^ 4 = 16 * (16 * (16 * (16 * q4 + (q3 + q4)) + (q2 + q3)) + (q1 + q2)) + (q0 + q1) by omega,
      show (252645135 : Nat) = 16 * (16 * (16 * (16 * 3855 + 0) + 15) + 0) + 15 by decide, bc_and (by omega) (by decide), bc_and (by omega) (by decide), bc_and (by omega) (by decide), bc_and (by omega) (by decide)]
    have k15 : ∀ x, x < 16 → x &&& 15 = x := by decide
    have k0 : ∀ x, x < 16 → x &&& 0 = 0 := by decide
    have k4 : ∀ x, x < 16 → x &&& 3855 = x := by decide
    rw [k15 _ (show q0 + q1 < 16 by omega), k15 _ (show q2 + q3 < 16 by omega), k0 _ (show q1 + q2 < 16 by omega), k0 _ (show q3 + q4 < 16 by omega), k4 _ (show q4 < 16 by omega)]
  rw [j1, j2, j3]
  refine ⟨f0, by omega, by omega, by omega, ?_, ?_⟩
  · rw [Nat.shiftRight_eq_div_pow]; omega
  · rw [Nat.shiftRight_eq_div_pow, Nat.shiftRight_eq_div_pow, show (63 : Nat) = 2 ^ 6 - 1 from rfl, Nat.and_two_pow_sub_one_eq_mod]
    rw [hpop]
    exact bc_fin g0b g1b g2b g3b g4b rfl
theorem lv_ldc_w {p : Program} {l : Launch} {e : Env} {R : Room} {s : State} {m : MethodId} {args : Array Value} {below : List Frame} {meth : Method} {c : Code} {H : Heap} {locs : List Loc} {cells slots : Nat} {Q : State → Prop} {cc : ByteArray} {pc : Nat} {ls : Array Slot} {rest : List Value} (hexec : p.tables.exec = Jvm.exec) (hb : c.code = cc) {own : String} {index : Nat} {v : Int32} (hown : s.vm.findClass own = some m.cls) (hconst : (Jvm.Cond.constant own index v).before args s = true) (hdg : decode cc pc = .ok (.ldc_w index, 3)) (k : W p l e R s m args below meth c H locs cells slots Q (F0 m (pc + 3) ls (.int v :: rest))) : W p l e R s m args below meth c H locs cells slots Q (F0 m pc ls rest) := by
  intro T hT X
  obtain ⟨t, a, b⟩ := k T hT X
  exact ⟨t, Jvm.Stand.ldcWI X hexec hown hconst (g := F0 m pc ls rest) rfl (by rw [hb]; exact hdg) a, b⟩
theorem kJ6_bitCount_0f7a4_0 : (.constant RJ6 265 (1431655765) : Cond) ∈ wsJ6_bitCount_0f7a4 := by decide +kernel
theorem kJ6_bitCount_0f7a4_1 : (.constant RJ6 266 (858993459) : Cond) ∈ wsJ6_bitCount_0f7a4 := by decide +kernel
theorem kJ6_bitCount_0f7a4_2 : (.constant RJ6 267 (252645135) : Cond) ∈ wsJ6_bitCount_0f7a4 := by decide +kernel
set_option maxHeartbeats 4000000 in
set_option maxRecDepth 100000 in
/-- the JDK counts bits -/
theorem c_J6_bitCount_0f7a4 (l : Launch) (D : va_G) (cI cB cO : ClassId) (X : Nat) (hX : X < 2 ^ 20) : Met l yJ6_bitCount_0f7a4 wsJ6_bitCount_0f7a4 (rmD 0) (rdPc D (tyL cI cB cO) [.int (nI X)] []) (rdQi (fun r => r = nI (fb_ct (fun t => X.testBit t) 20))) 0 0 noA := by
  refine Met.ofW (cc := cJ6_bitCount_0f7a4) (maxL := 1) (ret := (some .int)) (by decide) rfl ?_
  intro p e s m args below meth c s₁ B hml hv
  obtain ⟨rfl, hP, hK, hN⟩ := hv
  have hx := B.exec
  have hb := B.bytes
  have hr := B.returns
  have hts := atoms_spec (ws := wsJ6_bitCount_0f7a4) B.pre
  have hown : s.vm.findClass RJ6 = some m.cls := findClass_of_methodNamed B.named
  have hlocks := B.notSynchronized
  have hS : va_S noA s.heap s.heap [] := va_S.rf
  have hl := lv_entry ([.int (nI X)]) (n := 1) (Nat.le_of_ble_eq_true rfl)
  rw [lg_entry_eq]
  generalize (lg_sl ([.int (nI X)]) ++ List.replicate (1 - (lg_sl ([.int (nI X)])).length) Slot.unset).toArray = ls at hl ⊢
  have hl : lv_has ls 1 [(0, .int (nI X))] := hl
  obtain ⟨b1, b2, b3, b4, b5, b6⟩ := bc_all hX
  refine lv_iload_n hx hb dJ6_bitCount_0f7a4_0 rfl (lv_at hl 0 rfl) ?_
  refine lv_iload_n hx hb dJ6_bitCount_0f7a4_1 rfl (lv_at hl 0 rfl) ?_
  refine lv_iconst (v := 1) hx hb dJ6_bitCount_0f7a4_2 (by decide) ?_
  refine lv_iushr (v := ((nI X).toUInt32 >>> ((1 : Int32).toUInt32 &&& Int32.toUInt32 31)).toInt32) hx hb dJ6_bitCount_0f7a4_3 rfl ?_
  refine lv_topi (fun y_1 e_2 => ?_)
  have e_2 : nI (X >>> 1) = y_1 := (e_2.trans (bc_ush (by omega) (by decide))).symm
  subst e_2
  refine lv_ldc_w (v := 1431655765) hx hb hown (hts (.constant RJ6 265 (1431655765)) kJ6_bitCount_0f7a4_0) dJ6_bitCount_0f7a4_4 ?_
  refine lv_iand hx hb dJ6_bitCount_0f7a4_7 ?_
  refine lv_topi (fun y_3 e_4 => ?_)
  have e_4 : nI ((X >>> 1) &&& 1431655765) = y_3 := (e_4.trans (nx_and _ _)).symm
  subst e_4
  refine lv_isub hx hb dJ6_bitCount_0f7a4_8 ?_
  refine lv_topi (fun y_5 e_6 => ?_)
  have e_6 : nI (bc1 X) = y_5 := (e_6.trans (pk_sub b1)).symm
  subst e_6
  refine lv_istore_n (lv' := [(0, .int (nI (bc1 X)))]) hx hb dJ6_bitCount_0f7a4_9 rfl hl (by decide) rfl (fun ls hl => ?_)
  refine lv_iload_n hx hb dJ6_bitCount_0f7a4_10 rfl (lv_at hl 0 rfl) ?_
  refine lv_ldc_w (v := 858993459) hx hb hown (hts (.constant RJ6 266 (858993459)) kJ6_bitCount_0f7a4_1) dJ6_bitCount_0f7a4_11 ?_
  refine lv_iand hx hb dJ6_bitCount_0f7a4_14 ?_
  refine lv_topi (fun y_7 e_8 => ?_)
  have e_8 : nI (bc1 X &&& 858993459) = y_7 := (e_8.trans (nx_and _ _)).symm
  subst e_8
  refine lv_iload_n hx hb dJ6_bitCount_0f7a4_15 rfl (lv_at hl 0 rfl) ?_
  refine lv_iconst (v := 2) hx hb dJ6_bitCount_0f7a4_16 (by decide) ?_
  refine lv_iushr (v := ((nI (bc1 X)).toUInt32 >>> ((2 : Int32).toUInt32 &&& Int32.toUInt32 31)).toInt32) hx hb dJ6_bitCount_0f7a4_17 rfl ?_
  refine lv_topi (fun y_9 e_10 => ?_)
  have e_10 : nI (bc1 X >>> 2) = y_9 := (e_10.trans (bc_ush (by omega) (by decide))).symm
  subst e_10
  refine lv_ldc_w (v := 858993459) hx hb hown (hts (.constant RJ6 266 (858993459)) kJ6_bitCount_0f7a4_1) dJ6_bitCount_0f7a4_18 ?_
  refine lv_iand hx hb dJ6_bitCount_0f7a4_21 ?_
  refine lv_topi (fun y_11 e_12 => ?_)
  have e_12 : nI ((bc1 X >>> 2) &&& 858993459) = y_11 := (e_12.trans (nx_and _ _)).symm
  subst e_12
  refine lv_iadd hx hb dJ6_bitCount_0f7a4_22 ?_
  refine lv_topi (fun y_13 e_14 => ?_)
  have e_14 : nI ((bc1 X &&& 858993459) + ((bc1 X >>> 2) &&& 858993459)) = y_13 := (e_14.trans (nI_add (bc1 X &&& 858993459) ((bc1 X >>> 2) &&& 858993459))).symm
  subst e_14
  refine lv_topi (fun y_15 e_16 => ?_)
  have e_16 : nI (bc2 (bc1 X)) = y_15 := (e_16.trans (rfl)).symm
  subst e_16
  refine lv_istore_n (lv' := [(0, .int (nI (bc2 (bc1 X))))]) hx hb dJ6_bitCount_0f7a4_23 rfl hl (by decide) rfl (fun ls hl => ?_)
  refine lv_iload_n hx hb dJ6_bitCount_0f7a4_24 rfl (lv_at hl 0 rfl) ?_
  refine lv_iload_n hx hb dJ6_bitCount_0f7a4_25 rfl (lv_at hl 0 rfl) ?_
  refine lv_iconst (v := 4) hx hb dJ6_bitCount_0f7a4_26 (by decide) ?_
  refine lv_iushr (v := ((nI (bc2 (bc1 X))).toUInt32 >>> ((4 : Int32).toUInt32 &&& Int32.toUInt32 31)).toInt32) hx hb dJ6_bitCount_0f7a4_27 rfl ?_
  refine lv_topi (fun y_17 e_18 => ?_)
  have e_18 : nI (bc2 (bc1 X) >>> 4) = y_17 := (e_18.trans (bc_ush (by omega) (by decide))).symm
  subst e_18
  refine lv_iadd hx hb dJ6_bitCount_0f7a4_28 ?_
  refine lv_topi (fun y_19 e_20 => ?_)
  have e_20 : nI ((bc2 (bc1 X)) + (bc2 (bc1 X) >>> 4)) = y_19 := (e_20.trans (nI_add (bc2 (bc1 X)) (bc2 (bc1 X) >>> 4))).symm
  subst e_20
  refine lv_ldc_w (v := 252645135) hx hb hown (hts (.constant RJ6 267 (252645135)) kJ6_bitCount_0f7a4_2) dJ6_bitCount_0f7a4_29 ?_
  refine lv_iand hx hb dJ6_bitCount_0f7a4_32 ?_
  refine lv_topi (fun y_21 e_22 => ?_)
  have e_22 : nI (bc3 (bc2 (bc1 X))) = y_21 := (e_22.trans (nx_and _ _)).symm
  subst e_22
  refine lv_istore_n (lv' := [(0, .int (nI (bc3 (bc2 (bc1 X)))))]) hx hb dJ6_bitCount_0f7a4_33 rfl hl (by decide) rfl (fun ls hl => ?_)
  refine lv_iload_n hx hb dJ6_bitCount_0f7a4_34 rfl (lv_at hl 0 rfl) ?_
  refine lv_iload_n hx hb dJ6_bitCount_0f7a4_35 rfl (lv_at hl 0 rfl) ?_
  refine lv_bipush (v := 8) hx hb dJ6_bitCount_0f7a4_36 (by decide) ?_
  refine lv_iushr (v := ((nI (bc3 (bc2 (bc1 X)))).toUInt32 >>> ((8 : Int32).toUInt32 &&& Int32.toUInt32 31)).toInt32) hx hb dJ6_bitCount_0f7a4_38 rfl ?_
  refine lv_topi (fun y_23 e_24 => ?_)
  have e_24 : nI (bc3 (bc2 (bc1 X)) >>> 8) = y_23 := (e_24.trans (bc_ush (by omega) (by decide))).symm
  subst e_24
  refine lv_iadd hx hb dJ6_bitCount_0f7a4_39 ?_
  refine lv_topi (fun y_25 e_26 => ?_)
  have e_26 : nI ((bc3 (bc2 (bc1 X))) + (bc3 (bc2 (bc1 X)) >>> 8)) = y_25 := (e_26.trans (nI_add (bc3 (bc2 (bc1 X))) (bc3 (bc2 (bc1 X)) >>> 8))).symm
  subst e_26
  refine lv_istore_n (lv' := [(0, .int (nI ((bc3 (bc2 (bc1 X))) + (bc3 (bc2 (bc1 X)) >>> 8))))]) hx hb dJ6_bitCount_0f7a4_40 rfl hl (by decide) rfl (fun ls hl => ?_)
  refine lv_iload_n hx hb dJ6_bitCount_0f7a4_41 rfl (lv_at hl 0 rfl) ?_
  refine lv_iload_n hx hb dJ6_bitCount_0f7a4_42 rfl (lv_at hl 0 rfl) ?_
  refine lv_bipush (v := 16) hx hb dJ6_bitCount_0f7a4_43 (by decide) ?_
  refine lv_iushr (v := ((nI ((bc3 (bc2 (bc1 X))) + (bc3 (bc2 (bc1 X)) >>> 8))).toUInt32 >>> ((16 : Int32).toUInt32 &&& Int32.toUInt32 31)).toInt32) hx hb dJ6_bitCount_0f7a4_45 rfl ?_
  refine lv_topi (fun y_27 e_28 => ?_)
  have e_28 : nI ((bc3 (bc2 (bc1 X)) + bc3 (bc2 (bc1 X)) >>> 8) >>> 16) = y_27 := (e_28.trans (bc_ush (by omega) (by decide))).symm
  subst e_28
  refine lv_iadd hx hb dJ6_bitCount_0f7a4_46 ?_
  refine lv_topi (fun y_29 e_30 => ?_)
  have e_30 : nI (((bc3 (bc2 (bc1 X))) + (bc3 (bc2 (bc1 X)) >>> 8)) + ((bc3 (bc2 (bc1 X)) + bc3 (bc2 (bc1 X)) >>> 8) >>> 16)) = y_29 := (e_30.trans (nI_add ((bc3 (bc2 (bc1 X))) + (bc3 (bc2 (bc1 X)) >>> 8)) ((bc3 (bc2 (bc1 X)) + bc3 (bc2 (bc1 X)) >>> 8) >>> 16))).symm
  subst e_30
  refine lv_istore_n (lv' := [(0, .int (nI (((bc3 (bc2 (bc1 X))) + (bc3 (bc2 (bc1 X)) >>> 8)) + ((bc3 (bc2 (bc1 X)) + bc3 (bc2 (bc1 X)) >>> 8) >>> 16))))]) hx hb dJ6_bitCount_0f7a4_47 rfl hl (by decide) rfl (fun ls hl => ?_)
  refine lv_iload_n hx hb dJ6_bitCount_0f7a4_48 rfl (lv_at hl 0 rfl) ?_
  refine lv_bipush (v := 63) hx hb dJ6_bitCount_0f7a4_49 (by decide) ?_
  refine lv_iand hx hb dJ6_bitCount_0f7a4_51 ?_
  refine lv_topi (fun y_31 e_32 => ?_)
  have e_32 : nI (((bc3 (bc2 (bc1 X)) + bc3 (bc2 (bc1 X)) >>> 8) + (bc3 (bc2 (bc1 X)) + bc3 (bc2 (bc1 X)) >>> 8) >>> 16) &&& 63) = y_31 := (e_32.trans (nx_and _ _)).symm
  subst e_32
  exact W.iret (v := nI (((bc3 (bc2 (bc1 X)) + bc3 (bc2 (bc1 X)) >>> 8) + (bc3 (bc2 (bc1 X)) + bc3 (bc2 (bc1 X)) >>> 8) >>> 16) &&& 63)) hx hb hr (fun tS htS hWS => ⟨⟨nI (((bc3 (bc2 (bc1 X)) + bc3 (bc2 (bc1 X)) >>> 8) + (bc3 (bc2 (bc1 X)) + bc3 (bc2 (bc1 X)) >>> 8) >>> 16) &&& 63), (), rfl, congrArg nI b6, trivial⟩, hS.F htS⟩) hS.2.2 dJ6_bitCount_0f7a4_52
