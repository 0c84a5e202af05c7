/-! Finding and Text -/
/-- an int that may be NONE: 0 is NONE -/
def FZ (k : Nat) : Int32 := nI k - 1
theorem FZ_0 : FZ 0 = -1 := rfl
theorem FZ_s (k : Nat) : FZ (k + 1) = nI k := nI_pred k
theorem FZ_eq {k : Nat} (h : k < 2 ^ 30) : FZ k = -1 ↔ k = 0 := by
  cases k with
  | zero => exact ⟨fun _ => rfl, fun _ => rfl⟩
  | succ k =>
    rw [FZ_s]
    constructor
    · intro q
      have h2 := congrArg Int32.toInt q
      rw [nI_toInt (by omega)] at h2
      have h3 : (-1 : Int32).toInt = -1 := rfl
      omega
    · intro q; cases q
def nthB (P : Nat → Bool) (N j : Nat) : Nat := fa_first (fun k => P k && decide (fb_ct P k = j)) N
theorem nthB_eq {P : Nat → Bool} {N k : Nat} (h : k < N) (hp : P k = true) : nthB P N (fb_ct P k) = k := by
  refine fa_first_eq (fun j hj => ?_) (by rw [hp, decide_eq_true rfl]; rfl) h
  by_cases q : P j = true ∧ fb_ct P j = fb_ct P k
  · have := fb_ct_kth_one q.1 hp q.2
    omega
  · cases hq : P j with
    | false => rfl
    | true => rw [decide_eq_false (fun z => q ⟨hq, z⟩)]; rfl
theorem ks_T {x i : Nat} {u : Nat → Int32} (hu : ∀ z, z < i → x.testBit z = true → u (fb_ct (fun z => x.testBit z) z) = nI z) (c1 : x.testBit i = true) : ∀ z, z < i + 1 → x.testBit z = true → upd u (fb_ct (fun z => x.testBit z) i) (nI i) (fb_ct (fun z => x.testBit z) z) = nI z := by
  intro z hz hz2
  rcases Nat.lt_succ_iff_lt_or_eq.mp hz with q9 | q9
  · exact (pk_un (fun z9 => by have := fb_ct_kth_one (p := fun z => x.testBit z) hz2 c1 z9; omega)).trans (hu z q9 hz2)
  · rw [q9]; exact pk_us
theorem ks_F {x i : Nat} {u : Nat → Int32} (hu : ∀ z, z < i → x.testBit z = true → u (fb_ct (fun z => x.testBit z) z) = nI z) (c1 : x.testBit i = false) : ∀ z, z < i + 1 → x.testBit z = true → u (fb_ct (fun z => x.testBit z) z) = nI z := by
  intro z hz hz2
  rcases Nat.lt_succ_iff_lt_or_eq.mp hz with q9 | q9
  · exact hu z q9 hz2
  · rw [q9, c1] at hz2; exact absurd hz2 Bool.false_ne_true
theorem kX1_clear_0 : ∀ w ∈ wsX10, w ∈ wsX1_clear := by decide +kernel
theorem kX1_clear_1 : (.fieldLink RX1 15 "SightRidge$Finding" "size" "I" : Cond) ∈ wsX1_clear := by decide +kernel
set_option maxHeartbeats 4000000 in
set_option maxRecDepth 100000 in
/-- clear() -/
theorem c_X1_clear (l : Launch) (D : va_G) (cI cB cO : ClassId) (q fq : Nat) (ff : Nat → Int32) (sz : Int32) : Met l yX1_clear wsX1_clear (rmD 1) (wrPc D (tyL cI cB cO) [.ref q] [(q, .inr (1, [.ref fq, .int sz])), (fq, .inl (cI, 20, .inl ff))]) (wrQv D [(q, .inr (1, [.ref fq, .int sz])), (fq, .inl (cI, 20, .inl ff))] (fun (u : Unit) => True) (fun (u : Unit) => [(q, .inr (1, [.ref fq, .int 0])), (fq, .inl (cI, 20, .inl ff))])) 0 0 (inW [(q, .inr (1, [.ref fq, .int sz])), (fq, .inl (cI, 20, .inl ff))]) := by
  refine Met.ofW (cc := cX1_clear) (maxL := 1) (ret := none) (by decide) rfl ?_
  intro p e s m args below meth c s₁ B hml hv
  obtain ⟨rfl, hP, hK, hN, hD⟩ := hv
  have hx := B.exec
  have hb := B.bytes
  have hr := B.returns
  have hts := atoms_spec (ws := wsX1_clear) B.pre
  have hown : s.vm.findClass RX1 = some m.cls := findClass_of_methodNamed B.named
  have hlocks := B.notSynchronized
  have hS : va_S (inW [(q, .inr (1, [.ref fq, .int sz])), (fq, .inl (cI, 20, .inl ff))]) s.heap s.heap [] := va_S.rf
  have hD : va_D (inW [(q, .inr (1, [.ref fq, .int sz])), (fq, .inl (cI, 20, .inl ff))]) [(q, .inr (1, [.ref fq, .int sz])), (fq, .inl (cI, 20, .inl ff))] := inW_self hD
  have hl := lv_entry ([.ref q]) (n := 1) (Nat.le_of_ble_eq_true rfl)
  rw [lg_entry_eq]
  generalize (lg_sl ([.ref q]) ++ List.replicate (1 - (lg_sl ([.ref q])).length) Slot.unset).toArray = ls at hl ⊢
  have hl : lv_has ls 1 [(0, .ref q)] := hl
  refine lv_aload_n hx hb dX1_clear_0 rfl (lv_at hl 0 rfl) ?_
  refine lv_iconst (v := 0) hx hb dX1_clear_1 (by decide) ?_
  refine va_put (D := D) (ci := 1) (v := .int 0) (ty := .int) (C := RX1) (T := TX1) (N := 2) hx hb hts kX1_clear_0 tyX1 tyX1_ok nmX1 hown hK hP hD hS 0 rfl rfl 1 (by decide) (hts (.fieldLink RX1 15 "SightRidge$Finding" "size" "I") kX1_clear_1) (fun _ h9 => h9) rfl (by decide +kernel) rfl rfl (Nat.le_of_ble_eq_true rfl) dX1_clear_2 (fun H locs hP hD hS => ?_)
  have hP : va_P D vwCl [(q, .inr (1, [.ref fq, .int 0])), (fq, .inl (cI, 20, .inl ff))] _ := hP
  have hD : va_D (inW [(q, .inr (1, [.ref fq, .int sz])), (fq, .inl (cI, 20, .inl ff))]) [(q, .inr (1, [.ref fq, .int 0])), (fq, .inl (cI, 20, .inl ff))] := hD
  exact W.vret hx hb hr (fun tS htS hWS => ⟨⟨(), rfl, trivial, retP htS hP⟩, hS.F htS⟩) hS.2.2 dX1_clear_5
theorem kX1_append_0 : ∀ w ∈ wsX10, w ∈ wsX1_append := by decide +kernel
theorem kX1_append_1 : (.fieldLink RX1 15 "SightRidge$Finding" "size" "I" : Cond) ∈ wsX1_append := by decide +kernel
theorem kX1_append_2 : (.fieldLink RX1 9 "SightRidge$Finding" "stations" "[I" : Cond) ∈ wsX1_append := by decide +kernel
set_option maxHeartbeats 4000000 in
set_option maxRecDepth 100000 in
/-- append(v) -/
theorem c_X1_append (l : Launch) (D : va_G) (cI cB cO : ClassId) (q fq : Nat) (ff : Nat → Int32) (k : Nat) (v : Int32) (hk : k < 20) : Met l yX1_append wsX1_append (rmD 1) (wrPc D (tyL cI cB cO) [.ref q, .int v] [(q, .inr (1, [.ref fq, .int (nI k)])), (fq, .inl (cI, 20, .inl ff))]) (wrQv D [(q, .inr (1, [.ref fq, .int (nI k)])), (fq, .inl (cI, 20, .inl ff))] (fun (u : Unit) => True) (fun (u : Unit) => [(q, .inr (1, [.ref fq, .int (nI (k + 1))])), (fq, .inl (cI, 20, .inl (upd ff k v)))])) 0 0 (inW [(q, .inr (1, [.ref fq, .int (nI k)])), (fq, .inl (cI, 20, .inl ff))]) := by
  refine Met.ofW (cc := cX1_append) (maxL := 2) (ret := none) (by decide) rfl ?_
  intro p e s m args below meth c s₁ B hml hv
  obtain ⟨rfl, hP, hK, hN, hD⟩ := hv
  have hx := B.exec
  have hb := B.bytes
  have hr := B.returns
  have hts := atoms_spec (ws := wsX1_append) B.pre
  have hown : s.vm.findClass RX1 = some m.cls := findClass_of_methodNamed B.named
  have hlocks := B.notSynchronized
  have hS : va_S (inW [(q, .inr (1, [.ref fq, .int (nI k)])), (fq, .inl (cI, 20, .inl ff))]) s.heap s.heap [] := va_S.rf
  have hD : va_D (inW [(q, .inr (1, [.ref fq, .int (nI k)])), (fq, .inl (cI, 20, .inl ff))]) [(q, .inr (1, [.ref fq, .int (nI k)])), (fq, .inl (cI, 20, .inl ff))] := inW_self hD
  have hl := lv_entry ([.ref q, .int v]) (n := 2) (Nat.le_of_ble_eq_true rfl)
  rw [lg_entry_eq]
  generalize (lg_sl ([.ref q, .int v]) ++ List.replicate (2 - (lg_sl ([.ref q, .int v])).length) Slot.unset).toArray = ls at hl ⊢
  have hl : lv_has ls 2 [(0, .ref q), (1, .int v)] := hl
  refine lv_aload_n hx hb dX1_append_0 rfl (lv_at hl 0 rfl) ?_
  refine va_get (D := D) (ci := 1) (v := .int (nI k)) (C := RX1) (T := TX1) (N := 2) hx hb hts kX1_append_0 hown hK hP 0 rfl rfl 1 (by decide) (hts (.fieldLink RX1 15 "SightRidge$Finding" "size" "I") kX1_append_1) (fun _ h9 => h9) rfl dX1_append_1 ?_
  refine lv_if_lt (tgt := 36) hx hb dX1_append_4 (by decide) (fun c_4 => ?_) (fun c_4 => ?_)
  · skip
    exact absurd c_4 (nI_pos (by omega))
  · skip
    refine lv_aload_n hx hb dX1_append_7 rfl (lv_at hl 0 rfl) ?_
    refine va_get (D := D) (ci := 1) (v := .int (nI k)) (C := RX1) (T := TX1) (N := 2) hx hb hts kX1_append_0 hown hK hP 0 rfl rfl 1 (by decide) (hts (.fieldLink RX1 15 "SightRidge$Finding" "size" "I") kX1_append_1) (fun _ h9 => h9) rfl dX1_append_8 ?_
    refine lv_bipush (v := 20) hx hb dX1_append_11 (by decide) ?_
    refine lv_icmp_ge (tgt := 36) hx hb dX1_append_13 (by decide) (fun c_13 => ?_) (fun c_13 => ?_)
    · skip
      exact absurd (ge_t (n := 20) (by omega) c_13) (by omega)
    · skip
      refine lv_aload_n hx hb dX1_append_16 rfl (lv_at hl 0 rfl) ?_
      refine va_get (D := D) (ci := 1) (v := .ref fq) (C := RX1) (T := TX1) (N := 2) hx hb hts kX1_append_0 hown hK hP 0 rfl rfl 0 (by decide) (hts (.fieldLink RX1 9 "SightRidge$Finding" "stations" "[I") kX1_append_2) (fun _ h9 => h9) rfl dX1_append_17 ?_
      refine lv_aload_n hx hb dX1_append_20 rfl (lv_at hl 0 rfl) ?_
      refine va_get (D := D) (ci := 1) (v := .int (nI k)) (C := RX1) (T := TX1) (N := 2) hx hb hts kX1_append_0 hown hK hP 0 rfl rfl 1 (by decide) (hts (.fieldLink RX1 15 "SightRidge$Finding" "size" "I") kX1_append_1) (fun _ h9 => h9) rfl dX1_append_21 ?_
      refine lv_iload_n hx hb dX1_append_24 rfl (lv_at hl 1 rfl) ?_
      refine va_iast hx hb hK hP hD hS 1 0 rfl rfl (i := nI k) (vp_in_nI (N := 20) (by omega) (by decide)) dX1_append_25 (fun H locs hP hD hS => ?_)
      rw [nI_clamp (n := k) (by omega)] at hP hD
      have hP : va_P D vwCl [(q, .inr (1, [.ref fq, .int (nI k)])), (fq, .inl (cI, 20, .inl (upd ff k v)))] _ := hP
      have hD : va_D (inW [(q, .inr (1, [.ref fq, .int (nI k)])), (fq, .inl (cI, 20, .inl ff))]) [(q, .inr (1, [.ref fq, .int (nI k)])), (fq, .inl (cI, 20, .inl (upd ff k v)))] := hD
      refine lv_aload_n hx hb dX1_append_26 rfl (lv_at hl 0 rfl) ?_
      refine lv_dup hx hb dX1_append_27 rfl ?_
      refine va_get (D := D) (ci := 1) (v := .int (nI k)) (C := RX1) (T := TX1) (N := 2) hx hb hts kX1_append_0 hown hK hP 0 rfl rfl 1 (by decide) (hts (.fieldLink RX1 15 "SightRidge$Finding" "size" "I") kX1_append_1) (fun _ h9 => h9) rfl dX1_append_28 ?_
      refine lv_iconst (v := 1) hx hb dX1_append_31 (by decide) ?_
      refine lv_iadd hx hb dX1_append_32 ?_
      refine lv_topi (fun y_1 e_2 => ?_)
      have e_2 : nI (k + 1) = y_1 := (e_2.trans (nI_add k 1)).symm
      subst e_2
      refine va_put (D := D) (ci := 1) (v := .int (nI (k + 1))) (ty := .int) (C := RX1) (T := TX1) (N := 2) hx hb hts kX1_append_0 tyX1 tyX1_ok nmX1 hown hK hP hD hS 0 rfl rfl 1 (by decide) (hts (.fieldLink RX1 15 "SightRidge$Finding" "size" "I") kX1_append_1) (fun _ h9 => h9) rfl (by decide +kernel) rfl rfl (Nat.le_of_ble_eq_true rfl) dX1_append_33 (fun H locs hP hD hS => ?_)
      have hP : va_P D vwCl [(q, .inr (1, [.ref fq, .int (nI (k + 1))])), (fq, .inl (cI, 20, .inl (upd ff k v)))] _ := hP
      have hD : va_D (inW [(q, .inr (1, [.ref fq, .int (nI k)])), (fq, .inl (cI, 20, .inl ff))]) [(q, .inr (1, [.ref fq, .int (nI (k + 1))])), (fq, .inl (cI, 20, .inl (upd ff k v)))] := hD
      exact W.vret hx hb hr (fun tS htS hWS => ⟨⟨(), rfl, trivial, retP htS hP⟩, hS.F htS⟩) hS.2.2 dX1_append_36
theorem kX1_keepSet_0 : (.initialized RX6 : Cond) ∈ wsX1_keepSet := by decide +kernel
theorem kX1_keepSet_1 : (.static yX6_holds : Cond) ∈ wsX1_keepSet := by decide +kernel
set_option maxHeartbeats 4000000 in
set_option maxRecDepth 100000 in
/-- keepSet(set) -/
theorem c_X1_keepSet (l : Launch) (D : va_G) (cI cB cO : ClassId) (q fq : Nat) (ff : Nat → Int32) (sz : Int32) (x : Nat) (hx0 : x < 2 ^ 31) : Met l yX1_keepSet wsX1_keepSet (rmD 2) (wrPc D (tyL cI cB cO) [.ref q, .int (nI x)] [(q, .inr (1, [.ref fq, .int sz])), (fq, .inl (cI, 20, .inl ff))]) (wrQv D [(q, .inr (1, [.ref fq, .int sz])), (fq, .inl (cI, 20, .inl ff))] (fun (u : Nat → Int32) => ∀ j, j < fb_ct (fun z => x.testBit z) 20 → u j = nI (nthB (fun z => x.testBit z) 20 j)) (fun (u : Nat → Int32) => [(q, .inr (1, [.ref fq, .int (nI (fb_ct (fun z => x.testBit z) 20))])), (fq, .inl (cI, 20, .inl u))])) 0 0 (inW [(q, .inr (1, [.ref fq, .int sz])), (fq, .inl (cI, 20, .inl ff))]) := by
  refine Met.ofW (cc := cX1_keepSet) (maxL := 3) (ret := none) (by decide) rfl ?_
  intro p e s m args below meth c s₁ B hml hv
  obtain ⟨rfl, hP, hK, hN, hD⟩ := hv
  have hx := B.exec
  have hb := B.bytes
  have hr := B.returns
  have hts := atoms_spec (ws := wsX1_keepSet) B.pre
  have hown : s.vm.findClass RX1 = some m.cls := findClass_of_methodNamed B.named
  have hlocks := B.notSynchronized
  have hS : va_S (inW [(q, .inr (1, [.ref fq, .int sz])), (fq, .inl (cI, 20, .inl ff))]) s.heap s.heap [] := va_S.rf
  have hD : va_D (inW [(q, .inr (1, [.ref fq, .int sz])), (fq, .inl (cI, 20, .inl ff))]) [(q, .inr (1, [.ref fq, .int sz])), (fq, .inl (cI, 20, .inl ff))] := inW_self hD
  have hl := lv_entry ([.ref q, .int (nI x)]) (n := 3) (Nat.le_of_ble_eq_true rfl)
  rw [lg_entry_eq]
  generalize (lg_sl ([.ref q, .int (nI x)]) ++ List.replicate (3 - (lg_sl ([.ref q, .int (nI x)])).length) Slot.unset).toArray = ls at hl ⊢
  have hl : lv_has ls 3 [(0, .ref q), (1, .int (nI x))] := hl
  refine lv_aload_n hx hb dX1_keepSet_0 rfl (lv_at hl 0 rfl) ?_
  refine wv_callv (wc := [(q, .inr (1, [.ref fq, .int sz])), (fq, .inl (cI, 20, .inl ff))]) hP hD hS [0, 1] rfl rfl (va_runV (As := []) (rest := []) ⟨hx, hb, hml, hown, hts⟩ (c_X1_clear l D cI cB cO q fq ff sz ) (cwV 0 hts gX1_keepSet_X1_clear rfl rfl rfl (by decide +kernel) ⟨Nat.le_of_ble_eq_true rfl, Nat.le_of_ble_eq_true rfl⟩) (wr_preV (wc := [(q, .inr (1, [.ref fq, .int sz])), (fq, .inl (cI, 20, .inl ff))]) (r := (RX1, TX1, 2)) (ci := 1) hK (hP.pick [0, 1] rfl) hN (wr_dsub hD [0, 1] rfl rfl) (q0 := 0) rfl rfl) rfl rfl hl.1 rfl (lv_room (Nat.le_of_ble_eq_true rfl)) dX1_keepSet_1 ⟨Nat.le_refl _, Nat.le_refl _⟩) (fun _ => [(q, .inr (1, [.ref fq, .int 0])), (fq, .inl (cI, 20, .inl ff))]) (fun _ => rfl) (fun _ => rfl) (fun u_1 H locs h_1 hP hD hS => ?_)
  have hP : va_P D vwCl [(q, .inr (1, [.ref fq, .int 0])), (fq, .inl (cI, 20, .inl ff))] _ := hP
  have hD : va_D (inW [(q, .inr (1, [.ref fq, .int sz])), (fq, .inl (cI, 20, .inl ff))]) [(q, .inr (1, [.ref fq, .int 0])), (fq, .inl (cI, 20, .inl ff))] := hD
  refine lv_iconst (v := 0) hx hb dX1_keepSet_4 (by decide) ?_
  refine lv_istore_n (lv' := [(2, .int 0), (0, .ref q), (1, .int (nI x))]) hx hb dX1_keepSet_5 rfl hl (by decide) rfl (fun ls hl => ?_)
  have e9 : ([(q, .inr (1, [.ref fq, .int 0])), (fq, .inl (cI, 20, .inl ff))] : va_W) = [(q, .inr (1, [.ref fq, .int (nI (fb_ct (fun z => x.testBit z) 0))])), (fq, .inl (cI, 20, .inl ff))] := congrArg (fun f9 : Int32 => ([(q, .inr (1, [.ref fq, .int f9])), (fq, .inl (cI, 20, .inl ff))] : va_W)) (show 0 = nI (fb_ct (fun z => x.testBit z) 0) from rfl)
  have hP := va_P_eq e9 hP
  have hD := va_D_eq e9 hD
  have L_6 : ∀ (k_6 : Nat) (i : Nat) (u : Nat → Int32), 20 - i < k_6 → (i ≤ 20) → (∀ z, z < i → x.testBit z = true → u (fb_ct (fun z => x.testBit z) z) = nI z) → ∀ (H : Heap) (locs : List Loc), va_P D vwCl [(q, .inr (1, [.ref fq, .int (nI (fb_ct (fun z => x.testBit z) i))])), (fq, .inl (cI, 20, .inl u))] H → va_D (inW [(q, .inr (1, [.ref fq, .int sz])), (fq, .inl (cI, 20, .inl ff))]) [(q, .inr (1, [.ref fq, .int (nI (fb_ct (fun z => x.testBit z) i))])), (fq, .inl (cI, 20, .inl u))] → va_S (inW [(q, .inr (1, [.ref fq, .int sz])), (fq, .inl (cI, 20, .inl ff))]) s.heap H locs → ∀ (ls : Array Slot), lv_has ls 3 [(0, .ref q), (1, .int (nI x)), (2, .int (nI i))] → W p l e (rmD 2) s m ([.ref q, .int (nI x)] : List Value).toArray below meth c H locs 0 0 (MQ below (wrQv D [(q, .inr (1, [.ref fq, .int sz])), (fq, .inl (cI, 20, .inl ff))] (fun (u : Nat → Int32) => ∀ j, j < fb_ct (fun z => x.testBit z) 20 → u j = nI (nthB (fun z => x.testBit z) 20 j)) (fun (u : Nat → Int32) => [(q, .inr (1, [.ref fq, .int (nI (fb_ct (fun z => x.testBit z) 20))])), (fq, .inl (cI, 20, .inl u))])) ([.ref q, .int (nI x)] : List Value).toArray s 0 0 (inW [(q, .inr (1, [.ref fq, .int sz])), (fq, .inl (cI, 20, .inl ff))])) (F0 m 6 ls []) := by
    intro k_6
    induction k_6 with
    | zero => intro i u h9; exact absurd h9 (Nat.not_lt_zero _)
    | succ k_6 ih_6 =>
      intro i u hm_6 hi hu H locs hP hD hS ls hl
      refine lv_iload_n hx hb dX1_keepSet_6 rfl (lv_at hl 2 rfl) ?_
      refine lv_bipush (v := 20) hx hb dX1_keepSet_7 (by decide) ?_
      refine lv_icmp_ge (tgt := 31) hx hb dX1_keepSet_9 (by decide) (fun c_9 => ?_) (fun c_9 => ?_)
      · skip
        have c0 : 20 ≤ i := ge_t (by omega) c_9
        have ei : i = 20 := by omega
        subst ei
        exact W.vret hx hb hr (fun tS htS hWS => ⟨⟨u, rfl, (fun j hj => by obtain ⟨k9, h91, h92, h93⟩ := fb_ct_kth hj; have h94 := hu k9 h91 h92; rw [h93] at h94; rw [h94, ← h93, nthB_eq h91 h92]), retP htS hP⟩, hS.F htS⟩) hS.2.2 dX1_keepSet_31
      · skip
        have c0 : i < 20 := ge_f (by omega) c_9
        refine lv_iload_n hx hb dX1_keepSet_12 rfl (lv_at hl 1 rfl) ?_
        refine lv_iload_n hx hb dX1_keepSet_13 rfl (lv_at hl 2 rfl) ?_
        refine rd_calli hP hS (va_runSN (As := [.int (nI x), .int (nI i)]) (rest := []) ⟨hx, hb, hml, hown, hts⟩ (c_X6_holds l D cI cB cO x i hx0 (by omega)) ⟨va_cnB 2 hts gX1_keepSet_X6_holds_n22 rfl rfl rfl hN.2.2.2.2.2.1 (hts (.initialized RX6) kX1_keepSet_0) (by decide +kernel) ⟨Nat.le_of_ble_eq_true rfl, Nat.le_of_ble_eq_true rfl⟩, hts (.static yX6_holds) kX1_keepSet_1, trivial⟩ (rd_preS hK (hP.pick [] rfl) hN) rfl rfl hl.1 rfl (lv_room (Nat.le_of_ble_eq_true rfl)) dX1_keepSet_14 ⟨Nat.le_refl _, Nat.le_refl _⟩) (fun r_14 H locs h_14 hP hS => ?_)
        refine lv_if_eq (tgt := 25) hx hb dX1_keepSet_17 (by decide) (fun c_17 => ?_) (fun c_17 => ?_)
        · skip
          have c1 := bI_e0 (h_14.symm.trans c_17)
          have e9 : ([(q, .inr (1, [.ref fq, .int (nI (fb_ct (fun z => x.testBit z) i))])), (fq, .inl (cI, 20, .inl u))] : va_W) = [(q, .inr (1, [.ref fq, .int (nI (fb_ct (fun z => x.testBit z) (i + 1)))])), (fq, .inl (cI, 20, .inl u))] := congrArg (fun f9 : Int32 => ([(q, .inr (1, [.ref fq, .int f9])), (fq, .inl (cI, 20, .inl u))] : va_W)) (show nI (fb_ct (fun z => x.testBit z) i) = nI (fb_ct (fun z => x.testBit z) (i + 1)) from (congrArg nI (fb_ct_F (P := (fun z => x.testBit z)) c1)).symm)
          have hP := va_P_eq e9 hP
          have hD := va_D_eq e9 hD
          refine lv_iinc (v := nI (i + 1)) (lv' := [(2, .int (nI (i + 1))), (0, .ref q), (1, .int (nI x))]) hx hb dX1_keepSet_25 hl (k := 2) rfl (inc1 _) (by decide) rfl (fun ls hl => ?_)
          refine lv_goto (tgt := 6) hx hb dX1_keepSet_28 (by decide) ?_
          exact ih_6 (i + 1) u (by omega) (by omega) (ks_F hu c1) _ _ hP hD hS ls (lv_sub hl [1, 2, 0] rfl)
        · skip
          have c1 := bI_n0 (fun q => c_17 (h_14.trans q))
          have hlt : fb_ct (fun z => x.testBit z) i ≤ i := fb_ct_le _ _
          refine lv_aload_n hx hb dX1_keepSet_20 rfl (lv_at hl 0 rfl) ?_
          refine lv_iload_n hx hb dX1_keepSet_21 rfl (lv_at hl 2 rfl) ?_
          refine wv_callv (wc := [(q, .inr (1, [.ref fq, .int (nI (fb_ct (fun z => x.testBit z) i))])), (fq, .inl (cI, 20, .inl u))]) hP hD hS [0, 1] rfl rfl (va_runV (As := [.int (nI i)]) (rest := []) ⟨hx, hb, hml, hown, hts⟩ (c_X1_append l D cI cB cO q fq u (fb_ct (fun z => x.testBit z) i) (nI i) (by omega)) (cwV 1 hts gX1_keepSet_X1_append rfl rfl rfl (by decide +kernel) ⟨Nat.le_of_ble_eq_true rfl, Nat.le_of_ble_eq_true rfl⟩) (wr_preV (wc := [(q, .inr (1, [.ref fq, .int (nI (fb_ct (fun z => x.testBit z) i))])), (fq, .inl (cI, 20, .inl u))]) (r := (RX1, TX1, 2)) (ci := 1) hK (hP.pick [0, 1] rfl) hN (wr_dsub hD [0, 1] rfl rfl) (q0 := 0) rfl rfl) rfl rfl hl.1 rfl (lv_room (Nat.le_of_ble_eq_true rfl)) dX1_keepSet_22 ⟨Nat.le_refl _, Nat.le_refl _⟩) (fun _ => [(q, .inr (1, [.ref fq, .int (nI (fb_ct (fun z => x.testBit z) i + 1))])), (fq, .inl (cI, 20, .inl (upd u (fb_ct (fun z => x.testBit z) i) (nI i))))]) (fun _ => rfl) (fun _ => rfl) (fun u_22 H locs h_22 hP hD hS => ?_)
          have hP : va_P D vwCl [(q, .inr (1, [.ref fq, .int (nI (fb_ct (fun z => x.testBit z) i + 1))])), (fq, .inl (cI, 20, .inl (upd u (fb_ct (fun z => x.testBit z) i) (nI i))))] _ := hP
          have hD : va_D (inW [(q, .inr (1, [.ref fq, .int sz])), (fq, .inl (cI, 20, .inl ff))]) [(q, .inr (1, [.ref fq, .int (nI (fb_ct (fun z => x.testBit z) i + 1))])), (fq, .inl (cI, 20, .inl (upd u (fb_ct (fun z => x.testBit z) i) (nI i))))] := hD
          have e9 : ([(q, .inr (1, [.ref fq, .int (nI (fb_ct (fun z => x.testBit z) i + 1))])), (fq, .inl (cI, 20, .inl (upd u (fb_ct (fun z => x.testBit z) i) (nI i))))] : va_W) = [(q, .inr (1, [.ref fq, .int (nI (fb_ct (fun z => x.testBit z) (i + 1)))])), (fq, .inl (cI, 20, .inl (upd u (fb_ct (fun z => x.testBit z) i) (nI i))))] := congrArg (fun f9 : Int32 => ([(q, .inr (1, [.ref fq, .int f9])), (fq, .inl (cI, 20, .inl (upd u (fb_ct (fun z => x.testBit z) i) (nI i))))] : va_W)) (show nI (fb_ct (fun z => x.testBit z) i + 1) = nI (fb_ct (fun z => x.testBit z) (i + 1)) from (congrArg nI (fb_ct_T (P := (fun z => x.testBit z)) c1)).symm)
          have hP := va_P_eq e9 hP
          have hD := va_D_eq e9 hD
          refine lv_iinc (v := nI (i + 1)) (lv' := [(2, .int (nI (i + 1))), (0, .ref q), (1, .int (nI x))]) hx hb dX1_keepSet_25 hl (k := 2) rfl (inc1 _) (by decide) rfl (fun ls hl => ?_)
          refine lv_goto (tgt := 6) hx hb dX1_keepSet_28 (by decide) ?_
          exact ih_6 (i + 1) (upd u (fb_ct (fun z => x.testBit z) i) (nI i)) (by omega) (by omega) (ks_T hu c1) _ _ hP hD hS ls (lv_sub hl [1, 2, 0] rfl)
  exact L_6 _ 0 ff (Nat.lt_succ_self _) (by omega) (fun z hz => absurd hz (Nat.not_lt_zero z)) _ _ hP hD hS ls (lv_sub hl [1, 2, 0] rfl)
/-! the text: L bytes c; 'at' is a place in it -/
def chI (c : Nat → Nat) (L a : Nat) : Int32 := if a < L then nI (c a) else -1
def chB (c : Nat → Nat) (L a v : Nat) : Bool := decide (a < L ∧ c a = v)
theorem chI_eq {c : Nat → Nat} {L a v : Nat} (hc : ∀ j, j < L → c j ≤ 127) (hv : v ≤ 127) : chI c L a = nI v ↔ chB c L a v = true := by
  unfold chI chB
  rw [decide_eq_true_iff]
  by_cases h : a < L
  · rw [if_pos h, nI_eq (by have := hc a h; omega) (by omega)]
    exact ⟨fun q => ⟨h, q⟩, fun q => q.2⟩
  · rw [if_neg h]
    constructor
    · intro q
      have h2 := congrArg Int32.toInt q
      rw [nI_toInt (by omega)] at h2
      have h3 : (-1 : Int32).toInt = -1 := rfl
      omega
    · intro q; exact absurd q.1 h
def skpf (c : Nat → Nat) (L : Nat) : Nat → Nat → Nat
  | 0, a => a
  | f + 1, a => if chB c L a 32 = true then skpf c L f (a + 1) else a
def skp (c : Nat → Nat) (L a : Nat) : Nat := skpf c L (L - a) a
theorem skp_s {c : Nat → Nat} {L a : Nat} (h : chB c L a 32 = true) : skp c L a = skp c L (a + 1) := by
  have h1 : a < L := (of_decide_eq_true h).1
  unfold skp
  rw [show L - a = (L - (a + 1)) + 1 by omega, skpf, if_pos h]
theorem skp_e {c : Nat → Nat} {L a : Nat} (h : chB c L a 32 = false) : skp c L a = a := by
  unfold skp
  cases L - a with
  | zero => rfl
  | succ f => rw [skpf, if_neg (by rw [h]; exact Bool.false_ne_true)]
theorem skpf_le (c : Nat → Nat) (L : Nat) : ∀ f a, a ≤ skpf c L f a ∧ (a ≤ L → skpf c L f a ≤ L)
  | 0, a => ⟨Nat.le_refl a, fun h => h⟩
  | f + 1, a => by
    rw [skpf]
    by_cases h : chB c L a 32 = true
    · rw [if_pos h]
      obtain ⟨h1, h2⟩ := skpf_le c L f (a + 1)
      exact ⟨by omega, fun _ => h2 (of_decide_eq_true h).1⟩
    · rw [if_neg h]; exact ⟨Nat.le_refl a, fun h => h⟩
theorem skp_ge (c : Nat → Nat) (L a : Nat) : a ≤ skp c L a := (skpf_le c L _ a).1
theorem skp_le {c : Nat → Nat} {L a : Nat} (h : a ≤ L) : skp c L a ≤ L := (skpf_le c L _ a).2 h
def dgB (c : Nat → Nat) (L a : Nat) : Bool := decide (a < L ∧ 48 ≤ c a ∧ c a ≤ 57)
theorem inB_dg {c : Nat → Nat} {L a : Nat} (hc : ∀ j, j < L → c j ≤ 127) : inB (chI c L a) 48 57 = dgB c L a := by
  unfold inB dgB chI
  rw [decide_eq_decide]
  by_cases h : a < L
  · rw [if_pos h]
    have h1 := hc a h
    rw [fa_le, fa_le, nI_toInt (by omega)]
    have e1 : (48 : Int32).toInt = 48 := rfl
    have e2 : (57 : Int32).toInt = 57 := rfl
    rw [e1, e2]
    omega
  · rw [if_neg h]
    constructor
    · intro q; exact absurd q.1 (by decide)
    · intro q; exact absurd q.1 h
def numf (c : Nat → Nat) (L : Nat) : Nat → Nat → Nat → Nat × Nat
  | 0, a, v => (a, v)
  | r + 1, a, v => if dgB c L a = true then numf c L r (a + 1) (10 * v + c a - 48) else (a, v)
def num (c : Nat → Nat) (L a : Nat) : Nat × Nat := numf c L 3 a 0
theorem numf_le (c : Nat → Nat) (L : Nat) : ∀ r a v, a ≤ (numf c L r a v).1 ∧ (numf c L r a v).1 ≤ a + r ∧ (a ≤ L → (numf c L r a v).1 ≤ L)
  | 0, a, v => ⟨Nat.le_refl a, Nat.le_refl a, fun h => h⟩
  | r + 1, a, v => by
    rw [numf]
    by_cases h : dgB c L a = true
    · rw [if_pos h]
      obtain ⟨h1, h2, h3⟩ := numf_le c L r (a + 1) (10 * v + c a - 48)
      exact ⟨by omega, by omega, fun _ => h3 (of_decide_eq_true h).1⟩
    · rw [if_neg h]; exact ⟨Nat.le_refl a, by omega, fun h => h⟩
theorem numf_val (c : Nat → Nat) (L : Nat) : ∀ r a v, (numf c L r a v).2 + 1 ≤ (v + 1) * 10 ^ r
  | 0, a, v => by rw [numf, Nat.pow_zero, Nat.mul_one]; exact Nat.le_refl _
  | r + 1, a, v => by
    have hp : 0 < 10 ^ r := Nat.pow_pos (by decide)
    rw [numf]
    by_cases h : dgB c L a = true
    · rw [if_pos h]
      have h1 := numf_val c L r (a + 1) (10 * v + c a - 48)
      have h2 := (of_decide_eq_true h).2
      refine Nat.le_trans h1 ?_
      rw [Nat.pow_succ, Nat.mul_comm (10 ^ r) 10, ← Nat.mul_assoc]
      exact Nat.mul_le_mul_right _ (by omega)
    · rw [if_neg h]
      have e : (v + 1) * 1 ≤ (v + 1) * 10 ^ (r + 1) := Nat.mul_le_mul_left _ (Nat.pow_pos (by decide))
      show v + 1 ≤ _
      omega
theorem num_val (c : Nat → Nat) (L a : Nat) : (num c L a).2 ≤ 999 := by
  have := numf_val c L 3 a 0
  have e : (10 : Nat) ^ 3 = 1000 := rfl
  rw [e] at this
  show (numf c L 3 a 0).2 ≤ 999
  omega
theorem num_le (c : Nat → Nat) (L a : Nat) : a ≤ (num c L a).1 ∧ (num c L a).1 ≤ a + 3 ∧ (a ≤ L → (num c L a).1 ≤ L) := numf_le c L 3 a 0
theorem inB_FZ {v lo h : Nat} (hv : v < 2 ^ 30) (hlo : lo < 2 ^ 30) (hh : h < 2 ^ 30) : inB (nI v) (nI lo) (FZ h) = decide (lo ≤ v ∧ v < h) := by
  unfold inB
  rw [decide_eq_decide, nI_leI (by omega) (by omega)]
  have e : (FZ h).toInt = (h : Int) - 1 := pk_sub_toInt (a := h) (b := 1) hh (by decide)
  rw [fa_le (nI v), e, nI_toInt (by omega)]
  omega
def flN (f a j v lo h : Nat) : Nat := if f = 0 ∧ (j = a ∨ ¬ (lo ≤ v ∧ v < h)) then a + 1 else f
theorem kX5_append_0 : ∀ w ∈ wsX50, w ∈ wsX5_append := by decide +kernel
theorem kX5_append_1 : (.fieldLink RX5 15 "SightRidge$Text" "length" "I" : Cond) ∈ wsX5_append := by decide +kernel
theorem kX5_append_2 : (.fieldLink RX5 9 "SightRidge$Text" "letters" "[B" : Cond) ∈ wsX5_append := by decide +kernel
set_option maxHeartbeats 4000000 in
set_option maxRecDepth 100000 in
/-- append(letter) -/
theorem c_X5_append (l : Launch) (D : va_G) (cI cB cO : ClassId) (t tl : Nat) (L : Nat) (lt : Nat → Int32) (ta tf : Int32) (v : Nat) (hL : L ≤ 120) (hv : v ≤ 127) : Met l yX5_append wsX5_append (rmD 1) (wrPc D (tyL cI cB cO) [.ref t, .int (nI v)] [(t, .inr (5, [.ref tl, .int (nI L), .int ta, .int tf])), (tl, .inl (cB, 120, .inl lt))]) (wrQi D [(t, .inr (5, [.ref tl, .int (nI L), .int ta, .int tf])), (tl, .inl (cB, 120, .inl lt))] (fun (r : Int32) (u : Nat × (Nat → Int32)) => (L < 120 ∧ r = 1 ∧ u = (L + 1, upd lt L (nI v))) ∨ (L = 120 ∧ r = 0 ∧ u = (L, lt))) (fun (u : Nat × (Nat → Int32)) => [(t, .inr (5, [.ref tl, .int (nI u.1), .int ta, .int tf])), (tl, .inl (cB, 120, .inl u.2))])) 0 0 (inW [(t, .inr (5, [.ref tl, .int (nI L), .int ta, .int tf])), (tl, .inl (cB, 120, .inl lt))]) := by
  refine Met.ofW (cc := cX5_append) (maxL := 2) (ret := (some .boolean)) (by decide) rfl ?_
  intro p e s m args below meth c s₁ B hml hv
  obtain ⟨rfl, hP, hK, hN, hD⟩ := hv
  have hx := B.exec
  have hb := B.bytes
  have hr := B.returns
  have hts := atoms_spec (ws := wsX5_append) B.pre
  have hown : s.vm.findClass RX5 = some m.cls := findClass_of_methodNamed B.named
  have hlocks := B.notSynchronized
  have hS : va_S (inW [(t, .inr (5, [.ref tl, .int (nI L), .int ta, .int tf])), (tl, .inl (cB, 120, .inl lt))]) s.heap s.heap [] := va_S.rf
  have hD : va_D (inW [(t, .inr (5, [.ref tl, .int (nI L), .int ta, .int tf])), (tl, .inl (cB, 120, .inl lt))]) [(t, .inr (5, [.ref tl, .int (nI L), .int ta, .int tf])), (tl, .inl (cB, 120, .inl lt))] := inW_self hD
  have hl := lv_entry ([.ref t, .int (nI v)]) (n := 2) (Nat.le_of_ble_eq_true rfl)
  rw [lg_entry_eq]
  generalize (lg_sl ([.ref t, .int (nI v)]) ++ List.replicate (2 - (lg_sl ([.ref t, .int (nI v)])).length) Slot.unset).toArray = ls at hl ⊢
  have hl : lv_has ls 2 [(0, .ref t), (1, .int (nI v))] := hl
  refine lv_aload_n hx hb dX5_append_0 rfl (lv_at hl 0 rfl) ?_
  refine va_get (D := D) (ci := 5) (v := .int (nI L)) (C := RX5) (T := TX5) (N := 4) hx hb hts kX5_append_0 hown hK hP 0 rfl rfl 1 (by decide) (hts (.fieldLink RX5 15 "SightRidge$Text" "length" "I") kX5_append_1) (fun _ h9 => h9) rfl dX5_append_1 ?_
  refine lv_bipush (v := 120) hx hb dX5_append_4 (by decide) ?_
  refine lv_icmp_lt (tgt := 11) hx hb dX5_append_6 (by decide) (fun c_6 => ?_) (fun c_6 => ?_)
  · skip
    have c0 : L < 120 := (nI_ltI (by omega) (by decide)).mp c_6
    refine lv_aload_n hx hb dX5_append_11 rfl (lv_at hl 0 rfl) ?_
    refine va_get (D := D) (ci := 5) (v := .ref tl) (C := RX5) (T := TX5) (N := 4) hx hb hts kX5_append_0 hown hK hP 0 rfl rfl 0 (by decide) (hts (.fieldLink RX5 9 "SightRidge$Text" "letters" "[B") kX5_append_2) (fun _ h9 => h9) rfl dX5_append_12 ?_
    refine lv_aload_n hx hb dX5_append_15 rfl (lv_at hl 0 rfl) ?_
    refine va_get (D := D) (ci := 5) (v := .int (nI L)) (C := RX5) (T := TX5) (N := 4) hx hb hts kX5_append_0 hown hK hP 0 rfl rfl 1 (by decide) (hts (.fieldLink RX5 15 "SightRidge$Text" "length" "I") kX5_append_1) (fun _ h9 => h9) rfl dX5_append_16 ?_
    refine lv_iload_n hx hb dX5_append_19 rfl (lv_at hl 1 rfl) ?_
    refine lv_i2b (v := (nI v).toInt8.toInt32) hx hb dX5_append_20 rfl ?_
    refine va_bast hx hb hK hP hD hS 1 1 rfl rfl (i := nI L) (vp_in_nI (N := 120) (by omega) (by decide)) dX5_append_21 (fun H locs hP hD hS => ?_)
    rw [nI_clamp (n := L) (by omega)] at hP hD
    have hP : va_P D vwCl [(t, .inr (5, [.ref tl, .int (nI L), .int ta, .int tf])), (tl, .inl (cB, 120, .inl (upd lt L (vp_nar .byte ((nI v).toInt8.toInt32)))))] _ := hP
    have hD : va_D (inW [(t, .inr (5, [.ref tl, .int (nI L), .int ta, .int tf])), (tl, .inl (cB, 120, .inl lt))]) [(t, .inr (5, [.ref tl, .int (nI L), .int ta, .int tf])), (tl, .inl (cB, 120, .inl (upd lt L (vp_nar .byte ((nI v).toInt8.toInt32)))))] := hD
    have e9 : ([(t, .inr (5, [.ref tl, .int (nI L), .int ta, .int tf])), (tl, .inl (cB, 120, .inl (upd lt L (vp_nar .byte ((nI v).toInt8.toInt32)))))] : va_W) = [(t, .inr (5, [.ref tl, .int (nI L), .int ta, .int tf])), (tl, .inl (cB, 120, .inl (upd lt L (nI v))))] := congrArg (fun f9 : Nat → Int32 => ([(t, .inr (5, [.ref tl, .int (nI L), .int ta, .int tf])), (tl, .inl (cB, 120, .inl f9))] : va_W)) (show upd lt L (vp_nar .byte ((nI v).toInt8.toInt32)) = upd lt L (nI v) from by rw [show vp_nar .byte (nI v).toInt8.toInt32 = nI v from by rw [vp_nar_byte, fa_byte_small (by omega), fa_byte_small (by omega)]])
    have hP := va_P_eq e9 hP
    have hD := va_D_eq e9 hD
    refine lv_aload_n hx hb dX5_append_22 rfl (lv_at hl 0 rfl) ?_
    refine lv_dup hx hb dX5_append_23 rfl ?_
    refine va_get (D := D) (ci := 5) (v := .int (nI L)) (C := RX5) (T := TX5) (N := 4) hx hb hts kX5_append_0 hown hK hP 0 rfl rfl 1 (by decide) (hts (.fieldLink RX5 15 "SightRidge$Text" "length" "I") kX5_append_1) (fun _ h9 => h9) rfl dX5_append_24 ?_
    refine lv_iconst (v := 1) hx hb dX5_append_27 (by decide) ?_
    refine lv_iadd hx hb dX5_append_28 ?_
    refine lv_topi (fun y_1 e_2 => ?_)
    have e_2 : nI (L + 1) = y_1 := (e_2.trans (nI_add L 1)).symm
    subst e_2
    refine va_put (D := D) (ci := 5) (v := .int (nI (L + 1))) (ty := .int) (C := RX5) (T := TX5) (N := 4) hx hb hts kX5_append_0 tyX5 tyX5_ok nmX5 hown hK hP hD hS 0 rfl rfl 1 (by decide) (hts (.fieldLink RX5 15 "SightRidge$Text" "length" "I") kX5_append_1) (fun _ h9 => h9) rfl (by decide +kernel) rfl rfl (Nat.le_of_ble_eq_true rfl) dX5_append_29 (fun H locs hP hD hS => ?_)
    have hP : va_P D vwCl [(t, .inr (5, [.ref tl, .int (nI (L + 1)), .int ta, .int tf])), (tl, .inl (cB, 120, .inl (upd lt L (nI v))))] _ := hP
    have hD : va_D (inW [(t, .inr (5, [.ref tl, .int (nI L), .int ta, .int tf])), (tl, .inl (cB, 120, .inl lt))]) [(t, .inr (5, [.ref tl, .int (nI (L + 1)), .int ta, .int tf])), (tl, .inl (cB, 120, .inl (upd lt L (nI v))))] := hD
    refine lv_iconst (v := 1) hx hb dX5_append_32 (by decide) ?_
    exact W.zret (v := 1) hx hb hr (rfl) (fun tS htS hWS => ⟨⟨1, (L + 1, upd lt L (nI v)), rfl, (Or.inl ⟨c0, rfl, rfl⟩), retP htS hP⟩, hS.F htS⟩) hS.2.2 dX5_append_33
  · skip
    have c0 : ¬ L < 120 := fun q => c_6 (nI_lt q (by decide))
    refine lv_iconst (v := 0) hx hb dX5_append_9 (by decide) ?_
    exact W.zret (v := 0) hx hb hr (rfl) (fun tS htS hWS => ⟨⟨0, (L, lt), rfl, (Or.inr ⟨by omega, rfl, rfl⟩), retP htS hP⟩, hS.F htS⟩) hS.2.2 dX5_append_10
theorem kX5_peek_0 : ∀ w ∈ wsX50, w ∈ wsX5_peek := by decide +kernel
theorem kX5_peek_1 : (.fieldLink RX5 19 "SightRidge$Text" "at" "I" : Cond) ∈ wsX5_peek := by decide +kernel
theorem kX5_peek_2 : (.fieldLink RX5 15 "SightRidge$Text" "length" "I" : Cond) ∈ wsX5_peek := by decide +kernel
theorem kX5_peek_3 : (.fieldLink RX5 9 "SightRidge$Text" "letters" "[B" : Cond) ∈ wsX5_peek := by decide +kernel
set_option maxHeartbeats 4000000 in
set_option maxRecDepth 100000 in
/-- peek() -/
theorem c_X5_peek (l : Launch) (D : va_G) (cI cB cO : ClassId) (t tl : Nat) (L : Nat) (lt : Nat → Int32) (cc : Nat → Nat) (a f : Nat) (hL : L ≤ 120) (hlt : ∀ j, j < L → lt j = nI (cc j)) (hcc : ∀ j, j < L → cc j ≤ 127) (ha : a ≤ L) : Met l yX5_peek wsX5_peek (rmD 1) (rdPc D (tyL cI cB cO) [.ref t] [(t, .inr (5, [.ref tl, .int (nI L), .int (nI a), .int (FZ f)])), (tl, .inl (cB, 120, .inl lt))]) (rdQi (fun r => r = chI cc L a)) 0 0 noA := by
  refine Met.ofW (cc := cX5_peek) (maxL := 1) (ret := (some .int)) (by decide) rfl ?_
  intro p e s m args below meth c s₁ B hml hv
  obtain ⟨rfl, hP, hK, hN⟩ := hv
  have hx := B.exec
  have hb := B.bytes
  have hr := B.returns
  have hts := atoms_spec (ws := wsX5_peek) B.pre
  have hown : s.vm.findClass RX5 = some m.cls := findClass_of_methodNamed B.named
  have hlocks := B.notSynchronized
  have hS : va_S noA s.heap s.heap [] := va_S.rf
  have hl := lv_entry ([.ref t]) (n := 1) (Nat.le_of_ble_eq_true rfl)
  rw [lg_entry_eq]
  generalize (lg_sl ([.ref t]) ++ List.replicate (1 - (lg_sl ([.ref t])).length) Slot.unset).toArray = ls at hl ⊢
  have hl : lv_has ls 1 [(0, .ref t)] := hl
  refine lv_aload_n hx hb dX5_peek_0 rfl (lv_at hl 0 rfl) ?_
  refine va_get (D := D) (ci := 5) (v := .int (nI a)) (C := RX5) (T := TX5) (N := 4) hx hb hts kX5_peek_0 hown hK hP 0 rfl rfl 2 (by decide) (hts (.fieldLink RX5 19 "SightRidge$Text" "at" "I") kX5_peek_1) (fun _ h9 => h9) rfl dX5_peek_1 ?_
  refine lv_if_lt (tgt := 30) hx hb dX5_peek_4 (by decide) (fun c_4 => ?_) (fun c_4 => ?_)
  · skip
    exact absurd c_4 (nI_pos (by omega))
  · skip
    refine lv_aload_n hx hb dX5_peek_7 rfl (lv_at hl 0 rfl) ?_
    refine va_get (D := D) (ci := 5) (v := .int (nI a)) (C := RX5) (T := TX5) (N := 4) hx hb hts kX5_peek_0 hown hK hP 0 rfl rfl 2 (by decide) (hts (.fieldLink RX5 19 "SightRidge$Text" "at" "I") kX5_peek_1) (fun _ h9 => h9) rfl dX5_peek_8 ?_
    refine lv_aload_n hx hb dX5_peek_11 rfl (lv_at hl 0 rfl) ?_
    refine va_get (D := D) (ci := 5) (v := .int (nI L)) (C := RX5) (T := TX5) (N := 4) hx hb hts kX5_peek_0 hown hK hP 0 rfl rfl 1 (by decide) (hts (.fieldLink RX5 15 "SightRidge$Text" "length" "I") kX5_peek_2) (fun _ h9 => h9) rfl dX5_peek_12 ?_
    refine lv_icmp_ge (tgt := 30) hx hb dX5_peek_15 (by decide) (fun c_15 => ?_) (fun c_15 => ?_)
    · skip
      have c0 : L ≤ a := ge_t (by omega) c_15
      refine lv_iconst (v := (-1)) hx hb dX5_peek_30 (by decide) ?_
      exact W.iret (v := -1) hx hb hr (fun tS htS hWS => ⟨⟨-1, (), rfl, (by unfold chI; first | (rw [if_pos c0]; exact hlt a c0) | (rw [if_neg (by omega)]) | fail), trivial⟩, hS.F htS⟩) hS.2.2 dX5_peek_31
    · skip
      have c0 : a < L := ge_f (by omega) c_15
      refine lv_aload_n hx hb dX5_peek_18 rfl (lv_at hl 0 rfl) ?_
      refine va_get (D := D) (ci := 5) (v := .ref tl) (C := RX5) (T := TX5) (N := 4) hx hb hts kX5_peek_0 hown hK hP 0 rfl rfl 0 (by decide) (hts (.fieldLink RX5 9 "SightRidge$Text" "letters" "[B") kX5_peek_3) (fun _ h9 => h9) rfl dX5_peek_19 ?_
      refine lv_aload_n hx hb dX5_peek_22 rfl (lv_at hl 0 rfl) ?_
      refine va_get (D := D) (ci := 5) (v := .int (nI a)) (C := RX5) (T := TX5) (N := 4) hx hb hts kX5_peek_0 hown hK hP 0 rfl rfl 2 (by decide) (hts (.fieldLink RX5 19 "SightRidge$Text" "at" "I") kX5_peek_1) (fun _ h9 => h9) rfl dX5_peek_23 ?_
      refine va_bald hx hb hK hP 1 1 rfl rfl (i := nI a) (vp_in_nI (N := 120) (by omega) (by decide)) dX5_peek_26 ?_
      rw [nI_clamp (n := a) (by omega)]
      refine lv_goto (tgt := 31) hx hb dX5_peek_27 (by decide) ?_
      exact W.iret (v := lt a) hx hb hr (fun tS htS hWS => ⟨⟨lt a, (), rfl, (by unfold chI; first | (rw [if_pos c0]; exact hlt a c0) | (rw [if_neg (by omega)]) | fail), trivial⟩, hS.F htS⟩) hS.2.2 dX5_peek_31
theorem kX5_skipBlanks_0 : ∀ w ∈ wsX50, w ∈ wsX5_skipBlanks := by decide +kernel
theorem kX5_skipBlanks_1 : (.fieldLink RX5 19 "SightRidge$Text" "at" "I" : Cond) ∈ wsX5_skipBlanks := by decide +kernel
theorem kX5_skipBlanks_2 : (.fieldLink RX5 15 "SightRidge$Text" "length" "I" : Cond) ∈ wsX5_skipBlanks := by decide +kernel
set_option maxHeartbeats 4000000 in
set_option maxRecDepth 100000 in
/-- skipBlanks() -/
theorem c_X5_skipBlanks (l : Launch) (D : va_G) (cI cB cO : ClassId) (t tl : Nat) (L : Nat) (lt : Nat → Int32) (cc : Nat → Nat) (a f : Nat) (hL : L ≤ 120) (hlt : ∀ j, j < L → lt j = nI (cc j)) (hcc : ∀ j, j < L → cc j ≤ 127) (ha : a ≤ L) : Met l yX5_skipBlanks wsX5_skipBlanks (rmD 2) (wrPc D (tyL cI cB cO) [.ref t] [(t, .inr (5, [.ref tl, .int (nI L), .int (nI a), .int (FZ f)])), (tl, .inl (cB, 120, .inl lt))]) (wrQv D [(t, .inr (5, [.ref tl, .int (nI L), .int (nI a), .int (FZ f)])), (tl, .inl (cB, 120, .inl lt))] (fun (u : Unit) => True) (fun (u : Unit) => [(t, .inr (5, [.ref tl, .int (nI L), .int (nI (skp cc L a)), .int (FZ f)])), (tl, .inl (cB, 120, .inl lt))])) 0 0 (inW [(t, .inr (5, [.ref tl, .int (nI L), .int (nI a), .int (FZ f)])), (tl, .inl (cB, 120, .inl lt))]) := by
  refine Met.ofW (cc := cX5_skipBlanks) (maxL := 2) (ret := none) (by decide) rfl ?_
  intro p e s m args below meth c s₁ B hml hv
  obtain ⟨rfl, hP, hK, hN, hD⟩ := hv
  have hx := B.exec
  have hb := B.bytes
  have hr := B.returns
  have hts := atoms_spec (ws := wsX5_skipBlanks) B.pre
  have hown : s.vm.findClass RX5 = some m.cls := findClass_of_methodNamed B.named
  have hlocks := B.notSynchronized
  have hS : va_S (inW [(t, .inr (5, [.ref tl, .int (nI L), .int (nI a), .int (FZ f)])), (tl, .inl (cB, 120, .inl lt))]) s.heap s.heap [] := va_S.rf
  have hD : va_D (inW [(t, .inr (5, [.ref tl, .int (nI L), .int (nI a), .int (FZ f)])), (tl, .inl (cB, 120, .inl lt))]) [(t, .inr (5, [.ref tl, .int (nI L), .int (nI a), .int (FZ f)])), (tl, .inl (cB, 120, .inl lt))] := inW_self hD
  have hl := lv_entry ([.ref t]) (n := 2) (Nat.le_of_ble_eq_true rfl)
  rw [lg_entry_eq]
  generalize (lg_sl ([.ref t]) ++ List.replicate (2 - (lg_sl ([.ref t])).length) Slot.unset).toArray = ls at hl ⊢
  have hl : lv_has ls 2 [(0, .ref t)] := hl
  refine lv_aload_n hx hb dX5_skipBlanks_0 rfl (lv_at hl 0 rfl) ?_
  refine va_get (D := D) (ci := 5) (v := .int (nI a)) (C := RX5) (T := TX5) (N := 4) hx hb hts kX5_skipBlanks_0 hown hK hP 0 rfl rfl 2 (by decide) (hts (.fieldLink RX5 19 "SightRidge$Text" "at" "I") kX5_skipBlanks_1) (fun _ h9 => h9) rfl dX5_skipBlanks_1 ?_
  refine lv_istore_n (lv' := [(1, .int (nI a)), (0, .ref t)]) hx hb dX5_skipBlanks_4 rfl hl (by decide) rfl (fun ls hl => ?_)
  have L_5 : ∀ (k_5 : Nat) (i : Nat), L - i < k_5 → (i ≤ L) → (skp cc L i = skp cc L a) → ∀ (H : Heap) (locs : List Loc), va_P D vwCl [(t, .inr (5, [.ref tl, .int (nI L), .int (nI i), .int (FZ f)])), (tl, .inl (cB, 120, .inl lt))] H → va_D (inW [(t, .inr (5, [.ref tl, .int (nI L), .int (nI a), .int (FZ f)])), (tl, .inl (cB, 120, .inl lt))]) [(t, .inr (5, [.ref tl, .int (nI L), .int (nI i), .int (FZ f)])), (tl, .inl (cB, 120, .inl lt))] → va_S (inW [(t, .inr (5, [.ref tl, .int (nI L), .int (nI a), .int (FZ f)])), (tl, .inl (cB, 120, .inl lt))]) s.heap H locs → ∀ (ls : Array Slot), lv_has ls 2 [(0, .ref t), (1, .int (nI i))] → W p l e (rmD 2) s m ([.ref t] : List Value).toArray below meth c H locs 0 0 (MQ below (wrQv D [(t, .inr (5, [.ref tl, .int (nI L), .int (nI a), .int (FZ f)])), (tl, .inl (cB, 120, .inl lt))] (fun (u : Unit) => True) (fun (u : Unit) => [(t, .inr (5, [.ref tl, .int (nI L), .int (nI (skp cc L a)), .int (FZ f)])), (tl, .inl (cB, 120, .inl lt))])) ([.ref t] : List Value).toArray s 0 0 (inW [(t, .inr (5, [.ref tl, .int (nI L), .int (nI a), .int (FZ f)])), (tl, .inl (cB, 120, .inl lt))])) (F0 m 5 ls []) := by
    intro k_5
    induction k_5 with
    | zero => intro i h9; exact absurd h9 (Nat.not_lt_zero _)
    | succ k_5 ih_5 =>
      intro i hm_5 hi hs H locs hP hD hS ls hl
      refine lv_iload_n hx hb dX5_skipBlanks_5 rfl (lv_at hl 1 rfl) ?_
      refine lv_aload_n hx hb dX5_skipBlanks_6 rfl (lv_at hl 0 rfl) ?_
      refine va_get (D := D) (ci := 5) (v := .int (nI L)) (C := RX5) (T := TX5) (N := 4) hx hb hts kX5_skipBlanks_0 hown hK hP 0 rfl rfl 1 (by decide) (hts (.fieldLink RX5 15 "SightRidge$Text" "length" "I") kX5_skipBlanks_2) (fun _ h9 => h9) rfl dX5_skipBlanks_7 ?_
      refine lv_icmp_ge (tgt := 38) hx hb dX5_skipBlanks_10 (by decide) (fun c_10 => ?_) (fun c_10 => ?_)
      · skip
        have c0 : L ≤ i := ge_t (by omega) c_10
        have c2 : chB cc L i 32 = false := decide_eq_false (fun q => by omega)
        have e9 : ([(t, .inr (5, [.ref tl, .int (nI L), .int (nI i), .int (FZ f)])), (tl, .inl (cB, 120, .inl lt))] : va_W) = [(t, .inr (5, [.ref tl, .int (nI L), .int (nI (skp cc L a)), .int (FZ f)])), (tl, .inl (cB, 120, .inl lt))] := congrArg (fun f9 : Int32 => ([(t, .inr (5, [.ref tl, .int (nI L), .int f9, .int (FZ f)])), (tl, .inl (cB, 120, .inl lt))] : va_W)) (show nI i = nI (skp cc L a) from by rw [← hs, skp_e c2])
        have hP := va_P_eq e9 hP
        have hD := va_D_eq e9 hD
        exact W.vret hx hb hr (fun tS htS hWS => ⟨⟨(), rfl, trivial, retP htS hP⟩, hS.F htS⟩) hS.2.2 dX5_skipBlanks_38
      · skip
        have c0 : i < L := ge_f (by omega) c_10
        refine lv_aload_n hx hb dX5_skipBlanks_13 rfl (lv_at hl 0 rfl) ?_
        refine rd_calli hP hS (va_runV (As := []) (rest := []) ⟨hx, hb, hml, hown, hts⟩ (c_X5_peek l D cI cB cO t tl L lt cc i f hL hlt hcc hi) (cwV 0 hts gX5_skipBlanks_X5_peek rfl rfl rfl (by decide +kernel) ⟨Nat.le_of_ble_eq_true rfl, Nat.le_of_ble_eq_true rfl⟩) (rd_preV (r := (RX5, TX5, 4)) (ci := 5) hK (hP.pick [0, 1] rfl) hN (q0 := 0) rfl rfl) rfl rfl hl.1 rfl (lv_room (Nat.le_of_ble_eq_true rfl)) dX5_skipBlanks_14 ⟨Nat.le_refl _, Nat.le_refl _⟩) (fun r_14 H locs h_14 hP hS => ?_)
        refine lv_bipush (v := 32) hx hb dX5_skipBlanks_17 (by decide) ?_
        refine lv_icmp_ne (tgt := 38) hx hb dX5_skipBlanks_19 (by decide) (fun c_19 => ?_) (fun c_19 => ?_)
        · skip
          have c2 : chB cc L i 32 = false := Bool.eq_false_iff.mpr (fun q => c_19 (h_14.trans ((chI_eq hcc (by decide)).mpr q)))
          have e9 : ([(t, .inr (5, [.ref tl, .int (nI L), .int (nI i), .int (FZ f)])), (tl, .inl (cB, 120, .inl lt))] : va_W) = [(t, .inr (5, [.ref tl, .int (nI L), .int (nI (skp cc L a)), .int (FZ f)])), (tl, .inl (cB, 120, .inl lt))] := congrArg (fun f9 : Int32 => ([(t, .inr (5, [.ref tl, .int (nI L), .int f9, .int (FZ f)])), (tl, .inl (cB, 120, .inl lt))] : va_W)) (show nI i = nI (skp cc L a) from by rw [← hs, skp_e c2])
          have hP := va_P_eq e9 hP
          have hD := va_D_eq e9 hD
          exact W.vret hx hb hr (fun tS htS hWS => ⟨⟨(), rfl, trivial, retP htS hP⟩, hS.F htS⟩) hS.2.2 dX5_skipBlanks_38
        · skip
          have c2 : chB cc L i 32 = true := (chI_eq hcc (by decide)).mp (h_14.symm.trans c_19)
          refine lv_aload_n hx hb dX5_skipBlanks_22 rfl (lv_at hl 0 rfl) ?_
          refine lv_dup hx hb dX5_skipBlanks_23 rfl ?_
          refine va_get (D := D) (ci := 5) (v := .int (nI i)) (C := RX5) (T := TX5) (N := 4) hx hb hts kX5_skipBlanks_0 hown hK hP 0 rfl rfl 2 (by decide) (hts (.fieldLink RX5 19 "SightRidge$Text" "at" "I") kX5_skipBlanks_1) (fun _ h9 => h9) rfl dX5_skipBlanks_24 ?_
          refine lv_iconst (v := 1) hx hb dX5_skipBlanks_27 (by decide) ?_
          refine lv_iadd hx hb dX5_skipBlanks_28 ?_
          refine lv_topi (fun y_1 e_2 => ?_)
          have e_2 : nI (i + 1) = y_1 := (e_2.trans (nI_add i 1)).symm
          subst e_2
          refine va_put (D := D) (ci := 5) (v := .int (nI (i + 1))) (ty := .int) (C := RX5) (T := TX5) (N := 4) hx hb hts kX5_skipBlanks_0 tyX5 tyX5_ok nmX5 hown hK hP hD hS 0 rfl rfl 2 (by decide) (hts (.fieldLink RX5 19 "SightRidge$Text" "at" "I") kX5_skipBlanks_1) (fun _ h9 => h9) rfl (by decide +kernel) rfl rfl (Nat.le_of_ble_eq_true rfl) dX5_skipBlanks_29 (fun H locs hP hD hS => ?_)
          have hP : va_P D vwCl [(t, .inr (5, [.ref tl, .int (nI L), .int (nI (i + 1)), .int (FZ f)])), (tl, .inl (cB, 120, .inl lt))] _ := hP
          have hD : va_D (inW [(t, .inr (5, [.ref tl, .int (nI L), .int (nI a), .int (FZ f)])), (tl, .inl (cB, 120, .inl lt))]) [(t, .inr (5, [.ref tl, .int (nI L), .int (nI (i + 1)), .int (FZ f)])), (tl, .inl (cB, 120, .inl lt))] := hD
          refine lv_iinc (v := nI (i + 1)) (lv' := [(1, .int (nI (i + 1))), (0, .ref t)]) hx hb dX5_skipBlanks_32 hl (k := 1) rfl (inc1 _) (by decide) rfl (fun ls hl => ?_)
          refine lv_goto (tgt := 5) hx hb dX5_skipBlanks_35 (by decide) ?_
          exact ih_5 (i + 1) (by omega) (by omega) ((skp_s c2).symm.trans hs) _ _ hP hD hS ls (lv_sub hl [1, 0] rfl)
  exact L_5 _ a (Nat.lt_succ_self _) (ha) (rfl) _ _ hP hD hS ls (lv_sub hl [1, 0] rfl)
theorem kX5_accept_0 : ∀ w ∈ wsX50, w ∈ wsX5_accept := by decide +kernel
theorem kX5_accept_1 : (.fieldLink RX5 19 "SightRidge$Text" "at" "I" : Cond) ∈ wsX5_accept := by decide +kernel
set_option maxHeartbeats 4000000 in
set_option maxRecDepth 100000 in
/-- accept(letter) -/
theorem c_X5_accept (l : Launch) (D : va_G) (cI cB cO : ClassId) (t tl : Nat) (L : Nat) (lt : Nat → Int32) (cc : Nat → Nat) (a f : Nat) (v : Nat) (hL : L ≤ 120) (hlt : ∀ j, j < L → lt j = nI (cc j)) (hcc : ∀ j, j < L → cc j ≤ 127) (ha : a ≤ L) (hv : v ≤ 127) : Met l yX5_accept wsX5_accept (rmD 3) (wrPc D (tyL cI cB cO) [.ref t, .int (nI v)] [(t, .inr (5, [.ref tl, .int (nI L), .int (nI a), .int (FZ f)])), (tl, .inl (cB, 120, .inl lt))]) (wrQi D [(t, .inr (5, [.ref tl, .int (nI L), .int (nI a), .int (FZ f)])), (tl, .inl (cB, 120, .inl lt))] (fun (r : Int32) (u : Nat) => (chB cc L a v = true ∧ r = 1 ∧ u = skp cc L (a + 1)) ∨ (chB cc L a v = false ∧ r = 0 ∧ u = a)) (fun (u : Nat) => [(t, .inr (5, [.ref tl, .int (nI L), .int (nI u), .int (FZ f)])), (tl, .inl (cB, 120, .inl lt))])) 0 0 (inW [(t, .inr (5, [.ref tl, .int (nI L), .int (nI a), .int (FZ f)])), (tl, .inl (cB, 120, .inl lt))]) := by
  refine Met.ofW (cc := cX5_accept) (maxL := 2) (ret := (some .boolean)) (by decide) rfl ?_
  intro p e s m args below meth c s₁ B hml hv
  obtain ⟨rfl, hP, hK, hN, hD⟩ := hv
  have hx := B.exec
  have hb := B.bytes
  have hr := B.returns
  have hts := atoms_spec (ws := wsX5_accept) B.pre
  have hown : s.vm.findClass RX5 = some m.cls := findClass_of_methodNamed B.named
  have hlocks := B.notSynchronized
  have hS : va_S (inW [(t, .inr (5, [.ref tl, .int (nI L), .int (nI a), .int (FZ f)])), (tl, .inl (cB, 120, .inl lt))]) s.heap s.heap [] := va_S.rf
  have hD : va_D (inW [(t, .inr (5, [.ref tl, .int (nI L), .int (nI a), .int (FZ f)])), (tl, .inl (cB, 120, .inl lt))]) [(t, .inr (5, [.ref tl, .int (nI L), .int (nI a), .int (FZ f)])), (tl, .inl (cB, 120, .inl lt))] := inW_self hD
  have hl := lv_entry ([.ref t, .int (nI v)]) (n := 2) (Nat.le_of_ble_eq_true rfl)
  rw [lg_entry_eq]
  generalize (lg_sl ([.ref t, .int (nI v)]) ++ List.replicate (2 - (lg_sl ([.ref t, .int (nI v)])).length) Slot.unset).toArray = ls at hl ⊢
  have hl : lv_has ls 2 [(0, .ref t), (1, .int (nI v))] := hl
  refine lv_aload_n hx hb dX5_accept_0 rfl (lv_at hl 0 rfl) ?_
  refine rd_calli hP hS (va_runV (As := []) (rest := []) ⟨hx, hb, hml, hown, hts⟩ (c_X5_peek l D cI cB cO t tl L lt cc a f hL hlt hcc ha) (cwV 0 hts gX5_accept_X5_peek rfl rfl rfl (by decide +kernel) ⟨Nat.le_of_ble_eq_true rfl, Nat.le_of_ble_eq_true rfl⟩) (rd_preV (r := (RX5, TX5, 4)) (ci := 5) hK (hP.pick [0, 1] rfl) hN (q0 := 0) rfl rfl) rfl rfl hl.1 rfl (lv_room (Nat.le_of_ble_eq_true rfl)) dX5_accept_1 ⟨Nat.le_refl _, Nat.le_refl _⟩) (fun r_1 H locs h_1 hP hS => ?_)
  refine lv_iload_n hx hb dX5_accept_4 rfl (lv_at hl 1 rfl) ?_
  refine lv_icmp_eq (tgt := 10) hx hb dX5_accept_5 (by decide) (fun c_5 => ?_) (fun c_5 => ?_)
  · skip
    have c2 : chB cc L a v = true := (chI_eq hcc hv).mp (h_1.symm.trans c_5)
    have c3 : a < L := (of_decide_eq_true c2).1
    refine lv_aload_n hx hb dX5_accept_10 rfl (lv_at hl 0 rfl) ?_
    refine lv_dup hx hb dX5_accept_11 rfl ?_
    refine va_get (D := D) (ci := 5) (v := .int (nI a)) (C := RX5) (T := TX5) (N := 4) hx hb hts kX5_accept_0 hown hK hP 0 rfl rfl 2 (by decide) (hts (.fieldLink RX5 19 "SightRidge$Text" "at" "I") kX5_accept_1) (fun _ h9 => h9) rfl dX5_accept_12 ?_
    refine lv_iconst (v := 1) hx hb dX5_accept_15 (by decide) ?_
    refine lv_iadd hx hb dX5_accept_16 ?_
    refine lv_topi (fun y_1 e_2 => ?_)
    have e_2 : nI (a + 1) = y_1 := (e_2.trans (nI_add a 1)).symm
    subst e_2
    refine va_put (D := D) (ci := 5) (v := .int (nI (a + 1))) (ty := .int) (C := RX5) (T := TX5) (N := 4) hx hb hts kX5_accept_0 tyX5 tyX5_ok nmX5 hown hK hP hD hS 0 rfl rfl 2 (by decide) (hts (.fieldLink RX5 19 "SightRidge$Text" "at" "I") kX5_accept_1) (fun _ h9 => h9) rfl (by decide +kernel) rfl rfl (Nat.le_of_ble_eq_true rfl) dX5_accept_17 (fun H locs hP hD hS => ?_)
    have hP : va_P D vwCl [(t, .inr (5, [.ref tl, .int (nI L), .int (nI (a + 1)), .int (FZ f)])), (tl, .inl (cB, 120, .inl lt))] _ := hP
    have hD : va_D (inW [(t, .inr (5, [.ref tl, .int (nI L), .int (nI a), .int (FZ f)])), (tl, .inl (cB, 120, .inl lt))]) [(t, .inr (5, [.ref tl, .int (nI L), .int (nI (a + 1)), .int (FZ f)])), (tl, .inl (cB, 120, .inl lt))] := hD
    refine lv_aload_n hx hb dX5_accept_20 rfl (lv_at hl 0 rfl) ?_
    refine wv_callv (wc := [(t, .inr (5, [.ref tl, .int (nI L), .int (nI (a + 1)), .int (FZ f)])), (tl, .inl (cB, 120, .inl lt))]) hP hD hS [0, 1] rfl rfl (va_runV (As := []) (rest := []) ⟨hx, hb, hml, hown, hts⟩ (c_X5_skipBlanks l D cI cB cO t tl L lt cc (a + 1) f hL hlt hcc c3) (cwV 0 hts gX5_accept_X5_skipBlanks rfl rfl rfl (by decide +kernel) ⟨Nat.le_of_ble_eq_true rfl, Nat.le_of_ble_eq_true rfl⟩) (wr_preV (wc := [(t, .inr (5, [.ref tl, .int (nI L), .int (nI (a + 1)), .int (FZ f)])), (tl, .inl (cB, 120, .inl lt))]) (r := (RX5, TX5, 4)) (ci := 5) hK (hP.pick [0, 1] rfl) hN (wr_dsub hD [0, 1] rfl rfl) (q0 := 0) rfl rfl) rfl rfl hl.1 rfl (lv_room (Nat.le_of_ble_eq_true rfl)) dX5_accept_21 ⟨Nat.le_refl _, Nat.le_refl _⟩) (fun _ => [(t, .inr (5, [.ref tl, .int (nI L), .int (nI (skp cc L (a + 1))), .int (FZ f)])), (tl, .inl (cB, 120, .inl lt))]) (fun _ => rfl) (fun _ => rfl) (fun u_21 H locs h_21 hP hD hS => ?_)
    have hP : va_P D vwCl [(t, .inr (5, [.ref tl, .int (nI L), .int (nI (skp cc L (a + 1))), .int (FZ f)])), (tl, .inl (cB, 120, .inl lt))] _ := hP
    have hD : va_D (inW [(t, .inr (5, [.ref tl, .int (nI L), .int (nI a), .int (FZ f)])), (tl, .inl (cB, 120, .inl lt))]) [(t, .inr (5, [.ref tl, .int (nI L), .int (nI (skp cc L (a + 1))), .int (FZ f)])), (tl, .inl (cB, 120, .inl lt))] := hD
    refine lv_iconst (v := 1) hx hb dX5_accept_24 (by decide) ?_
    exact W.zret (v := 1) hx hb hr (rfl) (fun tS htS hWS => ⟨⟨1, skp cc L (a + 1), rfl, (Or.inl ⟨c2, rfl, rfl⟩), retP htS hP⟩, hS.F htS⟩) hS.2.2 dX5_accept_25
  · skip
    have c2 : chB cc L a v = false := Bool.eq_false_iff.mpr (fun q => c_5 (h_1.trans ((chI_eq hcc hv).mpr q)))
    refine lv_iconst (v := 0) hx hb dX5_accept_8 (by decide) ?_
    exact W.zret (v := 0) hx hb hr (rfl) (fun tS htS hWS => ⟨⟨0, a, rfl, (Or.inr ⟨c2, rfl, rfl⟩), retP htS hP⟩, hS.F htS⟩) hS.2.2 dX5_accept_9
theorem kX5_readNumber_0 : ∀ w ∈ wsX50, w ∈ wsX5_readNumber := by decide +kernel
theorem kX5_readNumber_1 : (.fieldLink RX5 19 "SightRidge$Text" "at" "I" : Cond) ∈ wsX5_readNumber := by decide +kernel
theorem kX5_readNumber_2 : (.fieldLink RX5 22 "SightRidge$Text" "flaw" "I" : Cond) ∈ wsX5_readNumber := by decide +kernel
theorem kX5_readNumber_3 : (.initialized RX6 : Cond) ∈ wsX5_readNumber := by decide +kernel
theorem kX5_readNumber_4 : (.static yX6_within : Cond) ∈ wsX5_readNumber := by decide +kernel
set_option maxHeartbeats 4000000 in
set_option maxRecDepth 100000 in
/-- readNumber(least, most) -/
theorem c_X5_readNumber (l : Launch) (D : va_G) (cI cB cO : ClassId) (t tl : Nat) (L : Nat) (lt : Nat → Int32) (cc : Nat → Nat) (a f : Nat) (lo h : Nat) (hL : L ≤ 120) (hlt : ∀ j, j < L → lt j = nI (cc j)) (hcc : ∀ j, j < L → cc j ≤ 127) (ha : a ≤ L) (hlo : lo ≤ 1) (hh : h ≤ 1000) (hf : f ≤ 121) : Met l yX5_readNumber wsX5_readNumber (rmD 3) (wrPc D (tyL cI cB cO) [.ref t, .int (nI lo), .int (FZ h)] [(t, .inr (5, [.ref tl, .int (nI L), .int (nI a), .int (FZ f)])), (tl, .inl (cB, 120, .inl lt))]) (wrQi D [(t, .inr (5, [.ref tl, .int (nI L), .int (nI a), .int (FZ f)])), (tl, .inl (cB, 120, .inl lt))] (fun (r : Int32) (u : Unit) => r = nI (num cc L a).2) (fun (u : Unit) => [(t, .inr (5, [.ref tl, .int (nI L), .int (nI (skp cc L (num cc L a).1)), .int (FZ (flN f a (num cc L a).1 (num cc L a).2 lo h))])), (tl, .inl (cB, 120, .inl lt))])) 0 0 (inW [(t, .inr (5, [.ref tl, .int (nI L), .int (nI a), .int (FZ f)])), (tl, .inl (cB, 120, .inl lt))]) := by
  refine Met.ofW (cc := cX5_readNumber) (maxL := 6) (ret := (some .int)) (by decide) rfl ?_
  intro p e s m args below meth c s₁ B hml hv
  obtain ⟨rfl, hP, hK, hN, hD⟩ := hv
  have hx := B.exec
  have hb := B.bytes
  have hr := B.returns
  have hts := atoms_spec (ws := wsX5_readNumber) B.pre
  have hown : s.vm.findClass RX5 = some m.cls := findClass_of_methodNamed B.named
  have hlocks := B.notSynchronized
  have hS : va_S (inW [(t, .inr (5, [.ref tl, .int (nI L), .int (nI a), .int (FZ f)])), (tl, .inl (cB, 120, .inl lt))]) s.heap s.heap [] := va_S.rf
  have hD : va_D (inW [(t, .inr (5, [.ref tl, .int (nI L), .int (nI a), .int (FZ f)])), (tl, .inl (cB, 120, .inl lt))]) [(t, .inr (5, [.ref tl, .int (nI L), .int (nI a), .int (FZ f)])), (tl, .inl (cB, 120, .inl lt))] := inW_self hD
  have hl := lv_entry ([.ref t, .int (nI lo), .int (FZ h)]) (n := 6) (Nat.le_of_ble_eq_true rfl)
  rw [lg_entry_eq]
  generalize (lg_sl ([.ref t, .int (nI lo), .int (FZ h)]) ++ List.replicate (6 - (lg_sl ([.ref t, .int (nI lo), .int (FZ h)])).length) Slot.unset).toArray = ls at hl ⊢
  have hl : lv_has ls 6 [(0, .ref t), (1, .int (nI lo)), (2, .int (FZ h))] := hl
  refine lv_aload_n hx hb dX5_readNumber_0 rfl (lv_at hl 0 rfl) ?_
  refine va_get (D := D) (ci := 5) (v := .int (nI a)) (C := RX5) (T := TX5) (N := 4) hx hb hts kX5_readNumber_0 hown hK hP 0 rfl rfl 2 (by decide) (hts (.fieldLink RX5 19 "SightRidge$Text" "at" "I") kX5_readNumber_1) (fun _ h9 => h9) rfl dX5_readNumber_1 ?_
  refine lv_istore_n (lv' := [(3, .int (nI a)), (0, .ref t), (1, .int (nI lo)), (2, .int (FZ h))]) hx hb dX5_readNumber_4 rfl hl (by decide) rfl (fun ls hl => ?_)
  refine lv_iconst (v := 0) hx hb dX5_readNumber_5 (by decide) ?_
  refine lv_istore (lv' := [(4, .int 0), (3, .int (nI a)), (0, .ref t), (1, .int (nI lo)), (2, .int (FZ h))]) hx hb dX5_readNumber_6 hl (by decide) rfl (fun ls hl => ?_)
  refine lv_iconst (v := 0) hx hb dX5_readNumber_8 (by decide) ?_
  refine lv_istore (lv' := [(5, .int 0), (4, .int 0), (3, .int (nI a)), (0, .ref t), (1, .int (nI lo)), (2, .int (FZ h))]) hx hb dX5_readNumber_9 hl (by decide) rfl (fun ls hl => ?_)
  have L_11 : ∀ (k_11 : Nat) (i : Nat) (b : Nat) (v : Nat), 3 - i < k_11 → (i ≤ 3) → (b ≤ L) → (v + 1 ≤ 10 ^ i) → (numf cc L (3 - i) b v = (num cc L a)) → ∀ (H : Heap) (locs : List Loc), va_P D vwCl [(t, .inr (5, [.ref tl, .int (nI L), .int (nI b), .int (FZ f)])), (tl, .inl (cB, 120, .inl lt))] H → va_D (inW [(t, .inr (5, [.ref tl, .int (nI L), .int (nI a), .int (FZ f)])), (tl, .inl (cB, 120, .inl lt))]) [(t, .inr (5, [.ref tl, .int (nI L), .int (nI b), .int (FZ f)])), (tl, .inl (cB, 120, .inl lt))] → va_S (inW [(t, .inr (5, [.ref tl, .int (nI L), .int (nI a), .int (FZ f)])), (tl, .inl (cB, 120, .inl lt))]) s.heap H locs → ∀ (ls : Array Slot), lv_has ls 6 [(0, .ref t), (1, .int (nI lo)), (2, .int (FZ h)), (3, .int (nI a)), (4, .int (nI v)), (5, .int (nI i))] → W p l e (rmD 3) s m ([.ref t, .int (nI lo), .int (FZ h)] : List Value).toArray below meth c H locs 0 0 (MQ below (wrQi D [(t, .inr (5, [.ref tl, .int (nI L), .int (nI a), .int (FZ f)])), (tl, .inl (cB, 120, .inl lt))] (fun (r : Int32) (u : Unit) => r = nI (num cc L a).2) (fun (u : Unit) => [(t, .inr (5, [.ref tl, .int (nI L), .int (nI (skp cc L (num cc L a).1)), .int (FZ (flN f a (num cc L a).1 (num cc L a).2 lo h))])), (tl, .inl (cB, 120, .inl lt))])) ([.ref t, .int (nI lo), .int (FZ h)] : List Value).toArray s 0 0 (inW [(t, .inr (5, [.ref tl, .int (nI L), .int (nI a), .int (FZ f)])), (tl, .inl (cB, 120, .inl lt))])) (F0 m 11 ls []) := by
    intro k_11
    induction k_11 with
    | zero => intro i b v h9; exact absurd h9 (Nat.not_lt_zero _)
    | succ k_11 ih_11 =>
      intro i b v hm_11 hi hb1 hv hs H locs hP hD hS ls hl
      refine lv_iload hx hb dX5_readNumber_11 (lv_at hl 5 rfl) ?_
      refine lv_iconst (v := 3) hx hb dX5_readNumber_13 (by decide) ?_
      refine lv_icmp_ge (tgt := 62) hx hb dX5_readNumber_14 (by decide) (fun c_14 => ?_) (fun c_14 => ?_)
      · skip
        have c0 : 3 ≤ i := ge_t (n := 3) (by omega) c_14
        have hs2 : (b, v) = (num cc L a) := by rw [show 3 - i = 0 by omega] at hs; exact hs
        have e1 : b = (num cc L a).1 := congrArg Prod.fst hs2
        have e2 : v = (num cc L a).2 := congrArg Prod.snd hs2
        subst e1
        subst e2
        have hvm := num_val cc L a
        refine lv_aload_n hx hb dX5_readNumber_62 rfl (lv_at hl 0 rfl) ?_
        refine va_get (D := D) (ci := 5) (v := .int (FZ f)) (C := RX5) (T := TX5) (N := 4) hx hb hts kX5_readNumber_0 hown hK hP 0 rfl rfl 3 (by decide) (hts (.fieldLink RX5 22 "SightRidge$Text" "flaw" "I") kX5_readNumber_2) (fun _ h9 => h9) rfl dX5_readNumber_63 ?_
        refine lv_iconst (v := (-1)) hx hb dX5_readNumber_66 (by decide) ?_
        refine lv_icmp_ne (tgt := 93) hx hb dX5_readNumber_67 (by decide) (fun c_67 => ?_) (fun c_67 => ?_)
        · skip
          have d1 : f ≠ 0 := fun q => c_67 (by rw [q]; rfl)
          have e9 : ([(t, .inr (5, [.ref tl, .int (nI L), .int (nI (num cc L a).1), .int (FZ f)])), (tl, .inl (cB, 120, .inl lt))] : va_W) = [(t, .inr (5, [.ref tl, .int (nI L), .int (nI (num cc L a).1), .int (FZ (flN f a (num cc L a).1 (num cc L a).2 lo h))])), (tl, .inl (cB, 120, .inl lt))] := congrArg (fun f9 : Int32 => ([(t, .inr (5, [.ref tl, .int (nI L), .int (nI (num cc L a).1), .int f9])), (tl, .inl (cB, 120, .inl lt))] : va_W)) (show FZ f = FZ (flN f a (num cc L a).1 (num cc L a).2 lo h) from by unfold flN; rw [if_neg (fun q => d1 q.1)])
          have hP := va_P_eq e9 hP
          have hD := va_D_eq e9 hD
          refine lv_aload_n hx hb dX5_readNumber_93 rfl (lv_at hl 0 rfl) ?_
          refine wv_callv (wc := [(t, .inr (5, [.ref tl, .int (nI L), .int (nI (num cc L a).1), .int (FZ (flN f a (num cc L a).1 (num cc L a).2 lo h))])), (tl, .inl (cB, 120, .inl lt))]) hP hD hS [0, 1] rfl rfl (va_runV (As := []) (rest := []) ⟨hx, hb, hml, hown, hts⟩ (c_X5_skipBlanks l D cI cB cO t tl L lt cc (num cc L a).1 (flN f a (num cc L a).1 (num cc L a).2 lo h) hL hlt hcc hb1) (cwV 0 hts gX5_readNumber_X5_skipBlanks rfl rfl rfl (by decide +kernel) ⟨Nat.le_of_ble_eq_true rfl, Nat.le_of_ble_eq_true rfl⟩) (wr_preV (wc := [(t, .inr (5, [.ref tl, .int (nI L), .int (nI (num cc L a).1), .int (FZ (flN f a (num cc L a).1 (num cc L a).2 lo h))])), (tl, .inl (cB, 120, .inl lt))]) (r := (RX5, TX5, 4)) (ci := 5) hK (hP.pick [0, 1] rfl) hN (wr_dsub hD [0, 1] rfl rfl) (q0 := 0) rfl rfl) rfl rfl hl.1 rfl (lv_room (Nat.le_of_ble_eq_true rfl)) dX5_readNumber_94 ⟨Nat.le_refl _, Nat.le_refl _⟩) (fun _ => [(t, .inr (5, [.ref tl, .int (nI L), .int (nI (skp cc L (num cc L a).1)), .int (FZ (flN f a (num cc L a).1 (num cc L a).2 lo h))])), (tl, .inl (cB, 120, .inl lt))]) (fun _ => rfl) (fun _ => rfl) (fun u_94 H locs h_94 hP hD hS => ?_)
          have hP : va_P D vwCl [(t, .inr (5, [.ref tl, .int (nI L), .int (nI (skp cc L (num cc L a).1)), .int (FZ (flN f a (num cc L a).1 (num cc L a).2 lo h))])), (tl, .inl (cB, 120, .inl lt))] _ := hP
          have hD : va_D (inW [(t, .inr (5, [.ref tl, .int (nI L), .int (nI a), .int (FZ f)])), (tl, .inl (cB, 120, .inl lt))]) [(t, .inr (5, [.ref tl, .int (nI L), .int (nI (skp cc L (num cc L a).1)), .int (FZ (flN f a (num cc L a).1 (num cc L a).2 lo h))])), (tl, .inl (cB, 120, .inl lt))] := hD
          refine lv_iload hx hb dX5_readNumber_97 (lv_at hl 4 rfl) ?_
          exact W.iret (v := nI (num cc L a).2) hx hb hr (fun tS htS hWS => ⟨⟨nI (num cc L a).2, (), rfl, rfl, retP htS hP⟩, hS.F htS⟩) hS.2.2 dX5_readNumber_99
        · skip
          have d1 : f = 0 := (FZ_eq (by omega)).mp c_67
          refine lv_aload_n hx hb dX5_readNumber_70 rfl (lv_at hl 0 rfl) ?_
          refine va_get (D := D) (ci := 5) (v := .int (nI (num cc L a).1)) (C := RX5) (T := TX5) (N := 4) hx hb hts kX5_readNumber_0 hown hK hP 0 rfl rfl 2 (by decide) (hts (.fieldLink RX5 19 "SightRidge$Text" "at" "I") kX5_readNumber_1) (fun _ h9 => h9) rfl dX5_readNumber_71 ?_
          refine lv_iload_n hx hb dX5_readNumber_74 rfl (lv_at hl 3 rfl) ?_
          refine lv_icmp_eq (tgt := 88) hx hb dX5_readNumber_75 (by decide) (fun c_75 => ?_) (fun c_75 => ?_)
          · skip
            have d2 : (num cc L a).1 = a := (nI_eq (by omega) (by omega)).mp c_75
            have d3 : f = 0 ∧ ((num cc L a).1 = a ∨ ¬ (lo ≤ (num cc L a).2 ∧ (num cc L a).2 < h)) := ⟨d1, Or.inl d2⟩
            refine lv_aload_n hx hb dX5_readNumber_88 rfl (lv_at hl 0 rfl) ?_
            refine lv_iload_n hx hb dX5_readNumber_89 rfl (lv_at hl 3 rfl) ?_
            refine va_put (D := D) (ci := 5) (v := .int (nI a)) (ty := .int) (C := RX5) (T := TX5) (N := 4) hx hb hts kX5_readNumber_0 tyX5 tyX5_ok nmX5 hown hK hP hD hS 0 rfl rfl 3 (by decide) (hts (.fieldLink RX5 22 "SightRidge$Text" "flaw" "I") kX5_readNumber_2) (fun _ h9 => h9) rfl (by decide +kernel) rfl rfl (Nat.le_of_ble_eq_true rfl) dX5_readNumber_90 (fun H locs hP hD hS => ?_)
            have hP : va_P D vwCl [(t, .inr (5, [.ref tl, .int (nI L), .int (nI (num cc L a).1), .int (nI a)])), (tl, .inl (cB, 120, .inl lt))] _ := hP
            have hD : va_D (inW [(t, .inr (5, [.ref tl, .int (nI L), .int (nI a), .int (FZ f)])), (tl, .inl (cB, 120, .inl lt))]) [(t, .inr (5, [.ref tl, .int (nI L), .int (nI (num cc L a).1), .int (nI a)])), (tl, .inl (cB, 120, .inl lt))] := hD
            have e9 : ([(t, .inr (5, [.ref tl, .int (nI L), .int (nI (num cc L a).1), .int (nI a)])), (tl, .inl (cB, 120, .inl lt))] : va_W) = [(t, .inr (5, [.ref tl, .int (nI L), .int (nI (num cc L a).1), .int (FZ (flN f a (num cc L a).1 (num cc L a).2 lo h))])), (tl, .inl (cB, 120, .inl lt))] := congrArg (fun f9 : Int32 => ([(t, .inr (5, [.ref tl, .int (nI L), .int (nI (num cc L a).1), .int f9])), (tl, .inl (cB, 120, .inl lt))] : va_W)) (show nI a = FZ (flN f a (num cc L a).1 (num cc L a).2 lo h) from by unfold flN; rw [if_pos d3, FZ_s])
            have hP := va_P_eq e9 hP
            have hD := va_D_eq e9 hD
            refine lv_aload_n hx hb dX5_readNumber_93 rfl (lv_at hl 0 rfl) ?_
            refine wv_callv (wc := [(t, .inr (5, [.ref tl, .int (nI L), .int (nI (num cc L a).1), .int (FZ (flN f a (num cc L a).1 (num cc L a).2 lo h))])), (tl, .inl (cB, 120, .inl lt))]) hP hD hS [0, 1] rfl rfl (va_runV (As := []) (rest := []) ⟨hx, hb, hml, hown, hts⟩ (c_X5_skipBlanks l D cI cB cO t tl L lt cc (num cc L a).1 (flN f a (num cc L a).1 (num cc L a).2 lo h) hL hlt hcc hb1) (cwV 0 hts gX5_readNumber_X5_skipBlanks rfl rfl rfl (by decide +kernel) ⟨Nat.le_of_ble_eq_true rfl, Nat.le_of_ble_eq_true rfl⟩) (wr_preV (wc := [(t, .inr (5, [.ref tl, .int (nI L), .int (nI (num cc L a).1), .int (FZ (flN f a (num cc L a).1 (num cc L a).2 lo h))])), (tl, .inl (cB, 120, .inl lt))]) (r := (RX5, TX5, 4)) (ci := 5) hK (hP.pick [0, 1] rfl) hN (wr_dsub hD [0, 1] rfl rfl) (q0 := 0) rfl rfl) rfl rfl hl.1 rfl (lv_room (Nat.le_of_ble_eq_true rfl)) dX5_readNumber_94 ⟨Nat.le_refl _, Nat.le_refl _⟩) (fun _ => [(t, .inr (5, [.ref tl, .int (nI L), .int (nI (skp cc L (num cc L a).1)), .int (FZ (flN f a (num cc L a).1 (num cc L a).2 lo h))])), (tl, .inl (cB, 120, .inl lt))]) (fun _ => rfl) (fun _ => rfl) (fun u_94 H locs h_94 hP hD hS => ?_)
            have hP : va_P D vwCl [(t, .inr (5, [.ref tl, .int (nI L), .int (nI (skp cc L (num cc L a).1)), .int (FZ (flN f a (num cc L a).1 (num cc L a).2 lo h))])), (tl, .inl (cB, 120, .inl lt))] _ := hP
            have hD : va_D (inW [(t, .inr (5, [.ref tl, .int (nI L), .int (nI a), .int (FZ f)])), (tl, .inl (cB, 120, .inl lt))]) [(t, .inr (5, [.ref tl, .int (nI L), .int (nI (skp cc L (num cc L a).1)), .int (FZ (flN f a (num cc L a).1 (num cc L a).2 lo h))])), (tl, .inl (cB, 120, .inl lt))] := hD
            refine lv_iload hx hb dX5_readNumber_97 (lv_at hl 4 rfl) ?_
            exact W.iret (v := nI (num cc L a).2) hx hb hr (fun tS htS hWS => ⟨⟨nI (num cc L a).2, (), rfl, rfl, retP htS hP⟩, hS.F htS⟩) hS.2.2 dX5_readNumber_99
          · skip
            have d2 : ¬ (num cc L a).1 = a := fun q => c_75 (by rw [q])
            refine lv_iload hx hb dX5_readNumber_78 (lv_at hl 4 rfl) ?_
            refine lv_iload_n hx hb dX5_readNumber_80 rfl (lv_at hl 1 rfl) ?_
            refine lv_iload_n hx hb dX5_readNumber_81 rfl (lv_at hl 2 rfl) ?_
            refine rd_calli hP hS (va_runSN (As := [.int (nI (num cc L a).2), .int (nI lo), .int (FZ h)]) (rest := []) ⟨hx, hb, hml, hown, hts⟩ (c_X6_within l D cI cB cO (nI (num cc L a).2) (nI lo) (FZ h) ) ⟨va_cnB 3 hts gX5_readNumber_X6_within_n56 rfl rfl rfl hN.2.2.2.2.2.2.2.2 (hts (.initialized RX6) kX5_readNumber_3) (by decide +kernel) ⟨Nat.le_of_ble_eq_true rfl, Nat.le_of_ble_eq_true rfl⟩, hts (.static yX6_within) kX5_readNumber_4, trivial⟩ (rd_preS hK (hP.pick [] rfl) hN) rfl rfl hl.1 rfl (lv_room (Nat.le_of_ble_eq_true rfl)) dX5_readNumber_82 ⟨Nat.le_refl _, Nat.le_refl _⟩) (fun r_82 H locs h_82 hP hS => ?_)
            rw [inB_FZ (by omega) (by omega) (by omega)] at h_82
            refine lv_if_ne (tgt := 93) hx hb dX5_readNumber_85 (by decide) (fun c_85 => ?_) (fun c_85 => ?_)
            · skip
              have d4 := of_decide_eq_true (bI_n0 (fun q => c_85 (h_82.trans q)))
              have e9 : ([(t, .inr (5, [.ref tl, .int (nI L), .int (nI (num cc L a).1), .int (FZ f)])), (tl, .inl (cB, 120, .inl lt))] : va_W) = [(t, .inr (5, [.ref tl, .int (nI L), .int (nI (num cc L a).1), .int (FZ (flN f a (num cc L a).1 (num cc L a).2 lo h))])), (tl, .inl (cB, 120, .inl lt))] := congrArg (fun f9 : Int32 => ([(t, .inr (5, [.ref tl, .int (nI L), .int (nI (num cc L a).1), .int f9])), (tl, .inl (cB, 120, .inl lt))] : va_W)) (show FZ f = FZ (flN f a (num cc L a).1 (num cc L a).2 lo h) from by unfold flN; rw [if_neg (fun q => q.2.elim d2 (fun z => z d4))])
              have hP := va_P_eq e9 hP
              have hD := va_D_eq e9 hD
              refine lv_aload_n hx hb dX5_readNumber_93 rfl (lv_at hl 0 rfl) ?_
              refine wv_callv (wc := [(t, .inr (5, [.ref tl, .int (nI L), .int (nI (num cc L a).1), .int (FZ (flN f a (num cc L a).1 (num cc L a).2 lo h))])), (tl, .inl (cB, 120, .inl lt))]) hP hD hS [0, 1] rfl rfl (va_runV (As := []) (rest := []) ⟨hx, hb, hml, hown, hts⟩ (c_X5_skipBlanks l D cI cB cO t tl L lt cc (num cc L a).1 (flN f a (num cc L a).1 (num cc L a).2 lo h) hL hlt hcc hb1) (cwV 0 hts gX5_readNumber_X5_skipBlanks rfl rfl rfl (by decide +kernel) ⟨Nat.le_of_ble_eq_true rfl, Nat.le_of_ble_eq_true rfl⟩) (wr_preV (wc := [(t, .inr (5, [.ref tl, .int (nI L), .int (nI (num cc L a).1), .int (FZ (flN f a (num cc L a).1 (num cc L a).2 lo h))])), (tl, .inl (cB, 120, .inl lt))]) (r := (RX5, TX5, 4)) (ci := 5) hK (hP.pick [0, 1] rfl) hN (wr_dsub hD [0, 1] rfl rfl) (q0 := 0) rfl rfl) rfl rfl hl.1 rfl (lv_room (Nat.le_of_ble_eq_true rfl)) dX5_readNumber_94 ⟨Nat.le_refl _, Nat.le_refl _⟩) (fun _ => [(t, .inr (5, [.ref tl, .int (nI L), .int (nI (skp cc L (num cc L a).1)), .int (FZ (flN f a (num cc L a).1 (num cc L a).2 lo h))])), (tl, .inl (cB, 120, .inl lt))]) (fun _ => rfl) (fun _ => rfl) (fun u_94 H locs h_94 hP hD hS => ?_)
              have hP : va_P D vwCl [(t, .inr (5, [.ref tl, .int (nI L), .int (nI (skp cc L (num cc L a).1)), .int (FZ (flN f a (num cc L a).1 (num cc L a).2 lo h))])), (tl, .inl (cB, 120, .inl lt))] _ := hP
              have hD : va_D (inW [(t, .inr (5, [.ref tl, .int (nI L), .int (nI a), .int (FZ f)])), (tl, .inl (cB, 120, .inl lt))]) [(t, .inr (5, [.ref tl, .int (nI L), .int (nI (skp cc L (num cc L a).1)), .int (FZ (flN f a (num cc L a).1 (num cc L a).2 lo h))])), (tl, .inl (cB, 120, .inl lt))] := hD
              refine lv_iload hx hb dX5_readNumber_97 (lv_at hl 4 rfl) ?_
              exact W.iret (v := nI (num cc L a).2) hx hb hr (fun tS htS hWS => ⟨⟨nI (num cc L a).2, (), rfl, rfl, retP htS hP⟩, hS.F htS⟩) hS.2.2 dX5_readNumber_99
            · skip
              have d4 := of_decide_eq_false (bI_e0 (h_82.symm.trans c_85))
              have d3 : f = 0 ∧ ((num cc L a).1 = a ∨ ¬ (lo ≤ (num cc L a).2 ∧ (num cc L a).2 < h)) := ⟨d1, Or.inr d4⟩
              refine lv_aload_n hx hb dX5_readNumber_88 rfl (lv_at hl 0 rfl) ?_
              refine lv_iload_n hx hb dX5_readNumber_89 rfl (lv_at hl 3 rfl) ?_
              refine va_put (D := D) (ci := 5) (v := .int (nI a)) (ty := .int) (C := RX5) (T := TX5) (N := 4) hx hb hts kX5_readNumber_0 tyX5 tyX5_ok nmX5 hown hK hP hD hS 0 rfl rfl 3 (by decide) (hts (.fieldLink RX5 22 "SightRidge$Text" "flaw" "I") kX5_readNumber_2) (fun _ h9 => h9) rfl (by decide +kernel) rfl rfl (Nat.le_of_ble_eq_true rfl) dX5_readNumber_90 (fun H locs hP hD hS => ?_)
              have hP : va_P D vwCl [(t, .inr (5, [.ref tl, .int (nI L), .int (nI (num cc L a).1), .int (nI a)])), (tl, .inl (cB, 120, .inl lt))] _ := hP
              have hD : va_D (inW [(t, .inr (5, [.ref tl, .int (nI L), .int (nI a), .int (FZ f)])), (tl, .inl (cB, 120, .inl lt))]) [(t, .inr (5, [.ref tl, .int (nI L), .int (nI (num cc L a).1), .int (nI a)])), (tl, .inl (cB, 120, .inl lt))] := hD
              have e9 : ([(t, .inr (5, [.ref tl, .int (nI L), .int (nI (num cc L a).1), .int (nI a)])), (tl, .inl (cB, 120, .inl lt))] : va_W) = [(t, .inr (5, [.ref tl, .int (nI L), .int (nI (num cc L a).1), .int (FZ (flN f a (num cc L a).1 (num cc L a).2 lo h))])), (tl, .inl (cB, 120, .inl lt))] := congrArg (fun f9 : Int32 => ([(t, .inr (5, [.ref tl, .int (nI L), .int (nI (num cc L a).1), .int f9])), (tl, .inl (cB, 120, .inl lt))] : va_W)) (show nI a = FZ (flN f a (num cc L a).1 (num cc L a).2 lo h) from by unfold flN; rw [if_pos d3, FZ_s])
              have hP := va_P_eq e9 hP
              have hD := va_D_eq e9 hD
              refine lv_aload_n hx hb dX5_readNumber_93 rfl (lv_at hl 0 rfl) ?_
              refine wv_callv (wc := [(t, .inr (5, [.ref tl, .int (nI L), .int (nI (num cc L a).1), .int (FZ (flN f a (num cc L a).1 (num cc L a).2 lo h))])), (tl, .inl (cB, 120, .inl lt))]) hP hD hS [0, 1] rfl rfl (va_runV (As := []) (rest := []) ⟨hx, hb, hml, hown, hts⟩ (c_X5_skipBlanks l D cI cB cO t tl L lt cc (num cc L a).1 (flN f a (num cc L a).1 (num cc L a).2 lo h) hL hlt hcc hb1) (cwV 0 hts gX5_readNumber_X5_skipBlanks rfl rfl rfl (by decide +kernel) ⟨Nat.le_of_ble_eq_true rfl, Nat.le_of_ble_eq_true rfl⟩) (wr_preV (wc := [(t, .inr (5, [.ref tl, .int (nI L), .int (nI (num cc L a).1), .int (FZ (flN f a (num cc L a).1 (num cc L a).2 lo h))])), (tl, .inl (cB, 120, .inl lt))]) (r := (RX5, TX5, 4)) (ci := 5) hK (hP.pick [0, 1] rfl) hN (wr_dsub hD [0, 1] rfl rfl) (q0 := 0) rfl rfl) rfl rfl hl.1 rfl (lv_room (Nat.le_of_ble_eq_true rfl)) dX5_readNumber_94 ⟨Nat.le_refl _, Nat.le_refl _⟩) (fun _ => [(t, .inr (5, [.ref tl, .int (nI L), .int (nI (skp cc L (num cc L a).1)), .int (FZ (flN f a (num cc L a).1 (num cc L a).2 lo h))])), (tl, .inl (cB, 120, .inl lt))]) (fun _ => rfl) (fun _ => rfl) (fun u_94 H locs h_94 hP hD hS => ?_)
              have hP : va_P D vwCl [(t, .inr (5, [.ref tl, .int (nI L), .int (nI (skp cc L (num cc L a).1)), .int (FZ (flN f a (num cc L a).1 (num cc L a).2 lo h))])), (tl, .inl (cB, 120, .inl lt))] _ := hP
              have hD : va_D (inW [(t, .inr (5, [.ref tl, .int (nI L), .int (nI a), .int (FZ f)])), (tl, .inl (cB, 120, .inl lt))]) [(t, .inr (5, [.ref tl, .int (nI L), .int (nI (skp cc L (num cc L a).1)), .int (FZ (flN f a (num cc L a).1 (num cc L a).2 lo h))])), (tl, .inl (cB, 120, .inl lt))] := hD
              refine lv_iload hx hb dX5_readNumber_97 (lv_at hl 4 rfl) ?_
              exact W.iret (v := nI (num cc L a).2) hx hb hr (fun tS htS hWS => ⟨⟨nI (num cc L a).2, (), rfl, rfl, retP htS hP⟩, hS.F htS⟩) hS.2.2 dX5_readNumber_99
      · skip
        have c0 : i < 3 := ge_f (n := 3) (by omega) c_14
        have h10 : (10 : Nat) ^ i ≤ 100 := by rcases (show i = 0 ∨ i = 1 ∨ i = 2 by omega) with rfl | rfl | rfl <;> decide
        refine lv_aload_n hx hb dX5_readNumber_17 rfl (lv_at hl 0 rfl) ?_
        refine rd_calli hP hS (va_runV (As := []) (rest := []) ⟨hx, hb, hml, hown, hts⟩ (c_X5_peek l D cI cB cO t tl L lt cc b f hL hlt hcc hb1) (cwV 0 hts gX5_readNumber_X5_peek rfl rfl rfl (by decide +kernel) ⟨Nat.le_of_ble_eq_true rfl, Nat.le_of_ble_eq_true rfl⟩) (rd_preV (r := (RX5, TX5, 4)) (ci := 5) hK (hP.pick [0, 1] rfl) hN (q0 := 0) rfl rfl) rfl rfl hl.1 rfl (lv_room (Nat.le_of_ble_eq_true rfl)) dX5_readNumber_18 ⟨Nat.le_refl _, Nat.le_refl _⟩) (fun r_18 H locs h_18 hP hS => ?_)
        refine lv_bipush (v := 48) hx hb dX5_readNumber_21 (by decide) ?_
        refine lv_bipush (v := 57) hx hb dX5_readNumber_23 (by decide) ?_
        refine rd_calli hP hS (va_runSN (As := [.int r_18, .int 48, .int 57]) (rest := []) ⟨hx, hb, hml, hown, hts⟩ (c_X6_within l D cI cB cO r_18 48 57 ) ⟨va_cnB 3 hts gX5_readNumber_X6_within_n56 rfl rfl rfl hN.2.2.2.2.2.2.2.2 (hts (.initialized RX6) kX5_readNumber_3) (by decide +kernel) ⟨Nat.le_of_ble_eq_true rfl, Nat.le_of_ble_eq_true rfl⟩, hts (.static yX6_within) kX5_readNumber_4, trivial⟩ (rd_preS hK (hP.pick [] rfl) hN) rfl rfl hl.1 rfl (lv_room (Nat.le_of_ble_eq_true rfl)) dX5_readNumber_25 ⟨Nat.le_refl _, Nat.le_refl _⟩) (fun r_25 H locs h_25 hP hS => ?_)
        rw [h_18, inB_dg hcc] at h_25
        refine lv_if_eq (tgt := 62) hx hb dX5_readNumber_28 (by decide) (fun c_28 => ?_) (fun c_28 => ?_)
        · skip
          have c2 : dgB cc L b = false := bI_e0 (h_25.symm.trans c_28)
          have hs2 : (b, v) = (num cc L a) := by rw [show 3 - i = (3 - (i + 1)) + 1 by omega, numf, if_neg (by rw [c2]; exact Bool.false_ne_true)] at hs; exact hs
          have e1 : b = (num cc L a).1 := congrArg Prod.fst hs2
          have e2 : v = (num cc L a).2 := congrArg Prod.snd hs2
          subst e1
          subst e2
          have hvm := num_val cc L a
          refine lv_aload_n hx hb dX5_readNumber_62 rfl (lv_at hl 0 rfl) ?_
          refine va_get (D := D) (ci := 5) (v := .int (FZ f)) (C := RX5) (T := TX5) (N := 4) hx hb hts kX5_readNumber_0 hown hK hP 0 rfl rfl 3 (by decide) (hts (.fieldLink RX5 22 "SightRidge$Text" "flaw" "I") kX5_readNumber_2) (fun _ h9 => h9) rfl dX5_readNumber_63 ?_
          refine lv_iconst (v := (-1)) hx hb dX5_readNumber_66 (by decide) ?_
          refine lv_icmp_ne (tgt := 93) hx hb dX5_readNumber_67 (by decide) (fun c_67 => ?_) (fun c_67 => ?_)
          · skip
            have d1 : f ≠ 0 := fun q => c_67 (by rw [q]; rfl)
            have e9 : ([(t, .inr (5, [.ref tl, .int (nI L), .int (nI (num cc L a).1), .int (FZ f)])), (tl, .inl (cB, 120, .inl lt))] : va_W) = [(t, .inr (5, [.ref tl, .int (nI L), .int (nI (num cc L a).1), .int (FZ (flN f a (num cc L a).1 (num cc L a).2 lo h))])), (tl, .inl (cB, 120, .inl lt))] := congrArg (fun f9 : Int32 => ([(t, .inr (5, [.ref tl, .int (nI L), .int (nI (num cc L a).1), .int f9])), (tl, .inl (cB, 120, .inl lt))] : va_W)) (show FZ f = FZ (flN f a (num cc L a).1 (num cc L a).2 lo h) from by unfold flN; rw [if_neg (fun q => d1 q.1)])
            have hP := va_P_eq e9 hP
            have hD := va_D_eq e9 hD
            refine lv_aload_n hx hb dX5_readNumber_93 rfl (lv_at hl 0 rfl) ?_
            refine wv_callv (wc := [(t, .inr (5, [.ref tl, .int (nI L), .int (nI (num cc L a).1), .int (FZ (flN f a (num cc L a).1 (num cc L a).2 lo h))])), (tl, .inl (cB, 120, .inl lt))]) hP hD hS [0, 1] rfl rfl (va_runV (As := []) (rest := []) ⟨hx, hb, hml, hown, hts⟩ (c_X5_skipBlanks l D cI cB cO t tl L lt cc (num cc L a).1 (flN f a (num cc L a).1 (num cc L a).2 lo h) hL hlt hcc hb1) (cwV 0 hts gX5_readNumber_X5_skipBlanks rfl rfl rfl (by decide +kernel) ⟨Nat.le_of_ble_eq_true rfl, Nat.le_of_ble_eq_true rfl⟩) (wr_preV (wc := [(t, .inr (5, [.ref tl, .int (nI L), .int (nI (num cc L a).1), .int (FZ (flN f a (num cc L a).1 (num cc L a).2 lo h))])), (tl, .inl (cB, 120, .inl lt))]) (r := (RX5, TX5, 4)) (ci := 5) hK (hP.pick [0, 1] rfl) hN (wr_dsub hD [0, 1] rfl rfl) (q0 := 0) rfl rfl) rfl rfl hl.1 rfl (lv_room (Nat.le_of_ble_eq_true rfl)) dX5_readNumber_94 ⟨Nat.le_refl _, Nat.le_refl _⟩) (fun _ => [(t, .inr (5, [.ref tl, .int (nI L), .int (nI (skp cc L (num cc L a).1)), .int (FZ (flN f a (num cc L a).1 (num cc L a).2 lo h))])), (tl, .inl (cB, 120, .inl lt))]) (fun _ => rfl) (fun _ => rfl) (fun u_94 H locs h_94 hP hD hS => ?_)
            have hP : va_P D vwCl [(t, .inr (5, [.ref tl, .int (nI L), .int (nI (skp cc L (num cc L a).1)), .int (FZ (flN f a (num cc L a).1 (num cc L a).2 lo h))])), (tl, .inl (cB, 120, .inl lt))] _ := hP
            have hD : va_D (inW [(t, .inr (5, [.ref tl, .int (nI L), .int (nI a), .int (FZ f)])), (tl, .inl (cB, 120, .inl lt))]) [(t, .inr (5, [.ref tl, .int (nI L), .int (nI (skp cc L (num cc L a).1)), .int (FZ (flN f a (num cc L a).1 (num cc L a).2 lo h))])), (tl, .inl (cB, 120, .inl lt))] := hD
            refine lv_iload hx hb dX5_readNumber_97 (lv_at hl 4 rfl) ?_
            exact W.iret (v := nI (num cc L a).2) hx hb hr (fun tS htS hWS => ⟨⟨nI (num cc L a).2, (), rfl, rfl, retP htS hP⟩, hS.F htS⟩) hS.2.2 dX5_readNumber_99
          · skip
            have d1 : f = 0 := (FZ_eq (by omega)).mp c_67
            refine lv_aload_n hx hb dX5_readNumber_70 rfl (lv_at hl 0 rfl) ?_
            refine va_get (D := D) (ci := 5) (v := .int (nI (num cc L a).1)) (C := RX5) (T := TX5) (N := 4) hx hb hts kX5_readNumber_0 hown hK hP 0 rfl rfl 2 (by decide) (hts (.fieldLink RX5 19 "SightRidge$Text" "at" "I") kX5_readNumber_1) (fun _ h9 => h9) rfl dX5_readNumber_71 ?_
            refine lv_iload_n hx hb dX5_readNumber_74 rfl (lv_at hl 3 rfl) ?_
            refine lv_icmp_eq (tgt := 88) hx hb dX5_readNumber_75 (by decide) (fun c_75 => ?_) (fun c_75 => ?_)
            · skip
              have d2 : (num cc L a).1 = a := (nI_eq (by omega) (by omega)).mp c_75
              have d3 : f = 0 ∧ ((num cc L a).1 = a ∨ ¬ (lo ≤ (num cc L a).2 ∧ (num cc L a).2 < h)) := ⟨d1, Or.inl d2⟩
              refine lv_aload_n hx hb dX5_readNumber_88 rfl (lv_at hl 0 rfl) ?_
              refine lv_iload_n hx hb dX5_readNumber_89 rfl (lv_at hl 3 rfl) ?_
              refine va_put (D := D) (ci := 5) (v := .int (nI a)) (ty := .int) (C := RX5) (T := TX5) (N := 4) hx hb hts kX5_readNumber_0 tyX5 tyX5_ok nmX5 hown hK hP hD hS 0 rfl rfl 3 (by decide) (hts (.fieldLink RX5 22 "SightRidge$Text" "flaw" "I") kX5_readNumber_2) (fun _ h9 => h9) rfl (by decide +kernel) rfl rfl (Nat.le_of_ble_eq_true rfl) dX5_readNumber_90 (fun H locs hP hD hS => ?_)
              have hP : va_P D vwCl [(t, .inr (5, [.ref tl, .int (nI L), .int (nI (num cc L a).1), .int (nI a)])), (tl, .inl (cB, 120, .inl lt))] _ := hP
              have hD : va_D (inW [(t, .inr (5, [.ref tl, .int (nI L), .int (nI a), .int (FZ f)])), (tl, .inl (cB, 120, .inl lt))]) [(t, .inr (5, [.ref tl, .int (nI L), .int (nI (num cc L a).1), .int (nI a)])), (tl, .inl (cB, 120, .inl lt))] := hD
              have e9 : ([(t, .inr (5, [.ref tl, .int (nI L), .int (nI (num cc L a).1), .int (nI a)])), (tl, .inl (cB, 120, .inl lt))] : va_W) = [(t, .inr (5, [.ref tl, .int (nI L), .int (nI (num cc L a).1), .int (FZ (flN f a (num cc L a).1 (num cc L a).2 lo h))])), (tl, .inl (cB, 120, .inl lt))] := congrArg (fun f9 : Int32 => ([(t, .inr (5, [.ref tl, .int (nI L), .int (nI (num cc L a).1), .int f9])), (tl, .inl (cB, 120, .inl lt))] : va_W)) (show nI a = FZ (flN f a (num cc L a).1 (num cc L a).2 lo h) from by unfold flN; rw [if_pos d3, FZ_s])
              have hP := va_P_eq e9 hP
              have hD := va_D_eq e9 hD
              refine lv_aload_n hx hb dX5_readNumber_93 rfl (lv_at hl 0 rfl) ?_
              refine wv_callv (wc := [(t, .inr (5, [.ref tl, .int (nI L), .int (nI (num cc L a).1), .int (FZ (flN f a (num cc L a).1 (num cc L a).2 lo h))])), (tl, .inl (cB, 120, .inl lt))]) hP hD hS [0, 1] rfl rfl (va_runV (As := []) (rest := []) ⟨hx, hb, hml, hown, hts⟩ (c_X5_skipBlanks l D cI cB cO t tl L lt cc (num cc L a).1 (flN f a (num cc L a).1 (num cc L a).2 lo h) hL hlt hcc hb1) (cwV 0 hts gX5_readNumber_X5_skipBlanks rfl rfl rfl (by decide +kernel) ⟨Nat.le_of_ble_eq_true rfl, Nat.le_of_ble_eq_true rfl⟩) (wr_preV (wc := [(t, .inr (5, [.ref tl, .int (nI L), .int (nI (num cc L a).1), .int (FZ (flN f a (num cc L a).1 (num cc L a).2 lo h))])), (tl, .inl (cB, 120, .inl lt))]) (r := (RX5, TX5, 4)) (ci := 5) hK (hP.pick [0, 1] rfl) hN (wr_dsub hD [0, 1] rfl rfl) (q0 := 0) rfl rfl) rfl rfl hl.1 rfl (lv_room (Nat.le_of_ble_eq_true rfl)) dX5_readNumber_94 ⟨Nat.le_refl _, Nat.le_refl _⟩) (fun _ => [(t, .inr (5, [.ref tl, .int (nI L), .int (nI (skp cc L (num cc L a).1)), .int (FZ (flN f a (num cc L a).1 (num cc L a).2 lo h))])), (tl, .inl (cB, 120, .inl lt))]) (fun _ => rfl) (fun _ => rfl) (fun u_94 H locs h_94 hP hD hS => ?_)
              have hP : va_P D vwCl [(t, .inr (5, [.ref tl, .int (nI L), .int (nI (skp cc L (num cc L a).1)), .int (FZ (flN f a (num cc L a).1 (num cc L a).2 lo h))])), (tl, .inl (cB, 120, .inl lt))] _ := hP
              have hD : va_D (inW [(t, .inr (5, [.ref tl, .int (nI L), .int (nI a), .int (FZ f)])), (tl, .inl (cB, 120, .inl lt))]) [(t, .inr (5, [.ref tl, .int (nI L), .int (nI (skp cc L (num cc L a).1)), .int (FZ (flN f a (num cc L a).1 (num cc L a).2 lo h))])), (tl, .inl (cB, 120, .inl lt))] := hD
              refine lv_iload hx hb dX5_readNumber_97 (lv_at hl 4 rfl) ?_
              exact W.iret (v := nI (num cc L a).2) hx hb hr (fun tS htS hWS => ⟨⟨nI (num cc L a).2, (), rfl, rfl, retP htS hP⟩, hS.F htS⟩) hS.2.2 dX5_readNumber_99
            · skip
              have d2 : ¬ (num cc L a).1 = a := fun q => c_75 (by rw [q])
              refine lv_iload hx hb dX5_readNumber_78 (lv_at hl 4 rfl) ?_
              refine lv_iload_n hx hb dX5_readNumber_80 rfl (lv_at hl 1 rfl) ?_
              refine lv_iload_n hx hb dX5_readNumber_81 rfl (lv_at hl 2 rfl) ?_
              refine rd_calli hP hS (va_runSN (As := [.int (nI (num cc L a).2), .int (nI lo), .int (FZ h)]) (rest := []) ⟨hx, hb, hml, hown, hts⟩ (c_X6_within l D cI cB cO (nI (num cc L a).2) (nI lo) (FZ h) ) ⟨va_cnB 3 hts gX5_readNumber_X6_within_n56 rfl rfl rfl hN.2.2.2.2.2.2.2.2 (hts (.initialized RX6) kX5_readNumber_3) (by decide +kernel) ⟨Nat.le_of_ble_eq_true rfl, Nat.le_of_ble_eq_true rfl⟩, hts (.static yX6_within) kX5_readNumber_4, trivial⟩ (rd_preS hK (hP.pick [] rfl) hN) rfl rfl hl.1 rfl (lv_room (Nat.le_of_ble_eq_true rfl)) dX5_readNumber_82 ⟨Nat.le_refl _, Nat.le_refl _⟩) (fun r_82 H locs h_82 hP hS => ?_)
              rw [inB_FZ (by omega) (by omega) (by omega)] at h_82
              refine lv_if_ne (tgt := 93) hx hb dX5_readNumber_85 (by decide) (fun c_85 => ?_) (fun c_85 => ?_)
              · skip
                have d4 := of_decide_eq_true (bI_n0 (fun q => c_85 (h_82.trans q)))
                have e9 : ([(t, .inr (5, [.ref tl, .int (nI L), .int (nI (num cc L a).1), .int (FZ f)])), (tl, .inl (cB, 120, .inl lt))] : va_W) = [(t, .inr (5, [.ref tl, .int (nI L), .int (nI (num cc L a).1), .int (FZ (flN f a (num cc L a).1 (num cc L a).2 lo h))])), (tl, .inl (cB, 120, .inl lt))] := congrArg (fun f9 : Int32 => ([(t, .inr (5, [.ref tl, .int (nI L), .int (nI (num cc L a).1), .int f9])), (tl, .inl (cB, 120, .inl lt))] : va_W)) (show FZ f = FZ (flN f a (num cc L a).1 (num cc L a).2 lo h) from by unfold flN; rw [if_neg (fun q => q.2.elim d2 (fun z => z d4))])
                have hP := va_P_eq e9 hP
                have hD := va_D_eq e9 hD
                refine lv_aload_n hx hb dX5_readNumber_93 rfl (lv_at hl 0 rfl) ?_
                refine wv_callv (wc := [(t, .inr (5, [.ref tl, .int (nI L), .int (nI (num cc L a).1), .int (FZ (flN f a (num cc L a).1 (num cc L a).2 lo h))])), (tl, .inl (cB, 120, .inl lt))]) hP hD hS [0, 1] rfl rfl (va_runV (As := []) (rest := []) ⟨hx, hb, hml, hown, hts⟩ (c_X5_skipBlanks l D cI cB cO t tl L lt cc (num cc L a).1 (flN f a (num cc L a).1 (num cc L a).2 lo h) hL hlt hcc hb1) (cwV 0 hts gX5_readNumber_X5_skipBlanks rfl rfl rfl (by decide +kernel) ⟨Nat.le_of_ble_eq_true rfl, Nat.le_of_ble_eq_true rfl⟩) (wr_preV (wc := [(t, .inr (5, [.ref tl, .int (nI L), .int (nI (num cc L a).1), .int (FZ (flN f a (num cc L a).1 (num cc L a).2 lo h))])), (tl, .inl (cB, 120, .inl lt))]) (r := (RX5, TX5, 4)) (ci := 5) hK (hP.pick [0, 1] rfl) hN (wr_dsub hD [0, 1] rfl rfl) (q0 := 0) rfl rfl) rfl rfl hl.1 rfl (lv_room (Nat.le_of_ble_eq_true rfl)) dX5_readNumber_94 ⟨Nat.le_refl _, Nat.le_refl _⟩) (fun _ => [(t, .inr (5, [.ref tl, .int (nI L), .int (nI (skp cc L (num cc L a).1)), .int (FZ (flN f a (num cc L a).1 (num cc L a).2 lo h))])), (tl, .inl (cB, 120, .inl lt))]) (fun _ => rfl) (fun _ => rfl) (fun u_94 H locs h_94 hP hD hS => ?_)
                have hP : va_P D vwCl [(t, .inr (5, [.ref tl, .int (nI L), .int (nI (skp cc L (num cc L a).1)), .int (FZ (flN f a (num cc L a).1 (num cc L a).2 lo h))])), (tl, .inl (cB, 120, .inl lt))] _ := hP
                have hD : va_D (inW [(t, .inr (5, [.ref tl, .int (nI L), .int (nI a), .int (FZ f)])), (tl, .inl (cB, 120, .inl lt))]) [(t, .inr (5, [.ref tl, .int (nI L), .int (nI (skp cc L (num cc L a).1)), .int (FZ (flN f a (num cc L a).1 (num cc L a).2 lo h))])), (tl, .inl (cB, 120, .inl lt))] := hD
                refine lv_iload hx hb dX5_readNumber_97 (lv_at hl 4 rfl) ?_
                exact W.iret (v := nI (num cc L a).2) hx hb hr (fun tS htS hWS => ⟨⟨nI (num cc L a).2, (), rfl, rfl, retP htS hP⟩, hS.F htS⟩) hS.2.2 dX5_readNumber_99
              · skip
                have d4 := of_decide_eq_false (bI_e0 (h_82.symm.trans c_85))
                have d3 : f = 0 ∧ ((num cc L a).1 = a ∨ ¬ (lo ≤ (num cc L a).2 ∧ (num cc L a).2 < h)) := ⟨d1, Or.inr d4⟩
                refine lv_aload_n hx hb dX5_readNumber_88 rfl (lv_at hl 0 rfl) ?_
                refine lv_iload_n hx hb dX5_readNumber_89 rfl (lv_at hl 3 rfl) ?_
                refine va_put (D := D) (ci := 5) (v := .int (nI a)) (ty := .int) (C := RX5) (T := TX5) (N := 4) hx hb hts kX5_readNumber_0 tyX5 tyX5_ok nmX5 hown hK hP hD hS 0 rfl rfl 3 (by decide) (hts (.fieldLink RX5 22 "SightRidge$Text" "flaw" "I") kX5_readNumber_2) (fun _ h9 => h9) rfl (by decide +kernel) rfl rfl (Nat.le_of_ble_eq_true rfl) dX5_readNumber_90 (fun H locs hP hD hS => ?_)
                have hP : va_P D vwCl [(t, .inr (5, [.ref tl, .int (nI L), .int (nI (num cc L a).1), .int (nI a)])), (tl, .inl (cB, 120, .inl lt))] _ := hP
                have hD : va_D (inW [(t, .inr (5, [.ref tl, .int (nI L), .int (nI a), .int (FZ f)])), (tl, .inl (cB, 120, .inl lt))]) [(t, .inr (5, [.ref tl, .int (nI L), .int (nI (num cc L a).1), .int (nI a)])), (tl, .inl (cB, 120, .inl lt))] := hD
                have e9 : ([(t, .inr (5, [.ref tl, .int (nI L), .int (nI (num cc L a).1), .int (nI a)])), (tl, .inl (cB, 120, .inl lt))] : va_W) = [(t, .inr (5, [.ref tl, .int (nI L), .int (nI (num cc L a).1), .int (FZ (flN f a (num cc L a).1 (num cc L a).2 lo h))])), (tl, .inl (cB, 120, .inl lt))] := congrArg (fun f9 : Int32 => ([(t, .inr (5, [.ref tl, .int (nI L), .int (nI (num cc L a).1), .int f9])), (tl, .inl (cB, 120, .inl lt))] : va_W)) (show nI a = FZ (flN f a (num cc L a).1 (num cc L a).2 lo h) from by unfold flN; rw [if_pos d3, FZ_s])
                have hP := va_P_eq e9 hP
                have hD := va_D_eq e9 hD
                refine lv_aload_n hx hb dX5_readNumber_93 rfl (lv_at hl 0 rfl) ?_
                refine wv_callv (wc := [(t, .inr (5, [.ref tl, .int (nI L), .int (nI (num cc L a).1), .int (FZ (flN f a (num cc L a).1 (num cc L a).2 lo h))])), (tl, .inl (cB, 120, .inl lt))]) hP hD hS [0, 1] rfl rfl (va_runV (As := []) (rest := []) ⟨hx, hb, hml, hown, hts⟩ (c_X5_skipBlanks l D cI cB cO t tl L lt cc (num cc L a).1 (flN f a (num cc L a).1 (num cc L a).2 lo h) hL hlt hcc hb1) (cwV 0 hts gX5_readNumber_X5_skipBlanks rfl rfl rfl (by decide +kernel) ⟨Nat.le_of_ble_eq_true rfl, Nat.le_of_ble_eq_true rfl⟩) (wr_preV (wc := [(t, .inr (5, [.ref tl, .int (nI L), .int (nI (num cc L a).1), .int (FZ (flN f a (num cc L a).1 (num cc L a).2 lo h))])), (tl, .inl (cB, 120, .inl lt))]) (r := (RX5, TX5, 4)) (ci := 5) hK (hP.pick [0, 1] rfl) hN (wr_dsub hD [0, 1] rfl rfl) (q0 := 0) rfl rfl) rfl rfl hl.1 rfl (lv_room (Nat.le_of_ble_eq_true rfl)) dX5_readNumber_94 ⟨Nat.le_refl _, Nat.le_refl _⟩) (fun _ => [(t, .inr (5, [.ref tl, .int (nI L), .int (nI (skp cc L (num cc L a).1)), .int (FZ (flN f a (num cc L a).1 (num cc L a).2 lo h))])), (tl, .inl (cB, 120, .inl lt))]) (fun _ => rfl) (fun _ => rfl) (fun u_94 H locs h_94 hP hD hS => ?_)
                have hP : va_P D vwCl [(t, .inr (5, [.ref tl, .int (nI L), .int (nI (skp cc L (num cc L a).1)), .int (FZ (flN f a (num cc L a).1 (num cc L a).2 lo h))])), (tl, .inl (cB, 120, .inl lt))] _ := hP
                have hD : va_D (inW [(t, .inr (5, [.ref tl, .int (nI L), .int (nI a), .int (FZ f)])), (tl, .inl (cB, 120, .inl lt))]) [(t, .inr (5, [.ref tl, .int (nI L), .int (nI (skp cc L (num cc L a).1)), .int (FZ (flN f a (num cc L a).1 (num cc L a).2 lo h))])), (tl, .inl (cB, 120, .inl lt))] := hD
                refine lv_iload hx hb dX5_readNumber_97 (lv_at hl 4 rfl) ?_
                exact W.iret (v := nI (num cc L a).2) hx hb hr (fun tS htS hWS => ⟨⟨nI (num cc L a).2, (), rfl, rfl, retP htS hP⟩, hS.F htS⟩) hS.2.2 dX5_readNumber_99
        · skip
          have c2 : dgB cc L b = true := bI_n0 (fun q => c_28 (h_25.trans q))
          have c3 := of_decide_eq_true c2
          refine lv_bipush (v := 10) hx hb dX5_readNumber_31 (by decide) ?_
          refine lv_iload hx hb dX5_readNumber_33 (lv_at hl 4 rfl) ?_
          refine lv_imul hx hb dX5_readNumber_35 ?_
          refine lv_topi (fun y_1 e_2 => ?_)
          have e_2 : nI (10 * v) = y_1 := (e_2.trans (pk_mul 10 v)).symm
          subst e_2
          refine lv_aload_n hx hb dX5_readNumber_36 rfl (lv_at hl 0 rfl) ?_
          refine rd_calli hP hS (va_runV (As := []) (rest := [.int (nI (10 * v))]) ⟨hx, hb, hml, hown, hts⟩ (c_X5_peek l D cI cB cO t tl L lt cc b f hL hlt hcc hb1) (cwV 0 hts gX5_readNumber_X5_peek rfl rfl rfl (by decide +kernel) ⟨Nat.le_of_ble_eq_true rfl, Nat.le_of_ble_eq_true rfl⟩) (rd_preV (r := (RX5, TX5, 4)) (ci := 5) hK (hP.pick [0, 1] rfl) hN (q0 := 0) rfl rfl) rfl rfl hl.1 rfl (lv_room (Nat.le_of_ble_eq_true rfl)) dX5_readNumber_37 ⟨Nat.le_refl _, Nat.le_refl _⟩) (fun r_37 H locs h_37 hP hS => ?_)
          have h_37 : r_37 = nI (cc b) := h_37.trans (if_pos c3.1)
          subst h_37
          refine lv_iadd hx hb dX5_readNumber_40 ?_
          refine lv_topi (fun y_3 e_4 => ?_)
          have e_4 : nI ((10 * v) + (cc b)) = y_3 := (e_4.trans (nI_add (10 * v) (cc b))).symm
          subst e_4
          refine lv_bipush (v := 48) hx hb dX5_readNumber_41 (by decide) ?_
          refine lv_isub hx hb dX5_readNumber_43 ?_
          refine lv_topi (fun y_5 e_6 => ?_)
          have e_6 : nI (10 * v + cc b - 48) = y_5 := (e_6.trans (pk_sub (b := 48) (by omega))).symm
          subst e_6
          refine lv_istore (lv' := [(4, .int (nI (10 * v + cc b - 48))), (0, .ref t), (1, .int (nI lo)), (2, .int (FZ h)), (3, .int (nI a)), (5, .int (nI i))]) hx hb dX5_readNumber_44 hl (by decide) rfl (fun ls hl => ?_)
          refine lv_aload_n hx hb dX5_readNumber_46 rfl (lv_at hl 1 rfl) ?_
          refine lv_dup hx hb dX5_readNumber_47 rfl ?_
          refine va_get (D := D) (ci := 5) (v := .int (nI b)) (C := RX5) (T := TX5) (N := 4) hx hb hts kX5_readNumber_0 hown hK hP 0 rfl rfl 2 (by decide) (hts (.fieldLink RX5 19 "SightRidge$Text" "at" "I") kX5_readNumber_1) (fun _ h9 => h9) rfl dX5_readNumber_48 ?_
          refine lv_iconst (v := 1) hx hb dX5_readNumber_51 (by decide) ?_
          refine lv_iadd hx hb dX5_readNumber_52 ?_
          refine lv_topi (fun y_7 e_8 => ?_)
          have e_8 : nI (b + 1) = y_7 := (e_8.trans (nI_add b 1)).symm
          subst e_8
          refine va_put (D := D) (ci := 5) (v := .int (nI (b + 1))) (ty := .int) (C := RX5) (T := TX5) (N := 4) hx hb hts kX5_readNumber_0 tyX5 tyX5_ok nmX5 hown hK hP hD hS 0 rfl rfl 2 (by decide) (hts (.fieldLink RX5 19 "SightRidge$Text" "at" "I") kX5_readNumber_1) (fun _ h9 => h9) rfl (by decide +kernel) rfl rfl (Nat.le_of_ble_eq_true rfl) dX5_readNumber_53 (fun H locs hP hD hS => ?_)
          have hP : va_P D vwCl [(t, .inr (5, [.ref tl, .int (nI L), .int (nI (b + 1)), .int (FZ f)])), (tl, .inl (cB, 120, .inl lt))] _ := hP
          have hD : va_D (inW [(t, .inr (5, [.ref tl, .int (nI L), .int (nI a), .int (FZ f)])), (tl, .inl (cB, 120, .inl lt))]) [(t, .inr (5, [.ref tl, .int (nI L), .int (nI (b + 1)), .int (FZ f)])), (tl, .inl (cB, 120, .inl lt))] := hD
          refine lv_iinc (v := nI (i + 1)) (lv' := [(5, .int (nI (i + 1))), (4, .int (nI (10 * v + cc b - 48))), (0, .ref t), (1, .int (nI lo)), (2, .int (FZ h)), (3, .int (nI a))]) hx hb dX5_readNumber_56 hl (k := 5) rfl (inc1 _) (by decide) rfl (fun ls hl => ?_)
          refine lv_goto (tgt := 11) hx hb dX5_readNumber_59 (by decide) ?_
          exact ih_11 (i + 1) (b + 1) (10 * v + cc b - 48) (by omega) (by omega) (by omega) (by rw [Nat.pow_succ]; omega) (by rw [show 3 - i = (3 - (i + 1)) + 1 by omega, numf, if_pos c2] at hs; exact hs) _ _ hP hD hS ls (lv_sub hl [2, 3, 4, 5, 1, 0] rfl)
  exact L_11 _ 0 a 0 (Nat.lt_succ_self _) (by omega) (ha) (by decide) (rfl) _ _ hP hD hS ls (lv_sub hl [3, 4, 5, 2, 1, 0] rfl)
