/-! counts and findings, of both -/
def A_finding (fk : Nat) (fc : Nat → Nat) (x : Int32) : Int32 := if -1 ≤ x then (if fk = 0 then -3 else if x = -1 then FZ fk else if FZ fk ≤ x then -1 else nI (fc (cN x))) else -2
theorem find_ix {x : Int32} {fk : Nat} (h1 : -1 ≤ x) (h2 : ¬ x = -1) (h3 : ¬ FZ fk ≤ x) (h0 : ¬ fk = 0) (hf : fk ≤ 21) : ∃ k : Nat, k + 1 < fk ∧ x = nI k := by
  obtain ⟨j, rfl⟩ : ∃ j, fk = j + 1 := ⟨fk - 1, by omega⟩
  have h4 : ¬ x < 0 := by
    intro q
    rw [Int32.lt_iff_toInt_lt] at q
    rw [Int32.le_iff_toInt_le] at h1
    have e1 : (-1 : Int32).toInt = -1 := by decide
    have e0 : (0 : Int32).toInt = 0 := by decide
    exact h2 (Int32.toInt_inj.mp (by omega))
  obtain ⟨k, hk, rfl⟩ := nI_of h4
  rw [FZ_s, nI_leI (by omega) hk] at h3
  exact ⟨k, by omega, rfl⟩
theorem sum_T {P : Nat → Bool} {i t : Nat} (h : P i = true) (ht : t = fb_ct P i) : t + 1 = fb_ct P (i + 1) := by rw [fb_ct_T h, ht]
theorem sum_F {P : Nat → Bool} {i t : Nat} (h : P i = false) (ht : t = fb_ct P i) : t + 0 = fb_ct P (i + 1) := by rw [fb_ct_F h, ht, Nat.add_zero]
theorem kX7_masts0_0 : ∀ w ∈ wsX70, w ∈ wsX7_masts := by decide +kernel
theorem kX7_masts0_1 : (.fieldLink RX7 7 "SightRidgeModel" "m" "[I" : Cond) ∈ wsX7_masts := by decide +kernel
set_option maxHeartbeats 4000000 in
set_option maxRecDepth 100000 in
/-- masts(false) -/
theorem c_X7_masts0 (l : Launch) (D : va_G) (cI cB cO : ClassId) (o q1 : Nat) (fs : List Value) (n : Nat) (mm : Nat → Int32) (rg bl : Int32) (G M : Nat → Int32) (hm : MOK n mm rg bl G M) : Met l yX7_masts wsX7_masts (rmD 1) (rdPc D (tyL cI cB cO) [.ref o, .int 0] [(o, .inr (7, .ref q1 :: fs)), (q1, .inl (cI, 43, .inl mm))]) (rdQi (fun r => r = nI (fb_ct (fun k => decide (0 < M k)) n))) 0 0 noA := by
  refine Met.ofW (cc := cX7_masts) (maxL := 4) (ret := (some .int)) (by decide) rfl ?_
  intro p e s m args below meth c s₁ B hml hv
  obtain ⟨rfl, hP, hK, hN⟩ := hv
  have hx := B.exec
  have hb := B.bytes
  have hr := B.returns
  have hts := atoms_spec (ws := wsX7_masts) B.pre
  have hown : s.vm.findClass RX7 = some m.cls := findClass_of_methodNamed B.named
  have hlocks := B.notSynchronized
  have hS : va_S noA s.heap s.heap [] := va_S.rf
  have hl := lv_entry ([.ref o, .int 0]) (n := 4) (Nat.le_of_ble_eq_true rfl)
  rw [lg_entry_eq]
  generalize (lg_sl ([.ref o, .int 0]) ++ List.replicate (4 - (lg_sl ([.ref o, .int 0])).length) Slot.unset).toArray = ls at hl ⊢
  have hl : lv_has ls 4 [(0, .ref o), (1, .int 0)] := hl
  obtain ⟨hn, hn1, hm0, hm1, hm2, hG, hM⟩ := id hm
  refine lv_iconst (v := 0) hx hb dX7_masts_0 (by decide) ?_
  refine lv_istore_n (lv' := [(2, .int 0), (0, .ref o), (1, .int 0)]) hx hb dX7_masts_1 rfl hl (by decide) rfl (fun ls hl => ?_)
  refine lv_iconst (v := 0) hx hb dX7_masts_2 (by decide) ?_
  refine lv_istore_n (lv' := [(3, .int 0), (2, .int 0), (0, .ref o), (1, .int 0)]) hx hb dX7_masts_3 rfl hl (by decide) rfl (fun ls hl => ?_)
  have L_4 : ∀ (k_4 : Nat) (i : Nat) (t : Nat), n - i < k_4 → (i ≤ n) → (t = fb_ct (fun k => decide (0 < M k)) i) → ∀ (H : Heap) (locs : List Loc), va_P D vwCl [(o, .inr (7, .ref q1 :: fs)), (q1, .inl (cI, 43, .inl mm))] H → va_S noA s.heap H locs → ∀ (ls : Array Slot), lv_has ls 4 [(0, .ref o), (1, .int 0), (2, .int (nI t)), (3, .int (nI i))] → W p l e (rmD 1) s m ([.ref o, .int 0] : List Value).toArray below meth c H locs 0 0 (MQ below (rdQi (fun r => r = nI (fb_ct (fun k => decide (0 < M k)) n))) ([.ref o, .int 0] : List Value).toArray s 0 0 noA) (F0 m 4 ls []) := by
    intro k_4
    induction k_4 with
    | zero => intro i t h9; exact absurd h9 (Nat.not_lt_zero _)
    | succ k_4 ih_4 =>
      intro i t hm_4 hi ht H locs hP hS ls hl
      refine lv_iload_n hx hb dX7_masts_4 rfl (lv_at hl 3 rfl) ?_
      refine lv_aload_n hx hb dX7_masts_5 rfl (lv_at hl 0 rfl) ?_
      refine va_get (D := D) (ci := 7) (v := .ref q1) (C := RX7) (T := TX7) (N := 15) hx hb hts kX7_masts0_0 hown hK hP 0 rfl rfl 0 (by decide) (hts (.fieldLink RX7 7 "SightRidgeModel" "m" "[I") kX7_masts0_1) (fun _ h9 => h9) rfl dX7_masts_6 ?_
      refine lv_iconst (v := 0) hx hb dX7_masts_9 (by decide) ?_
      refine va_iald hx hb hK hP 1 0 rfl rfl (i := nI 0) (vp_in_nI (N := 43) (by decide) (by decide)) dX7_masts_10 ?_
      rw [nI_clamp (n := 0) (by decide)]
      refine lv_topi (fun y_1 e_2 => ?_)
      have e_2 : nI n = y_1 := (e_2.trans (hm0)).symm
      subst e_2
      refine lv_icmp_ge (tgt := 56) hx hb dX7_masts_11 (by decide) (fun c_11 => ?_) (fun c_11 => ?_)
      · skip
        have c0 : n ≤ i := ge_t (by omega) c_11
        refine lv_iload_n hx hb dX7_masts_56 rfl (lv_at hl 2 rfl) ?_
        exact W.iret (v := nI t) hx hb hr (fun tS htS hWS => ⟨⟨nI t, (), rfl, (by rw [show n = i by omega]; exact congrArg nI ht), trivial⟩, hS.F htS⟩) hS.2.2 dX7_masts_57
      · skip
        have c0 : i < n := ge_f (by omega) c_11
        refine lv_iload_n hx hb dX7_masts_14 rfl (lv_at hl 2 rfl) ?_
        refine lv_iload_n hx hb dX7_masts_15 rfl (lv_at hl 1 rfl) ?_
        refine lv_if_eq (tgt := 31) hx hb dX7_masts_16 (by decide) (fun c_16 => ?_) (fun c_16 => ?_)
        · skip
          refine lv_aload_n hx hb dX7_masts_31 rfl (lv_at hl 0 rfl) ?_
          refine va_get (D := D) (ci := 7) (v := .ref q1) (C := RX7) (T := TX7) (N := 15) hx hb hts kX7_masts0_0 hown hK hP 0 rfl rfl 0 (by decide) (hts (.fieldLink RX7 7 "SightRidgeModel" "m" "[I") kX7_masts0_1) (fun _ h9 => h9) rfl dX7_masts_32 ?_
          refine lv_bipush (v := 23) hx hb dX7_masts_35 (by decide) ?_
          refine lv_iload_n hx hb dX7_masts_37 rfl (lv_at hl 3 rfl) ?_
          refine lv_iadd hx hb dX7_masts_38 ?_
          refine lv_topi (fun y_3 e_4 => ?_)
          have e_4 : nI (23 + i) = y_3 := (e_4.trans (nI_add 23 i)).symm
          subst e_4
          refine va_iald hx hb hK hP 1 0 rfl rfl (i := nI (23 + i)) (vp_in_nI (N := 43) (by omega) (by decide)) dX7_masts_39 ?_
          rw [nI_clamp (n := 23 + i) (by omega)]
          refine lv_topi (fun y_5 e_6 => ?_)
          have e_6 : M i = y_5 := (e_6.trans (hM i c0)).symm
          subst e_6
          refine lv_if_le (tgt := 47) hx hb dX7_masts_40 (by decide) (fun c_40 => ?_) (fun c_40 => ?_)
          · skip
            refine lv_iconst (v := 0) hx hb dX7_masts_47 (by decide) ?_
            refine lv_iadd hx hb dX7_masts_48 ?_
            refine lv_topi (fun y_7 e_8 => ?_)
            have e_8 : nI (t + 0) = y_7 := (e_8.trans (nI_add t 0)).symm
            subst e_8
            refine lv_istore_n (lv' := [(2, .int (nI (t + 0))), (0, .ref o), (1, .int 0), (3, .int (nI i))]) hx hb dX7_masts_49 rfl hl (by decide) rfl (fun ls hl => ?_)
            refine lv_iinc (v := nI (i + 1)) (lv' := [(3, .int (nI (i + 1))), (2, .int (nI (t + 0))), (0, .ref o), (1, .int 0)]) hx hb dX7_masts_50 hl (k := 3) rfl (inc1 _) (by decide) rfl (fun ls hl => ?_)
            refine lv_goto (tgt := 4) hx hb dX7_masts_53 (by decide) ?_
            exact ih_4 (i + 1) (t + 0) (by omega) (by omega) (by first | exact sum_T (decide_eq_true (Int32.not_le.mp c_40)) ht | exact sum_F (decide_eq_false (Int32.not_lt.mpr c_40)) ht | fail) _ _ hP hS ls (lv_sub hl [2, 3, 1, 0] rfl)
          · skip
            refine lv_iconst (v := 1) hx hb dX7_masts_43 (by decide) ?_
            refine lv_goto (tgt := 48) hx hb dX7_masts_44 (by decide) ?_
            refine lv_iadd hx hb dX7_masts_48 ?_
            refine lv_topi (fun y_9 e_10 => ?_)
            have e_10 : nI (t + 1) = y_9 := (e_10.trans (nI_add t 1)).symm
            subst e_10
            refine lv_istore_n (lv' := [(2, .int (nI (t + 1))), (0, .ref o), (1, .int 0), (3, .int (nI i))]) hx hb dX7_masts_49 rfl hl (by decide) rfl (fun ls hl => ?_)
            refine lv_iinc (v := nI (i + 1)) (lv' := [(3, .int (nI (i + 1))), (2, .int (nI (t + 1))), (0, .ref o), (1, .int 0)]) hx hb dX7_masts_50 hl (k := 3) rfl (inc1 _) (by decide) rfl (fun ls hl => ?_)
            refine lv_goto (tgt := 4) hx hb dX7_masts_53 (by decide) ?_
            exact ih_4 (i + 1) (t + 1) (by omega) (by omega) (by first | exact sum_T (decide_eq_true (Int32.not_le.mp c_40)) ht | exact sum_F (decide_eq_false (Int32.not_lt.mpr c_40)) ht | fail) _ _ hP hS ls (lv_sub hl [2, 3, 1, 0] rfl)
        · skip
          exact absurd (by decide) c_16
  exact L_4 _ 0 0 (Nat.lt_succ_self _) (by omega) (rfl) _ _ hP hS ls (lv_sub hl [2, 3, 1, 0] rfl)
theorem kX7_masts1_0 : ∀ w ∈ wsX70, w ∈ wsX7_masts := by decide +kernel
theorem kX7_masts1_1 : (.fieldLink RX7 7 "SightRidgeModel" "m" "[I" : Cond) ∈ wsX7_masts := by decide +kernel
set_option maxHeartbeats 4000000 in
set_option maxRecDepth 100000 in
/-- masts(true) -/
theorem c_X7_masts1 (l : Launch) (D : va_G) (cI cB cO : ClassId) (o q1 : Nat) (fs : List Value) (n : Nat) (mm : Nat → Int32) (rg bl : Int32) (G M : Nat → Int32) (hm : MOK n mm rg bl G M) : Met l yX7_masts wsX7_masts (rmD 1) (rdPc D (tyL cI cB cO) [.ref o, .int 1] [(o, .inr (7, .ref q1 :: fs)), (q1, .inl (cI, 43, .inl mm))]) (rdQi (fun r => r = smI M n)) 0 0 noA := by
  refine Met.ofW (cc := cX7_masts) (maxL := 4) (ret := (some .int)) (by decide) rfl ?_
  intro p e s m args below meth c s₁ B hml hv
  obtain ⟨rfl, hP, hK, hN⟩ := hv
  have hx := B.exec
  have hb := B.bytes
  have hr := B.returns
  have hts := atoms_spec (ws := wsX7_masts) B.pre
  have hown : s.vm.findClass RX7 = some m.cls := findClass_of_methodNamed B.named
  have hlocks := B.notSynchronized
  have hS : va_S noA s.heap s.heap [] := va_S.rf
  have hl := lv_entry ([.ref o, .int 1]) (n := 4) (Nat.le_of_ble_eq_true rfl)
  rw [lg_entry_eq]
  generalize (lg_sl ([.ref o, .int 1]) ++ List.replicate (4 - (lg_sl ([.ref o, .int 1])).length) Slot.unset).toArray = ls at hl ⊢
  have hl : lv_has ls 4 [(0, .ref o), (1, .int 1)] := hl
  obtain ⟨hn, hn1, hm0, hm1, hm2, hG, hM⟩ := id hm
  refine lv_iconst (v := 0) hx hb dX7_masts_0 (by decide) ?_
  refine lv_istore_n (lv' := [(2, .int 0), (0, .ref o), (1, .int 1)]) hx hb dX7_masts_1 rfl hl (by decide) rfl (fun ls hl => ?_)
  refine lv_iconst (v := 0) hx hb dX7_masts_2 (by decide) ?_
  refine lv_istore_n (lv' := [(3, .int 0), (2, .int 0), (0, .ref o), (1, .int 1)]) hx hb dX7_masts_3 rfl hl (by decide) rfl (fun ls hl => ?_)
  have L_4 : ∀ (k_4 : Nat) (i : Nat) (t : Int32), n - i < k_4 → (i ≤ n) → (t = smI M i) → ∀ (H : Heap) (locs : List Loc), va_P D vwCl [(o, .inr (7, .ref q1 :: fs)), (q1, .inl (cI, 43, .inl mm))] H → va_S noA s.heap H locs → ∀ (ls : Array Slot), lv_has ls 4 [(0, .ref o), (1, .int 1), (2, .int t), (3, .int (nI i))] → W p l e (rmD 1) s m ([.ref o, .int 1] : List Value).toArray below meth c H locs 0 0 (MQ below (rdQi (fun r => r = smI M n)) ([.ref o, .int 1] : List Value).toArray s 0 0 noA) (F0 m 4 ls []) := by
    intro k_4
    induction k_4 with
    | zero => intro i t h9; exact absurd h9 (Nat.not_lt_zero _)
    | succ k_4 ih_4 =>
      intro i t hm_4 hi ht H locs hP hS ls hl
      refine lv_iload_n hx hb dX7_masts_4 rfl (lv_at hl 3 rfl) ?_
      refine lv_aload_n hx hb dX7_masts_5 rfl (lv_at hl 0 rfl) ?_
      refine va_get (D := D) (ci := 7) (v := .ref q1) (C := RX7) (T := TX7) (N := 15) hx hb hts kX7_masts1_0 hown hK hP 0 rfl rfl 0 (by decide) (hts (.fieldLink RX7 7 "SightRidgeModel" "m" "[I") kX7_masts1_1) (fun _ h9 => h9) rfl dX7_masts_6 ?_
      refine lv_iconst (v := 0) hx hb dX7_masts_9 (by decide) ?_
      refine va_iald hx hb hK hP 1 0 rfl rfl (i := nI 0) (vp_in_nI (N := 43) (by decide) (by decide)) dX7_masts_10 ?_
      rw [nI_clamp (n := 0) (by decide)]
      refine lv_topi (fun y_1 e_2 => ?_)
      have e_2 : nI n = y_1 := (e_2.trans (hm0)).symm
      subst e_2
      refine lv_icmp_ge (tgt := 56) hx hb dX7_masts_11 (by decide) (fun c_11 => ?_) (fun c_11 => ?_)
      · skip
        have c0 : n ≤ i := ge_t (by omega) c_11
        refine lv_iload_n hx hb dX7_masts_56 rfl (lv_at hl 2 rfl) ?_
        exact W.iret (v := t) hx hb hr (fun tS htS hWS => ⟨⟨t, (), rfl, (by rw [show n = i by omega]; exact ht), trivial⟩, hS.F htS⟩) hS.2.2 dX7_masts_57
      · skip
        have c0 : i < n := ge_f (by omega) c_11
        refine lv_iload_n hx hb dX7_masts_14 rfl (lv_at hl 2 rfl) ?_
        refine lv_iload_n hx hb dX7_masts_15 rfl (lv_at hl 1 rfl) ?_
        refine lv_if_eq (tgt := 31) hx hb dX7_masts_16 (by decide) (fun c_16 => ?_) (fun c_16 => ?_)
        · skip
          exact absurd c_16 (by decide)
        · skip
          refine lv_aload_n hx hb dX7_masts_19 rfl (lv_at hl 0 rfl) ?_
          refine va_get (D := D) (ci := 7) (v := .ref q1) (C := RX7) (T := TX7) (N := 15) hx hb hts kX7_masts1_0 hown hK hP 0 rfl rfl 0 (by decide) (hts (.fieldLink RX7 7 "SightRidgeModel" "m" "[I") kX7_masts1_1) (fun _ h9 => h9) rfl dX7_masts_20 ?_
          refine lv_bipush (v := 23) hx hb dX7_masts_23 (by decide) ?_
          refine lv_iload_n hx hb dX7_masts_25 rfl (lv_at hl 3 rfl) ?_
          refine lv_iadd hx hb dX7_masts_26 ?_
          refine lv_topi (fun y_3 e_4 => ?_)
          have e_4 : nI (23 + i) = y_3 := (e_4.trans (nI_add 23 i)).symm
          subst e_4
          refine va_iald hx hb hK hP 1 0 rfl rfl (i := nI (23 + i)) (vp_in_nI (N := 43) (by omega) (by decide)) dX7_masts_27 ?_
          rw [nI_clamp (n := 23 + i) (by omega)]
          refine lv_topi (fun y_5 e_6 => ?_)
          have e_6 : M i = y_5 := (e_6.trans (hM i c0)).symm
          subst e_6
          refine lv_goto (tgt := 48) hx hb dX7_masts_28 (by decide) ?_
          refine lv_iadd hx hb dX7_masts_48 ?_
          refine lv_istore_n (lv' := [(2, .int (t + (M i))), (0, .ref o), (1, .int 1), (3, .int (nI i))]) hx hb dX7_masts_49 rfl hl (by decide) rfl (fun ls hl => ?_)
          refine lv_iinc (v := nI (i + 1)) (lv' := [(3, .int (nI (i + 1))), (2, .int (t + (M i))), (0, .ref o), (1, .int 1)]) hx hb dX7_masts_50 hl (k := 3) rfl (inc1 _) (by decide) rfl (fun ls hl => ?_)
          refine lv_goto (tgt := 4) hx hb dX7_masts_53 (by decide) ?_
          exact ih_4 (i + 1) (t + (M i)) (by omega) (by omega) (by rw [ht]; rfl) _ _ hP hS ls (lv_sub hl [2, 3, 1, 0] rfl)
  exact L_4 _ 0 0 (Nat.lt_succ_self _) (by omega) (rfl) _ _ hP hS ls (lv_sub hl [2, 3, 1, 0] rfl)
theorem pr_T {P : Nat → Bool} {b t z : Nat} (h : P b = true) (hz : z = t + fb_ct P b) : z + 1 = t + fb_ct P (b + 1) := by rw [fb_ct_T h, hz, Nat.add_assoc]
theorem pr_F {P : Nat → Bool} {b t z : Nat} (h : P b = false) (hz : z = t + fb_ct P b) : z + 0 = t + fb_ct P (b + 1) := by rw [fb_ct_F h, hz, Nat.add_zero]
theorem kX7_pairs0_0 : ∀ w ∈ wsX70, w ∈ wsX7_pairs := by decide +kernel
theorem kX7_pairs0_1 : (.fieldLink RX7 7 "SightRidgeModel" "m" "[I" : Cond) ∈ wsX7_pairs := by decide +kernel
set_option maxHeartbeats 4000000 in
set_option maxRecDepth 100000 in
/-- pairs() -/
theorem c_X7_pairs0 (l : Launch) (D : va_G) (cI cB cO : ClassId) (o q1 : Nat) (fs : List Value) (n : Nat) (mm : Nat → Int32) (rg bl : Int32) (G M : Nat → Int32) (hm : MOK n mm rg bl G M) : Met l yX7_pairs wsX7_pairs (rmD 4) (rdPc D (tyL cI cB cO) [.ref o, .int 0] [(o, .inr (7, .ref q1 :: fs)), (q1, .inl (cI, 43, .inl mm))]) (rdQi (fun r => r = nI (prN (fun a b => seesB G bl a (tp G M a) b (tp G M b)) n))) 0 0 noA := by
  refine Met.ofW (cc := cX7_pairs) (maxL := 5) (ret := (some .int)) (by decide) rfl ?_
  intro p e s m args below meth c s₁ B hml hv
  obtain ⟨rfl, hP, hK, hN⟩ := hv
  have hx := B.exec
  have hb := B.bytes
  have hr := B.returns
  have hts := atoms_spec (ws := wsX7_pairs) B.pre
  have hown : s.vm.findClass RX7 = some m.cls := findClass_of_methodNamed B.named
  have hlocks := B.notSynchronized
  have hS : va_S noA s.heap s.heap [] := va_S.rf
  have hl := lv_entry ([.ref o, .int 0]) (n := 5) (Nat.le_of_ble_eq_true rfl)
  rw [lg_entry_eq]
  generalize (lg_sl ([.ref o, .int 0]) ++ List.replicate (5 - (lg_sl ([.ref o, .int 0])).length) Slot.unset).toArray = ls at hl ⊢
  have hl : lv_has ls 5 [(0, .ref o), (1, .int 0)] := hl
  obtain ⟨hn, hn1, hm0, hm1, hm2, hG, hM⟩ := id hm
  refine lv_iconst (v := 0) hx hb dX7_pairs_0 (by decide) ?_
  refine lv_istore_n (lv' := [(2, .int 0), (0, .ref o), (1, .int 0)]) hx hb dX7_pairs_1 rfl hl (by decide) rfl (fun ls hl => ?_)
  refine lv_iconst (v := 0) hx hb dX7_pairs_2 (by decide) ?_
  refine lv_istore_n (lv' := [(3, .int 0), (2, .int 0), (0, .ref o), (1, .int 0)]) hx hb dX7_pairs_3 rfl hl (by decide) rfl (fun ls hl => ?_)
  have L_4 : ∀ (k_4 : Nat) (a : Nat) (t : Nat), n - a < k_4 → (a ≤ n) → (t = fb_sm (fun a => fb_ct (fun b => decide (a < b) && (seesB G bl a (tp G M a) b (tp G M b))) n) a) → ∀ (H : Heap) (locs : List Loc), va_P D vwCl [(o, .inr (7, .ref q1 :: fs)), (q1, .inl (cI, 43, .inl mm))] H → va_S noA s.heap H locs → ∀ (ls : Array Slot), lv_has ls 5 [(0, .ref o), (1, .int 0), (2, .int (nI t)), (3, .int (nI a))] → W p l e (rmD 4) s m ([.ref o, .int 0] : List Value).toArray below meth c H locs 0 0 (MQ below (rdQi (fun r => r = nI (prN (fun a b => seesB G bl a (tp G M a) b (tp G M b)) n))) ([.ref o, .int 0] : List Value).toArray s 0 0 noA) (F0 m 4 ls []) := by
    intro k_4
    induction k_4 with
    | zero => intro a t h9; exact absurd h9 (Nat.not_lt_zero _)
    | succ k_4 ih_4 =>
      intro a t hm_4 hi ht H locs hP hS ls hl
      refine lv_iload_n hx hb dX7_pairs_4 rfl (lv_at hl 3 rfl) ?_
      refine lv_aload_n hx hb dX7_pairs_5 rfl (lv_at hl 0 rfl) ?_
      refine va_get (D := D) (ci := 7) (v := .ref q1) (C := RX7) (T := TX7) (N := 15) hx hb hts kX7_pairs0_0 hown hK hP 0 rfl rfl 0 (by decide) (hts (.fieldLink RX7 7 "SightRidgeModel" "m" "[I") kX7_pairs0_1) (fun _ h9 => h9) rfl dX7_pairs_6 ?_
      refine lv_iconst (v := 0) hx hb dX7_pairs_9 (by decide) ?_
      refine va_iald hx hb hK hP 1 0 rfl rfl (i := nI 0) (vp_in_nI (N := 43) (by decide) (by decide)) dX7_pairs_10 ?_
      rw [nI_clamp (n := 0) (by decide)]
      refine lv_topi (fun y_1 e_2 => ?_)
      have e_2 : nI n = y_1 := (e_2.trans (hm0)).symm
      subst e_2
      refine lv_icmp_ge (tgt := 77) hx hb dX7_pairs_11 (by decide) (fun c_11 => ?_) (fun c_11 => ?_)
      · skip
        have c0 : n ≤ a := ge_t (by omega) c_11
        refine lv_iload_n hx hb dX7_pairs_77 rfl (lv_at hl 2 rfl) ?_
        exact W.iret (v := nI t) hx hb hr (fun tS htS hWS => ⟨⟨nI t, (), rfl, (by unfold prN; exact congrArg nI (ht.trans (congrArg (fb_sm _) (show a = n by omega)))), trivial⟩, hS.F htS⟩) hS.2.2 dX7_pairs_78
      · skip
        have c0 : a < n := ge_f (by omega) c_11
        refine lv_iload_n hx hb dX7_pairs_14 rfl (lv_at hl 3 rfl) ?_
        refine lv_iconst (v := 1) hx hb dX7_pairs_15 (by decide) ?_
        refine lv_iadd hx hb dX7_pairs_16 ?_
        refine lv_topi (fun y_3 e_4 => ?_)
        have e_4 : nI (a + 1) = y_3 := (e_4.trans (nI_add a 1)).symm
        subst e_4
        refine lv_istore (lv' := [(4, .int (nI (a + 1))), (0, .ref o), (1, .int 0), (2, .int (nI t)), (3, .int (nI a))]) hx hb dX7_pairs_17 hl (by decide) rfl (fun ls hl => ?_)
        have L_19 : ∀ (k_19 : Nat) (b : Nat) (z : Nat), n - b < k_19 → (a < b) → (b ≤ n) → (z = t + fb_ct (fun b => decide (a < b) && (seesB G bl a (tp G M a) b (tp G M b))) b) → ∀ (H : Heap) (locs : List Loc), va_P D vwCl [(o, .inr (7, .ref q1 :: fs)), (q1, .inl (cI, 43, .inl mm))] H → va_S noA s.heap H locs → ∀ (ls : Array Slot), lv_has ls 5 [(0, .ref o), (1, .int 0), (2, .int (nI z)), (3, .int (nI a)), (4, .int (nI b))] → W p l e (rmD 4) s m ([.ref o, .int 0] : List Value).toArray below meth c H locs 0 0 (MQ below (rdQi (fun r => r = nI (prN (fun a b => seesB G bl a (tp G M a) b (tp G M b)) n))) ([.ref o, .int 0] : List Value).toArray s 0 0 noA) (F0 m 19 ls []) := by
          intro k_19
          induction k_19 with
          | zero => intro b z h9; exact absurd h9 (Nat.not_lt_zero _)
          | succ k_19 ih_19 =>
            intro b z hm_19 hj hj2 hz H locs hP hS ls hl
            refine lv_iload hx hb dX7_pairs_19 (lv_at hl 4 rfl) ?_
            refine lv_aload_n hx hb dX7_pairs_21 rfl (lv_at hl 0 rfl) ?_
            refine va_get (D := D) (ci := 7) (v := .ref q1) (C := RX7) (T := TX7) (N := 15) hx hb hts kX7_pairs0_0 hown hK hP 0 rfl rfl 0 (by decide) (hts (.fieldLink RX7 7 "SightRidgeModel" "m" "[I") kX7_pairs0_1) (fun _ h9 => h9) rfl dX7_pairs_22 ?_
            refine lv_iconst (v := 0) hx hb dX7_pairs_25 (by decide) ?_
            refine va_iald hx hb hK hP 1 0 rfl rfl (i := nI 0) (vp_in_nI (N := 43) (by decide) (by decide)) dX7_pairs_26 ?_
            rw [nI_clamp (n := 0) (by decide)]
            refine lv_topi (fun y_5 e_6 => ?_)
            have e_6 : nI n = y_5 := (e_6.trans (hm0)).symm
            subst e_6
            refine lv_icmp_ge (tgt := 71) hx hb dX7_pairs_27 (by decide) (fun c_27 => ?_) (fun c_27 => ?_)
            · skip
              have c1 : n ≤ b := ge_t (by omega) c_27
              have hd : z = t + fb_ct (fun b => decide (a < b) && (seesB G bl a (tp G M a) b (tp G M b))) n := by rw [show n = b by omega]; exact hz
              refine lv_iinc (v := nI (a + 1)) (lv' := [(3, .int (nI (a + 1))), (0, .ref o), (1, .int 0), (2, .int (nI z)), (4, .int (nI b))]) hx hb dX7_pairs_71 hl (k := 3) rfl (inc1 _) (by decide) rfl (fun ls hl => ?_)
              refine lv_goto (tgt := 4) hx hb dX7_pairs_74 (by decide) ?_
              exact ih_4 (a + 1) z (by omega) (by omega) (by rw [fb_sm_succ, ← ht]; exact hd) _ _ hP hS ls (lv_sub hl [1, 2, 3, 0] rfl)
            · skip
              have c1 : b < n := ge_f (by omega) c_27
              refine lv_iload_n hx hb dX7_pairs_30 rfl (lv_at hl 2 rfl) ?_
              refine lv_aload_n hx hb dX7_pairs_31 rfl (lv_at hl 0 rfl) ?_
              refine lv_iload_n hx hb dX7_pairs_32 rfl (lv_at hl 3 rfl) ?_
              refine lv_iload hx hb dX7_pairs_33 (lv_at hl 4 rfl) ?_
              refine rd_calli hP hS (va_runV (As := [.int (nI a), .int (nI b)]) (rest := [.int (nI z)]) ⟨hx, hb, hml, hown, hts⟩ (c_X7_see l D cI cB cO o q1 fs n mm rg bl G M a b hm c0 c1) (cwV 2 hts gX7_pairs_X7_see rfl rfl rfl (by decide +kernel) ⟨Nat.le_of_ble_eq_true rfl, Nat.le_of_ble_eq_true rfl⟩) (rd_preV (r := (RX7, TX7, 15)) (ci := 7) hK (hP.pick [0, 1] rfl) hN (q0 := 0) rfl rfl) rfl rfl hl.1 rfl (lv_room (Nat.le_of_ble_eq_true rfl)) dX7_pairs_35 ⟨Nat.le_refl _, Nat.le_refl _⟩) (fun r_35 H locs h_35 hP hS => ?_)
              refine lv_if_eq (tgt := 62) hx hb dX7_pairs_38 (by decide) (fun c_38 => ?_) (fun c_38 => ?_)
              · skip
                have c2 := bI_e0 (h_35.symm.trans c_38)
                refine lv_iconst (v := 0) hx hb dX7_pairs_62 (by decide) ?_
                refine lv_iadd hx hb dX7_pairs_63 ?_
                refine lv_topi (fun y_7 e_8 => ?_)
                have e_8 : nI (z + 0) = y_7 := (e_8.trans (nI_add z 0)).symm
                subst e_8
                refine lv_istore_n (lv' := [(2, .int (nI (z + 0))), (0, .ref o), (1, .int 0), (3, .int (nI a)), (4, .int (nI b))]) hx hb dX7_pairs_64 rfl hl (by decide) rfl (fun ls hl => ?_)
                refine lv_iinc (v := nI (b + 1)) (lv' := [(4, .int (nI (b + 1))), (2, .int (nI (z + 0))), (0, .ref o), (1, .int 0), (3, .int (nI a))]) hx hb dX7_pairs_65 hl (k := 4) rfl (inc1 _) (by decide) rfl (fun ls hl => ?_)
                refine lv_goto (tgt := 19) hx hb dX7_pairs_68 (by decide) ?_
                exact ih_19 (b + 1) (z + 0) (by omega) (by omega) (by omega) (by first | exact pr_T (by simp [hj, c2]) hz | exact pr_F (by simp [c2]) hz | fail) _ _ hP hS ls (lv_sub hl [2, 3, 1, 4, 0] rfl)
              · skip
                have c2 := bI_n0 (fun q => c_38 (h_35.trans q))
                refine lv_iload_n hx hb dX7_pairs_41 rfl (lv_at hl 1 rfl) ?_
                refine lv_if_eq (tgt := 58) hx hb dX7_pairs_42 (by decide) (fun c_42 => ?_) (fun c_42 => ?_)
                · skip
                  refine lv_iconst (v := 1) hx hb dX7_pairs_58 (by decide) ?_
                  refine lv_goto (tgt := 63) hx hb dX7_pairs_59 (by decide) ?_
                  refine lv_iadd hx hb dX7_pairs_63 ?_
                  refine lv_topi (fun y_9 e_10 => ?_)
                  have e_10 : nI (z + 1) = y_9 := (e_10.trans (nI_add z 1)).symm
                  subst e_10
                  refine lv_istore_n (lv' := [(2, .int (nI (z + 1))), (0, .ref o), (1, .int 0), (3, .int (nI a)), (4, .int (nI b))]) hx hb dX7_pairs_64 rfl hl (by decide) rfl (fun ls hl => ?_)
                  refine lv_iinc (v := nI (b + 1)) (lv' := [(4, .int (nI (b + 1))), (2, .int (nI (z + 1))), (0, .ref o), (1, .int 0), (3, .int (nI a))]) hx hb dX7_pairs_65 hl (k := 4) rfl (inc1 _) (by decide) rfl (fun ls hl => ?_)
                  refine lv_goto (tgt := 19) hx hb dX7_pairs_68 (by decide) ?_
                  exact ih_19 (b + 1) (z + 1) (by omega) (by omega) (by omega) (by first | exact pr_T (by simp [hj, c2]) hz | exact pr_F (by simp [c2]) hz | fail) _ _ hP hS ls (lv_sub hl [2, 3, 1, 4, 0] rfl)
                · skip
                  exact absurd (by decide) c_42
        exact L_19 _ (a + 1) t (Nat.lt_succ_self _) (by omega) (by omega) (by rw [fb_ct_low _ _ _ (Nat.le_refl _)]; rfl) _ _ hP hS ls (lv_sub hl [1, 2, 3, 4, 0] rfl)
  exact L_4 _ 0 0 (Nat.lt_succ_self _) (by omega) (rfl) _ _ hP hS ls (lv_sub hl [2, 3, 1, 0] rfl)
theorem kX7_pairs1_0 : ∀ w ∈ wsX70, w ∈ wsX7_pairs := by decide +kernel
theorem kX7_pairs1_1 : (.fieldLink RX7 7 "SightRidgeModel" "m" "[I" : Cond) ∈ wsX7_pairs := by decide +kernel
set_option maxHeartbeats 4000000 in
set_option maxRecDepth 100000 in
/-- pairs() -/
theorem c_X7_pairs1 (l : Launch) (D : va_G) (cI cB cO : ClassId) (o q1 : Nat) (fs : List Value) (n : Nat) (mm : Nat → Int32) (rg bl : Int32) (G M : Nat → Int32) (hm : MOK n mm rg bl G M) : Met l yX7_pairs wsX7_pairs (rmD 4) (rdPc D (tyL cI cB cO) [.ref o, .int 1] [(o, .inr (7, .ref q1 :: fs)), (q1, .inl (cI, 43, .inl mm))]) (rdQi (fun r => r = nI (prN (fun a b => seesB G bl a (tp G M a) b (tp G M b) && decide (nI (b - a) ≤ rg)) n))) 0 0 noA := by
  refine Met.ofW (cc := cX7_pairs) (maxL := 5) (ret := (some .int)) (by decide) rfl ?_
  intro p e s m args below meth c s₁ B hml hv
  obtain ⟨rfl, hP, hK, hN⟩ := hv
  have hx := B.exec
  have hb := B.bytes
  have hr := B.returns
  have hts := atoms_spec (ws := wsX7_pairs) B.pre
  have hown : s.vm.findClass RX7 = some m.cls := findClass_of_methodNamed B.named
  have hlocks := B.notSynchronized
  have hS : va_S noA s.heap s.heap [] := va_S.rf
  have hl := lv_entry ([.ref o, .int 1]) (n := 5) (Nat.le_of_ble_eq_true rfl)
  rw [lg_entry_eq]
  generalize (lg_sl ([.ref o, .int 1]) ++ List.replicate (5 - (lg_sl ([.ref o, .int 1])).length) Slot.unset).toArray = ls at hl ⊢
  have hl : lv_has ls 5 [(0, .ref o), (1, .int 1)] := hl
  obtain ⟨hn, hn1, hm0, hm1, hm2, hG, hM⟩ := id hm
  refine lv_iconst (v := 0) hx hb dX7_pairs_0 (by decide) ?_
  refine lv_istore_n (lv' := [(2, .int 0), (0, .ref o), (1, .int 1)]) hx hb dX7_pairs_1 rfl hl (by decide) rfl (fun ls hl => ?_)
  refine lv_iconst (v := 0) hx hb dX7_pairs_2 (by decide) ?_
  refine lv_istore_n (lv' := [(3, .int 0), (2, .int 0), (0, .ref o), (1, .int 1)]) hx hb dX7_pairs_3 rfl hl (by decide) rfl (fun ls hl => ?_)
  have L_4 : ∀ (k_4 : Nat) (a : Nat) (t : Nat), n - a < k_4 → (a ≤ n) → (t = fb_sm (fun a => fb_ct (fun b => decide (a < b) && (seesB G bl a (tp G M a) b (tp G M b) && decide (nI (b - a) ≤ rg))) n) a) → ∀ (H : Heap) (locs : List Loc), va_P D vwCl [(o, .inr (7, .ref q1 :: fs)), (q1, .inl (cI, 43, .inl mm))] H → va_S noA s.heap H locs → ∀ (ls : Array Slot), lv_has ls 5 [(0, .ref o), (1, .int 1), (2, .int (nI t)), (3, .int (nI a))] → W p l e (rmD 4) s m ([.ref o, .int 1] : List Value).toArray below meth c H locs 0 0 (MQ below (rdQi (fun r => r = nI (prN (fun a b => seesB G bl a (tp G M a) b (tp G M b) && decide (nI (b - a) ≤ rg)) n))) ([.ref o, .int 1] : List Value).toArray s 0 0 noA) (F0 m 4 ls []) := by
    intro k_4
    induction k_4 with
    | zero => intro a t h9; exact absurd h9 (Nat.not_lt_zero _)
    | succ k_4 ih_4 =>
      intro a t hm_4 hi ht H locs hP hS ls hl
      refine lv_iload_n hx hb dX7_pairs_4 rfl (lv_at hl 3 rfl) ?_
      refine lv_aload_n hx hb dX7_pairs_5 rfl (lv_at hl 0 rfl) ?_
      refine va_get (D := D) (ci := 7) (v := .ref q1) (C := RX7) (T := TX7) (N := 15) hx hb hts kX7_pairs1_0 hown hK hP 0 rfl rfl 0 (by decide) (hts (.fieldLink RX7 7 "SightRidgeModel" "m" "[I") kX7_pairs1_1) (fun _ h9 => h9) rfl dX7_pairs_6 ?_
      refine lv_iconst (v := 0) hx hb dX7_pairs_9 (by decide) ?_
      refine va_iald hx hb hK hP 1 0 rfl rfl (i := nI 0) (vp_in_nI (N := 43) (by decide) (by decide)) dX7_pairs_10 ?_
      rw [nI_clamp (n := 0) (by decide)]
      refine lv_topi (fun y_1 e_2 => ?_)
      have e_2 : nI n = y_1 := (e_2.trans (hm0)).symm
      subst e_2
      refine lv_icmp_ge (tgt := 77) hx hb dX7_pairs_11 (by decide) (fun c_11 => ?_) (fun c_11 => ?_)
      · skip
        have c0 : n ≤ a := ge_t (by omega) c_11
        refine lv_iload_n hx hb dX7_pairs_77 rfl (lv_at hl 2 rfl) ?_
        exact W.iret (v := nI t) hx hb hr (fun tS htS hWS => ⟨⟨nI t, (), rfl, (by unfold prN; exact congrArg nI (ht.trans (congrArg (fb_sm _) (show a = n by omega)))), trivial⟩, hS.F htS⟩) hS.2.2 dX7_pairs_78
      · skip
        have c0 : a < n := ge_f (by omega) c_11
        refine lv_iload_n hx hb dX7_pairs_14 rfl (lv_at hl 3 rfl) ?_
        refine lv_iconst (v := 1) hx hb dX7_pairs_15 (by decide) ?_
        refine lv_iadd hx hb dX7_pairs_16 ?_
        refine lv_topi (fun y_3 e_4 => ?_)
        have e_4 : nI (a + 1) = y_3 := (e_4.trans (nI_add a 1)).symm
        subst e_4
        refine lv_istore (lv' := [(4, .int (nI (a + 1))), (0, .ref o), (1, .int 1), (2, .int (nI t)), (3, .int (nI a))]) hx hb dX7_pairs_17 hl (by decide) rfl (fun ls hl => ?_)
        have L_19 : ∀ (k_19 : Nat) (b : Nat) (z : Nat), n - b < k_19 → (a < b) → (b ≤ n) → (z = t + fb_ct (fun b => decide (a < b) && (seesB G bl a (tp G M a) b (tp G M b) && decide (nI (b - a) ≤ rg))) b) → ∀ (H : Heap) (locs : List Loc), va_P D vwCl [(o, .inr (7, .ref q1 :: fs)), (q1, .inl (cI, 43, .inl mm))] H → va_S noA s.heap H locs → ∀ (ls : Array Slot), lv_has ls 5 [(0, .ref o), (1, .int 1), (2, .int (nI z)), (3, .int (nI a)), (4, .int (nI b))] → W p l e (rmD 4) s m ([.ref o, .int 1] : List Value).toArray below meth c H locs 0 0 (MQ below (rdQi (fun r => r = nI (prN (fun a b => seesB G bl a (tp G M a) b (tp G M b) && decide (nI (b - a) ≤ rg)) n))) ([.ref o, .int 1] : List Value).toArray s 0 0 noA) (F0 m 19 ls []) := by
          intro k_19
          induction k_19 with
          | zero => intro b z h9; exact absurd h9 (Nat.not_lt_zero _)
          | succ k_19 ih_19 =>
            intro b z hm_19 hj hj2 hz H locs hP hS ls hl
            refine lv_iload hx hb dX7_pairs_19 (lv_at hl 4 rfl) ?_
            refine lv_aload_n hx hb dX7_pairs_21 rfl (lv_at hl 0 rfl) ?_
            refine va_get (D := D) (ci := 7) (v := .ref q1) (C := RX7) (T := TX7) (N := 15) hx hb hts kX7_pairs1_0 hown hK hP 0 rfl rfl 0 (by decide) (hts (.fieldLink RX7 7 "SightRidgeModel" "m" "[I") kX7_pairs1_1) (fun _ h9 => h9) rfl dX7_pairs_22 ?_
            refine lv_iconst (v := 0) hx hb dX7_pairs_25 (by decide) ?_
            refine va_iald hx hb hK hP 1 0 rfl rfl (i := nI 0) (vp_in_nI (N := 43) (by decide) (by decide)) dX7_pairs_26 ?_
            rw [nI_clamp (n := 0) (by decide)]
            refine lv_topi (fun y_5 e_6 => ?_)
            have e_6 : nI n = y_5 := (e_6.trans (hm0)).symm
            subst e_6
            refine lv_icmp_ge (tgt := 71) hx hb dX7_pairs_27 (by decide) (fun c_27 => ?_) (fun c_27 => ?_)
            · skip
              have c1 : n ≤ b := ge_t (by omega) c_27
              have hd : z = t + fb_ct (fun b => decide (a < b) && (seesB G bl a (tp G M a) b (tp G M b) && decide (nI (b - a) ≤ rg))) n := by rw [show n = b by omega]; exact hz
              refine lv_iinc (v := nI (a + 1)) (lv' := [(3, .int (nI (a + 1))), (0, .ref o), (1, .int 1), (2, .int (nI z)), (4, .int (nI b))]) hx hb dX7_pairs_71 hl (k := 3) rfl (inc1 _) (by decide) rfl (fun ls hl => ?_)
              refine lv_goto (tgt := 4) hx hb dX7_pairs_74 (by decide) ?_
              exact ih_4 (a + 1) z (by omega) (by omega) (by rw [fb_sm_succ, ← ht]; exact hd) _ _ hP hS ls (lv_sub hl [1, 2, 3, 0] rfl)
            · skip
              have c1 : b < n := ge_f (by omega) c_27
              refine lv_iload_n hx hb dX7_pairs_30 rfl (lv_at hl 2 rfl) ?_
              refine lv_aload_n hx hb dX7_pairs_31 rfl (lv_at hl 0 rfl) ?_
              refine lv_iload_n hx hb dX7_pairs_32 rfl (lv_at hl 3 rfl) ?_
              refine lv_iload hx hb dX7_pairs_33 (lv_at hl 4 rfl) ?_
              refine rd_calli hP hS (va_runV (As := [.int (nI a), .int (nI b)]) (rest := [.int (nI z)]) ⟨hx, hb, hml, hown, hts⟩ (c_X7_see l D cI cB cO o q1 fs n mm rg bl G M a b hm c0 c1) (cwV 2 hts gX7_pairs_X7_see rfl rfl rfl (by decide +kernel) ⟨Nat.le_of_ble_eq_true rfl, Nat.le_of_ble_eq_true rfl⟩) (rd_preV (r := (RX7, TX7, 15)) (ci := 7) hK (hP.pick [0, 1] rfl) hN (q0 := 0) rfl rfl) rfl rfl hl.1 rfl (lv_room (Nat.le_of_ble_eq_true rfl)) dX7_pairs_35 ⟨Nat.le_refl _, Nat.le_refl _⟩) (fun r_35 H locs h_35 hP hS => ?_)
              refine lv_if_eq (tgt := 62) hx hb dX7_pairs_38 (by decide) (fun c_38 => ?_) (fun c_38 => ?_)
              · skip
                have c2 := bI_e0 (h_35.symm.trans c_38)
                refine lv_iconst (v := 0) hx hb dX7_pairs_62 (by decide) ?_
                refine lv_iadd hx hb dX7_pairs_63 ?_
                refine lv_topi (fun y_7 e_8 => ?_)
                have e_8 : nI (z + 0) = y_7 := (e_8.trans (nI_add z 0)).symm
                subst e_8
                refine lv_istore_n (lv' := [(2, .int (nI (z + 0))), (0, .ref o), (1, .int 1), (3, .int (nI a)), (4, .int (nI b))]) hx hb dX7_pairs_64 rfl hl (by decide) rfl (fun ls hl => ?_)
                refine lv_iinc (v := nI (b + 1)) (lv' := [(4, .int (nI (b + 1))), (2, .int (nI (z + 0))), (0, .ref o), (1, .int 1), (3, .int (nI a))]) hx hb dX7_pairs_65 hl (k := 4) rfl (inc1 _) (by decide) rfl (fun ls hl => ?_)
                refine lv_goto (tgt := 19) hx hb dX7_pairs_68 (by decide) ?_
                exact ih_19 (b + 1) (z + 0) (by omega) (by omega) (by omega) (by first | exact pr_T (by show (_ && (_ && _)) = true; rw [c2, c3, decide_eq_true hj]; rfl) hz | exact pr_F (by show (_ && (_ && _)) = false; rw [c3, Bool.and_false, Bool.and_false]) hz | exact pr_F (by simp [c2]) hz | fail) _ _ hP hS ls (lv_sub hl [2, 3, 1, 4, 0] rfl)
              · skip
                have c2 := bI_n0 (fun q => c_38 (h_35.trans q))
                refine lv_iload_n hx hb dX7_pairs_41 rfl (lv_at hl 1 rfl) ?_
                refine lv_if_eq (tgt := 58) hx hb dX7_pairs_42 (by decide) (fun c_42 => ?_) (fun c_42 => ?_)
                · skip
                  exact absurd c_42 (by decide)
                · skip
                  refine lv_iload hx hb dX7_pairs_45 (lv_at hl 4 rfl) ?_
                  refine lv_iload_n hx hb dX7_pairs_47 rfl (lv_at hl 3 rfl) ?_
                  refine lv_isub hx hb dX7_pairs_48 ?_
                  refine lv_topi (fun y_9 e_10 => ?_)
                  have e_10 : nI (b - a) = y_9 := (e_10.trans (pk_sub (by omega))).symm
                  subst e_10
                  refine lv_aload_n hx hb dX7_pairs_49 rfl (lv_at hl 0 rfl) ?_
                  refine va_get (D := D) (ci := 7) (v := .ref q1) (C := RX7) (T := TX7) (N := 15) hx hb hts kX7_pairs1_0 hown hK hP 0 rfl rfl 0 (by decide) (hts (.fieldLink RX7 7 "SightRidgeModel" "m" "[I") kX7_pairs1_1) (fun _ h9 => h9) rfl dX7_pairs_50 ?_
                  refine lv_iconst (v := 1) hx hb dX7_pairs_53 (by decide) ?_
                  refine va_iald hx hb hK hP 1 0 rfl rfl (i := nI 1) (vp_in_nI (N := 43) (by decide) (by decide)) dX7_pairs_54 ?_
                  rw [nI_clamp (n := 1) (by decide)]
                  refine lv_topi (fun y_11 e_12 => ?_)
                  have e_12 : rg = y_11 := (e_12.trans (hm1)).symm
                  subst e_12
                  refine lv_icmp_gt (tgt := 62) hx hb dX7_pairs_55 (by decide) (fun c_55 => ?_) (fun c_55 => ?_)
                  · skip
                    have c3 := decide_eq_false (Int32.not_le.mpr c_55)
                    refine lv_iconst (v := 0) hx hb dX7_pairs_62 (by decide) ?_
                    refine lv_iadd hx hb dX7_pairs_63 ?_
                    refine lv_topi (fun y_13 e_14 => ?_)
                    have e_14 : nI (z + 0) = y_13 := (e_14.trans (nI_add z 0)).symm
                    subst e_14
                    refine lv_istore_n (lv' := [(2, .int (nI (z + 0))), (0, .ref o), (1, .int 1), (3, .int (nI a)), (4, .int (nI b))]) hx hb dX7_pairs_64 rfl hl (by decide) rfl (fun ls hl => ?_)
                    refine lv_iinc (v := nI (b + 1)) (lv' := [(4, .int (nI (b + 1))), (2, .int (nI (z + 0))), (0, .ref o), (1, .int 1), (3, .int (nI a))]) hx hb dX7_pairs_65 hl (k := 4) rfl (inc1 _) (by decide) rfl (fun ls hl => ?_)
                    refine lv_goto (tgt := 19) hx hb dX7_pairs_68 (by decide) ?_
                    exact ih_19 (b + 1) (z + 0) (by omega) (by omega) (by omega) (by first | exact pr_T (by show (_ && (_ && _)) = true; rw [c2, c3, decide_eq_true hj]; rfl) hz | exact pr_F (by show (_ && (_ && _)) = false; rw [c3, Bool.and_false, Bool.and_false]) hz | exact pr_F (by simp [c2]) hz | fail) _ _ hP hS ls (lv_sub hl [2, 3, 1, 4, 0] rfl)
                  · skip
                    have c3 := decide_eq_true (Int32.not_lt.mp c_55)
                    refine lv_iconst (v := 1) hx hb dX7_pairs_58 (by decide) ?_
                    refine lv_goto (tgt := 63) hx hb dX7_pairs_59 (by decide) ?_
                    refine lv_iadd hx hb dX7_pairs_63 ?_
                    refine lv_topi (fun y_15 e_16 => ?_)
                    have e_16 : nI (z + 1) = y_15 := (e_16.trans (nI_add z 1)).symm
                    subst e_16
                    refine lv_istore_n (lv' := [(2, .int (nI (z + 1))), (0, .ref o), (1, .int 1), (3, .int (nI a)), (4, .int (nI b))]) hx hb dX7_pairs_64 rfl hl (by decide) rfl (fun ls hl => ?_)
                    refine lv_iinc (v := nI (b + 1)) (lv' := [(4, .int (nI (b + 1))), (2, .int (nI (z + 1))), (0, .ref o), (1, .int 1), (3, .int (nI a))]) hx hb dX7_pairs_65 hl (k := 4) rfl (inc1 _) (by decide) rfl (fun ls hl => ?_)
                    refine lv_goto (tgt := 19) hx hb dX7_pairs_68 (by decide) ?_
                    exact ih_19 (b + 1) (z + 1) (by omega) (by omega) (by omega) (by first | exact pr_T (by show (_ && (_ && _)) = true; rw [c2, c3, decide_eq_true hj]; rfl) hz | exact pr_F (by show (_ && (_ && _)) = false; rw [c3, Bool.and_false, Bool.and_false]) hz | exact pr_F (by simp [c2]) hz | fail) _ _ hP hS ls (lv_sub hl [2, 3, 1, 4, 0] rfl)
        exact L_19 _ (a + 1) t (Nat.lt_succ_self _) (by omega) (by omega) (by rw [fb_ct_low _ _ _ (Nat.le_refl _)]; rfl) _ _ hP hS ls (lv_sub hl [1, 2, 3, 4, 0] rfl)
  exact L_4 _ 0 0 (Nat.lt_succ_self _) (by omega) (rfl) _ _ hP hS ls (lv_sub hl [2, 3, 1, 0] rfl)
theorem kX6_finding_0 : ∀ w ∈ wsX60, w ∈ wsX6_finding := by decide +kernel
theorem kX6_finding_1 : (.fieldLink RX6 36 "SightRidge" "found" "LSightRidge$Finding;" : Cond) ∈ wsX6_finding := by decide +kernel
theorem kX6_finding_2 : ∀ w ∈ wsX10, w ∈ wsX6_finding := by decide +kernel
theorem kX6_finding_3 : (.fieldLink RX6 170 "SightRidge$Finding" "size" "I" : Cond) ∈ wsX6_finding := by decide +kernel
theorem kX6_finding_4 : (.fieldLink RX6 188 "SightRidge$Finding" "stations" "[I" : Cond) ∈ wsX6_finding := by decide +kernel
set_option maxHeartbeats 4000000 in
set_option maxRecDepth 100000 in
/-- finding(x) -/
theorem c_X6_finding (l : Launch) (D : va_G) (cI cB cO : ClassId) (z o1 o2 o3 o4 o6 o7 q ql : Nat) (fk : Nat) (fc : Nat → Nat) (ff : Nat → Int32) (x : Int32) (hfk : fk ≤ 21) (hff : ∀ j, j + 1 < fk → ff j = nI (fc j)) : Met l yX6_finding wsX6_finding (rmD 1) (rdPc D (tyL cI cB cO) [.ref z, .int x] [(z, .inr (6, [.ref o1, .ref o2, .ref o3, .ref o4, .ref q, .ref o6, .ref o7])), (q, .inr (1, [.ref ql, .int (FZ fk)])), (ql, .inl (cI, 20, .inl ff))]) (rdQi (fun r => r = A_finding fk fc x)) 0 0 noA := by
  refine Met.ofW (cc := cX6_finding) (maxL := 2) (ret := (some .int)) (by decide) rfl ?_
  intro p e s m args below meth c s₁ B hml hv
  obtain ⟨rfl, hP, hK, hN⟩ := hv
  have hx := B.exec
  have hb := B.bytes
  have hr := B.returns
  have hts := atoms_spec (ws := wsX6_finding) B.pre
  have hown : s.vm.findClass RX6 = some m.cls := findClass_of_methodNamed B.named
  have hlocks := B.notSynchronized
  have hS : va_S noA s.heap s.heap [] := va_S.rf
  have hl := lv_entry ([.ref z, .int x]) (n := 2) (Nat.le_of_ble_eq_true rfl)
  rw [lg_entry_eq]
  generalize (lg_sl ([.ref z, .int x]) ++ List.replicate (2 - (lg_sl ([.ref z, .int x])).length) Slot.unset).toArray = ls at hl ⊢
  have hl : lv_has ls 2 [(0, .ref z), (1, .int x)] := hl
  refine lv_iload_n hx hb dX6_finding_0 rfl (lv_at hl 1 rfl) ?_
  refine lv_iconst (v := (-1)) hx hb dX6_finding_1 (by decide) ?_
  refine lv_icmp_ge (tgt := 8) hx hb dX6_finding_2 (by decide) (fun c_2 => ?_) (fun c_2 => ?_)
  · skip
    have c1 := c_2
    refine lv_aload_n hx hb dX6_finding_8 rfl (lv_at hl 0 rfl) ?_
    refine va_get (D := D) (ci := 6) (v := .ref q) (C := RX6) (T := TX6) (N := 7) hx hb hts kX6_finding_0 hown hK hP 0 rfl rfl 4 (by decide) (hts (.fieldLink RX6 36 "SightRidge" "found" "LSightRidge$Finding;") kX6_finding_1) (fun _ h9 => h9) rfl dX6_finding_9 ?_
    refine va_get (D := D) (ci := 1) (v := .int (FZ fk)) (C := RX1) (T := TX1) (N := 2) hx hb hts kX6_finding_2 hown hK hP 1 rfl rfl 1 (by decide) (hts (.fieldLink RX6 170 "SightRidge$Finding" "size" "I") kX6_finding_3) (fun _ h9 => h9) rfl dX6_finding_12 ?_
    refine lv_iconst (v := (-1)) hx hb dX6_finding_15 (by decide) ?_
    refine lv_icmp_ne (tgt := 22) hx hb dX6_finding_16 (by decide) (fun c_16 => ?_) (fun c_16 => ?_)
    · skip
      have c2 : ¬ fk = 0 := fun q => c_16 (by rw [q]; rfl)
      refine lv_iload_n hx hb dX6_finding_22 rfl (lv_at hl 1 rfl) ?_
      refine lv_iconst (v := (-1)) hx hb dX6_finding_23 (by decide) ?_
      refine lv_icmp_ne (tgt := 35) hx hb dX6_finding_24 (by decide) (fun c_24 => ?_) (fun c_24 => ?_)
      · skip
        refine lv_iload_n hx hb dX6_finding_35 rfl (lv_at hl 1 rfl) ?_
        refine lv_aload_n hx hb dX6_finding_36 rfl (lv_at hl 0 rfl) ?_
        refine va_get (D := D) (ci := 6) (v := .ref q) (C := RX6) (T := TX6) (N := 7) hx hb hts kX6_finding_0 hown hK hP 0 rfl rfl 4 (by decide) (hts (.fieldLink RX6 36 "SightRidge" "found" "LSightRidge$Finding;") kX6_finding_1) (fun _ h9 => h9) rfl dX6_finding_37 ?_
        refine va_get (D := D) (ci := 1) (v := .int (FZ fk)) (C := RX1) (T := TX1) (N := 2) hx hb hts kX6_finding_2 hown hK hP 1 rfl rfl 1 (by decide) (hts (.fieldLink RX6 170 "SightRidge$Finding" "size" "I") kX6_finding_3) (fun _ h9 => h9) rfl dX6_finding_40 ?_
        refine lv_icmp_ge (tgt := 58) hx hb dX6_finding_43 (by decide) (fun c_43 => ?_) (fun c_43 => ?_)
        · skip
          have c4 := c_43
          refine lv_iconst (v := (-1)) hx hb dX6_finding_58 (by decide) ?_
          exact W.iret (v := -1) hx hb hr (fun tS htS hWS => ⟨⟨-1, (), rfl, (by unfold A_finding; rw [if_pos c1, if_neg c2, if_neg c_24, if_pos c4]), trivial⟩, hS.F htS⟩) hS.2.2 dX6_finding_59
        · skip
          obtain ⟨k, hk, rfl⟩ := find_ix c1 c_24 c_43 c2 hfk
          have hk20 : k < 20 := by omega
          refine lv_aload_n hx hb dX6_finding_46 rfl (lv_at hl 0 rfl) ?_
          refine va_get (D := D) (ci := 6) (v := .ref q) (C := RX6) (T := TX6) (N := 7) hx hb hts kX6_finding_0 hown hK hP 0 rfl rfl 4 (by decide) (hts (.fieldLink RX6 36 "SightRidge" "found" "LSightRidge$Finding;") kX6_finding_1) (fun _ h9 => h9) rfl dX6_finding_47 ?_
          refine va_get (D := D) (ci := 1) (v := .ref ql) (C := RX1) (T := TX1) (N := 2) hx hb hts kX6_finding_2 hown hK hP 1 rfl rfl 0 (by decide) (hts (.fieldLink RX6 188 "SightRidge$Finding" "stations" "[I") kX6_finding_4) (fun _ h9 => h9) rfl dX6_finding_50 ?_
          refine lv_iload_n hx hb dX6_finding_53 rfl (lv_at hl 1 rfl) ?_
          refine va_iald hx hb hK hP 2 0 rfl rfl (i := nI k) (vp_in_nI (N := 20) (by omega) (by decide)) dX6_finding_54 ?_
          rw [nI_clamp (n := k) (by omega)]
          refine lv_topi (fun y_1 e_2 => ?_)
          have e_2 : nI (fc k) = y_1 := (e_2.trans (hff k hk)).symm
          subst e_2
          refine lv_goto (tgt := 59) hx hb dX6_finding_55 (by decide) ?_
          exact W.iret (v := nI (fc k)) hx hb hr (fun tS htS hWS => ⟨⟨nI (fc k), (), rfl, (by unfold A_finding; rw [if_pos c1, if_neg c2, if_neg c_24, if_neg c_43, cN_nI (by omega)]), trivial⟩, hS.F htS⟩) hS.2.2 dX6_finding_59
      · skip
        refine lv_aload_n hx hb dX6_finding_27 rfl (lv_at hl 0 rfl) ?_
        refine va_get (D := D) (ci := 6) (v := .ref q) (C := RX6) (T := TX6) (N := 7) hx hb hts kX6_finding_0 hown hK hP 0 rfl rfl 4 (by decide) (hts (.fieldLink RX6 36 "SightRidge" "found" "LSightRidge$Finding;") kX6_finding_1) (fun _ h9 => h9) rfl dX6_finding_28 ?_
        refine va_get (D := D) (ci := 1) (v := .int (FZ fk)) (C := RX1) (T := TX1) (N := 2) hx hb hts kX6_finding_2 hown hK hP 1 rfl rfl 1 (by decide) (hts (.fieldLink RX6 170 "SightRidge$Finding" "size" "I") kX6_finding_3) (fun _ h9 => h9) rfl dX6_finding_31 ?_
        exact W.iret (v := FZ fk) hx hb hr (fun tS htS hWS => ⟨⟨FZ fk, (), rfl, (by unfold A_finding; rw [if_pos c1, if_neg c2, if_pos c_24]), trivial⟩, hS.F htS⟩) hS.2.2 dX6_finding_34
    · skip
      have c2 : fk = 0 := (FZ_eq (by omega)).mp c_16
      refine lv_bipush (v := (-3)) hx hb dX6_finding_19 (by decide) ?_
      exact W.iret (v := -3) hx hb hr (fun tS htS hWS => ⟨⟨-3, (), rfl, (by unfold A_finding; rw [if_pos c1, if_pos c2]), trivial⟩, hS.F htS⟩) hS.2.2 dX6_finding_21
  · skip
    have c1 := c_2
    refine lv_bipush (v := (-2)) hx hb dX6_finding_5 (by decide) ?_
    exact W.iret (v := -2) hx hb hr (fun tS htS hWS => ⟨⟨-2, (), rfl, (by unfold A_finding; rw [if_neg c1]), trivial⟩, hS.F htS⟩) hS.2.2 dX6_finding_7
theorem kX7_finding_0 : ∀ w ∈ wsX70, w ∈ wsX7_finding := by decide +kernel
theorem kX7_finding_1 : (.fieldLink RX7 19 "SightRidgeModel" "finds" "I" : Cond) ∈ wsX7_finding := by decide +kernel
theorem kX7_finding_2 : (.fieldLink RX7 16 "SightRidgeModel" "found" "[I" : Cond) ∈ wsX7_finding := by decide +kernel
set_option maxHeartbeats 4000000 in
set_option maxRecDepth 100000 in
/-- finding(x) -/
theorem c_X7_finding (l : Launch) (D : va_G) (cI cB cO : ClassId) (q0 q1 q2 q3 q4 q5 q6 q7 q8 : Nat) (un tl re at0 fa : Int32) (hsh : Int64) (fk : Nat) (fc : Nat → Nat) (ff : Nat → Int32) (x : Int32) (hfk : fk ≤ 21) (hff : ∀ j, j + 1 < fk → ff j = nI (fc j)) : Met l yX7_finding wsX7_finding (rmD 1) (rdPc D (tyL cI cB cO) [.ref q0, .int x] [(q0, .inr (7, [.ref q1, .ref q2, .int un, .ref q3, .int (FZ fk), .ref q4, .int tl, .ref q5, .ref q6, .int re, .int at0, .int fa, .ref q7, .ref q8, .long hsh])), (q3, .inl (cI, 20, .inl ff))]) (rdQi (fun r => r = A_finding fk fc x)) 0 0 noA := by
  refine Met.ofW (cc := cX7_finding) (maxL := 2) (ret := (some .int)) (by decide) rfl ?_
  intro p e s m args below meth c s₁ B hml hv
  obtain ⟨rfl, hP, hK, hN⟩ := hv
  have hx := B.exec
  have hb := B.bytes
  have hr := B.returns
  have hts := atoms_spec (ws := wsX7_finding) B.pre
  have hown : s.vm.findClass RX7 = some m.cls := findClass_of_methodNamed B.named
  have hlocks := B.notSynchronized
  have hS : va_S noA s.heap s.heap [] := va_S.rf
  have hl := lv_entry ([.ref q0, .int x]) (n := 2) (Nat.le_of_ble_eq_true rfl)
  rw [lg_entry_eq]
  generalize (lg_sl ([.ref q0, .int x]) ++ List.replicate (2 - (lg_sl ([.ref q0, .int x])).length) Slot.unset).toArray = ls at hl ⊢
  have hl : lv_has ls 2 [(0, .ref q0), (1, .int x)] := hl
  refine lv_iload_n hx hb dX7_finding_0 rfl (lv_at hl 1 rfl) ?_
  refine lv_iconst (v := (-1)) hx hb dX7_finding_1 (by decide) ?_
  refine lv_icmp_ge (tgt := 8) hx hb dX7_finding_2 (by decide) (fun c_2 => ?_) (fun c_2 => ?_)
  · skip
    have c1 := c_2
    refine lv_aload_n hx hb dX7_finding_8 rfl (lv_at hl 0 rfl) ?_
    refine va_get (D := D) (ci := 7) (v := .int (FZ fk)) (C := RX7) (T := TX7) (N := 15) hx hb hts kX7_finding_0 hown hK hP 0 rfl rfl 4 (by decide) (hts (.fieldLink RX7 19 "SightRidgeModel" "finds" "I") kX7_finding_1) (fun _ h9 => h9) rfl dX7_finding_9 ?_
    refine lv_iconst (v := (-1)) hx hb dX7_finding_12 (by decide) ?_
    refine lv_icmp_ne (tgt := 19) hx hb dX7_finding_13 (by decide) (fun c_13 => ?_) (fun c_13 => ?_)
    · skip
      have c2 : ¬ fk = 0 := fun q => c_13 (by rw [q]; rfl)
      refine lv_iload_n hx hb dX7_finding_19 rfl (lv_at hl 1 rfl) ?_
      refine lv_iconst (v := (-1)) hx hb dX7_finding_20 (by decide) ?_
      refine lv_icmp_ne (tgt := 31) hx hb dX7_finding_21 (by decide) (fun c_21 => ?_) (fun c_21 => ?_)
      · skip
        refine lv_iload_n hx hb dX7_finding_31 rfl (lv_at hl 1 rfl) ?_
        refine lv_aload_n hx hb dX7_finding_32 rfl (lv_at hl 0 rfl) ?_
        refine va_get (D := D) (ci := 7) (v := .int (FZ fk)) (C := RX7) (T := TX7) (N := 15) hx hb hts kX7_finding_0 hown hK hP 0 rfl rfl 4 (by decide) (hts (.fieldLink RX7 19 "SightRidgeModel" "finds" "I") kX7_finding_1) (fun _ h9 => h9) rfl dX7_finding_33 ?_
        refine lv_icmp_ge (tgt := 48) hx hb dX7_finding_36 (by decide) (fun c_36 => ?_) (fun c_36 => ?_)
        · skip
          have c4 := c_36
          refine lv_iconst (v := (-1)) hx hb dX7_finding_48 (by decide) ?_
          exact W.iret (v := -1) hx hb hr (fun tS htS hWS => ⟨⟨-1, (), rfl, (by unfold A_finding; rw [if_pos c1, if_neg c2, if_neg c_21, if_pos c4]), trivial⟩, hS.F htS⟩) hS.2.2 dX7_finding_49
        · skip
          obtain ⟨k, hk, rfl⟩ := find_ix c1 c_21 c_36 c2 hfk
          have hk20 : k < 20 := by omega
          refine lv_aload_n hx hb dX7_finding_39 rfl (lv_at hl 0 rfl) ?_
          refine va_get (D := D) (ci := 7) (v := .ref q3) (C := RX7) (T := TX7) (N := 15) hx hb hts kX7_finding_0 hown hK hP 0 rfl rfl 3 (by decide) (hts (.fieldLink RX7 16 "SightRidgeModel" "found" "[I") kX7_finding_2) (fun _ h9 => h9) rfl dX7_finding_40 ?_
          refine lv_iload_n hx hb dX7_finding_43 rfl (lv_at hl 1 rfl) ?_
          refine va_iald hx hb hK hP 1 0 rfl rfl (i := nI k) (vp_in_nI (N := 20) (by omega) (by decide)) dX7_finding_44 ?_
          rw [nI_clamp (n := k) (by omega)]
          refine lv_topi (fun y_1 e_2 => ?_)
          have e_2 : nI (fc k) = y_1 := (e_2.trans (hff k hk)).symm
          subst e_2
          refine lv_goto (tgt := 49) hx hb dX7_finding_45 (by decide) ?_
          exact W.iret (v := nI (fc k)) hx hb hr (fun tS htS hWS => ⟨⟨nI (fc k), (), rfl, (by unfold A_finding; rw [if_pos c1, if_neg c2, if_neg c_21, if_neg c_36, cN_nI (by omega)]), trivial⟩, hS.F htS⟩) hS.2.2 dX7_finding_49
      · skip
        refine lv_aload_n hx hb dX7_finding_24 rfl (lv_at hl 0 rfl) ?_
        refine va_get (D := D) (ci := 7) (v := .int (FZ fk)) (C := RX7) (T := TX7) (N := 15) hx hb hts kX7_finding_0 hown hK hP 0 rfl rfl 4 (by decide) (hts (.fieldLink RX7 19 "SightRidgeModel" "finds" "I") kX7_finding_1) (fun _ h9 => h9) rfl dX7_finding_25 ?_
        refine lv_goto (tgt := 49) hx hb dX7_finding_28 (by decide) ?_
        exact W.iret (v := FZ fk) hx hb hr (fun tS htS hWS => ⟨⟨FZ fk, (), rfl, (by unfold A_finding; rw [if_pos c1, if_neg c2, if_pos c_21]), trivial⟩, hS.F htS⟩) hS.2.2 dX7_finding_49
    · skip
      have c2 : fk = 0 := (FZ_eq (by omega)).mp c_13
      refine lv_bipush (v := (-3)) hx hb dX7_finding_16 (by decide) ?_
      exact W.iret (v := -3) hx hb hr (fun tS htS hWS => ⟨⟨-3, (), rfl, (by unfold A_finding; rw [if_pos c1, if_pos c2]), trivial⟩, hS.F htS⟩) hS.2.2 dX7_finding_18
  · skip
    have c1 := c_2
    refine lv_bipush (v := (-2)) hx hb dX7_finding_5 (by decide) ?_
    exact W.iret (v := -2) hx hb hr (fun tS htS hWS => ⟨⟨-2, (), rfl, (by unfold A_finding; rw [if_neg c1]), trivial⟩, hS.F htS⟩) hS.2.2 dX7_finding_7
