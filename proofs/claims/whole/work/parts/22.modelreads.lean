/-! the public methods that read, of the reference -/
theorem kX7_higher_0 : ∀ w ∈ wsX70, w ∈ wsX7_higher := by decide +kernel
theorem kX7_higher_1 : (.fieldLink RX7 7 "SightRidgeModel" "m" "[I" : Cond) ∈ wsX7_higher := by decide +kernel
set_option maxHeartbeats 4000000 in
set_option maxRecDepth 100000 in
/-- higher(a) -/
theorem c_X7_higher (l : Launch) (D : va_G) (cI cB cO : ClassId) (o q1 : Nat) (fs : List Value) (n : Nat) (mm : Nat → Int32) (rg bl : Int32) (G M : Nat → Int32) (a : Nat) (hm : MOK n mm rg bl G M) (ha : a < n) : Met l yX7_higher wsX7_higher (rmD 2) (rdPc D (tyL cI cB cO) [.ref o, .int (nI a)] [(o, .inr (7, .ref q1 :: fs)), (q1, .inl (cI, 43, .inl mm))]) (rdQi (fun r => r = nI (hnN (tp G M) n a))) 0 0 noA := by
  refine Met.ofW (cc := cX7_higher) (maxL := 3) (ret := (some .int)) (by decide) rfl ?_
  intro p e s m args below meth c s₁ B hml hv
  obtain ⟨rfl, hP, hK, hN⟩ := hv
  have hx := B.exec
  have hb := B.bytes
  have hr := B.returns
  have hts := atoms_spec (ws := wsX7_higher) B.pre
  have hown : s.vm.findClass RX7 = some m.cls := findClass_of_methodNamed B.named
  have hlocks := B.notSynchronized
  have hS : va_S noA s.heap s.heap [] := va_S.rf
  have hl := lv_entry ([.ref o, .int (nI a)]) (n := 3) (Nat.le_of_ble_eq_true rfl)
  rw [lg_entry_eq]
  generalize (lg_sl ([.ref o, .int (nI a)]) ++ List.replicate (3 - (lg_sl ([.ref o, .int (nI a)])).length) Slot.unset).toArray = ls at hl ⊢
  have hl : lv_has ls 3 [(0, .ref o), (1, .int (nI a))] := hl
  obtain ⟨hn, hn1, hm0, hm1, hm2, hG, hM⟩ := id hm
  rcases Nat.eq_zero_or_pos a with h0 | h0
  · skip
    refine lv_iload_n hx hb dX7_higher_0 rfl (lv_at hl 1 rfl) ?_
    refine lv_if_le (tgt := 23) hx hb dX7_higher_1 (by decide) (fun c_1 => ?_) (fun c_1 => ?_)
    · skip
      refine lv_iconst (v := 0) hx hb dX7_higher_23 (by decide) ?_
      refine lv_istore_n (lv' := [(2, .int 0), (0, .ref o), (1, .int (nI a))]) hx hb dX7_higher_24 rfl hl (by decide) rfl (fun ls hl => ?_)
      refine lv_iload_n hx hb dX7_higher_25 rfl (lv_at hl 0 rfl) ?_
      refine lv_iload_n hx hb dX7_higher_26 rfl (lv_at hl 2 rfl) ?_
      refine lv_iconst (v := 1) hx hb dX7_higher_27 (by decide) ?_
      refine lv_iadd hx hb dX7_higher_28 ?_
      refine lv_topi (fun y_1 e_2 => ?_)
      have e_2 : nI (a + 1) = y_1 := (e_2.trans (nI_add a 1)).symm
      subst e_2
      refine lv_aload_n hx hb dX7_higher_29 rfl (lv_at hl 1 rfl) ?_
      refine va_get (D := D) (ci := 7) (v := .ref q1) (C := RX7) (T := TX7) (N := 15) hx hb hts kX7_higher_0 hown hK hP 0 rfl rfl 0 (by decide) (hts (.fieldLink RX7 7 "SightRidgeModel" "m" "[I") kX7_higher_1) (fun _ h9 => h9) rfl dX7_higher_30 ?_
      refine lv_iconst (v := 0) hx hb dX7_higher_33 (by decide) ?_
      refine va_iald hx hb hK hP 1 0 rfl rfl (i := nI 0) (vp_in_nI (N := 43) (by decide) (by decide)) dX7_higher_34 ?_
      rw [nI_clamp (n := 0) (by decide)]
      refine lv_topi (fun y_3 e_4 => ?_)
      have e_4 : nI n = y_3 := (e_4.trans (hm0)).symm
      subst e_4
      refine lv_icmp_ge (tgt := 57) hx hb dX7_higher_35 (by decide) (fun c_35 => ?_) (fun c_35 => ?_)
      · skip
        have g2 : ¬ a + 1 < n := Nat.not_lt.mpr (ge_t (by omega) c_35)
        refine lv_iconst (v := 0) hx hb dX7_higher_57 (by decide) ?_
        refine lv_iadd hx hb dX7_higher_58 ?_
        exact W.iret (v := 0 + 0) hx hb hr (fun tS htS hWS => ⟨⟨0 + 0, (), rfl, (by unfold hnN; rw [if_neg (fun q => absurd q.1 (by omega)), if_neg (fun q => g2 q.1)]; rfl), trivial⟩, hS.F htS⟩) hS.2.2 dX7_higher_59
      · skip
        have g2 : a + 1 < n := ge_f (by omega) c_35
        refine lv_aload_n hx hb dX7_higher_38 rfl (lv_at hl 1 rfl) ?_
        refine lv_iload_n hx hb dX7_higher_39 rfl (lv_at hl 2 rfl) ?_
        refine lv_iconst (v := 1) hx hb dX7_higher_40 (by decide) ?_
        refine lv_iadd hx hb dX7_higher_41 ?_
        refine lv_topi (fun y_5 e_6 => ?_)
        have e_6 : nI (a + 1) = y_5 := (e_6.trans (nI_add a 1)).symm
        subst e_6
        refine rd_calli hP hS (va_runV (As := [.int (nI (a + 1))]) (rest := [.int 0]) ⟨hx, hb, hml, hown, hts⟩ (c_X7_top l D cI cB cO o q1 fs n mm rg bl G M (a + 1) hm g2) (cwV 1 hts gX7_higher_X7_top rfl rfl rfl (by decide +kernel) ⟨Nat.le_of_ble_eq_true rfl, Nat.le_of_ble_eq_true rfl⟩) (rd_preV (r := (RX7, TX7, 15)) (ci := 7) hK (hP.pick [0, 1] rfl) hN (q0 := 0) rfl rfl) rfl rfl hl.1 rfl (lv_room (Nat.le_of_ble_eq_true rfl)) dX7_higher_42 ⟨Nat.le_refl _, Nat.le_refl _⟩) (fun r_42 H locs h_42 hP hS => ?_)
        subst h_42
        refine lv_aload_n hx hb dX7_higher_45 rfl (lv_at hl 1 rfl) ?_
        refine lv_iload_n hx hb dX7_higher_46 rfl (lv_at hl 2 rfl) ?_
        refine rd_calli hP hS (va_runV (As := [.int (nI a)]) (rest := [.int (tp G M (a + 1)), .int 0]) ⟨hx, hb, hml, hown, hts⟩ (c_X7_top l D cI cB cO o q1 fs n mm rg bl G M a hm ha) (cwV 1 hts gX7_higher_X7_top rfl rfl rfl (by decide +kernel) ⟨Nat.le_of_ble_eq_true rfl, Nat.le_of_ble_eq_true rfl⟩) (rd_preV (r := (RX7, TX7, 15)) (ci := 7) hK (hP.pick [0, 1] rfl) hN (q0 := 0) rfl rfl) rfl rfl hl.1 rfl (lv_room (Nat.le_of_ble_eq_true rfl)) dX7_higher_47 ⟨Nat.le_refl _, Nat.le_refl _⟩) (fun r_47 H locs h_47 hP hS => ?_)
        subst h_47
        refine lv_icmp_le (tgt := 57) hx hb dX7_higher_50 (by decide) (fun c_50 => ?_) (fun c_50 => ?_)
        · skip
          have g3 : ¬ tp G M a < tp G M (a + 1) := Int32.not_lt.mpr c_50
          refine lv_iconst (v := 0) hx hb dX7_higher_57 (by decide) ?_
          refine lv_iadd hx hb dX7_higher_58 ?_
          exact W.iret (v := 0 + 0) hx hb hr (fun tS htS hWS => ⟨⟨0 + 0, (), rfl, (by unfold hnN; rw [if_neg (fun q => absurd q.1 (by omega)), if_neg (fun q => g3 q.2)]; rfl), trivial⟩, hS.F htS⟩) hS.2.2 dX7_higher_59
        · skip
          have g3 : tp G M a < tp G M (a + 1) := Int32.not_le.mp c_50
          refine lv_iconst (v := 1) hx hb dX7_higher_53 (by decide) ?_
          refine lv_goto (tgt := 58) hx hb dX7_higher_54 (by decide) ?_
          refine lv_iadd hx hb dX7_higher_58 ?_
          exact W.iret (v := 0 + 1) hx hb hr (fun tS htS hWS => ⟨⟨0 + 1, (), rfl, (by unfold hnN; rw [if_neg (fun q => absurd q.1 (by omega)), if_pos (⟨g2, g3⟩ : a + 1 < n ∧ tp G M a < tp G M (a + 1))]; rfl), trivial⟩, hS.F htS⟩) hS.2.2 dX7_higher_59
    · skip
      exact absurd (by rw [h0]; decide) c_1
  · skip
    refine lv_iload_n hx hb dX7_higher_0 rfl (lv_at hl 1 rfl) ?_
    refine lv_if_le (tgt := 23) hx hb dX7_higher_1 (by decide) (fun c_1 => ?_) (fun c_1 => ?_)
    · skip
      exact absurd c_1 (nI_nle h0 (by omega))
    · skip
      refine lv_aload_n hx hb dX7_higher_4 rfl (lv_at hl 0 rfl) ?_
      refine lv_iload_n hx hb dX7_higher_5 rfl (lv_at hl 1 rfl) ?_
      refine lv_iconst (v := 1) hx hb dX7_higher_6 (by decide) ?_
      refine lv_isub hx hb dX7_higher_7 ?_
      refine lv_topi (fun y_7 e_8 => ?_)
      have e_8 : nI (a - 1) = y_7 := (e_8.trans (pk_sub h0)).symm
      subst e_8
      refine rd_calli hP hS (va_runV (As := [.int (nI (a - 1))]) (rest := []) ⟨hx, hb, hml, hown, hts⟩ (c_X7_top l D cI cB cO o q1 fs n mm rg bl G M (a - 1) hm (by omega)) (cwV 1 hts gX7_higher_X7_top rfl rfl rfl (by decide +kernel) ⟨Nat.le_of_ble_eq_true rfl, Nat.le_of_ble_eq_true rfl⟩) (rd_preV (r := (RX7, TX7, 15)) (ci := 7) hK (hP.pick [0, 1] rfl) hN (q0 := 0) rfl rfl) rfl rfl hl.1 rfl (lv_room (Nat.le_of_ble_eq_true rfl)) dX7_higher_8 ⟨Nat.le_refl _, Nat.le_refl _⟩) (fun r_8 H locs h_8 hP hS => ?_)
      subst h_8
      refine lv_aload_n hx hb dX7_higher_11 rfl (lv_at hl 0 rfl) ?_
      refine lv_iload_n hx hb dX7_higher_12 rfl (lv_at hl 1 rfl) ?_
      refine rd_calli hP hS (va_runV (As := [.int (nI a)]) (rest := [.int (tp G M (a - 1))]) ⟨hx, hb, hml, hown, hts⟩ (c_X7_top l D cI cB cO o q1 fs n mm rg bl G M a hm ha) (cwV 1 hts gX7_higher_X7_top rfl rfl rfl (by decide +kernel) ⟨Nat.le_of_ble_eq_true rfl, Nat.le_of_ble_eq_true rfl⟩) (rd_preV (r := (RX7, TX7, 15)) (ci := 7) hK (hP.pick [0, 1] rfl) hN (q0 := 0) rfl rfl) rfl rfl hl.1 rfl (lv_room (Nat.le_of_ble_eq_true rfl)) dX7_higher_13 ⟨Nat.le_refl _, Nat.le_refl _⟩) (fun r_13 H locs h_13 hP hS => ?_)
      subst h_13
      refine lv_icmp_le (tgt := 23) hx hb dX7_higher_16 (by decide) (fun c_16 => ?_) (fun c_16 => ?_)
      · skip
        have g1 : ¬ tp G M a < tp G M (a - 1) := Int32.not_lt.mpr c_16
        refine lv_iconst (v := 0) hx hb dX7_higher_23 (by decide) ?_
        refine lv_istore_n (lv' := [(2, .int 0), (0, .ref o), (1, .int (nI a))]) hx hb dX7_higher_24 rfl hl (by decide) rfl (fun ls hl => ?_)
        refine lv_iload_n hx hb dX7_higher_25 rfl (lv_at hl 0 rfl) ?_
        refine lv_iload_n hx hb dX7_higher_26 rfl (lv_at hl 2 rfl) ?_
        refine lv_iconst (v := 1) hx hb dX7_higher_27 (by decide) ?_
        refine lv_iadd hx hb dX7_higher_28 ?_
        refine lv_topi (fun y_9 e_10 => ?_)
        have e_10 : nI (a + 1) = y_9 := (e_10.trans (nI_add a 1)).symm
        subst e_10
        refine lv_aload_n hx hb dX7_higher_29 rfl (lv_at hl 1 rfl) ?_
        refine va_get (D := D) (ci := 7) (v := .ref q1) (C := RX7) (T := TX7) (N := 15) hx hb hts kX7_higher_0 hown hK hP 0 rfl rfl 0 (by decide) (hts (.fieldLink RX7 7 "SightRidgeModel" "m" "[I") kX7_higher_1) (fun _ h9 => h9) rfl dX7_higher_30 ?_
        refine lv_iconst (v := 0) hx hb dX7_higher_33 (by decide) ?_
        refine va_iald hx hb hK hP 1 0 rfl rfl (i := nI 0) (vp_in_nI (N := 43) (by decide) (by decide)) dX7_higher_34 ?_
        rw [nI_clamp (n := 0) (by decide)]
        refine lv_topi (fun y_11 e_12 => ?_)
        have e_12 : nI n = y_11 := (e_12.trans (hm0)).symm
        subst e_12
        refine lv_icmp_ge (tgt := 57) hx hb dX7_higher_35 (by decide) (fun c_35 => ?_) (fun c_35 => ?_)
        · skip
          have g2 : ¬ a + 1 < n := Nat.not_lt.mpr (ge_t (by omega) c_35)
          refine lv_iconst (v := 0) hx hb dX7_higher_57 (by decide) ?_
          refine lv_iadd hx hb dX7_higher_58 ?_
          exact W.iret (v := 0 + 0) hx hb hr (fun tS htS hWS => ⟨⟨0 + 0, (), rfl, (by unfold hnN; rw [if_neg (fun q => g1 q.2), if_neg (fun q => g2 q.1)]; rfl), trivial⟩, hS.F htS⟩) hS.2.2 dX7_higher_59
        · skip
          have g2 : a + 1 < n := ge_f (by omega) c_35
          refine lv_aload_n hx hb dX7_higher_38 rfl (lv_at hl 1 rfl) ?_
          refine lv_iload_n hx hb dX7_higher_39 rfl (lv_at hl 2 rfl) ?_
          refine lv_iconst (v := 1) hx hb dX7_higher_40 (by decide) ?_
          refine lv_iadd hx hb dX7_higher_41 ?_
          refine lv_topi (fun y_13 e_14 => ?_)
          have e_14 : nI (a + 1) = y_13 := (e_14.trans (nI_add a 1)).symm
          subst e_14
          refine rd_calli hP hS (va_runV (As := [.int (nI (a + 1))]) (rest := [.int 0]) ⟨hx, hb, hml, hown, hts⟩ (c_X7_top l D cI cB cO o q1 fs n mm rg bl G M (a + 1) hm g2) (cwV 1 hts gX7_higher_X7_top rfl rfl rfl (by decide +kernel) ⟨Nat.le_of_ble_eq_true rfl, Nat.le_of_ble_eq_true rfl⟩) (rd_preV (r := (RX7, TX7, 15)) (ci := 7) hK (hP.pick [0, 1] rfl) hN (q0 := 0) rfl rfl) rfl rfl hl.1 rfl (lv_room (Nat.le_of_ble_eq_true rfl)) dX7_higher_42 ⟨Nat.le_refl _, Nat.le_refl _⟩) (fun r_42 H locs h_42 hP hS => ?_)
          subst h_42
          refine lv_aload_n hx hb dX7_higher_45 rfl (lv_at hl 1 rfl) ?_
          refine lv_iload_n hx hb dX7_higher_46 rfl (lv_at hl 2 rfl) ?_
          refine rd_calli hP hS (va_runV (As := [.int (nI a)]) (rest := [.int (tp G M (a + 1)), .int 0]) ⟨hx, hb, hml, hown, hts⟩ (c_X7_top l D cI cB cO o q1 fs n mm rg bl G M a hm ha) (cwV 1 hts gX7_higher_X7_top rfl rfl rfl (by decide +kernel) ⟨Nat.le_of_ble_eq_true rfl, Nat.le_of_ble_eq_true rfl⟩) (rd_preV (r := (RX7, TX7, 15)) (ci := 7) hK (hP.pick [0, 1] rfl) hN (q0 := 0) rfl rfl) rfl rfl hl.1 rfl (lv_room (Nat.le_of_ble_eq_true rfl)) dX7_higher_47 ⟨Nat.le_refl _, Nat.le_refl _⟩) (fun r_47 H locs h_47 hP hS => ?_)
          subst h_47
          refine lv_icmp_le (tgt := 57) hx hb dX7_higher_50 (by decide) (fun c_50 => ?_) (fun c_50 => ?_)
          · skip
            have g3 : ¬ tp G M a < tp G M (a + 1) := Int32.not_lt.mpr c_50
            refine lv_iconst (v := 0) hx hb dX7_higher_57 (by decide) ?_
            refine lv_iadd hx hb dX7_higher_58 ?_
            exact W.iret (v := 0 + 0) hx hb hr (fun tS htS hWS => ⟨⟨0 + 0, (), rfl, (by unfold hnN; rw [if_neg (fun q => g1 q.2), if_neg (fun q => g3 q.2)]; rfl), trivial⟩, hS.F htS⟩) hS.2.2 dX7_higher_59
          · skip
            have g3 : tp G M a < tp G M (a + 1) := Int32.not_le.mp c_50
            refine lv_iconst (v := 1) hx hb dX7_higher_53 (by decide) ?_
            refine lv_goto (tgt := 58) hx hb dX7_higher_54 (by decide) ?_
            refine lv_iadd hx hb dX7_higher_58 ?_
            exact W.iret (v := 0 + 1) hx hb hr (fun tS htS hWS => ⟨⟨0 + 1, (), rfl, (by unfold hnN; rw [if_neg (fun q => g1 q.2), if_pos (⟨g2, g3⟩ : a + 1 < n ∧ tp G M a < tp G M (a + 1))]; rfl), trivial⟩, hS.F htS⟩) hS.2.2 dX7_higher_59
      · skip
        have g1 : tp G M a < tp G M (a - 1) := Int32.not_le.mp c_16
        refine lv_iconst (v := 1) hx hb dX7_higher_19 (by decide) ?_
        refine lv_goto (tgt := 24) hx hb dX7_higher_20 (by decide) ?_
        refine lv_istore_n (lv' := [(2, .int 1), (0, .ref o), (1, .int (nI a))]) hx hb dX7_higher_24 rfl hl (by decide) rfl (fun ls hl => ?_)
        refine lv_iload_n hx hb dX7_higher_25 rfl (lv_at hl 0 rfl) ?_
        refine lv_iload_n hx hb dX7_higher_26 rfl (lv_at hl 2 rfl) ?_
        refine lv_iconst (v := 1) hx hb dX7_higher_27 (by decide) ?_
        refine lv_iadd hx hb dX7_higher_28 ?_
        refine lv_topi (fun y_15 e_16 => ?_)
        have e_16 : nI (a + 1) = y_15 := (e_16.trans (nI_add a 1)).symm
        subst e_16
        refine lv_aload_n hx hb dX7_higher_29 rfl (lv_at hl 1 rfl) ?_
        refine va_get (D := D) (ci := 7) (v := .ref q1) (C := RX7) (T := TX7) (N := 15) hx hb hts kX7_higher_0 hown hK hP 0 rfl rfl 0 (by decide) (hts (.fieldLink RX7 7 "SightRidgeModel" "m" "[I") kX7_higher_1) (fun _ h9 => h9) rfl dX7_higher_30 ?_
        refine lv_iconst (v := 0) hx hb dX7_higher_33 (by decide) ?_
        refine va_iald hx hb hK hP 1 0 rfl rfl (i := nI 0) (vp_in_nI (N := 43) (by decide) (by decide)) dX7_higher_34 ?_
        rw [nI_clamp (n := 0) (by decide)]
        refine lv_topi (fun y_17 e_18 => ?_)
        have e_18 : nI n = y_17 := (e_18.trans (hm0)).symm
        subst e_18
        refine lv_icmp_ge (tgt := 57) hx hb dX7_higher_35 (by decide) (fun c_35 => ?_) (fun c_35 => ?_)
        · skip
          have g2 : ¬ a + 1 < n := Nat.not_lt.mpr (ge_t (by omega) c_35)
          refine lv_iconst (v := 0) hx hb dX7_higher_57 (by decide) ?_
          refine lv_iadd hx hb dX7_higher_58 ?_
          exact W.iret (v := 1 + 0) hx hb hr (fun tS htS hWS => ⟨⟨1 + 0, (), rfl, (by unfold hnN; rw [if_pos (⟨h0, g1⟩ : 0 < a ∧ tp G M a < tp G M (a - 1)), if_neg (fun q => g2 q.1)]; rfl), trivial⟩, hS.F htS⟩) hS.2.2 dX7_higher_59
        · skip
          have g2 : a + 1 < n := ge_f (by omega) c_35
          refine lv_aload_n hx hb dX7_higher_38 rfl (lv_at hl 1 rfl) ?_
          refine lv_iload_n hx hb dX7_higher_39 rfl (lv_at hl 2 rfl) ?_
          refine lv_iconst (v := 1) hx hb dX7_higher_40 (by decide) ?_
          refine lv_iadd hx hb dX7_higher_41 ?_
          refine lv_topi (fun y_19 e_20 => ?_)
          have e_20 : nI (a + 1) = y_19 := (e_20.trans (nI_add a 1)).symm
          subst e_20
          refine rd_calli hP hS (va_runV (As := [.int (nI (a + 1))]) (rest := [.int 1]) ⟨hx, hb, hml, hown, hts⟩ (c_X7_top l D cI cB cO o q1 fs n mm rg bl G M (a + 1) hm g2) (cwV 1 hts gX7_higher_X7_top rfl rfl rfl (by decide +kernel) ⟨Nat.le_of_ble_eq_true rfl, Nat.le_of_ble_eq_true rfl⟩) (rd_preV (r := (RX7, TX7, 15)) (ci := 7) hK (hP.pick [0, 1] rfl) hN (q0 := 0) rfl rfl) rfl rfl hl.1 rfl (lv_room (Nat.le_of_ble_eq_true rfl)) dX7_higher_42 ⟨Nat.le_refl _, Nat.le_refl _⟩) (fun r_42 H locs h_42 hP hS => ?_)
          subst h_42
          refine lv_aload_n hx hb dX7_higher_45 rfl (lv_at hl 1 rfl) ?_
          refine lv_iload_n hx hb dX7_higher_46 rfl (lv_at hl 2 rfl) ?_
          refine rd_calli hP hS (va_runV (As := [.int (nI a)]) (rest := [.int (tp G M (a + 1)), .int 1]) ⟨hx, hb, hml, hown, hts⟩ (c_X7_top l D cI cB cO o q1 fs n mm rg bl G M a hm ha) (cwV 1 hts gX7_higher_X7_top rfl rfl rfl (by decide +kernel) ⟨Nat.le_of_ble_eq_true rfl, Nat.le_of_ble_eq_true rfl⟩) (rd_preV (r := (RX7, TX7, 15)) (ci := 7) hK (hP.pick [0, 1] rfl) hN (q0 := 0) rfl rfl) rfl rfl hl.1 rfl (lv_room (Nat.le_of_ble_eq_true rfl)) dX7_higher_47 ⟨Nat.le_refl _, Nat.le_refl _⟩) (fun r_47 H locs h_47 hP hS => ?_)
          subst h_47
          refine lv_icmp_le (tgt := 57) hx hb dX7_higher_50 (by decide) (fun c_50 => ?_) (fun c_50 => ?_)
          · skip
            have g3 : ¬ tp G M a < tp G M (a + 1) := Int32.not_lt.mpr c_50
            refine lv_iconst (v := 0) hx hb dX7_higher_57 (by decide) ?_
            refine lv_iadd hx hb dX7_higher_58 ?_
            exact W.iret (v := 1 + 0) hx hb hr (fun tS htS hWS => ⟨⟨1 + 0, (), rfl, (by unfold hnN; rw [if_pos (⟨h0, g1⟩ : 0 < a ∧ tp G M a < tp G M (a - 1)), if_neg (fun q => g3 q.2)]; rfl), trivial⟩, hS.F htS⟩) hS.2.2 dX7_higher_59
          · skip
            have g3 : tp G M a < tp G M (a + 1) := Int32.not_le.mp c_50
            refine lv_iconst (v := 1) hx hb dX7_higher_53 (by decide) ?_
            refine lv_goto (tgt := 58) hx hb dX7_higher_54 (by decide) ?_
            refine lv_iadd hx hb dX7_higher_58 ?_
            exact W.iret (v := 1 + 1) hx hb hr (fun tS htS hWS => ⟨⟨1 + 1, (), rfl, (by unfold hnN; rw [if_pos (⟨h0, g1⟩ : 0 < a ∧ tp G M a < tp G M (a - 1)), if_pos (⟨g2, g3⟩ : a + 1 < n ∧ tp G M a < tp G M (a + 1))]; rfl), trivial⟩, hS.F htS⟩) hS.2.2 dX7_higher_59
theorem kX7_station__0 : ∀ w ∈ wsX70, w ∈ wsX7_station_ := by decide +kernel
theorem kX7_station__1 : (.fieldLink RX7 7 "SightRidgeModel" "m" "[I" : Cond) ∈ wsX7_station_ := by decide +kernel
set_option maxHeartbeats 4000000 in
set_option maxRecDepth 100000 in
/-- station(x, w) -/
theorem c_X7_station_ (l : Launch) (D : va_G) (cI cB cO : ClassId) (o q1 : Nat) (fs : List Value) (n : Nat) (mm : Nat → Int32) (rg bl : Int32) (G M : Nat → Int32) (x w : Int32) (hm : MOK n mm rg bl G M) : Met l yX7_station_ wsX7_station_ (rmD 6) (rdPc D (tyL cI cB cO) [.ref o, .int x, .int w] [(o, .inr (7, .ref q1 :: fs)), (q1, .inl (cI, 43, .inl mm))]) (rdQi (fun r => r = A_station n rg bl G M x w)) 0 0 noA := by
  refine Met.ofW (cc := cX7_station_) (maxL := 3) (ret := (some .int)) (by decide) rfl ?_
  intro p e s m args below meth c s₁ B hml hv
  obtain ⟨rfl, hP, hK, hN⟩ := hv
  have hx := B.exec
  have hb := B.bytes
  have hr := B.returns
  have hts := atoms_spec (ws := wsX7_station_) B.pre
  have hown : s.vm.findClass RX7 = some m.cls := findClass_of_methodNamed B.named
  have hlocks := B.notSynchronized
  have hS : va_S noA s.heap s.heap [] := va_S.rf
  have hl := lv_entry ([.ref o, .int x, .int w]) (n := 3) (Nat.le_of_ble_eq_true rfl)
  rw [lg_entry_eq]
  generalize (lg_sl ([.ref o, .int x, .int w]) ++ List.replicate (3 - (lg_sl ([.ref o, .int x, .int w])).length) Slot.unset).toArray = ls at hl ⊢
  have hl : lv_has ls 3 [(0, .ref o), (1, .int x), (2, .int w)] := hl
  obtain ⟨hn, hn1, hm0, hm1, hm2, hG, hM⟩ := id hm
  refine lv_aload_n hx hb dX7_station__0 rfl (lv_at hl 0 rfl) ?_
  refine lv_iload_n hx hb dX7_station__1 rfl (lv_at hl 1 rfl) ?_
  refine rd_calli hP hS (va_runV (As := [.int x]) (rest := []) ⟨hx, hb, hml, hown, hts⟩ (c_X7_isStation l D cI cB cO o q1 fs n mm rg bl G M x hm) (cwV 1 hts gX7_station__X7_isStation rfl rfl rfl (by decide +kernel) ⟨Nat.le_of_ble_eq_true rfl, Nat.le_of_ble_eq_true rfl⟩) (rd_preV (r := (RX7, TX7, 15)) (ci := 7) hK (hP.pick [0, 1] rfl) hN (q0 := 0) rfl rfl) rfl rfl hl.1 rfl (lv_room (Nat.le_of_ble_eq_true rfl)) dX7_station__2 ⟨Nat.le_refl _, Nat.le_refl _⟩) (fun r_2 H locs h_2 hP hS => ?_)
  refine lv_if_eq (tgt := 17) hx hb dX7_station__5 (by decide) (fun c_5 => ?_) (fun c_5 => ?_)
  · skip
    have c1 := bI_e0 (h_2.symm.trans c_5)
    refine lv_bipush (v := (-2)) hx hb dX7_station__17 (by decide) ?_
    exact W.iret (v := -2) hx hb hr (fun tS htS hWS => ⟨⟨-2, (), rfl, (by first | exact (A_station_no c1).symm | (obtain ⟨k, hk, rfl⟩ := hasB_T c1 hn; rw [A_station_k hk hn, stV_out hw]) | fail), trivial⟩, hS.F htS⟩) hS.2.2 dX7_station__19
  · skip
    have c1 := bI_n0 (fun q => c_5 (h_2.trans q))
    refine lv_iload_n hx hb dX7_station__8 rfl (lv_at hl 2 rfl) ?_
    refine lv_iconst (v := 0) hx hb dX7_station__9 (by decide) ?_
    refine lv_iconst (v := 5) hx hb dX7_station__10 (by decide) ?_
    refine rd_calli hP hS (va_runS (As := [.int w, .int 0, .int 5]) (rest := []) ⟨hx, hb, hml, hown, hts⟩ (c_X7_in l D cI cB cO w 0 5 ) (va_cwS 3 hts gX7_station__X7_in rfl rfl rfl (by decide +kernel) ⟨Nat.le_of_ble_eq_true rfl, Nat.le_of_ble_eq_true rfl⟩) (rd_preS hK (hP.pick [] rfl) hN) rfl rfl hl.1 rfl (lv_room (Nat.le_of_ble_eq_true rfl)) dX7_station__11 ⟨Nat.le_refl _, Nat.le_refl _⟩) (fun r_11 H locs h_11 hP hS => ?_)
    refine lv_if_ne (tgt := 20) hx hb dX7_station__14 (by decide) (fun c_14 => ?_) (fun c_14 => ?_)
    · skip
      have d2 : inB w 0 (nI 5) = true := bI_n0 (fun q => c_14 (h_11.trans q))
      obtain ⟨k, hk, rfl⟩ := hasB_T c1 hn
      refine lv_iload_n hx hb dX7_station__20 rfl (lv_at hl 2 rfl) ?_
      rcases sw6 w with rfl | rfl | rfl | rfl | rfl | rfl | hw
      · skip
        refine lv_tableIn (off := 35) (tgt := 56) hx hb dX7_station__21 (by decide) (by decide) rfl (by decide) ?_
        refine lv_aload_n hx hb dX7_station__56 rfl (lv_at hl 0 rfl) ?_
        refine va_get (D := D) (ci := 7) (v := .ref q1) (C := RX7) (T := TX7) (N := 15) hx hb hts kX7_station__0 hown hK hP 0 rfl rfl 0 (by decide) (hts (.fieldLink RX7 7 "SightRidgeModel" "m" "[I") kX7_station__1) (fun _ h9 => h9) rfl dX7_station__57 ?_
        refine lv_iconst (v := 3) hx hb dX7_station__60 (by decide) ?_
        refine lv_iload_n hx hb dX7_station__61 rfl (lv_at hl 1 rfl) ?_
        refine lv_iadd hx hb dX7_station__62 ?_
        refine lv_topi (fun y_1 e_2 => ?_)
        have e_2 : nI (3 + k) = y_1 := (e_2.trans (nI_add 3 k)).symm
        subst e_2
        refine va_iald hx hb hK hP 1 0 rfl rfl (i := nI (3 + k)) (vp_in_nI (N := 43) (by omega) (by decide)) dX7_station__63 ?_
        rw [nI_clamp (n := 3 + k) (by omega)]
        refine lv_topi (fun y_3 e_4 => ?_)
        have e_4 : G k = y_3 := (e_4.trans (hG k hk)).symm
        subst e_4
        exact W.iret (v := G k) hx hb hr (fun tS htS hWS => ⟨⟨G k, (), rfl, (by rw [A_station_k hk hn]; rfl), trivial⟩, hS.F htS⟩) hS.2.2 dX7_station__64
      · skip
        refine lv_tableIn (off := 44) (tgt := 65) hx hb dX7_station__21 (by decide) (by decide) rfl (by decide) ?_
        refine lv_aload_n hx hb dX7_station__65 rfl (lv_at hl 0 rfl) ?_
        refine va_get (D := D) (ci := 7) (v := .ref q1) (C := RX7) (T := TX7) (N := 15) hx hb hts kX7_station__0 hown hK hP 0 rfl rfl 0 (by decide) (hts (.fieldLink RX7 7 "SightRidgeModel" "m" "[I") kX7_station__1) (fun _ h9 => h9) rfl dX7_station__66 ?_
        refine lv_bipush (v := 23) hx hb dX7_station__69 (by decide) ?_
        refine lv_iload_n hx hb dX7_station__71 rfl (lv_at hl 1 rfl) ?_
        refine lv_iadd hx hb dX7_station__72 ?_
        refine lv_topi (fun y_5 e_6 => ?_)
        have e_6 : nI (23 + k) = y_5 := (e_6.trans (nI_add 23 k)).symm
        subst e_6
        refine va_iald hx hb hK hP 1 0 rfl rfl (i := nI (23 + k)) (vp_in_nI (N := 43) (by omega) (by decide)) dX7_station__73 ?_
        rw [nI_clamp (n := 23 + k) (by omega)]
        refine lv_topi (fun y_7 e_8 => ?_)
        have e_8 : M k = y_7 := (e_8.trans (hM k hk)).symm
        subst e_8
        exact W.iret (v := M k) hx hb hr (fun tS htS hWS => ⟨⟨M k, (), rfl, (by rw [A_station_k hk hn]; rfl), trivial⟩, hS.F htS⟩) hS.2.2 dX7_station__74
      · skip
        refine lv_tableIn (off := 54) (tgt := 75) hx hb dX7_station__21 (by decide) (by decide) rfl (by decide) ?_
        refine lv_aload_n hx hb dX7_station__75 rfl (lv_at hl 0 rfl) ?_
        refine lv_iload_n hx hb dX7_station__76 rfl (lv_at hl 1 rfl) ?_
        refine rd_calli hP hS (va_runV (As := [.int (nI k)]) (rest := []) ⟨hx, hb, hml, hown, hts⟩ (c_X7_top l D cI cB cO o q1 fs n mm rg bl G M k hm hk) (cwV 1 hts gX7_station__X7_top rfl rfl rfl (by decide +kernel) ⟨Nat.le_of_ble_eq_true rfl, Nat.le_of_ble_eq_true rfl⟩) (rd_preV (r := (RX7, TX7, 15)) (ci := 7) hK (hP.pick [0, 1] rfl) hN (q0 := 0) rfl rfl) rfl rfl hl.1 rfl (lv_room (Nat.le_of_ble_eq_true rfl)) dX7_station__77 ⟨Nat.le_refl _, Nat.le_refl _⟩) (fun r_77 H locs h_77 hP hS => ?_)
        exact W.iret (v := r_77) hx hb hr (fun tS htS hWS => ⟨⟨r_77, (), rfl, (h_77.trans (by rw [A_station_k hk hn]; rfl)), trivial⟩, hS.F htS⟩) hS.2.2 dX7_station__80
      · skip
        refine lv_tableIn (off := 60) (tgt := 81) hx hb dX7_station__21 (by decide) (by decide) rfl (by decide) ?_
        refine lv_aload_n hx hb dX7_station__81 rfl (lv_at hl 0 rfl) ?_
        refine lv_iload_n hx hb dX7_station__82 rfl (lv_at hl 1 rfl) ?_
        refine rd_calli hP hS (va_runV (As := [.int (nI k)]) (rest := []) ⟨hx, hb, hml, hown, hts⟩ (c_X7_contacts l D cI cB cO o q1 fs n mm rg bl G M k hm hk) (cwV 1 hts gX7_station__X7_contacts rfl rfl rfl (by decide +kernel) ⟨Nat.le_of_ble_eq_true rfl, Nat.le_of_ble_eq_true rfl⟩) (rd_preV (r := (RX7, TX7, 15)) (ci := 7) hK (hP.pick [0, 1] rfl) hN (q0 := 0) rfl rfl) rfl rfl hl.1 rfl (lv_room (Nat.le_of_ble_eq_true rfl)) dX7_station__83 ⟨Nat.le_refl _, Nat.le_refl _⟩) (fun r_83 H locs h_83 hP hS => ?_)
        exact W.iret (v := r_83) hx hb hr (fun tS htS hWS => ⟨⟨r_83, (), rfl, (h_83.trans (by rw [A_station_k hk hn]; rfl)), trivial⟩, hS.F htS⟩) hS.2.2 dX7_station__86
      · skip
        refine lv_tableIn (off := 66) (tgt := 87) hx hb dX7_station__21 (by decide) (by decide) rfl (by decide) ?_
        refine lv_aload_n hx hb dX7_station__87 rfl (lv_at hl 0 rfl) ?_
        refine lv_iload_n hx hb dX7_station__88 rfl (lv_at hl 1 rfl) ?_
        refine lv_aload_n hx hb dX7_station__89 rfl (lv_at hl 0 rfl) ?_
        refine lv_iload_n hx hb dX7_station__90 rfl (lv_at hl 1 rfl) ?_
        refine rd_calli hP hS (va_runV (As := [.int (nI k)]) (rest := [.int (nI k), .ref o]) ⟨hx, hb, hml, hown, hts⟩ (c_X7_top l D cI cB cO o q1 fs n mm rg bl G M k hm hk) (cwV 1 hts gX7_station__X7_top rfl rfl rfl (by decide +kernel) ⟨Nat.le_of_ble_eq_true rfl, Nat.le_of_ble_eq_true rfl⟩) (rd_preV (r := (RX7, TX7, 15)) (ci := 7) hK (hP.pick [0, 1] rfl) hN (q0 := 0) rfl rfl) rfl rfl hl.1 rfl (lv_room (Nat.le_of_ble_eq_true rfl)) dX7_station__91 ⟨Nat.le_refl _, Nat.le_refl _⟩) (fun r_91 H locs h_91 hP hS => ?_)
        subst h_91
        refine rd_calli hP hS (va_runV (As := [.int (nI k), .int (tp G M k)]) (rest := []) ⟨hx, hb, hml, hown, hts⟩ (c_X7_grounds l D cI cB cO o q1 fs n mm rg bl G M k (tp G M k) hm hk) (cwV 2 hts gX7_station__X7_grounds rfl rfl rfl (by decide +kernel) ⟨Nat.le_of_ble_eq_true rfl, Nat.le_of_ble_eq_true rfl⟩) (rd_preV (r := (RX7, TX7, 15)) (ci := 7) hK (hP.pick [0, 1] rfl) hN (q0 := 0) rfl rfl) rfl rfl hl.1 rfl (lv_room (Nat.le_of_ble_eq_true rfl)) dX7_station__94 ⟨Nat.le_refl _, Nat.le_refl _⟩) (fun r_94 H locs h_94 hP hS => ?_)
        exact W.iret (v := r_94) hx hb hr (fun tS htS hWS => ⟨⟨r_94, (), rfl, (h_94.trans (by rw [A_station_k hk hn]; rfl)), trivial⟩, hS.F htS⟩) hS.2.2 dX7_station__97
      · skip
        refine lv_tableOut (tgt := 98) hx hb dX7_station__21 (Or.inr (by decide)) (by decide) ?_
        refine lv_aload_n hx hb dX7_station__98 rfl (lv_at hl 0 rfl) ?_
        refine lv_iload_n hx hb dX7_station__99 rfl (lv_at hl 1 rfl) ?_
        refine rd_calli hP hS (va_runV (As := [.int (nI k)]) (rest := []) ⟨hx, hb, hml, hown, hts⟩ (c_X7_higher l D cI cB cO o q1 fs n mm rg bl G M k hm hk) (cwV 1 hts gX7_station__X7_higher rfl rfl rfl (by decide +kernel) ⟨Nat.le_of_ble_eq_true rfl, Nat.le_of_ble_eq_true rfl⟩) (rd_preV (r := (RX7, TX7, 15)) (ci := 7) hK (hP.pick [0, 1] rfl) hN (q0 := 0) rfl rfl) rfl rfl hl.1 rfl (lv_room (Nat.le_of_ble_eq_true rfl)) dX7_station__100 ⟨Nat.le_refl _, Nat.le_refl _⟩) (fun r_100 H locs h_100 hP hS => ?_)
        exact W.iret (v := r_100) hx hb hr (fun tS htS hWS => ⟨⟨r_100, (), rfl, (h_100.trans (by rw [A_station_k hk hn]; rfl)), trivial⟩, hS.F htS⟩) hS.2.2 dX7_station__103
      · skip
        refine lv_tableOut (tgt := 98) hx hb dX7_station__21 (by omega) (by decide) ?_
        exfalso
        obtain ⟨q8, q9⟩ := of_decide_eq_true d2
        rw [fa_le] at q8 q9
        have e0 : (0 : Int32).toInt = 0 := rfl
        have e5 : (nI 5).toInt = 5 := rfl
        omega
    · skip
      have d2 : inB w 0 (nI 5) = false := bI_e0 (h_11.symm.trans c_14)
      have hw := in05_out (by decide) d2
      refine lv_bipush (v := (-2)) hx hb dX7_station__17 (by decide) ?_
      exact W.iret (v := -2) hx hb hr (fun tS htS hWS => ⟨⟨-2, (), rfl, (by first | exact (A_station_no c1).symm | (obtain ⟨k, hk, rfl⟩ := hasB_T c1 hn; rw [A_station_k hk hn, stV_out hw]) | fail), trivial⟩, hS.F htS⟩) hS.2.2 dX7_station__19
set_option maxHeartbeats 4000000 in
set_option maxRecDepth 100000 in
/-- sees(x, y) -/
theorem c_X7_sees (l : Launch) (D : va_G) (cI cB cO : ClassId) (o q1 : Nat) (fs : List Value) (n : Nat) (mm : Nat → Int32) (rg bl : Int32) (G M : Nat → Int32) (x y : Int32) (hm : MOK n mm rg bl G M) : Met l yX7_sees wsX7_sees (rmD 6) (rdPc D (tyL cI cB cO) [.ref o, .int x, .int y] [(o, .inr (7, .ref q1 :: fs)), (q1, .inl (cI, 43, .inl mm))]) (rdQi (fun r => r = A_sees n bl G M x y)) 0 0 noA := by
  refine Met.ofW (cc := cX7_sees) (maxL := 3) (ret := (some .int)) (by decide) rfl ?_
  intro p e s m args below meth c s₁ B hml hv
  obtain ⟨rfl, hP, hK, hN⟩ := hv
  have hx := B.exec
  have hb := B.bytes
  have hr := B.returns
  have hts := atoms_spec (ws := wsX7_sees) B.pre
  have hown : s.vm.findClass RX7 = some m.cls := findClass_of_methodNamed B.named
  have hlocks := B.notSynchronized
  have hS : va_S noA s.heap s.heap [] := va_S.rf
  have hl := lv_entry ([.ref o, .int x, .int y]) (n := 3) (Nat.le_of_ble_eq_true rfl)
  rw [lg_entry_eq]
  generalize (lg_sl ([.ref o, .int x, .int y]) ++ List.replicate (3 - (lg_sl ([.ref o, .int x, .int y])).length) Slot.unset).toArray = ls at hl ⊢
  have hl : lv_has ls 3 [(0, .ref o), (1, .int x), (2, .int y)] := hl
  obtain ⟨hn, hn1, hm0, hm1, hm2, hG, hM⟩ := id hm
  refine lv_aload_n hx hb dX7_sees_0 rfl (lv_at hl 0 rfl) ?_
  refine lv_iload_n hx hb dX7_sees_1 rfl (lv_at hl 1 rfl) ?_
  refine rd_calli hP hS (va_runV (As := [.int x]) (rest := []) ⟨hx, hb, hml, hown, hts⟩ (c_X7_isStation l D cI cB cO o q1 fs n mm rg bl G M x hm) (cwV 1 hts gX7_sees_X7_isStation rfl rfl rfl (by decide +kernel) ⟨Nat.le_of_ble_eq_true rfl, Nat.le_of_ble_eq_true rfl⟩) (rd_preV (r := (RX7, TX7, 15)) (ci := 7) hK (hP.pick [0, 1] rfl) hN (q0 := 0) rfl rfl) rfl rfl hl.1 rfl (lv_room (Nat.le_of_ble_eq_true rfl)) dX7_sees_2 ⟨Nat.le_refl _, Nat.le_refl _⟩) (fun r_2 H locs h_2 hP hS => ?_)
  refine lv_if_eq (tgt := 16) hx hb dX7_sees_5 (by decide) (fun c_5 => ?_) (fun c_5 => ?_)
  · skip
    have d1 := bI_e0 (h_2.symm.trans c_5)
    refine lv_bipush (v := (-2)) hx hb dX7_sees_16 (by decide) ?_
    exact W.iret (v := -2) hx hb hr (fun tS htS hWS => ⟨⟨-2, (), rfl, (by unfold A_sees; rw [if_neg]; intro q; first | exact Bool.false_ne_true (d1.symm.trans q.1) | exact Bool.false_ne_true (d2.symm.trans q.2) | fail), trivial⟩, hS.F htS⟩) hS.2.2 dX7_sees_18
  · skip
    have d1 := bI_n0 (fun q => c_5 (h_2.trans q))
    refine lv_aload_n hx hb dX7_sees_8 rfl (lv_at hl 0 rfl) ?_
    refine lv_iload_n hx hb dX7_sees_9 rfl (lv_at hl 2 rfl) ?_
    refine rd_calli hP hS (va_runV (As := [.int y]) (rest := []) ⟨hx, hb, hml, hown, hts⟩ (c_X7_isStation l D cI cB cO o q1 fs n mm rg bl G M y hm) (cwV 1 hts gX7_sees_X7_isStation rfl rfl rfl (by decide +kernel) ⟨Nat.le_of_ble_eq_true rfl, Nat.le_of_ble_eq_true rfl⟩) (rd_preV (r := (RX7, TX7, 15)) (ci := 7) hK (hP.pick [0, 1] rfl) hN (q0 := 0) rfl rfl) rfl rfl hl.1 rfl (lv_room (Nat.le_of_ble_eq_true rfl)) dX7_sees_10 ⟨Nat.le_refl _, Nat.le_refl _⟩) (fun r_10 H locs h_10 hP hS => ?_)
    refine lv_if_ne (tgt := 19) hx hb dX7_sees_13 (by decide) (fun c_13 => ?_) (fun c_13 => ?_)
    · skip
      have d2 := bI_n0 (fun q => c_13 (h_10.trans q))
      obtain ⟨a, ha, rfl⟩ := hasB_T d1 hn
      obtain ⟨b, hb0, rfl⟩ := hasB_T d2 hn
      refine lv_aload_n hx hb dX7_sees_19 rfl (lv_at hl 0 rfl) ?_
      refine lv_iload_n hx hb dX7_sees_20 rfl (lv_at hl 1 rfl) ?_
      refine lv_iload_n hx hb dX7_sees_21 rfl (lv_at hl 2 rfl) ?_
      refine rd_calli hP hS (va_runV (As := [.int (nI a), .int (nI b)]) (rest := []) ⟨hx, hb, hml, hown, hts⟩ (c_X7_see l D cI cB cO o q1 fs n mm rg bl G M a b hm ha hb0) (cwV 2 hts gX7_sees_X7_see rfl rfl rfl (by decide +kernel) ⟨Nat.le_of_ble_eq_true rfl, Nat.le_of_ble_eq_true rfl⟩) (rd_preV (r := (RX7, TX7, 15)) (ci := 7) hK (hP.pick [0, 1] rfl) hN (q0 := 0) rfl rfl) rfl rfl hl.1 rfl (lv_room (Nat.le_of_ble_eq_true rfl)) dX7_sees_22 ⟨Nat.le_refl _, Nat.le_refl _⟩) (fun r_22 H locs h_22 hP hS => ?_)
      refine lv_if_eq (tgt := 32) hx hb dX7_sees_25 (by decide) (fun c_25 => ?_) (fun c_25 => ?_)
      · skip
        have c3 := bI_e0 (h_22.symm.trans c_25)
        refine lv_iconst (v := 0) hx hb dX7_sees_32 (by decide) ?_
        exact W.iret (v := 0) hx hb hr (fun tS htS hWS => ⟨⟨0, (), rfl, (by unfold A_sees; rw [if_pos ⟨d1, d2⟩, cN_nI (by omega), cN_nI (by omega), c3]; rfl), trivial⟩, hS.F htS⟩) hS.2.2 dX7_sees_33
      · skip
        have c3 := bI_n0 (fun q => c_25 (h_22.trans q))
        refine lv_iconst (v := 1) hx hb dX7_sees_28 (by decide) ?_
        refine lv_goto (tgt := 33) hx hb dX7_sees_29 (by decide) ?_
        exact W.iret (v := 1) hx hb hr (fun tS htS hWS => ⟨⟨1, (), rfl, (by unfold A_sees; rw [if_pos ⟨d1, d2⟩, cN_nI (by omega), cN_nI (by omega), c3]; rfl), trivial⟩, hS.F htS⟩) hS.2.2 dX7_sees_33
    · skip
      have d2 := bI_e0 (h_10.symm.trans c_13)
      refine lv_bipush (v := (-2)) hx hb dX7_sees_16 (by decide) ?_
      exact W.iret (v := -2) hx hb hr (fun tS htS hWS => ⟨⟨-2, (), rfl, (by unfold A_sees; rw [if_neg]; intro q; first | exact Bool.false_ne_true (d1.symm.trans q.1) | exact Bool.false_ne_true (d2.symm.trans q.2) | fail), trivial⟩, hS.F htS⟩) hS.2.2 dX7_sees_18
set_option maxHeartbeats 4000000 in
set_option maxRecDepth 100000 in
/-- areTwo(x, y) -/
theorem c_X7_areTwo (l : Launch) (D : va_G) (cI cB cO : ClassId) (o q1 : Nat) (fs : List Value) (n : Nat) (mm : Nat → Int32) (rg bl : Int32) (G M : Nat → Int32) (x y : Int32) (hm : MOK n mm rg bl G M) : Met l yX7_areTwo wsX7_areTwo (rmD 3) (rdPc D (tyL cI cB cO) [.ref o, .int x, .int y] [(o, .inr (7, .ref q1 :: fs)), (q1, .inl (cI, 43, .inl mm))]) (rdQi (fun r => r = bI (pairB n x y))) 0 0 noA := by
  refine Met.ofW (cc := cX7_areTwo) (maxL := 3) (ret := (some .boolean)) (by decide) rfl ?_
  intro p e s m args below meth c s₁ B hml hv
  obtain ⟨rfl, hP, hK, hN⟩ := hv
  have hx := B.exec
  have hb := B.bytes
  have hr := B.returns
  have hts := atoms_spec (ws := wsX7_areTwo) B.pre
  have hown : s.vm.findClass RX7 = some m.cls := findClass_of_methodNamed B.named
  have hlocks := B.notSynchronized
  have hS : va_S noA s.heap s.heap [] := va_S.rf
  have hl := lv_entry ([.ref o, .int x, .int y]) (n := 3) (Nat.le_of_ble_eq_true rfl)
  rw [lg_entry_eq]
  generalize (lg_sl ([.ref o, .int x, .int y]) ++ List.replicate (3 - (lg_sl ([.ref o, .int x, .int y])).length) Slot.unset).toArray = ls at hl ⊢
  have hl : lv_has ls 3 [(0, .ref o), (1, .int x), (2, .int y)] := hl
  obtain ⟨hn, hn1, hm0, hm1, hm2, hG, hM⟩ := id hm
  refine lv_aload_n hx hb dX7_areTwo_0 rfl (lv_at hl 0 rfl) ?_
  refine lv_iload_n hx hb dX7_areTwo_1 rfl (lv_at hl 1 rfl) ?_
  refine rd_calli hP hS (va_runV (As := [.int x]) (rest := []) ⟨hx, hb, hml, hown, hts⟩ (c_X7_isStation l D cI cB cO o q1 fs n mm rg bl G M x hm) (cwV 1 hts gX7_areTwo_X7_isStation rfl rfl rfl (by decide +kernel) ⟨Nat.le_of_ble_eq_true rfl, Nat.le_of_ble_eq_true rfl⟩) (rd_preV (r := (RX7, TX7, 15)) (ci := 7) hK (hP.pick [0, 1] rfl) hN (q0 := 0) rfl rfl) rfl rfl hl.1 rfl (lv_room (Nat.le_of_ble_eq_true rfl)) dX7_areTwo_2 ⟨Nat.le_refl _, Nat.le_refl _⟩) (fun r_2 H locs h_2 hP hS => ?_)
  refine lv_if_eq (tgt := 25) hx hb dX7_areTwo_5 (by decide) (fun c_5 => ?_) (fun c_5 => ?_)
  · skip
    have c1 := bI_e0 (h_2.symm.trans c_5)
    refine lv_iconst (v := 0) hx hb dX7_areTwo_25 (by decide) ?_
    exact W.zret (v := 0) hx hb hr (rfl) (fun tS htS hWS => ⟨⟨0, (), rfl, (by unfold pairB; first | exact bI_t (decide_eq_true ⟨c1, c2, c_18⟩) | exact bI_f (decide_eq_false (fun q => q.2.2 c_18)) | exact bI_f (decide_eq_false (fun q => Bool.false_ne_true (c2.symm.trans q.2.1))) | exact bI_f (decide_eq_false (fun q => Bool.false_ne_true (c1.symm.trans q.1))) | fail), trivial⟩, hS.F htS⟩) hS.2.2 dX7_areTwo_26
  · skip
    have c1 := bI_n0 (fun q => c_5 (h_2.trans q))
    refine lv_aload_n hx hb dX7_areTwo_8 rfl (lv_at hl 0 rfl) ?_
    refine lv_iload_n hx hb dX7_areTwo_9 rfl (lv_at hl 2 rfl) ?_
    refine rd_calli hP hS (va_runV (As := [.int y]) (rest := []) ⟨hx, hb, hml, hown, hts⟩ (c_X7_isStation l D cI cB cO o q1 fs n mm rg bl G M y hm) (cwV 1 hts gX7_areTwo_X7_isStation rfl rfl rfl (by decide +kernel) ⟨Nat.le_of_ble_eq_true rfl, Nat.le_of_ble_eq_true rfl⟩) (rd_preV (r := (RX7, TX7, 15)) (ci := 7) hK (hP.pick [0, 1] rfl) hN (q0 := 0) rfl rfl) rfl rfl hl.1 rfl (lv_room (Nat.le_of_ble_eq_true rfl)) dX7_areTwo_10 ⟨Nat.le_refl _, Nat.le_refl _⟩) (fun r_10 H locs h_10 hP hS => ?_)
    refine lv_if_eq (tgt := 25) hx hb dX7_areTwo_13 (by decide) (fun c_13 => ?_) (fun c_13 => ?_)
    · skip
      have c2 := bI_e0 (h_10.symm.trans c_13)
      refine lv_iconst (v := 0) hx hb dX7_areTwo_25 (by decide) ?_
      exact W.zret (v := 0) hx hb hr (rfl) (fun tS htS hWS => ⟨⟨0, (), rfl, (by unfold pairB; first | exact bI_t (decide_eq_true ⟨c1, c2, c_18⟩) | exact bI_f (decide_eq_false (fun q => q.2.2 c_18)) | exact bI_f (decide_eq_false (fun q => Bool.false_ne_true (c2.symm.trans q.2.1))) | exact bI_f (decide_eq_false (fun q => Bool.false_ne_true (c1.symm.trans q.1))) | fail), trivial⟩, hS.F htS⟩) hS.2.2 dX7_areTwo_26
    · skip
      have c2 := bI_n0 (fun q => c_13 (h_10.trans q))
      refine lv_iload_n hx hb dX7_areTwo_16 rfl (lv_at hl 1 rfl) ?_
      refine lv_iload_n hx hb dX7_areTwo_17 rfl (lv_at hl 2 rfl) ?_
      refine lv_icmp_eq (tgt := 25) hx hb dX7_areTwo_18 (by decide) (fun c_18 => ?_) (fun c_18 => ?_)
      · skip
        refine lv_iconst (v := 0) hx hb dX7_areTwo_25 (by decide) ?_
        exact W.zret (v := 0) hx hb hr (rfl) (fun tS htS hWS => ⟨⟨0, (), rfl, (by unfold pairB; first | exact bI_t (decide_eq_true ⟨c1, c2, c_18⟩) | exact bI_f (decide_eq_false (fun q => q.2.2 c_18)) | exact bI_f (decide_eq_false (fun q => Bool.false_ne_true (c2.symm.trans q.2.1))) | exact bI_f (decide_eq_false (fun q => Bool.false_ne_true (c1.symm.trans q.1))) | fail), trivial⟩, hS.F htS⟩) hS.2.2 dX7_areTwo_26
      · skip
        refine lv_iconst (v := 1) hx hb dX7_areTwo_21 (by decide) ?_
        refine lv_goto (tgt := 26) hx hb dX7_areTwo_22 (by decide) ?_
        exact W.zret (v := 1) hx hb hr (rfl) (fun tS htS hWS => ⟨⟨1, (), rfl, (by unfold pairB; first | exact bI_t (decide_eq_true ⟨c1, c2, c_18⟩) | exact bI_f (decide_eq_false (fun q => q.2.2 c_18)) | exact bI_f (decide_eq_false (fun q => Bool.false_ne_true (c2.symm.trans q.2.1))) | exact bI_f (decide_eq_false (fun q => Bool.false_ne_true (c1.symm.trans q.1))) | fail), trivial⟩, hS.F htS⟩) hS.2.2 dX7_areTwo_26
set_option maxHeartbeats 4000000 in
set_option maxRecDepth 100000 in
/-- obstacle(x, y, w) -/
theorem c_X7_obstacle (l : Launch) (D : va_G) (cI cB cO : ClassId) (o q1 : Nat) (fs : List Value) (n : Nat) (mm : Nat → Int32) (rg bl : Int32) (G M : Nat → Int32) (x y w : Int32) (hm : MOK n mm rg bl G M) : Met l yX7_obstacle wsX7_obstacle (rmD 6) (rdPc D (tyL cI cB cO) [.ref o, .int x, .int y, .int w] [(o, .inr (7, .ref q1 :: fs)), (q1, .inl (cI, 43, .inl mm))]) (rdQi (fun r => r = A_obstacle n bl G M x y w)) 0 0 noA := by
  refine Met.ofW (cc := cX7_obstacle) (maxL := 11) (ret := (some .int)) (by decide) rfl ?_
  intro p e s m args below meth c s₁ B hml hv
  obtain ⟨rfl, hP, hK, hN⟩ := hv
  have hx := B.exec
  have hb := B.bytes
  have hr := B.returns
  have hts := atoms_spec (ws := wsX7_obstacle) B.pre
  have hown : s.vm.findClass RX7 = some m.cls := findClass_of_methodNamed B.named
  have hlocks := B.notSynchronized
  have hS : va_S noA s.heap s.heap [] := va_S.rf
  have hl := lv_entry ([.ref o, .int x, .int y, .int w]) (n := 11) (Nat.le_of_ble_eq_true rfl)
  rw [lg_entry_eq]
  generalize (lg_sl ([.ref o, .int x, .int y, .int w]) ++ List.replicate (11 - (lg_sl ([.ref o, .int x, .int y, .int w])).length) Slot.unset).toArray = ls at hl ⊢
  have hl : lv_has ls 11 [(0, .ref o), (1, .int x), (2, .int y), (3, .int w)] := hl
  obtain ⟨hn, hn1, hm0, hm1, hm2, hG, hM⟩ := id hm
  refine lv_aload_n hx hb dX7_obstacle_0 rfl (lv_at hl 0 rfl) ?_
  refine lv_iload_n hx hb dX7_obstacle_1 rfl (lv_at hl 1 rfl) ?_
  refine lv_iload_n hx hb dX7_obstacle_2 rfl (lv_at hl 2 rfl) ?_
  refine rd_calli hP hS (va_runV (As := [.int x, .int y]) (rest := []) ⟨hx, hb, hml, hown, hts⟩ (c_X7_areTwo l D cI cB cO o q1 fs n mm rg bl G M x y hm) (cwV 2 hts gX7_obstacle_X7_areTwo rfl rfl rfl (by decide +kernel) ⟨Nat.le_of_ble_eq_true rfl, Nat.le_of_ble_eq_true rfl⟩) (rd_preV (r := (RX7, TX7, 15)) (ci := 7) hK (hP.pick [0, 1] rfl) hN (q0 := 0) rfl rfl) rfl rfl hl.1 rfl (lv_room (Nat.le_of_ble_eq_true rfl)) dX7_obstacle_3 ⟨Nat.le_refl _, Nat.le_refl _⟩) (fun r_3 H locs h_3 hP hS => ?_)
  refine lv_if_eq (tgt := 18) hx hb dX7_obstacle_6 (by decide) (fun c_6 => ?_) (fun c_6 => ?_)
  · skip
    have d1 : pairB n x y = false := bI_e0 (h_3.symm.trans c_6)
    refine lv_bipush (v := (-2)) hx hb dX7_obstacle_18 (by decide) ?_
    exact W.iret (v := -2) hx hb hr (fun tS htS hWS => ⟨⟨-2, (), rfl, (by unfold A_obstacle; rw [if_neg]; intro q; first | exact Bool.false_ne_true (d1.symm.trans q.1) | exact Bool.false_ne_true (d2.symm.trans q.2) | fail), trivial⟩, hS.F htS⟩) hS.2.2 dX7_obstacle_20
  · skip
    have d1 : pairB n x y = true := bI_n0 (fun q => c_6 (h_3.trans q))
    refine lv_iload_n hx hb dX7_obstacle_9 rfl (lv_at hl 3 rfl) ?_
    refine lv_iconst (v := 0) hx hb dX7_obstacle_10 (by decide) ?_
    refine lv_iconst (v := 1) hx hb dX7_obstacle_11 (by decide) ?_
    refine rd_calli hP hS (va_runS (As := [.int w, .int 0, .int 1]) (rest := []) ⟨hx, hb, hml, hown, hts⟩ (c_X7_in l D cI cB cO w 0 1 ) (va_cwS 3 hts gX7_obstacle_X7_in rfl rfl rfl (by decide +kernel) ⟨Nat.le_of_ble_eq_true rfl, Nat.le_of_ble_eq_true rfl⟩) (rd_preS hK (hP.pick [] rfl) hN) rfl rfl hl.1 rfl (lv_room (Nat.le_of_ble_eq_true rfl)) dX7_obstacle_12 ⟨Nat.le_refl _, Nat.le_refl _⟩) (fun r_12 H locs h_12 hP hS => ?_)
    refine lv_if_ne (tgt := 21) hx hb dX7_obstacle_15 (by decide) (fun c_15 => ?_) (fun c_15 => ?_)
    · skip
      have d2 := bI_n0 (fun q => c_15 (h_12.trans q))
      obtain ⟨a, b, ha, hb0, hab, rfl, rfl⟩ := pairB_T d1 hn
      have ea : A_obstacle n bl G M (nI a) (nI b) w = if (obT bl G M a b).1 = -1 ∨ w = 0 then (obT bl G M a b).1 else (obT bl G M a b).2 := by unfold A_obstacle; rw [if_pos ⟨d1, d2⟩, cN_nI (by omega), cN_nI (by omega)]
      rcases Nat.lt_or_ge a b with hlt | hlt
      · skip
        have hab1 : nI a < nI b := nI_lt hlt (by omega)
        have emin : min a b = a := Nat.min_eq_left (by omega)
        have emax : max a b = b := Nat.max_eq_right (by omega)
        refine lv_iload_n hx hb dX7_obstacle_21 rfl (lv_at hl 1 rfl) ?_
        refine lv_iload_n hx hb dX7_obstacle_22 rfl (lv_at hl 2 rfl) ?_
        refine lv_icmp_ge (tgt := 30) hx hb dX7_obstacle_23 (by decide) (fun c_23 => ?_) (fun c_23 => ?_)
        · skip
          exact absurd hab1 (Int32.not_lt.mpr c_23)
        · skip
          refine lv_iload_n hx hb dX7_obstacle_26 rfl (lv_at hl 1 rfl) ?_
          refine lv_goto (tgt := 31) hx hb dX7_obstacle_27 (by decide) ?_
          refine lv_istore (lv' := [(4, .int (nI a)), (0, .ref o), (1, .int (nI a)), (2, .int (nI b)), (3, .int w)]) hx hb dX7_obstacle_31 hl (by decide) rfl (fun ls hl => ?_)
          refine lv_iload_n hx hb dX7_obstacle_33 rfl (lv_at hl 2 rfl) ?_
          refine lv_iload_n hx hb dX7_obstacle_34 rfl (lv_at hl 3 rfl) ?_
          refine lv_icmp_ge (tgt := 42) hx hb dX7_obstacle_35 (by decide) (fun c_35 => ?_) (fun c_35 => ?_)
          · skip
            exact absurd hab1 (Int32.not_lt.mpr c_35)
          · skip
            refine lv_iload_n hx hb dX7_obstacle_38 rfl (lv_at hl 3 rfl) ?_
            refine lv_goto (tgt := 43) hx hb dX7_obstacle_39 (by decide) ?_
            refine lv_istore (lv' := [(5, .int (nI b)), (4, .int (nI a)), (0, .ref o), (1, .int (nI a)), (2, .int (nI b)), (3, .int w)]) hx hb dX7_obstacle_43 hl (by decide) rfl (fun ls hl => ?_)
            refine lv_iconst (v := (-1)) hx hb dX7_obstacle_45 (by decide) ?_
            refine lv_istore (lv' := [(6, .int (-1)), (5, .int (nI b)), (4, .int (nI a)), (0, .ref o), (1, .int (nI a)), (2, .int (nI b)), (3, .int w)]) hx hb dX7_obstacle_46 hl (by decide) rfl (fun ls hl => ?_)
            refine lv_iconst (v := 0) hx hb dX7_obstacle_48 (by decide) ?_
            refine lv_istore (lv' := [(7, .int 0), (6, .int (-1)), (5, .int (nI b)), (4, .int (nI a)), (0, .ref o), (1, .int (nI a)), (2, .int (nI b)), (3, .int w)]) hx hb dX7_obstacle_49 hl (by decide) rfl (fun ls hl => ?_)
            refine lv_iload hx hb dX7_obstacle_51 (lv_at hl 3 rfl) ?_
            refine lv_iconst (v := 1) hx hb dX7_obstacle_53 (by decide) ?_
            refine lv_iadd hx hb dX7_obstacle_54 ?_
            refine lv_topi (fun y_1 e_2 => ?_)
            have e_2 : nI (a + 1) = y_1 := (e_2.trans (nI_add a 1)).symm
            subst e_2
            refine lv_istore (lv' := [(8, .int (nI (a + 1))), (7, .int 0), (6, .int (-1)), (5, .int (nI b)), (4, .int (nI a)), (0, .ref o), (1, .int (nI a)), (2, .int (nI b)), (3, .int w)]) hx hb dX7_obstacle_55 hl (by decide) rfl (fun ls hl => ?_)
            have L_57 : ∀ (k_57 : Nat) (d : Nat) (bw : Int32) (v : Int32), b - (a + 1 + d) < k_57 → (a + 1 + d ≤ b) → (bw = (obs (clT bl G M a b) a d).1) → (v = (obs (clT bl G M a b) a d).2) → ∀ (H : Heap) (locs : List Loc), va_P D vwCl [(o, .inr (7, .ref q1 :: fs)), (q1, .inl (cI, 43, .inl mm))] H → va_S noA s.heap H locs → ∀ (ls : Array Slot), lv_has ls 11 [(0, .ref o), (1, .int (nI a)), (2, .int (nI b)), (3, .int w), (4, .int (nI a)), (5, .int (nI b)), (6, .int bw), (7, .int v), (8, .int (nI (a + 1 + d)))] → W p l e (rmD 6) s m ([.ref o, .int (nI a), .int (nI b), .int w] : List Value).toArray below meth c H locs 0 0 (MQ below (rdQi (fun r => r = A_obstacle n bl G M (nI a) (nI b) w)) ([.ref o, .int (nI a), .int (nI b), .int w] : List Value).toArray s 0 0 noA) (F0 m 57 ls []) := by
              intro k_57
              induction k_57 with
              | zero => intro d bw v h9; exact absurd h9 (Nat.not_lt_zero _)
              | succ k_57 ih_57 =>
                intro d bw v hm_57 hi hbw hv H locs hP hS ls hl
                refine lv_iload hx hb dX7_obstacle_57 (lv_at hl 8 rfl) ?_
                refine lv_iload hx hb dX7_obstacle_59 (lv_at hl 5 rfl) ?_
                refine lv_icmp_ge (tgt := 142) hx hb dX7_obstacle_61 (by decide) (fun c_61 => ?_) (fun c_61 => ?_)
                · skip
                  have c0 : b ≤ a + 1 + d := ge_t (by omega) c_61
                  have eo : obT bl G M a b = (obs (clT bl G M a b) a d) := by unfold obT; rw [emin, emax, show b - a - 1 = d by omega]
                  refine lv_iload hx hb dX7_obstacle_142 (lv_at hl 6 rfl) ?_
                  refine lv_iconst (v := (-1)) hx hb dX7_obstacle_144 (by decide) ?_
                  refine lv_icmp_eq (tgt := 152) hx hb dX7_obstacle_145 (by decide) (fun c_145 => ?_) (fun c_145 => ?_)
                  · skip
                    refine lv_iload hx hb dX7_obstacle_152 (lv_at hl 6 rfl) ?_
                    refine lv_goto (tgt := 159) hx hb dX7_obstacle_154 (by decide) ?_
                    exact W.iret (v := bw) hx hb hr (fun tS htS hWS => ⟨⟨bw, (), rfl, (by rw [ea, eo, ← hbw, ← hv]; first | rw [if_pos (Or.inl c_145)] | rw [if_pos (Or.inr c_149)] | rw [if_neg (fun q => q.elim c_145 c_149)] | fail), trivial⟩, hS.F htS⟩) hS.2.2 dX7_obstacle_159
                  · skip
                    refine lv_iload_n hx hb dX7_obstacle_148 rfl (lv_at hl 3 rfl) ?_
                    refine lv_if_ne (tgt := 157) hx hb dX7_obstacle_149 (by decide) (fun c_149 => ?_) (fun c_149 => ?_)
                    · skip
                      refine lv_iload hx hb dX7_obstacle_157 (lv_at hl 7 rfl) ?_
                      exact W.iret (v := v) hx hb hr (fun tS htS hWS => ⟨⟨v, (), rfl, (by rw [ea, eo, ← hbw, ← hv]; first | rw [if_pos (Or.inl c_145)] | rw [if_pos (Or.inr c_149)] | rw [if_neg (fun q => q.elim c_145 c_149)] | fail), trivial⟩, hS.F htS⟩) hS.2.2 dX7_obstacle_159
                    · skip
                      refine lv_iload hx hb dX7_obstacle_152 (lv_at hl 6 rfl) ?_
                      refine lv_goto (tgt := 159) hx hb dX7_obstacle_154 (by decide) ?_
                      exact W.iret (v := bw) hx hb hr (fun tS htS hWS => ⟨⟨bw, (), rfl, (by rw [ea, eo, ← hbw, ← hv]; first | rw [if_pos (Or.inl c_145)] | rw [if_pos (Or.inr c_149)] | rw [if_neg (fun q => q.elim c_145 c_149)] | fail), trivial⟩, hS.F htS⟩) hS.2.2 dX7_obstacle_159
                · skip
                  have c0 : a + 1 + d < b := ge_f (by omega) c_61
                  refine lv_aload_n hx hb dX7_obstacle_64 rfl (lv_at hl 0 rfl) ?_
                  refine lv_iload hx hb dX7_obstacle_65 (lv_at hl 4 rfl) ?_
                  refine lv_aload_n hx hb dX7_obstacle_67 rfl (lv_at hl 0 rfl) ?_
                  refine lv_iload hx hb dX7_obstacle_68 (lv_at hl 4 rfl) ?_
                  refine rd_calli hP hS (va_runV (As := [.int (nI a)]) (rest := [.int (nI a), .ref o]) ⟨hx, hb, hml, hown, hts⟩ (c_X7_top l D cI cB cO o q1 fs n mm rg bl G M a hm (by omega)) (cwV 1 hts gX7_obstacle_X7_top rfl rfl rfl (by decide +kernel) ⟨Nat.le_of_ble_eq_true rfl, Nat.le_of_ble_eq_true rfl⟩) (rd_preV (r := (RX7, TX7, 15)) (ci := 7) hK (hP.pick [0, 1] rfl) hN (q0 := 0) rfl rfl) rfl rfl hl.1 rfl (lv_room (Nat.le_of_ble_eq_true rfl)) dX7_obstacle_70 ⟨Nat.le_refl _, Nat.le_refl _⟩) (fun r_70 H locs h_70 hP hS => ?_)
                  subst h_70
                  refine lv_iload hx hb dX7_obstacle_73 (lv_at hl 5 rfl) ?_
                  refine lv_aload_n hx hb dX7_obstacle_75 rfl (lv_at hl 0 rfl) ?_
                  refine lv_iload hx hb dX7_obstacle_76 (lv_at hl 5 rfl) ?_
                  refine rd_calli hP hS (va_runV (As := [.int (nI b)]) (rest := [.int (nI b), .int (tp G M a), .int (nI a), .ref o]) ⟨hx, hb, hml, hown, hts⟩ (c_X7_top l D cI cB cO o q1 fs n mm rg bl G M b hm (by omega)) (cwV 1 hts gX7_obstacle_X7_top rfl rfl rfl (by decide +kernel) ⟨Nat.le_of_ble_eq_true rfl, Nat.le_of_ble_eq_true rfl⟩) (rd_preV (r := (RX7, TX7, 15)) (ci := 7) hK (hP.pick [0, 1] rfl) hN (q0 := 0) rfl rfl) rfl rfl hl.1 rfl (lv_room (Nat.le_of_ble_eq_true rfl)) dX7_obstacle_78 ⟨Nat.le_refl _, Nat.le_refl _⟩) (fun r_78 H locs h_78 hP hS => ?_)
                  subst h_78
                  refine lv_iload hx hb dX7_obstacle_81 (lv_at hl 8 rfl) ?_
                  refine rd_calli hP hS (va_runV (As := [.int (nI a), .int (tp G M a), .int (nI b), .int (tp G M b), .int (nI (a + 1 + d))]) (rest := []) ⟨hx, hb, hml, hown, hts⟩ (c_X7_clearance l D cI cB cO o q1 fs n mm rg bl G M a (tp G M a) b (tp G M b) (a + 1 + d) hm (by omega) (by omega) (by omega)) (cwV 5 hts gX7_obstacle_X7_clearance rfl rfl rfl (by decide +kernel) ⟨Nat.le_of_ble_eq_true rfl, Nat.le_of_ble_eq_true rfl⟩) (rd_preV (r := (RX7, TX7, 15)) (ci := 7) hK (hP.pick [0, 1] rfl) hN (q0 := 0) rfl rfl) rfl rfl hl.1 rfl (lv_room (Nat.le_of_ble_eq_true rfl)) dX7_obstacle_83 ⟨Nat.le_refl _, Nat.le_refl _⟩) (fun r_83 H locs h_83 hP hS => ?_)
                  have h_83 : r_83 = clT bl G M a b (a + 1 + d) := h_83
                  refine lv_istore (lv' := [(9, .int r_83), (0, .ref o), (1, .int (nI a)), (2, .int (nI b)), (3, .int w), (4, .int (nI a)), (5, .int (nI b)), (6, .int bw), (7, .int v), (8, .int (nI (a + 1 + d)))]) hx hb dX7_obstacle_86 hl (by decide) rfl (fun ls hl => ?_)
                  refine lv_iload hx hb dX7_obstacle_88 (lv_at hl 7 rfl) ?_
                  refine lv_iconst (v := (-1)) hx hb dX7_obstacle_90 (by decide) ?_
                  refine lv_icmp_eq (tgt := 101) hx hb dX7_obstacle_91 (by decide) (fun c_91 => ?_) (fun c_91 => ?_)
                  · skip
                    have c2 : (obs (clT bl G M a b) a d).1 = -1 ∨ (clT bl G M a b) (a + 1 + d) < (obs (clT bl G M a b) a d).2 := Or.inl (hbw ▸ c_91)
                    refine lv_iconst (v := 1) hx hb dX7_obstacle_101 (by decide) ?_
                    refine lv_goto (tgt := 106) hx hb dX7_obstacle_102 (by decide) ?_
                    refine lv_istore (lv' := [(10, .int 1), (9, .int r_83), (0, .ref o), (1, .int (nI a)), (2, .int (nI b)), (3, .int w), (4, .int (nI a)), (5, .int (nI b)), (6, .int bw), (7, .int v), (8, .int (nI (a + 1 + d)))]) hx hb dX7_obstacle_106 hl (by decide) rfl (fun ls hl => ?_)
                    refine lv_iload hx hb dX7_obstacle_108 (lv_at hl 0 rfl) ?_
                    refine lv_if_eq (tgt := 118) hx hb dX7_obstacle_110 (by decide) (fun c_110 => ?_) (fun c_110 => ?_)
                    · skip
                      exact absurd c_110 (by decide)
                    · skip
                      refine lv_iload hx hb dX7_obstacle_113 (lv_at hl 10 rfl) ?_
                      refine lv_goto (tgt := 120) hx hb dX7_obstacle_115 (by decide) ?_
                      refine lv_istore (lv' := [(6, .int (nI (a + 1 + d))), (10, .int 1), (9, .int r_83), (0, .ref o), (1, .int (nI a)), (2, .int (nI b)), (3, .int w), (4, .int (nI a)), (5, .int (nI b)), (7, .int v), (8, .int (nI (a + 1 + d)))]) hx hb dX7_obstacle_120 hl (by decide) rfl (fun ls hl => ?_)
                      refine lv_iload hx hb dX7_obstacle_122 (lv_at hl 1 rfl) ?_
                      refine lv_if_eq (tgt := 132) hx hb dX7_obstacle_124 (by decide) (fun c_124 => ?_) (fun c_124 => ?_)
                      · skip
                        exact absurd c_124 (by decide)
                      · skip
                        refine lv_iload hx hb dX7_obstacle_127 (lv_at hl 2 rfl) ?_
                        refine lv_goto (tgt := 134) hx hb dX7_obstacle_129 (by decide) ?_
                        refine lv_istore (lv' := [(7, .int r_83), (6, .int (nI (a + 1 + d))), (10, .int 1), (9, .int r_83), (0, .ref o), (1, .int (nI a)), (2, .int (nI b)), (3, .int w), (4, .int (nI a)), (5, .int (nI b)), (8, .int (nI (a + 1 + d)))]) hx hb dX7_obstacle_134 hl (by decide) rfl (fun ls hl => ?_)
                        refine lv_iinc (v := nI (a + 1 + d + 1)) (lv' := [(8, .int (nI (a + 1 + d + 1))), (7, .int r_83), (6, .int (nI (a + 1 + d))), (10, .int 1), (9, .int r_83), (0, .ref o), (1, .int (nI a)), (2, .int (nI b)), (3, .int w), (4, .int (nI a)), (5, .int (nI b))]) hx hb dX7_obstacle_136 hl (k := 10) rfl (inc1 _) (by decide) rfl (fun ls hl => ?_)
                        refine lv_goto (tgt := 57) hx hb dX7_obstacle_139 (by decide) ?_
                        exact ih_57 (d + 1) (nI (a + 1 + d)) r_83 (by omega) (by omega) (by first | (rw [obs_T c2]; done) | (rw [obs_F c3 c4]; exact hbw) | fail) (by first | (rw [obs_T c2]; exact h_83) | (rw [obs_F c3 c4]; exact hv) | fail) _ _ hP hS ls (lv_sub hl [5, 6, 7, 8, 9, 10, 2, 1, 0] rfl)
                  · skip
                    have c3 : ¬ (obs (clT bl G M a b) a d).1 = -1 := hbw ▸ c_91
                    refine lv_iload hx hb dX7_obstacle_94 (lv_at hl 0 rfl) ?_
                    refine lv_iload hx hb dX7_obstacle_96 (lv_at hl 8 rfl) ?_
                    refine lv_icmp_ge (tgt := 105) hx hb dX7_obstacle_98 (by decide) (fun c_98 => ?_) (fun c_98 => ?_)
                    · skip
                      have c4 : ¬ (clT bl G M a b) (a + 1 + d) < (obs (clT bl G M a b) a d).2 := by rw [← h_83, ← hv]; exact Int32.not_lt.mpr c_98
                      refine lv_iconst (v := 0) hx hb dX7_obstacle_105 (by decide) ?_
                      refine lv_istore (lv' := [(10, .int 0), (9, .int r_83), (0, .ref o), (1, .int (nI a)), (2, .int (nI b)), (3, .int w), (4, .int (nI a)), (5, .int (nI b)), (6, .int bw), (7, .int v), (8, .int (nI (a + 1 + d)))]) hx hb dX7_obstacle_106 hl (by decide) rfl (fun ls hl => ?_)
                      refine lv_iload hx hb dX7_obstacle_108 (lv_at hl 0 rfl) ?_
                      refine lv_if_eq (tgt := 118) hx hb dX7_obstacle_110 (by decide) (fun c_110 => ?_) (fun c_110 => ?_)
                      · skip
                        refine lv_iload hx hb dX7_obstacle_118 (lv_at hl 8 rfl) ?_
                        refine lv_istore (lv' := [(6, .int bw), (10, .int 0), (9, .int r_83), (0, .ref o), (1, .int (nI a)), (2, .int (nI b)), (3, .int w), (4, .int (nI a)), (5, .int (nI b)), (7, .int v), (8, .int (nI (a + 1 + d)))]) hx hb dX7_obstacle_120 hl (by decide) rfl (fun ls hl => ?_)
                        refine lv_iload hx hb dX7_obstacle_122 (lv_at hl 1 rfl) ?_
                        refine lv_if_eq (tgt := 132) hx hb dX7_obstacle_124 (by decide) (fun c_124 => ?_) (fun c_124 => ?_)
                        · skip
                          refine lv_iload hx hb dX7_obstacle_132 (lv_at hl 9 rfl) ?_
                          refine lv_istore (lv' := [(7, .int v), (6, .int bw), (10, .int 0), (9, .int r_83), (0, .ref o), (1, .int (nI a)), (2, .int (nI b)), (3, .int w), (4, .int (nI a)), (5, .int (nI b)), (8, .int (nI (a + 1 + d)))]) hx hb dX7_obstacle_134 hl (by decide) rfl (fun ls hl => ?_)
                          refine lv_iinc (v := nI (a + 1 + d + 1)) (lv' := [(8, .int (nI (a + 1 + d + 1))), (7, .int v), (6, .int bw), (10, .int 0), (9, .int r_83), (0, .ref o), (1, .int (nI a)), (2, .int (nI b)), (3, .int w), (4, .int (nI a)), (5, .int (nI b))]) hx hb dX7_obstacle_136 hl (k := 10) rfl (inc1 _) (by decide) rfl (fun ls hl => ?_)
                          refine lv_goto (tgt := 57) hx hb dX7_obstacle_139 (by decide) ?_
                          exact ih_57 (d + 1) bw v (by omega) (by omega) (by first | (rw [obs_T c2]; done) | (rw [obs_F c3 c4]; exact hbw) | fail) (by first | (rw [obs_T c2]; exact h_83) | (rw [obs_F c3 c4]; exact hv) | fail) _ _ hP hS ls (lv_sub hl [5, 6, 7, 8, 9, 10, 2, 1, 0] rfl)
                        · skip
                          exact absurd (by decide) c_124
                      · skip
                        exact absurd (by decide) c_110
                    · skip
                      have c2 : (obs (clT bl G M a b) a d).1 = -1 ∨ (clT bl G M a b) (a + 1 + d) < (obs (clT bl G M a b) a d).2 := Or.inr (by rw [← h_83, ← hv]; exact Int32.not_le.mp c_98)
                      refine lv_iconst (v := 1) hx hb dX7_obstacle_101 (by decide) ?_
                      refine lv_goto (tgt := 106) hx hb dX7_obstacle_102 (by decide) ?_
                      refine lv_istore (lv' := [(10, .int 1), (9, .int r_83), (0, .ref o), (1, .int (nI a)), (2, .int (nI b)), (3, .int w), (4, .int (nI a)), (5, .int (nI b)), (6, .int bw), (7, .int v), (8, .int (nI (a + 1 + d)))]) hx hb dX7_obstacle_106 hl (by decide) rfl (fun ls hl => ?_)
                      refine lv_iload hx hb dX7_obstacle_108 (lv_at hl 0 rfl) ?_
                      refine lv_if_eq (tgt := 118) hx hb dX7_obstacle_110 (by decide) (fun c_110 => ?_) (fun c_110 => ?_)
                      · skip
                        exact absurd c_110 (by decide)
                      · skip
                        refine lv_iload hx hb dX7_obstacle_113 (lv_at hl 10 rfl) ?_
                        refine lv_goto (tgt := 120) hx hb dX7_obstacle_115 (by decide) ?_
                        refine lv_istore (lv' := [(6, .int (nI (a + 1 + d))), (10, .int 1), (9, .int r_83), (0, .ref o), (1, .int (nI a)), (2, .int (nI b)), (3, .int w), (4, .int (nI a)), (5, .int (nI b)), (7, .int v), (8, .int (nI (a + 1 + d)))]) hx hb dX7_obstacle_120 hl (by decide) rfl (fun ls hl => ?_)
                        refine lv_iload hx hb dX7_obstacle_122 (lv_at hl 1 rfl) ?_
                        refine lv_if_eq (tgt := 132) hx hb dX7_obstacle_124 (by decide) (fun c_124 => ?_) (fun c_124 => ?_)
                        · skip
                          exact absurd c_124 (by decide)
                        · skip
                          refine lv_iload hx hb dX7_obstacle_127 (lv_at hl 2 rfl) ?_
                          refine lv_goto (tgt := 134) hx hb dX7_obstacle_129 (by decide) ?_
                          refine lv_istore (lv' := [(7, .int r_83), (6, .int (nI (a + 1 + d))), (10, .int 1), (9, .int r_83), (0, .ref o), (1, .int (nI a)), (2, .int (nI b)), (3, .int w), (4, .int (nI a)), (5, .int (nI b)), (8, .int (nI (a + 1 + d)))]) hx hb dX7_obstacle_134 hl (by decide) rfl (fun ls hl => ?_)
                          refine lv_iinc (v := nI (a + 1 + d + 1)) (lv' := [(8, .int (nI (a + 1 + d + 1))), (7, .int r_83), (6, .int (nI (a + 1 + d))), (10, .int 1), (9, .int r_83), (0, .ref o), (1, .int (nI a)), (2, .int (nI b)), (3, .int w), (4, .int (nI a)), (5, .int (nI b))]) hx hb dX7_obstacle_136 hl (k := 10) rfl (inc1 _) (by decide) rfl (fun ls hl => ?_)
                          refine lv_goto (tgt := 57) hx hb dX7_obstacle_139 (by decide) ?_
                          exact ih_57 (d + 1) (nI (a + 1 + d)) r_83 (by omega) (by omega) (by first | (rw [obs_T c2]; done) | (rw [obs_F c3 c4]; exact hbw) | fail) (by first | (rw [obs_T c2]; exact h_83) | (rw [obs_F c3 c4]; exact hv) | fail) _ _ hP hS ls (lv_sub hl [5, 6, 7, 8, 9, 10, 2, 1, 0] rfl)
            exact L_57 _ 0 (-1) 0 (Nat.lt_succ_self _) (by omega) (rfl) (rfl) _ _ hP hS ls (lv_sub hl [5, 6, 7, 8, 4, 3, 2, 1, 0] rfl)
      · skip
        have hab1 : ¬ nI a < nI b := nI_nlt hlt (by omega)
        have emin : min a b = b := Nat.min_eq_right (by omega)
        have emax : max a b = a := Nat.max_eq_left (by omega)
        refine lv_iload_n hx hb dX7_obstacle_21 rfl (lv_at hl 1 rfl) ?_
        refine lv_iload_n hx hb dX7_obstacle_22 rfl (lv_at hl 2 rfl) ?_
        refine lv_icmp_ge (tgt := 30) hx hb dX7_obstacle_23 (by decide) (fun c_23 => ?_) (fun c_23 => ?_)
        · skip
          refine lv_iload_n hx hb dX7_obstacle_30 rfl (lv_at hl 2 rfl) ?_
          refine lv_istore (lv' := [(4, .int (nI b)), (0, .ref o), (1, .int (nI a)), (2, .int (nI b)), (3, .int w)]) hx hb dX7_obstacle_31 hl (by decide) rfl (fun ls hl => ?_)
          refine lv_iload_n hx hb dX7_obstacle_33 rfl (lv_at hl 2 rfl) ?_
          refine lv_iload_n hx hb dX7_obstacle_34 rfl (lv_at hl 3 rfl) ?_
          refine lv_icmp_ge (tgt := 42) hx hb dX7_obstacle_35 (by decide) (fun c_35 => ?_) (fun c_35 => ?_)
          · skip
            refine lv_iload_n hx hb dX7_obstacle_42 rfl (lv_at hl 2 rfl) ?_
            refine lv_istore (lv' := [(5, .int (nI a)), (4, .int (nI b)), (0, .ref o), (1, .int (nI a)), (2, .int (nI b)), (3, .int w)]) hx hb dX7_obstacle_43 hl (by decide) rfl (fun ls hl => ?_)
            refine lv_iconst (v := (-1)) hx hb dX7_obstacle_45 (by decide) ?_
            refine lv_istore (lv' := [(6, .int (-1)), (5, .int (nI a)), (4, .int (nI b)), (0, .ref o), (1, .int (nI a)), (2, .int (nI b)), (3, .int w)]) hx hb dX7_obstacle_46 hl (by decide) rfl (fun ls hl => ?_)
            refine lv_iconst (v := 0) hx hb dX7_obstacle_48 (by decide) ?_
            refine lv_istore (lv' := [(7, .int 0), (6, .int (-1)), (5, .int (nI a)), (4, .int (nI b)), (0, .ref o), (1, .int (nI a)), (2, .int (nI b)), (3, .int w)]) hx hb dX7_obstacle_49 hl (by decide) rfl (fun ls hl => ?_)
            refine lv_iload hx hb dX7_obstacle_51 (lv_at hl 3 rfl) ?_
            refine lv_iconst (v := 1) hx hb dX7_obstacle_53 (by decide) ?_
            refine lv_iadd hx hb dX7_obstacle_54 ?_
            refine lv_topi (fun y_3 e_4 => ?_)
            have e_4 : nI (b + 1) = y_3 := (e_4.trans (nI_add b 1)).symm
            subst e_4
            refine lv_istore (lv' := [(8, .int (nI (b + 1))), (7, .int 0), (6, .int (-1)), (5, .int (nI a)), (4, .int (nI b)), (0, .ref o), (1, .int (nI a)), (2, .int (nI b)), (3, .int w)]) hx hb dX7_obstacle_55 hl (by decide) rfl (fun ls hl => ?_)
            have L_57 : ∀ (k_57 : Nat) (d : Nat) (bw : Int32) (v : Int32), a - (b + 1 + d) < k_57 → (b + 1 + d ≤ a) → (bw = (obs (clT bl G M a b) b d).1) → (v = (obs (clT bl G M a b) b d).2) → ∀ (H : Heap) (locs : List Loc), va_P D vwCl [(o, .inr (7, .ref q1 :: fs)), (q1, .inl (cI, 43, .inl mm))] H → va_S noA s.heap H locs → ∀ (ls : Array Slot), lv_has ls 11 [(0, .ref o), (1, .int (nI a)), (2, .int (nI b)), (3, .int w), (4, .int (nI b)), (5, .int (nI a)), (6, .int bw), (7, .int v), (8, .int (nI (b + 1 + d)))] → W p l e (rmD 6) s m ([.ref o, .int (nI a), .int (nI b), .int w] : List Value).toArray below meth c H locs 0 0 (MQ below (rdQi (fun r => r = A_obstacle n bl G M (nI a) (nI b) w)) ([.ref o, .int (nI a), .int (nI b), .int w] : List Value).toArray s 0 0 noA) (F0 m 57 ls []) := by
              intro k_57
              induction k_57 with
              | zero => intro d bw v h9; exact absurd h9 (Nat.not_lt_zero _)
              | succ k_57 ih_57 =>
                intro d bw v hm_57 hi hbw hv H locs hP hS ls hl
                refine lv_iload hx hb dX7_obstacle_57 (lv_at hl 8 rfl) ?_
                refine lv_iload hx hb dX7_obstacle_59 (lv_at hl 5 rfl) ?_
                refine lv_icmp_ge (tgt := 142) hx hb dX7_obstacle_61 (by decide) (fun c_61 => ?_) (fun c_61 => ?_)
                · skip
                  have c0 : a ≤ b + 1 + d := ge_t (by omega) c_61
                  have eo : obT bl G M a b = (obs (clT bl G M a b) b d) := by unfold obT; rw [emin, emax, show a - b - 1 = d by omega]
                  refine lv_iload hx hb dX7_obstacle_142 (lv_at hl 6 rfl) ?_
                  refine lv_iconst (v := (-1)) hx hb dX7_obstacle_144 (by decide) ?_
                  refine lv_icmp_eq (tgt := 152) hx hb dX7_obstacle_145 (by decide) (fun c_145 => ?_) (fun c_145 => ?_)
                  · skip
                    refine lv_iload hx hb dX7_obstacle_152 (lv_at hl 6 rfl) ?_
                    refine lv_goto (tgt := 159) hx hb dX7_obstacle_154 (by decide) ?_
                    exact W.iret (v := bw) hx hb hr (fun tS htS hWS => ⟨⟨bw, (), rfl, (by rw [ea, eo, ← hbw, ← hv]; first | rw [if_pos (Or.inl c_145)] | rw [if_pos (Or.inr c_149)] | rw [if_neg (fun q => q.elim c_145 c_149)] | fail), trivial⟩, hS.F htS⟩) hS.2.2 dX7_obstacle_159
                  · skip
                    refine lv_iload_n hx hb dX7_obstacle_148 rfl (lv_at hl 3 rfl) ?_
                    refine lv_if_ne (tgt := 157) hx hb dX7_obstacle_149 (by decide) (fun c_149 => ?_) (fun c_149 => ?_)
                    · skip
                      refine lv_iload hx hb dX7_obstacle_157 (lv_at hl 7 rfl) ?_
                      exact W.iret (v := v) hx hb hr (fun tS htS hWS => ⟨⟨v, (), rfl, (by rw [ea, eo, ← hbw, ← hv]; first | rw [if_pos (Or.inl c_145)] | rw [if_pos (Or.inr c_149)] | rw [if_neg (fun q => q.elim c_145 c_149)] | fail), trivial⟩, hS.F htS⟩) hS.2.2 dX7_obstacle_159
                    · skip
                      refine lv_iload hx hb dX7_obstacle_152 (lv_at hl 6 rfl) ?_
                      refine lv_goto (tgt := 159) hx hb dX7_obstacle_154 (by decide) ?_
                      exact W.iret (v := bw) hx hb hr (fun tS htS hWS => ⟨⟨bw, (), rfl, (by rw [ea, eo, ← hbw, ← hv]; first | rw [if_pos (Or.inl c_145)] | rw [if_pos (Or.inr c_149)] | rw [if_neg (fun q => q.elim c_145 c_149)] | fail), trivial⟩, hS.F htS⟩) hS.2.2 dX7_obstacle_159
                · skip
                  have c0 : b + 1 + d < a := ge_f (by omega) c_61
                  refine lv_aload_n hx hb dX7_obstacle_64 rfl (lv_at hl 0 rfl) ?_
                  refine lv_iload hx hb dX7_obstacle_65 (lv_at hl 4 rfl) ?_
                  refine lv_aload_n hx hb dX7_obstacle_67 rfl (lv_at hl 0 rfl) ?_
                  refine lv_iload hx hb dX7_obstacle_68 (lv_at hl 4 rfl) ?_
                  refine rd_calli hP hS (va_runV (As := [.int (nI b)]) (rest := [.int (nI b), .ref o]) ⟨hx, hb, hml, hown, hts⟩ (c_X7_top l D cI cB cO o q1 fs n mm rg bl G M b hm (by omega)) (cwV 1 hts gX7_obstacle_X7_top rfl rfl rfl (by decide +kernel) ⟨Nat.le_of_ble_eq_true rfl, Nat.le_of_ble_eq_true rfl⟩) (rd_preV (r := (RX7, TX7, 15)) (ci := 7) hK (hP.pick [0, 1] rfl) hN (q0 := 0) rfl rfl) rfl rfl hl.1 rfl (lv_room (Nat.le_of_ble_eq_true rfl)) dX7_obstacle_70 ⟨Nat.le_refl _, Nat.le_refl _⟩) (fun r_70 H locs h_70 hP hS => ?_)
                  subst h_70
                  refine lv_iload hx hb dX7_obstacle_73 (lv_at hl 5 rfl) ?_
                  refine lv_aload_n hx hb dX7_obstacle_75 rfl (lv_at hl 0 rfl) ?_
                  refine lv_iload hx hb dX7_obstacle_76 (lv_at hl 5 rfl) ?_
                  refine rd_calli hP hS (va_runV (As := [.int (nI a)]) (rest := [.int (nI a), .int (tp G M b), .int (nI b), .ref o]) ⟨hx, hb, hml, hown, hts⟩ (c_X7_top l D cI cB cO o q1 fs n mm rg bl G M a hm (by omega)) (cwV 1 hts gX7_obstacle_X7_top rfl rfl rfl (by decide +kernel) ⟨Nat.le_of_ble_eq_true rfl, Nat.le_of_ble_eq_true rfl⟩) (rd_preV (r := (RX7, TX7, 15)) (ci := 7) hK (hP.pick [0, 1] rfl) hN (q0 := 0) rfl rfl) rfl rfl hl.1 rfl (lv_room (Nat.le_of_ble_eq_true rfl)) dX7_obstacle_78 ⟨Nat.le_refl _, Nat.le_refl _⟩) (fun r_78 H locs h_78 hP hS => ?_)
                  subst h_78
                  refine lv_iload hx hb dX7_obstacle_81 (lv_at hl 8 rfl) ?_
                  refine rd_calli hP hS (va_runV (As := [.int (nI b), .int (tp G M b), .int (nI a), .int (tp G M a), .int (nI (b + 1 + d))]) (rest := []) ⟨hx, hb, hml, hown, hts⟩ (c_X7_clearance l D cI cB cO o q1 fs n mm rg bl G M b (tp G M b) a (tp G M a) (b + 1 + d) hm (by omega) (by omega) (by omega)) (cwV 5 hts gX7_obstacle_X7_clearance rfl rfl rfl (by decide +kernel) ⟨Nat.le_of_ble_eq_true rfl, Nat.le_of_ble_eq_true rfl⟩) (rd_preV (r := (RX7, TX7, 15)) (ci := 7) hK (hP.pick [0, 1] rfl) hN (q0 := 0) rfl rfl) rfl rfl hl.1 rfl (lv_room (Nat.le_of_ble_eq_true rfl)) dX7_obstacle_83 ⟨Nat.le_refl _, Nat.le_refl _⟩) (fun r_83 H locs h_83 hP hS => ?_)
                  have h_83 : r_83 = clT bl G M a b (b + 1 + d) := h_83.trans (clr_comm _ _ _ _ _ _ _)
                  refine lv_istore (lv' := [(9, .int r_83), (0, .ref o), (1, .int (nI a)), (2, .int (nI b)), (3, .int w), (4, .int (nI b)), (5, .int (nI a)), (6, .int bw), (7, .int v), (8, .int (nI (b + 1 + d)))]) hx hb dX7_obstacle_86 hl (by decide) rfl (fun ls hl => ?_)
                  refine lv_iload hx hb dX7_obstacle_88 (lv_at hl 7 rfl) ?_
                  refine lv_iconst (v := (-1)) hx hb dX7_obstacle_90 (by decide) ?_
                  refine lv_icmp_eq (tgt := 101) hx hb dX7_obstacle_91 (by decide) (fun c_91 => ?_) (fun c_91 => ?_)
                  · skip
                    have c2 : (obs (clT bl G M a b) b d).1 = -1 ∨ (clT bl G M a b) (b + 1 + d) < (obs (clT bl G M a b) b d).2 := Or.inl (hbw ▸ c_91)
                    refine lv_iconst (v := 1) hx hb dX7_obstacle_101 (by decide) ?_
                    refine lv_goto (tgt := 106) hx hb dX7_obstacle_102 (by decide) ?_
                    refine lv_istore (lv' := [(10, .int 1), (9, .int r_83), (0, .ref o), (1, .int (nI a)), (2, .int (nI b)), (3, .int w), (4, .int (nI b)), (5, .int (nI a)), (6, .int bw), (7, .int v), (8, .int (nI (b + 1 + d)))]) hx hb dX7_obstacle_106 hl (by decide) rfl (fun ls hl => ?_)
                    refine lv_iload hx hb dX7_obstacle_108 (lv_at hl 0 rfl) ?_
                    refine lv_if_eq (tgt := 118) hx hb dX7_obstacle_110 (by decide) (fun c_110 => ?_) (fun c_110 => ?_)
                    · skip
                      exact absurd c_110 (by decide)
                    · skip
                      refine lv_iload hx hb dX7_obstacle_113 (lv_at hl 10 rfl) ?_
                      refine lv_goto (tgt := 120) hx hb dX7_obstacle_115 (by decide) ?_
                      refine lv_istore (lv' := [(6, .int (nI (b + 1 + d))), (10, .int 1), (9, .int r_83), (0, .ref o), (1, .int (nI a)), (2, .int (nI b)), (3, .int w), (4, .int (nI b)), (5, .int (nI a)), (7, .int v), (8, .int (nI (b + 1 + d)))]) hx hb dX7_obstacle_120 hl (by decide) rfl (fun ls hl => ?_)
                      refine lv_iload hx hb dX7_obstacle_122 (lv_at hl 1 rfl) ?_
                      refine lv_if_eq (tgt := 132) hx hb dX7_obstacle_124 (by decide) (fun c_124 => ?_) (fun c_124 => ?_)
                      · skip
                        exact absurd c_124 (by decide)
                      · skip
                        refine lv_iload hx hb dX7_obstacle_127 (lv_at hl 2 rfl) ?_
                        refine lv_goto (tgt := 134) hx hb dX7_obstacle_129 (by decide) ?_
                        refine lv_istore (lv' := [(7, .int r_83), (6, .int (nI (b + 1 + d))), (10, .int 1), (9, .int r_83), (0, .ref o), (1, .int (nI a)), (2, .int (nI b)), (3, .int w), (4, .int (nI b)), (5, .int (nI a)), (8, .int (nI (b + 1 + d)))]) hx hb dX7_obstacle_134 hl (by decide) rfl (fun ls hl => ?_)
                        refine lv_iinc (v := nI (b + 1 + d + 1)) (lv' := [(8, .int (nI (b + 1 + d + 1))), (7, .int r_83), (6, .int (nI (b + 1 + d))), (10, .int 1), (9, .int r_83), (0, .ref o), (1, .int (nI a)), (2, .int (nI b)), (3, .int w), (4, .int (nI b)), (5, .int (nI a))]) hx hb dX7_obstacle_136 hl (k := 10) rfl (inc1 _) (by decide) rfl (fun ls hl => ?_)
                        refine lv_goto (tgt := 57) hx hb dX7_obstacle_139 (by decide) ?_
                        exact ih_57 (d + 1) (nI (b + 1 + d)) r_83 (by omega) (by omega) (by first | (rw [obs_T c2]; done) | (rw [obs_F c3 c4]; exact hbw) | fail) (by first | (rw [obs_T c2]; exact h_83) | (rw [obs_F c3 c4]; exact hv) | fail) _ _ hP hS ls (lv_sub hl [5, 6, 7, 8, 9, 10, 2, 1, 0] rfl)
                  · skip
                    have c3 : ¬ (obs (clT bl G M a b) b d).1 = -1 := hbw ▸ c_91
                    refine lv_iload hx hb dX7_obstacle_94 (lv_at hl 0 rfl) ?_
                    refine lv_iload hx hb dX7_obstacle_96 (lv_at hl 8 rfl) ?_
                    refine lv_icmp_ge (tgt := 105) hx hb dX7_obstacle_98 (by decide) (fun c_98 => ?_) (fun c_98 => ?_)
                    · skip
                      have c4 : ¬ (clT bl G M a b) (b + 1 + d) < (obs (clT bl G M a b) b d).2 := by rw [← h_83, ← hv]; exact Int32.not_lt.mpr c_98
                      refine lv_iconst (v := 0) hx hb dX7_obstacle_105 (by decide) ?_
                      refine lv_istore (lv' := [(10, .int 0), (9, .int r_83), (0, .ref o), (1, .int (nI a)), (2, .int (nI b)), (3, .int w), (4, .int (nI b)), (5, .int (nI a)), (6, .int bw), (7, .int v), (8, .int (nI (b + 1 + d)))]) hx hb dX7_obstacle_106 hl (by decide) rfl (fun ls hl => ?_)
                      refine lv_iload hx hb dX7_obstacle_108 (lv_at hl 0 rfl) ?_
                      refine lv_if_eq (tgt := 118) hx hb dX7_obstacle_110 (by decide) (fun c_110 => ?_) (fun c_110 => ?_)
                      · skip
                        refine lv_iload hx hb dX7_obstacle_118 (lv_at hl 8 rfl) ?_
                        refine lv_istore (lv' := [(6, .int bw), (10, .int 0), (9, .int r_83), (0, .ref o), (1, .int (nI a)), (2, .int (nI b)), (3, .int w), (4, .int (nI b)), (5, .int (nI a)), (7, .int v), (8, .int (nI (b + 1 + d)))]) hx hb dX7_obstacle_120 hl (by decide) rfl (fun ls hl => ?_)
                        refine lv_iload hx hb dX7_obstacle_122 (lv_at hl 1 rfl) ?_
                        refine lv_if_eq (tgt := 132) hx hb dX7_obstacle_124 (by decide) (fun c_124 => ?_) (fun c_124 => ?_)
                        · skip
                          refine lv_iload hx hb dX7_obstacle_132 (lv_at hl 9 rfl) ?_
                          refine lv_istore (lv' := [(7, .int v), (6, .int bw), (10, .int 0), (9, .int r_83), (0, .ref o), (1, .int (nI a)), (2, .int (nI b)), (3, .int w), (4, .int (nI b)), (5, .int (nI a)), (8, .int (nI (b + 1 + d)))]) hx hb dX7_obstacle_134 hl (by decide) rfl (fun ls hl => ?_)
                          refine lv_iinc (v := nI (b + 1 + d + 1)) (lv' := [(8, .int (nI (b + 1 + d + 1))), (7, .int v), (6, .int bw), (10, .int 0), (9, .int r_83), (0, .ref o), (1, .int (nI a)), (2, .int (nI b)), (3, .int w), (4, .int (nI b)), (5, .int (nI a))]) hx hb dX7_obstacle_136 hl (k := 10) rfl (inc1 _) (by decide) rfl (fun ls hl => ?_)
                          refine lv_goto (tgt := 57) hx hb dX7_obstacle_139 (by decide) ?_
                          exact ih_57 (d + 1) bw v (by omega) (by omega) (by first | (rw [obs_T c2]; done) | (rw [obs_F c3 c4]; exact hbw) | fail) (by first | (rw [obs_T c2]; exact h_83) | (rw [obs_F c3 c4]; exact hv) | fail) _ _ hP hS ls (lv_sub hl [5, 6, 7, 8, 9, 10, 2, 1, 0] rfl)
                        · skip
                          exact absurd (by decide) c_124
                      · skip
                        exact absurd (by decide) c_110
                    · skip
                      have c2 : (obs (clT bl G M a b) b d).1 = -1 ∨ (clT bl G M a b) (b + 1 + d) < (obs (clT bl G M a b) b d).2 := Or.inr (by rw [← h_83, ← hv]; exact Int32.not_le.mp c_98)
                      refine lv_iconst (v := 1) hx hb dX7_obstacle_101 (by decide) ?_
                      refine lv_goto (tgt := 106) hx hb dX7_obstacle_102 (by decide) ?_
                      refine lv_istore (lv' := [(10, .int 1), (9, .int r_83), (0, .ref o), (1, .int (nI a)), (2, .int (nI b)), (3, .int w), (4, .int (nI b)), (5, .int (nI a)), (6, .int bw), (7, .int v), (8, .int (nI (b + 1 + d)))]) hx hb dX7_obstacle_106 hl (by decide) rfl (fun ls hl => ?_)
                      refine lv_iload hx hb dX7_obstacle_108 (lv_at hl 0 rfl) ?_
                      refine lv_if_eq (tgt := 118) hx hb dX7_obstacle_110 (by decide) (fun c_110 => ?_) (fun c_110 => ?_)
                      · skip
                        exact absurd c_110 (by decide)
                      · skip
                        refine lv_iload hx hb dX7_obstacle_113 (lv_at hl 10 rfl) ?_
                        refine lv_goto (tgt := 120) hx hb dX7_obstacle_115 (by decide) ?_
                        refine lv_istore (lv' := [(6, .int (nI (b + 1 + d))), (10, .int 1), (9, .int r_83), (0, .ref o), (1, .int (nI a)), (2, .int (nI b)), (3, .int w), (4, .int (nI b)), (5, .int (nI a)), (7, .int v), (8, .int (nI (b + 1 + d)))]) hx hb dX7_obstacle_120 hl (by decide) rfl (fun ls hl => ?_)
                        refine lv_iload hx hb dX7_obstacle_122 (lv_at hl 1 rfl) ?_
                        refine lv_if_eq (tgt := 132) hx hb dX7_obstacle_124 (by decide) (fun c_124 => ?_) (fun c_124 => ?_)
                        · skip
                          exact absurd c_124 (by decide)
                        · skip
                          refine lv_iload hx hb dX7_obstacle_127 (lv_at hl 2 rfl) ?_
                          refine lv_goto (tgt := 134) hx hb dX7_obstacle_129 (by decide) ?_
                          refine lv_istore (lv' := [(7, .int r_83), (6, .int (nI (b + 1 + d))), (10, .int 1), (9, .int r_83), (0, .ref o), (1, .int (nI a)), (2, .int (nI b)), (3, .int w), (4, .int (nI b)), (5, .int (nI a)), (8, .int (nI (b + 1 + d)))]) hx hb dX7_obstacle_134 hl (by decide) rfl (fun ls hl => ?_)
                          refine lv_iinc (v := nI (b + 1 + d + 1)) (lv' := [(8, .int (nI (b + 1 + d + 1))), (7, .int r_83), (6, .int (nI (b + 1 + d))), (10, .int 1), (9, .int r_83), (0, .ref o), (1, .int (nI a)), (2, .int (nI b)), (3, .int w), (4, .int (nI b)), (5, .int (nI a))]) hx hb dX7_obstacle_136 hl (k := 10) rfl (inc1 _) (by decide) rfl (fun ls hl => ?_)
                          refine lv_goto (tgt := 57) hx hb dX7_obstacle_139 (by decide) ?_
                          exact ih_57 (d + 1) (nI (b + 1 + d)) r_83 (by omega) (by omega) (by first | (rw [obs_T c2]; done) | (rw [obs_F c3 c4]; exact hbw) | fail) (by first | (rw [obs_T c2]; exact h_83) | (rw [obs_F c3 c4]; exact hv) | fail) _ _ hP hS ls (lv_sub hl [5, 6, 7, 8, 9, 10, 2, 1, 0] rfl)
            exact L_57 _ 0 (-1) 0 (Nat.lt_succ_self _) (by omega) (rfl) (rfl) _ _ hP hS ls (lv_sub hl [5, 6, 7, 8, 4, 3, 2, 1, 0] rfl)
          · skip
            exact absurd (Int32.not_le.mp c_35) hab1
        · skip
          exact absurd (Int32.not_le.mp c_23) hab1
    · skip
      have d2 := bI_e0 (h_12.symm.trans c_15)
      refine lv_bipush (v := (-2)) hx hb dX7_obstacle_18 (by decide) ?_
      exact W.iret (v := -2) hx hb hr (fun tS htS hWS => ⟨⟨-2, (), rfl, (by unfold A_obstacle; rw [if_neg]; intro q; first | exact Bool.false_ne_true (d1.symm.trans q.1) | exact Bool.false_ne_true (d2.symm.trans q.2) | fail), trivial⟩, hS.F htS⟩) hS.2.2 dX7_obstacle_20
theorem kX7_neededMast_0 : ∀ w ∈ wsX70, w ∈ wsX7_neededMast := by decide +kernel
theorem kX7_neededMast_1 : (.fieldLink RX7 7 "SightRidgeModel" "m" "[I" : Cond) ∈ wsX7_neededMast := by decide +kernel
set_option maxHeartbeats 4000000 in
set_option maxRecDepth 100000 in
/-- neededMast(x, y) -/
theorem c_X7_neededMast (l : Launch) (D : va_G) (cI cB cO : ClassId) (o q1 : Nat) (fs : List Value) (n : Nat) (mm : Nat → Int32) (rg bl : Int32) (G M : Nat → Int32) (x y : Int32) (hm : MOK n mm rg bl G M) : Met l yX7_neededMast wsX7_neededMast (rmD 6) (rdPc D (tyL cI cB cO) [.ref o, .int x, .int y] [(o, .inr (7, .ref q1 :: fs)), (q1, .inl (cI, 43, .inl mm))]) (rdQi (fun r => r = A_needed n bl G M x y)) 0 0 noA := by
  refine Met.ofW (cc := cX7_neededMast) (maxL := 4) (ret := (some .int)) (by decide) rfl ?_
  intro p e s m args below meth c s₁ B hml hv
  obtain ⟨rfl, hP, hK, hN⟩ := hv
  have hx := B.exec
  have hb := B.bytes
  have hr := B.returns
  have hts := atoms_spec (ws := wsX7_neededMast) B.pre
  have hown : s.vm.findClass RX7 = some m.cls := findClass_of_methodNamed B.named
  have hlocks := B.notSynchronized
  have hS : va_S noA s.heap s.heap [] := va_S.rf
  have hl := lv_entry ([.ref o, .int x, .int y]) (n := 4) (Nat.le_of_ble_eq_true rfl)
  rw [lg_entry_eq]
  generalize (lg_sl ([.ref o, .int x, .int y]) ++ List.replicate (4 - (lg_sl ([.ref o, .int x, .int y])).length) Slot.unset).toArray = ls at hl ⊢
  have hl : lv_has ls 4 [(0, .ref o), (1, .int x), (2, .int y)] := hl
  obtain ⟨hn, hn1, hm0, hm1, hm2, hG, hM⟩ := id hm
  refine lv_aload_n hx hb dX7_neededMast_0 rfl (lv_at hl 0 rfl) ?_
  refine lv_iload_n hx hb dX7_neededMast_1 rfl (lv_at hl 1 rfl) ?_
  refine lv_iload_n hx hb dX7_neededMast_2 rfl (lv_at hl 2 rfl) ?_
  refine rd_calli hP hS (va_runV (As := [.int x, .int y]) (rest := []) ⟨hx, hb, hml, hown, hts⟩ (c_X7_areTwo l D cI cB cO o q1 fs n mm rg bl G M x y hm) (cwV 2 hts gX7_neededMast_X7_areTwo rfl rfl rfl (by decide +kernel) ⟨Nat.le_of_ble_eq_true rfl, Nat.le_of_ble_eq_true rfl⟩) (rd_preV (r := (RX7, TX7, 15)) (ci := 7) hK (hP.pick [0, 1] rfl) hN (q0 := 0) rfl rfl) rfl rfl hl.1 rfl (lv_room (Nat.le_of_ble_eq_true rfl)) dX7_neededMast_3 ⟨Nat.le_refl _, Nat.le_refl _⟩) (fun r_3 H locs h_3 hP hS => ?_)
  refine lv_if_ne (tgt := 12) hx hb dX7_neededMast_6 (by decide) (fun c_6 => ?_) (fun c_6 => ?_)
  · skip
    have d1 : pairB n x y = true := bI_n0 (fun q => c_6 (h_3.trans q))
    obtain ⟨a, b, ha, hb0, hab, rfl, rfl⟩ := pairB_T d1 hn
    have ea : A_needed n bl G M (nI a) (nI b) = if fa_first (nmB bl G M a b) 201 < 201 then nI (fa_first (nmB bl G M a b) 201) else -1 := by unfold A_needed; rw [if_pos d1, cN_nI (by omega), cN_nI (by omega)]
    refine lv_iconst (v := 0) hx hb dX7_neededMast_12 (by decide) ?_
    refine lv_istore_n (lv' := [(3, .int 0), (0, .ref o), (1, .int (nI a)), (2, .int (nI b))]) hx hb dX7_neededMast_13 rfl hl (by decide) rfl (fun ls hl => ?_)
    have L_14 : ∀ (k_14 : Nat) (i : Nat), 201 - i < k_14 → (i ≤ 201) → (∀ j, j < i → nmB bl G M a b j = false) → ∀ (H : Heap) (locs : List Loc), va_P D vwCl [(o, .inr (7, .ref q1 :: fs)), (q1, .inl (cI, 43, .inl mm))] H → va_S noA s.heap H locs → ∀ (ls : Array Slot), lv_has ls 4 [(0, .ref o), (1, .int (nI a)), (2, .int (nI b)), (3, .int (nI i))] → W p l e (rmD 6) s m ([.ref o, .int (nI a), .int (nI b)] : List Value).toArray below meth c H locs 0 0 (MQ below (rdQi (fun r => r = A_needed n bl G M (nI a) (nI b))) ([.ref o, .int (nI a), .int (nI b)] : List Value).toArray s 0 0 noA) (F0 m 14 ls []) := by
      intro k_14
      induction k_14 with
      | zero => intro i h9; exact absurd h9 (Nat.not_lt_zero _)
      | succ k_14 ih_14 =>
        intro i hm_14 hi hf H locs hP hS ls hl
        refine lv_iload_n hx hb dX7_neededMast_14 rfl (lv_at hl 3 rfl) ?_
        refine lv_sipush (v := 200) hx hb dX7_neededMast_15 (by decide) ?_
        refine lv_icmp_gt (tgt := 53) hx hb dX7_neededMast_18 (by decide) (fun c_18 => ?_) (fun c_18 => ?_)
        · skip
          have c0 : 200 < i := gt_t (by omega) c_18
          refine lv_iconst (v := (-1)) hx hb dX7_neededMast_53 (by decide) ?_
          exact W.iret (v := -1) hx hb hr (fun tS htS hWS => ⟨⟨-1, (), rfl, (by rw [ea, if_neg (fa_first_none (fun j hj => hf j (by omega)))]), trivial⟩, hS.F htS⟩) hS.2.2 dX7_neededMast_54
        · skip
          have c0 : i ≤ 200 := by rcases Nat.lt_or_ge 200 i with q | q; exact absurd (nI_lt q (by omega)) c_18; exact q
          refine lv_aload_n hx hb dX7_neededMast_21 rfl (lv_at hl 0 rfl) ?_
          refine lv_iload_n hx hb dX7_neededMast_22 rfl (lv_at hl 1 rfl) ?_
          refine lv_aload_n hx hb dX7_neededMast_23 rfl (lv_at hl 0 rfl) ?_
          refine va_get (D := D) (ci := 7) (v := .ref q1) (C := RX7) (T := TX7) (N := 15) hx hb hts kX7_neededMast_0 hown hK hP 0 rfl rfl 0 (by decide) (hts (.fieldLink RX7 7 "SightRidgeModel" "m" "[I") kX7_neededMast_1) (fun _ h9 => h9) rfl dX7_neededMast_24 ?_
          refine lv_iconst (v := 3) hx hb dX7_neededMast_27 (by decide) ?_
          refine lv_iload_n hx hb dX7_neededMast_28 rfl (lv_at hl 1 rfl) ?_
          refine lv_iadd hx hb dX7_neededMast_29 ?_
          refine lv_topi (fun y_1 e_2 => ?_)
          have e_2 : nI (3 + a) = y_1 := (e_2.trans (nI_add 3 a)).symm
          subst e_2
          refine va_iald hx hb hK hP 1 0 rfl rfl (i := nI (3 + a)) (vp_in_nI (N := 43) (by omega) (by decide)) dX7_neededMast_30 ?_
          rw [nI_clamp (n := 3 + a) (by omega)]
          refine lv_topi (fun y_3 e_4 => ?_)
          have e_4 : G a = y_3 := (e_4.trans (hG a ha)).symm
          subst e_4
          refine lv_iload_n hx hb dX7_neededMast_31 rfl (lv_at hl 3 rfl) ?_
          refine lv_iadd hx hb dX7_neededMast_32 ?_
          refine lv_iload_n hx hb dX7_neededMast_33 rfl (lv_at hl 2 rfl) ?_
          refine lv_aload_n hx hb dX7_neededMast_34 rfl (lv_at hl 0 rfl) ?_
          refine lv_iload_n hx hb dX7_neededMast_35 rfl (lv_at hl 2 rfl) ?_
          refine rd_calli hP hS (va_runV (As := [.int (nI b)]) (rest := [.int (nI b), .int ((G a) + (nI i)), .int (nI a), .ref o]) ⟨hx, hb, hml, hown, hts⟩ (c_X7_top l D cI cB cO o q1 fs n mm rg bl G M b hm hb0) (cwV 1 hts gX7_neededMast_X7_top rfl rfl rfl (by decide +kernel) ⟨Nat.le_of_ble_eq_true rfl, Nat.le_of_ble_eq_true rfl⟩) (rd_preV (r := (RX7, TX7, 15)) (ci := 7) hK (hP.pick [0, 1] rfl) hN (q0 := 0) rfl rfl) rfl rfl hl.1 rfl (lv_room (Nat.le_of_ble_eq_true rfl)) dX7_neededMast_36 ⟨Nat.le_refl _, Nat.le_refl _⟩) (fun r_36 H locs h_36 hP hS => ?_)
          subst h_36
          refine rd_calli hP hS (va_runV (As := [.int (nI a), .int ((G a) + (nI i)), .int (nI b), .int (tp G M b)]) (rest := []) ⟨hx, hb, hml, hown, hts⟩ (c_X7_meet l D cI cB cO o q1 fs n mm rg bl G M a (G a + nI i) b (tp G M b) hm ha hb0) (cwV 4 hts gX7_neededMast_X7_meet rfl rfl rfl (by decide +kernel) ⟨Nat.le_of_ble_eq_true rfl, Nat.le_of_ble_eq_true rfl⟩) (rd_preV (r := (RX7, TX7, 15)) (ci := 7) hK (hP.pick [0, 1] rfl) hN (q0 := 0) rfl rfl) rfl rfl hl.1 rfl (lv_room (Nat.le_of_ble_eq_true rfl)) dX7_neededMast_39 ⟨Nat.le_refl _, Nat.le_refl _⟩) (fun r_39 H locs h_39 hP hS => ?_)
          refine lv_if_eq (tgt := 47) hx hb dX7_neededMast_42 (by decide) (fun c_42 => ?_) (fun c_42 => ?_)
          · skip
            have c3 : nmB bl G M a b i = false := bI_e0 (h_39.symm.trans c_42)
            refine lv_iinc (v := nI (i + 1)) (lv' := [(3, .int (nI (i + 1))), (0, .ref o), (1, .int (nI a)), (2, .int (nI b))]) hx hb dX7_neededMast_47 hl (k := 3) rfl (inc1 _) (by decide) rfl (fun ls hl => ?_)
            refine lv_goto (tgt := 14) hx hb dX7_neededMast_50 (by decide) ?_
            exact ih_14 (i + 1) (by omega) (by omega) (lt_s hf c3) _ _ hP hS ls (lv_sub hl [1, 2, 3, 0] rfl)
          · skip
            have c3 : nmB bl G M a b i = true := bI_n0 (fun q => c_42 (h_39.trans q))
            refine lv_iload_n hx hb dX7_neededMast_45 rfl (lv_at hl 3 rfl) ?_
            exact W.iret (v := nI i) hx hb hr (fun tS htS hWS => ⟨⟨nI i, (), rfl, (by rw [ea, fa_first_eq hf c3 (by omega), if_pos (by omega)]), trivial⟩, hS.F htS⟩) hS.2.2 dX7_neededMast_46
    exact L_14 _ 0 (Nat.lt_succ_self _) (by omega) (fun j hj => absurd hj (Nat.not_lt_zero j)) _ _ hP hS ls (lv_sub hl [1, 2, 3, 0] rfl)
  · skip
    have d1 : pairB n x y = false := bI_e0 (h_3.symm.trans c_6)
    refine lv_bipush (v := (-2)) hx hb dX7_neededMast_9 (by decide) ?_
    exact W.iret (v := -2) hx hb hr (fun tS htS hWS => ⟨⟨-2, (), rfl, (by unfold A_needed; rw [if_neg (fun q => Bool.false_ne_true (d1.symm.trans q))]), trivial⟩, hS.F htS⟩) hS.2.2 dX7_neededMast_11
theorem kX7_farthest_0 : ∀ w ∈ wsX70, w ∈ wsX7_farthest := by decide +kernel
theorem kX7_farthest_1 : (.fieldLink RX7 7 "SightRidgeModel" "m" "[I" : Cond) ∈ wsX7_farthest := by decide +kernel
set_option maxHeartbeats 4000000 in
set_option maxRecDepth 100000 in
/-- farthest() -/
theorem c_X7_farthest (l : Launch) (D : va_G) (cI cB cO : ClassId) (o q1 : Nat) (fs : List Value) (n : Nat) (mm : Nat → Int32) (rg bl : Int32) (G M : Nat → Int32) (hm : MOK n mm rg bl G M) : Met l yX7_farthest wsX7_farthest (rmD 6) (rdPc D (tyL cI cB cO) [.ref o] [(o, .inr (7, .ref q1 :: fs)), (q1, .inl (cI, 43, .inl mm))]) (rdQi (fun r => r = A_farthest n rg bl G M)) 0 0 noA := by
  refine Met.ofW (cc := cX7_farthest) (maxL := 6) (ret := (some .int)) (by decide) rfl ?_
  intro p e s m args below meth c s₁ B hml hv
  obtain ⟨rfl, hP, hK, hN⟩ := hv
  have hx := B.exec
  have hb := B.bytes
  have hr := B.returns
  have hts := atoms_spec (ws := wsX7_farthest) B.pre
  have hown : s.vm.findClass RX7 = some m.cls := findClass_of_methodNamed B.named
  have hlocks := B.notSynchronized
  have hS : va_S noA s.heap s.heap [] := va_S.rf
  have hl := lv_entry ([.ref o]) (n := 6) (Nat.le_of_ble_eq_true rfl)
  rw [lg_entry_eq]
  generalize (lg_sl ([.ref o]) ++ List.replicate (6 - (lg_sl ([.ref o])).length) Slot.unset).toArray = ls at hl ⊢
  have hl : lv_has ls 6 [(0, .ref o)] := hl
  obtain ⟨hn, hn1, hm0, hm1, hm2, hG, hM⟩ := id hm
  refine lv_iconst (v := 1) hx hb dX7_farthest_0 (by decide) ?_
  refine lv_istore_n (lv' := [(1, .int 1), (0, .ref o)]) hx hb dX7_farthest_1 rfl hl (by decide) rfl (fun ls hl => ?_)
  refine lv_iconst (v := 0) hx hb dX7_farthest_2 (by decide) ?_
  refine lv_istore_n (lv' := [(2, .int 0), (1, .int 1), (0, .ref o)]) hx hb dX7_farthest_3 rfl hl (by decide) rfl (fun ls hl => ?_)
  refine lv_iconst (v := 0) hx hb dX7_farthest_4 (by decide) ?_
  refine lv_istore_n (lv' := [(3, .int 0), (2, .int 0), (1, .int 1), (0, .ref o)]) hx hb dX7_farthest_5 rfl hl (by decide) rfl (fun ls hl => ?_)
  have L_6 : ∀ (k_6 : Nat) (a : Nat) (u : Nat) (v : Nat), n - a < k_6 → (a ≤ n) → (v ≤ 20) → (fout (conB G M rg bl) n (1, 0) a = (u, v)) → ∀ (H : Heap) (locs : List Loc), va_P D vwCl [(o, .inr (7, .ref q1 :: fs)), (q1, .inl (cI, 43, .inl mm))] H → va_S noA s.heap H locs → ∀ (ls : Array Slot), lv_has ls 6 [(0, .ref o), (1, .int (nI u)), (2, .int (nI v)), (3, .int (nI a))] → W p l e (rmD 6) s m ([.ref o] : List Value).toArray below meth c H locs 0 0 (MQ below (rdQi (fun r => r = A_farthest n rg bl G M)) ([.ref o] : List Value).toArray s 0 0 noA) (F0 m 6 ls []) := by
    intro k_6
    induction k_6 with
    | zero => intro a u v h9; exact absurd h9 (Nat.not_lt_zero _)
    | succ k_6 ih_6 =>
      intro a u v hm_6 hi huv hf H locs hP hS ls hl
      refine lv_iload_n hx hb dX7_farthest_6 rfl (lv_at hl 3 rfl) ?_
      refine lv_aload_n hx hb dX7_farthest_7 rfl (lv_at hl 0 rfl) ?_
      refine va_get (D := D) (ci := 7) (v := .ref q1) (C := RX7) (T := TX7) (N := 15) hx hb hts kX7_farthest_0 hown hK hP 0 rfl rfl 0 (by decide) (hts (.fieldLink RX7 7 "SightRidgeModel" "m" "[I") kX7_farthest_1) (fun _ h9 => h9) rfl dX7_farthest_8 ?_
      refine lv_iconst (v := 0) hx hb dX7_farthest_11 (by decide) ?_
      refine va_iald hx hb hK hP 1 0 rfl rfl (i := nI 0) (vp_in_nI (N := 43) (by decide) (by decide)) dX7_farthest_12 ?_
      rw [nI_clamp (n := 0) (by decide)]
      refine lv_topi (fun y_1 e_2 => ?_)
      have e_2 : nI n = y_1 := (e_2.trans (hm0)).symm
      subst e_2
      refine lv_icmp_ge (tgt := 100) hx hb dX7_farthest_13 (by decide) (fun c_13 => ?_) (fun c_13 => ?_)
      · skip
        have c0 : n ≤ a := ge_t (by omega) c_13
        refine lv_iload_n hx hb dX7_farthest_100 rfl (lv_at hl 1 rfl) ?_
        exact W.iret (v := nI u) hx hb hr (fun tS htS hWS => ⟨⟨nI u, (), rfl, (by unfold A_farthest; rw [show fout (conB G M rg bl) n (1, 0) n = (u, v) by rw [← hf, show a = n by omega]]), trivial⟩, hS.F htS⟩) hS.2.2 dX7_farthest_101
      · skip
        have c0 : a < n := ge_f (by omega) c_13
        refine lv_iload_n hx hb dX7_farthest_16 rfl (lv_at hl 3 rfl) ?_
        refine lv_iconst (v := 1) hx hb dX7_farthest_17 (by decide) ?_
        refine lv_iadd hx hb dX7_farthest_18 ?_
        refine lv_topi (fun y_3 e_4 => ?_)
        have e_4 : nI (a + 1) = y_3 := (e_4.trans (nI_add a 1)).symm
        subst e_4
        refine lv_istore (lv' := [(4, .int (nI (a + 1))), (0, .ref o), (1, .int (nI u)), (2, .int (nI v)), (3, .int (nI a))]) hx hb dX7_farthest_19 hl (by decide) rfl (fun ls hl => ?_)
        have L_21 : ∀ (k_21 : Nat) (b : Nat) (u1 : Nat) (v1 : Nat), n - b < k_21 → (a < b) → (b ≤ n) → (v1 ≤ 20) → (fin (conB G M rg bl) a (b - (a + 1)) (fout (conB G M rg bl) n (1, 0) a) = (u1, v1)) → ∀ (H : Heap) (locs : List Loc), va_P D vwCl [(o, .inr (7, .ref q1 :: fs)), (q1, .inl (cI, 43, .inl mm))] H → va_S noA s.heap H locs → ∀ (ls : Array Slot), lv_has ls 6 [(0, .ref o), (1, .int (nI u1)), (2, .int (nI v1)), (3, .int (nI a)), (4, .int (nI b))] → W p l e (rmD 6) s m ([.ref o] : List Value).toArray below meth c H locs 0 0 (MQ below (rdQi (fun r => r = A_farthest n rg bl G M)) ([.ref o] : List Value).toArray s 0 0 noA) (F0 m 21 ls []) := by
          intro k_21
          induction k_21 with
          | zero => intro b u1 v1 h9; exact absurd h9 (Nat.not_lt_zero _)
          | succ k_21 ih_21 =>
            intro b u1 v1 hm_21 hj hj2 huv1 hf1 H locs hP hS ls hl
            refine lv_iload hx hb dX7_farthest_21 (lv_at hl 4 rfl) ?_
            refine lv_aload_n hx hb dX7_farthest_23 rfl (lv_at hl 0 rfl) ?_
            refine va_get (D := D) (ci := 7) (v := .ref q1) (C := RX7) (T := TX7) (N := 15) hx hb hts kX7_farthest_0 hown hK hP 0 rfl rfl 0 (by decide) (hts (.fieldLink RX7 7 "SightRidgeModel" "m" "[I") kX7_farthest_1) (fun _ h9 => h9) rfl dX7_farthest_24 ?_
            refine lv_iconst (v := 0) hx hb dX7_farthest_27 (by decide) ?_
            refine va_iald hx hb hK hP 1 0 rfl rfl (i := nI 0) (vp_in_nI (N := 43) (by decide) (by decide)) dX7_farthest_28 ?_
            rw [nI_clamp (n := 0) (by decide)]
            refine lv_topi (fun y_5 e_6 => ?_)
            have e_6 : nI n = y_5 := (e_6.trans (hm0)).symm
            subst e_6
            refine lv_icmp_ge (tgt := 94) hx hb dX7_farthest_29 (by decide) (fun c_29 => ?_) (fun c_29 => ?_)
            · skip
              have c1 : n ≤ b := ge_t (by omega) c_29
              have hd : fout (conB G M rg bl) n (1, 0) (a + 1) = (u1, v1) := by rw [fout, show n - 1 - a = b - (a + 1) by omega]; exact hf1
              refine lv_iinc (v := nI (a + 1)) (lv' := [(3, .int (nI (a + 1))), (0, .ref o), (1, .int (nI u1)), (2, .int (nI v1)), (4, .int (nI b))]) hx hb dX7_farthest_94 hl (k := 3) rfl (inc1 _) (by decide) rfl (fun ls hl => ?_)
              refine lv_goto (tgt := 6) hx hb dX7_farthest_97 (by decide) ?_
              exact ih_6 (a + 1) u1 v1 (by omega) (by omega) (by omega) (hd) _ _ hP hS ls (lv_sub hl [1, 2, 3, 0] rfl)
            · skip
              have c1 : b < n := ge_f (by omega) c_29
              refine lv_iload hx hb dX7_farthest_32 (lv_at hl 4 rfl) ?_
              refine lv_iload_n hx hb dX7_farthest_34 rfl (lv_at hl 3 rfl) ?_
              refine lv_isub hx hb dX7_farthest_35 ?_
              refine lv_topi (fun y_7 e_8 => ?_)
              have e_8 : nI (b - a) = y_7 := (e_8.trans (pk_sub (by omega))).symm
              subst e_8
              refine lv_iload_n hx hb dX7_farthest_36 rfl (lv_at hl 2 rfl) ?_
              refine lv_icmp_le (tgt := 54) hx hb dX7_farthest_37 (by decide) (fun c_37 => ?_) (fun c_37 => ?_)
              · skip
                have c2 : b - a ≤ v1 := (nI_leI (by omega) (by omega)).mp c_37
                refine lv_iconst (v := 0) hx hb dX7_farthest_54 (by decide) ?_
                refine lv_istore (lv' := [(5, .int 0), (0, .ref o), (1, .int (nI u1)), (2, .int (nI v1)), (3, .int (nI a)), (4, .int (nI b))]) hx hb dX7_farthest_55 hl (by decide) rfl (fun ls hl => ?_)
                refine lv_iload hx hb dX7_farthest_57 (lv_at hl 0 rfl) ?_
                refine lv_if_eq (tgt := 72) hx hb dX7_farthest_59 (by decide) (fun c_59 => ?_) (fun c_59 => ?_)
                · skip
                  refine lv_iload_n hx hb dX7_farthest_72 rfl (lv_at hl 2 rfl) ?_
                  refine lv_istore_n (lv' := [(1, .int (nI u1)), (5, .int 0), (0, .ref o), (2, .int (nI v1)), (3, .int (nI a)), (4, .int (nI b))]) hx hb dX7_farthest_73 rfl hl (by decide) rfl (fun ls hl => ?_)
                  refine lv_iload hx hb dX7_farthest_74 (lv_at hl 1 rfl) ?_
                  refine lv_if_eq (tgt := 86) hx hb dX7_farthest_76 (by decide) (fun c_76 => ?_) (fun c_76 => ?_)
                  · skip
                    refine lv_iload_n hx hb dX7_farthest_86 rfl (lv_at hl 3 rfl) ?_
                    refine lv_istore_n (lv' := [(2, .int (nI v1)), (1, .int (nI u1)), (5, .int 0), (0, .ref o), (3, .int (nI a)), (4, .int (nI b))]) hx hb dX7_farthest_87 rfl hl (by decide) rfl (fun ls hl => ?_)
                    refine lv_iinc (v := nI (b + 1)) (lv' := [(4, .int (nI (b + 1))), (2, .int (nI v1)), (1, .int (nI u1)), (5, .int 0), (0, .ref o), (3, .int (nI a))]) hx hb dX7_farthest_88 hl (k := 5) rfl (inc1 _) (by decide) rfl (fun ls hl => ?_)
                    refine lv_goto (tgt := 21) hx hb dX7_farthest_91 (by decide) ?_
                    exact ih_21 (b + 1) u1 v1 (by omega) (by omega) (by omega) (by omega) (by rw [show b + 1 - (a + 1) = (b - (a + 1)) + 1 by omega, fin_F (fun q => by rw [hf1] at q; have q1 : v1 < _ := q.1; omega)]; exact hf1) _ _ hP hS ls (lv_sub hl [4, 2, 1, 5, 0] rfl)
                  · skip
                    exact absurd (by decide) c_76
                · skip
                  exact absurd (by decide) c_59
              · skip
                have c2 : v1 < b - a := Nat.lt_of_not_le (fun q => c_37 ((nI_leI (by omega) (by omega)).mpr q))
                refine lv_aload_n hx hb dX7_farthest_40 rfl (lv_at hl 0 rfl) ?_
                refine lv_iload_n hx hb dX7_farthest_41 rfl (lv_at hl 3 rfl) ?_
                refine lv_iload hx hb dX7_farthest_42 (lv_at hl 4 rfl) ?_
                refine rd_calli hP hS (va_runV (As := [.int (nI a), .int (nI b)]) (rest := []) ⟨hx, hb, hml, hown, hts⟩ (c_X7_inContact l D cI cB cO o q1 fs n mm rg bl G M a b hm (by omega) c1) (cwV 2 hts gX7_farthest_X7_inContact rfl rfl rfl (by decide +kernel) ⟨Nat.le_of_ble_eq_true rfl, Nat.le_of_ble_eq_true rfl⟩) (rd_preV (r := (RX7, TX7, 15)) (ci := 7) hK (hP.pick [0, 1] rfl) hN (q0 := 0) rfl rfl) rfl rfl hl.1 rfl (lv_room (Nat.le_of_ble_eq_true rfl)) dX7_farthest_44 ⟨Nat.le_refl _, Nat.le_refl _⟩) (fun r_44 H locs h_44 hP hS => ?_)
                refine lv_if_eq (tgt := 54) hx hb dX7_farthest_47 (by decide) (fun c_47 => ?_) (fun c_47 => ?_)
                · skip
                  have c3 := bI_e0 (h_44.symm.trans c_47)
                  refine lv_iconst (v := 0) hx hb dX7_farthest_54 (by decide) ?_
                  refine lv_istore (lv' := [(5, .int 0), (0, .ref o), (1, .int (nI u1)), (2, .int (nI v1)), (3, .int (nI a)), (4, .int (nI b))]) hx hb dX7_farthest_55 hl (by decide) rfl (fun ls hl => ?_)
                  refine lv_iload hx hb dX7_farthest_57 (lv_at hl 0 rfl) ?_
                  refine lv_if_eq (tgt := 72) hx hb dX7_farthest_59 (by decide) (fun c_59 => ?_) (fun c_59 => ?_)
                  · skip
                    refine lv_iload_n hx hb dX7_farthest_72 rfl (lv_at hl 2 rfl) ?_
                    refine lv_istore_n (lv' := [(1, .int (nI u1)), (5, .int 0), (0, .ref o), (2, .int (nI v1)), (3, .int (nI a)), (4, .int (nI b))]) hx hb dX7_farthest_73 rfl hl (by decide) rfl (fun ls hl => ?_)
                    refine lv_iload hx hb dX7_farthest_74 (lv_at hl 1 rfl) ?_
                    refine lv_if_eq (tgt := 86) hx hb dX7_farthest_76 (by decide) (fun c_76 => ?_) (fun c_76 => ?_)
                    · skip
                      refine lv_iload_n hx hb dX7_farthest_86 rfl (lv_at hl 3 rfl) ?_
                      refine lv_istore_n (lv' := [(2, .int (nI v1)), (1, .int (nI u1)), (5, .int 0), (0, .ref o), (3, .int (nI a)), (4, .int (nI b))]) hx hb dX7_farthest_87 rfl hl (by decide) rfl (fun ls hl => ?_)
                      refine lv_iinc (v := nI (b + 1)) (lv' := [(4, .int (nI (b + 1))), (2, .int (nI v1)), (1, .int (nI u1)), (5, .int 0), (0, .ref o), (3, .int (nI a))]) hx hb dX7_farthest_88 hl (k := 5) rfl (inc1 _) (by decide) rfl (fun ls hl => ?_)
                      refine lv_goto (tgt := 21) hx hb dX7_farthest_91 (by decide) ?_
                      exact ih_21 (b + 1) u1 v1 (by omega) (by omega) (by omega) (by omega) (by rw [show b + 1 - (a + 1) = (b - (a + 1)) + 1 by omega, fin_F (fun q => by rw [hf1, show a + 1 + (b - (a + 1)) = b by omega, c3] at q; exact Bool.false_ne_true q.2)]; exact hf1) _ _ hP hS ls (lv_sub hl [4, 2, 1, 5, 0] rfl)
                    · skip
                      exact absurd (by decide) c_76
                  · skip
                    exact absurd (by decide) c_59
                · skip
                  have c3 := bI_n0 (fun q => c_47 (h_44.trans q))
                  refine lv_iconst (v := 1) hx hb dX7_farthest_50 (by decide) ?_
                  refine lv_goto (tgt := 55) hx hb dX7_farthest_51 (by decide) ?_
                  refine lv_istore (lv' := [(5, .int 1), (0, .ref o), (1, .int (nI u1)), (2, .int (nI v1)), (3, .int (nI a)), (4, .int (nI b))]) hx hb dX7_farthest_55 hl (by decide) rfl (fun ls hl => ?_)
                  refine lv_iload hx hb dX7_farthest_57 (lv_at hl 0 rfl) ?_
                  refine lv_if_eq (tgt := 72) hx hb dX7_farthest_59 (by decide) (fun c_59 => ?_) (fun c_59 => ?_)
                  · skip
                    exact absurd c_59 (by decide)
                  · skip
                    refine lv_bipush (v := 100) hx hb dX7_farthest_62 (by decide) ?_
                    refine lv_iload_n hx hb dX7_farthest_64 rfl (lv_at hl 4 rfl) ?_
                    refine lv_imul hx hb dX7_farthest_65 ?_
                    refine lv_topi (fun y_9 e_10 => ?_)
                    have e_10 : nI (100 * a) = y_9 := (e_10.trans (pk_mul 100 a)).symm
                    subst e_10
                    refine lv_iload hx hb dX7_farthest_66 (lv_at hl 5 rfl) ?_
                    refine lv_iadd hx hb dX7_farthest_68 ?_
                    refine lv_topi (fun y_11 e_12 => ?_)
                    have e_12 : nI ((100 * a) + b) = y_11 := (e_12.trans (nI_add (100 * a) b)).symm
                    subst e_12
                    refine lv_goto (tgt := 73) hx hb dX7_farthest_69 (by decide) ?_
                    refine lv_istore_n (lv' := [(1, .int (nI ((100 * a) + b))), (5, .int 1), (0, .ref o), (2, .int (nI v1)), (3, .int (nI a)), (4, .int (nI b))]) hx hb dX7_farthest_73 rfl hl (by decide) rfl (fun ls hl => ?_)
                    refine lv_iload hx hb dX7_farthest_74 (lv_at hl 1 rfl) ?_
                    refine lv_if_eq (tgt := 86) hx hb dX7_farthest_76 (by decide) (fun c_76 => ?_) (fun c_76 => ?_)
                    · skip
                      exact absurd c_76 (by decide)
                    · skip
                      refine lv_iload hx hb dX7_farthest_79 (lv_at hl 5 rfl) ?_
                      refine lv_iload_n hx hb dX7_farthest_81 rfl (lv_at hl 4 rfl) ?_
                      refine lv_isub hx hb dX7_farthest_82 ?_
                      refine lv_topi (fun y_13 e_14 => ?_)
                      have e_14 : nI (b - a) = y_13 := (e_14.trans (pk_sub (by omega))).symm
                      subst e_14
                      refine lv_goto (tgt := 87) hx hb dX7_farthest_83 (by decide) ?_
                      refine lv_istore_n (lv' := [(2, .int (nI (b - a))), (1, .int (nI ((100 * a) + b))), (5, .int 1), (0, .ref o), (3, .int (nI a)), (4, .int (nI b))]) hx hb dX7_farthest_87 rfl hl (by decide) rfl (fun ls hl => ?_)
                      refine lv_iinc (v := nI (b + 1)) (lv' := [(4, .int (nI (b + 1))), (2, .int (nI (b - a))), (1, .int (nI ((100 * a) + b))), (5, .int 1), (0, .ref o), (3, .int (nI a))]) hx hb dX7_farthest_88 hl (k := 5) rfl (inc1 _) (by decide) rfl (fun ls hl => ?_)
                      refine lv_goto (tgt := 21) hx hb dX7_farthest_91 (by decide) ?_
                      exact ih_21 (b + 1) ((100 * a) + b) (b - a) (by omega) (by omega) (by omega) (by omega) (by rw [show b + 1 - (a + 1) = (b - (a + 1)) + 1 by omega, fin_T (by rw [hf1]; show v1 < _; omega) (by rw [show a + 1 + (b - (a + 1)) = b by omega]; exact c3)]; rw [show a + 1 + (b - (a + 1)) = b by omega, show b - (a + 1) + 1 = b - a by omega]) _ _ hP hS ls (lv_sub hl [4, 2, 1, 5, 0] rfl)
        exact L_21 _ (a + 1) u v (Nat.lt_succ_self _) (by omega) (by omega) (huv) (by rw [Nat.sub_self]; exact hf) _ _ hP hS ls (lv_sub hl [1, 2, 3, 4, 0] rfl)
  exact L_6 _ 0 1 0 (Nat.lt_succ_self _) (by omega) (by decide) (rfl) _ _ hP hS ls (lv_sub hl [3, 2, 1, 0] rfl)
