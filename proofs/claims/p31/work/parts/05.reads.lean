/-! the public methods that read, of the class -/
theorem kX6_station_0 : ∀ w ∈ wsX60, w ∈ wsX6_station := by decide +kernel
theorem kX6_station_1 : (.fieldLink RX6 10 "SightRidge" "ridge" "LSightRidge$Profile;" : Cond) ∈ wsX6_station := by decide +kernel
theorem kX6_station_2 : ∀ w ∈ wsX30, w ∈ wsX6_station := by decide +kernel
theorem kX6_station_3 : (.fieldLink RX6 73 "SightRidge$Profile" "grounds" "[I" : Cond) ∈ wsX6_station := by decide +kernel
theorem kX6_station_4 : (.fieldLink RX6 81 "SightRidge$Profile" "masts" "[I" : Cond) ∈ wsX6_station := by decide +kernel
set_option maxHeartbeats 4000000 in
set_option maxRecDepth 100000 in
/-- station(x, w) -/
theorem c_X6_station (l : Launch) (D : va_G) (cI cB cO : ClassId) (z : Nat) (fs : List Value) (o ga ma : Nat) (n : Nat) (rg bl : Int32) (fg fm : Nat → Int32) (G M : Nat → Int32) (x w : Int32) (hn : n ≤ 20) (hG : ∀ k, k < n → fg k = G k) (hM : ∀ k, k < n → fm k = M k) : Met l yX6_station wsX6_station (rmD 6) (rdPc D (tyL cI cB cO) [.ref z, .int x, .int w] [(z, .inr (6, .ref o :: fs)), (o, .inr (3, [.ref ga, .ref ma, .int (nI n), .int rg, .int bl])), (ga, .inl (cI, 20, .inl fg)), (ma, .inl (cI, 20, .inl fm))]) (rdQi (fun r => r = A_station n rg bl G M x w)) 0 0 noA := by
  refine Met.ofW (cc := cX6_station) (maxL := 3) (ret := (some .int)) (by decide) rfl ?_
  intro p e s m args below meth c s₁ B hml hv
  obtain ⟨rfl, hP, hK, hN⟩ := hv
  have hx := B.exec
  have hb := B.bytes
  have hr := B.returns
  have hts := atoms_spec (ws := wsX6_station) B.pre
  have hown : s.vm.findClass RX6 = some m.cls := findClass_of_methodNamed B.named
  have hlocks := B.notSynchronized
  have hS : va_S noA s.heap s.heap [] := va_S.rf
  have hl := lv_entry ([.ref z, .int x, .int w]) (n := 3) (Nat.le_of_ble_eq_true rfl)
  rw [lg_entry_eq]
  generalize (lg_sl ([.ref z, .int x, .int w]) ++ List.replicate (3 - (lg_sl ([.ref z, .int x, .int w])).length) Slot.unset).toArray = ls at hl ⊢
  have hl : lv_has ls 3 [(0, .ref z), (1, .int x), (2, .int w)] := hl
  refine lv_aload_n hx hb dX6_station_0 rfl (lv_at hl 0 rfl) ?_
  refine va_get (D := D) (ci := 6) (v := .ref o) (C := RX6) (T := TX6) (N := 7) hx hb hts kX6_station_0 hown hK hP 0 rfl rfl 0 (by decide) (hts (.fieldLink RX6 10 "SightRidge" "ridge" "LSightRidge$Profile;") kX6_station_1) (fun _ h9 => h9) rfl dX6_station_1 ?_
  refine lv_iload_n hx hb dX6_station_4 rfl (lv_at hl 1 rfl) ?_
  refine rd_calli hP hS (va_runV (As := [.int x]) (rest := []) ⟨hx, hb, hml, hown, hts⟩ (c_X3_has l D cI cB cO o ga ma n rg bl fg fm x ) (cwV 1 hts gX6_station_X3_has rfl rfl rfl (by decide +kernel) ⟨Nat.le_of_ble_eq_true rfl, Nat.le_of_ble_eq_true rfl⟩) (rd_preV (r := (RX3, TX3, 5)) (ci := 3) hK (hP.pick [1, 2, 3] rfl) hN (q0 := 0) rfl rfl) rfl rfl hl.1 rfl (lv_room (Nat.le_of_ble_eq_true rfl)) dX6_station_5 ⟨Nat.le_refl _, Nat.le_refl _⟩) (fun r_5 H locs h_5 hP hS => ?_)
  refine lv_if_ne (tgt := 14) hx hb dX6_station_8 (by decide) (fun c_8 => ?_) (fun c_8 => ?_)
  · skip
    have c1 := bI_n0 (fun q => c_8 (h_5.trans q))
    obtain ⟨k, hk, rfl⟩ := hasB_T c1 hn
    refine lv_iload_n hx hb dX6_station_14 rfl (lv_at hl 2 rfl) ?_
    rcases sw6 w with rfl | rfl | rfl | rfl | rfl | rfl | hw
    · skip
      refine lv_tableIn (off := 37) (tgt := 52) hx hb dX6_station_15 (by decide) (by decide) rfl (by decide) ?_
      refine lv_aload_n hx hb dX6_station_52 rfl (lv_at hl 0 rfl) ?_
      refine va_get (D := D) (ci := 6) (v := .ref o) (C := RX6) (T := TX6) (N := 7) hx hb hts kX6_station_0 hown hK hP 0 rfl rfl 0 (by decide) (hts (.fieldLink RX6 10 "SightRidge" "ridge" "LSightRidge$Profile;") kX6_station_1) (fun _ h9 => h9) rfl dX6_station_53 ?_
      refine va_get (D := D) (ci := 3) (v := .ref ga) (C := RX3) (T := TX3) (N := 5) hx hb hts kX6_station_2 hown hK hP 1 rfl rfl 0 (by decide) (hts (.fieldLink RX6 73 "SightRidge$Profile" "grounds" "[I") kX6_station_3) (fun _ h9 => h9) rfl dX6_station_56 ?_
      refine lv_iload_n hx hb dX6_station_59 rfl (lv_at hl 1 rfl) ?_
      refine va_iald hx hb hK hP 2 0 rfl rfl (i := nI k) (vp_in_nI (N := 20) (by omega) (by decide)) dX6_station_60 ?_
      rw [nI_clamp (n := k) (by omega)]
      refine lv_topi (fun y_1 e_2 => ?_)
      have e_2 : G k = y_1 := (e_2.trans (hG k hk)).symm
      subst e_2
      exact W.iret (v := G k) hx hb hr (fun tS htS hWS => ⟨⟨G k, (), rfl, (by rw [A_station_k hk hn]; rfl), trivial⟩, hS.F htS⟩) hS.2.2 dX6_station_61
    · skip
      refine lv_tableIn (off := 47) (tgt := 62) hx hb dX6_station_15 (by decide) (by decide) rfl (by decide) ?_
      refine lv_aload_n hx hb dX6_station_62 rfl (lv_at hl 0 rfl) ?_
      refine va_get (D := D) (ci := 6) (v := .ref o) (C := RX6) (T := TX6) (N := 7) hx hb hts kX6_station_0 hown hK hP 0 rfl rfl 0 (by decide) (hts (.fieldLink RX6 10 "SightRidge" "ridge" "LSightRidge$Profile;") kX6_station_1) (fun _ h9 => h9) rfl dX6_station_63 ?_
      refine va_get (D := D) (ci := 3) (v := .ref ma) (C := RX3) (T := TX3) (N := 5) hx hb hts kX6_station_2 hown hK hP 1 rfl rfl 1 (by decide) (hts (.fieldLink RX6 81 "SightRidge$Profile" "masts" "[I") kX6_station_4) (fun _ h9 => h9) rfl dX6_station_66 ?_
      refine lv_iload_n hx hb dX6_station_69 rfl (lv_at hl 1 rfl) ?_
      refine va_iald hx hb hK hP 3 0 rfl rfl (i := nI k) (vp_in_nI (N := 20) (by omega) (by decide)) dX6_station_70 ?_
      rw [nI_clamp (n := k) (by omega)]
      refine lv_topi (fun y_3 e_4 => ?_)
      have e_4 : M k = y_3 := (e_4.trans (hM k hk)).symm
      subst e_4
      exact W.iret (v := M k) hx hb hr (fun tS htS hWS => ⟨⟨M k, (), rfl, (by rw [A_station_k hk hn]; rfl), trivial⟩, hS.F htS⟩) hS.2.2 dX6_station_71
    · skip
      refine lv_tableIn (off := 57) (tgt := 72) hx hb dX6_station_15 (by decide) (by decide) rfl (by decide) ?_
      refine lv_aload_n hx hb dX6_station_72 rfl (lv_at hl 0 rfl) ?_
      refine va_get (D := D) (ci := 6) (v := .ref o) (C := RX6) (T := TX6) (N := 7) hx hb hts kX6_station_0 hown hK hP 0 rfl rfl 0 (by decide) (hts (.fieldLink RX6 10 "SightRidge" "ridge" "LSightRidge$Profile;") kX6_station_1) (fun _ h9 => h9) rfl dX6_station_73 ?_
      refine lv_iload_n hx hb dX6_station_76 rfl (lv_at hl 1 rfl) ?_
      refine rd_calli hP hS (va_runV (As := [.int (nI k)]) (rest := []) ⟨hx, hb, hml, hown, hts⟩ (c_X3_topOf l D cI cB cO o ga ma n rg bl fg fm G M k hn hG hM hk) (cwV 1 hts gX6_station_X3_topOf rfl rfl rfl (by decide +kernel) ⟨Nat.le_of_ble_eq_true rfl, Nat.le_of_ble_eq_true rfl⟩) (rd_preV (r := (RX3, TX3, 5)) (ci := 3) hK (hP.pick [1, 2, 3] rfl) hN (q0 := 0) rfl rfl) rfl rfl hl.1 rfl (lv_room (Nat.le_of_ble_eq_true rfl)) dX6_station_77 ⟨Nat.le_refl _, Nat.le_refl _⟩) (fun r_77 H locs h_77 hP hS => ?_)
      exact W.iret (v := r_77) hx hb hr (fun tS htS hWS => ⟨⟨r_77, (), rfl, (h_77.trans (by rw [A_station_k hk hn]; rfl)), trivial⟩, hS.F htS⟩) hS.2.2 dX6_station_80
    · skip
      refine lv_tableIn (off := 66) (tgt := 81) hx hb dX6_station_15 (by decide) (by decide) rfl (by decide) ?_
      refine lv_aload_n hx hb dX6_station_81 rfl (lv_at hl 0 rfl) ?_
      refine va_get (D := D) (ci := 6) (v := .ref o) (C := RX6) (T := TX6) (N := 7) hx hb hts kX6_station_0 hown hK hP 0 rfl rfl 0 (by decide) (hts (.fieldLink RX6 10 "SightRidge" "ridge" "LSightRidge$Profile;") kX6_station_1) (fun _ h9 => h9) rfl dX6_station_82 ?_
      refine lv_iload_n hx hb dX6_station_85 rfl (lv_at hl 1 rfl) ?_
      refine rd_calli hP hS (va_runV (As := [.int (nI k)]) (rest := []) ⟨hx, hb, hml, hown, hts⟩ (c_X3_contacts l D cI cB cO o ga ma n rg bl fg fm G M k hn hG hM hk) (cwV 1 hts gX6_station_X3_contacts rfl rfl rfl (by decide +kernel) ⟨Nat.le_of_ble_eq_true rfl, Nat.le_of_ble_eq_true rfl⟩) (rd_preV (r := (RX3, TX3, 5)) (ci := 3) hK (hP.pick [1, 2, 3] rfl) hN (q0 := 0) rfl rfl) rfl rfl hl.1 rfl (lv_room (Nat.le_of_ble_eq_true rfl)) dX6_station_86 ⟨Nat.le_refl _, Nat.le_refl _⟩) (fun r_86 H locs h_86 hP hS => ?_)
      exact W.iret (v := r_86) hx hb hr (fun tS htS hWS => ⟨⟨r_86, (), rfl, (h_86.trans (by rw [A_station_k hk hn]; rfl)), trivial⟩, hS.F htS⟩) hS.2.2 dX6_station_89
    · skip
      refine lv_tableIn (off := 75) (tgt := 90) hx hb dX6_station_15 (by decide) (by decide) rfl (by decide) ?_
      refine lv_aload_n hx hb dX6_station_90 rfl (lv_at hl 0 rfl) ?_
      refine va_get (D := D) (ci := 6) (v := .ref o) (C := RX6) (T := TX6) (N := 7) hx hb hts kX6_station_0 hown hK hP 0 rfl rfl 0 (by decide) (hts (.fieldLink RX6 10 "SightRidge" "ridge" "LSightRidge$Profile;") kX6_station_1) (fun _ h9 => h9) rfl dX6_station_91 ?_
      refine lv_iload_n hx hb dX6_station_94 rfl (lv_at hl 1 rfl) ?_
      refine lv_aload_n hx hb dX6_station_95 rfl (lv_at hl 0 rfl) ?_
      refine va_get (D := D) (ci := 6) (v := .ref o) (C := RX6) (T := TX6) (N := 7) hx hb hts kX6_station_0 hown hK hP 0 rfl rfl 0 (by decide) (hts (.fieldLink RX6 10 "SightRidge" "ridge" "LSightRidge$Profile;") kX6_station_1) (fun _ h9 => h9) rfl dX6_station_96 ?_
      refine lv_iload_n hx hb dX6_station_99 rfl (lv_at hl 1 rfl) ?_
      refine rd_calli hP hS (va_runV (As := [.int (nI k)]) (rest := [.int (nI k), .ref o]) ⟨hx, hb, hml, hown, hts⟩ (c_X3_topOf l D cI cB cO o ga ma n rg bl fg fm G M k hn hG hM hk) (cwV 1 hts gX6_station_X3_topOf rfl rfl rfl (by decide +kernel) ⟨Nat.le_of_ble_eq_true rfl, Nat.le_of_ble_eq_true rfl⟩) (rd_preV (r := (RX3, TX3, 5)) (ci := 3) hK (hP.pick [1, 2, 3] rfl) hN (q0 := 0) rfl rfl) rfl rfl hl.1 rfl (lv_room (Nat.le_of_ble_eq_true rfl)) dX6_station_100 ⟨Nat.le_refl _, Nat.le_refl _⟩) (fun r_100 H locs h_100 hP hS => ?_)
      subst h_100
      refine rd_calli hP hS (va_runV (As := [.int (nI k), .int (tp G M k)]) (rest := []) ⟨hx, hb, hml, hown, hts⟩ (c_X3_groundsSeen l D cI cB cO o ga ma n rg bl fg fm G M k (tp G M k) hn hG hM hk) (cwV 2 hts gX6_station_X3_groundsSeen rfl rfl rfl (by decide +kernel) ⟨Nat.le_of_ble_eq_true rfl, Nat.le_of_ble_eq_true rfl⟩) (rd_preV (r := (RX3, TX3, 5)) (ci := 3) hK (hP.pick [1, 2, 3] rfl) hN (q0 := 0) rfl rfl) rfl rfl hl.1 rfl (lv_room (Nat.le_of_ble_eq_true rfl)) dX6_station_103 ⟨Nat.le_refl _, Nat.le_refl _⟩) (fun r_103 H locs h_103 hP hS => ?_)
      exact W.iret (v := r_103) hx hb hr (fun tS htS hWS => ⟨⟨r_103, (), rfl, (h_103.trans (by rw [A_station_k hk hn]; rfl)), trivial⟩, hS.F htS⟩) hS.2.2 dX6_station_106
    · skip
      refine lv_tableIn (off := 92) (tgt := 107) hx hb dX6_station_15 (by decide) (by decide) rfl (by decide) ?_
      refine lv_aload_n hx hb dX6_station_107 rfl (lv_at hl 0 rfl) ?_
      refine va_get (D := D) (ci := 6) (v := .ref o) (C := RX6) (T := TX6) (N := 7) hx hb hts kX6_station_0 hown hK hP 0 rfl rfl 0 (by decide) (hts (.fieldLink RX6 10 "SightRidge" "ridge" "LSightRidge$Profile;") kX6_station_1) (fun _ h9 => h9) rfl dX6_station_108 ?_
      refine lv_iload_n hx hb dX6_station_111 rfl (lv_at hl 1 rfl) ?_
      refine rd_calli hP hS (va_runV (As := [.int (nI k)]) (rest := []) ⟨hx, hb, hml, hown, hts⟩ (c_X3_higherNeighbors l D cI cB cO o ga ma n rg bl fg fm G M k hn hG hM hk) (cwV 1 hts gX6_station_X3_higherNeighbors rfl rfl rfl (by decide +kernel) ⟨Nat.le_of_ble_eq_true rfl, Nat.le_of_ble_eq_true rfl⟩) (rd_preV (r := (RX3, TX3, 5)) (ci := 3) hK (hP.pick [1, 2, 3] rfl) hN (q0 := 0) rfl rfl) rfl rfl hl.1 rfl (lv_room (Nat.le_of_ble_eq_true rfl)) dX6_station_112 ⟨Nat.le_refl _, Nat.le_refl _⟩) (fun r_112 H locs h_112 hP hS => ?_)
      exact W.iret (v := r_112) hx hb hr (fun tS htS hWS => ⟨⟨r_112, (), rfl, (h_112.trans (by rw [A_station_k hk hn]; rfl)), trivial⟩, hS.F htS⟩) hS.2.2 dX6_station_115
    · skip
      refine lv_tableOut (tgt := 116) hx hb dX6_station_15 (by omega) (by decide) ?_
      refine lv_bipush (v := (-2)) hx hb dX6_station_116 (by decide) ?_
      exact W.iret (v := -2) hx hb hr (fun tS htS hWS => ⟨⟨-2, (), rfl, (by rw [A_station_k hk hn, stV_out hw]), trivial⟩, hS.F htS⟩) hS.2.2 dX6_station_118
  · skip
    have c1 := bI_e0 (h_5.symm.trans c_8)
    refine lv_bipush (v := (-2)) hx hb dX6_station_11 (by decide) ?_
    exact W.iret (v := -2) hx hb hr (fun tS htS hWS => ⟨⟨-2, (), rfl, (A_station_no c1).symm, trivial⟩, hS.F htS⟩) hS.2.2 dX6_station_13
theorem kX6_sees_0 : ∀ w ∈ wsX60, w ∈ wsX6_sees := by decide +kernel
theorem kX6_sees_1 : (.fieldLink RX6 10 "SightRidge" "ridge" "LSightRidge$Profile;" : Cond) ∈ wsX6_sees := by decide +kernel
set_option maxHeartbeats 4000000 in
set_option maxRecDepth 100000 in
/-- sees(x, y) -/
theorem c_X6_sees (l : Launch) (D : va_G) (cI cB cO : ClassId) (z : Nat) (fs : List Value) (o ga ma : Nat) (n : Nat) (rg bl : Int32) (fg fm : Nat → Int32) (G M : Nat → Int32) (x y : Int32) (hn : n ≤ 20) (hG : ∀ k, k < n → fg k = G k) (hM : ∀ k, k < n → fm k = M k) : Met l yX6_sees wsX6_sees (rmD 6) (rdPc D (tyL cI cB cO) [.ref z, .int x, .int y] [(z, .inr (6, .ref o :: fs)), (o, .inr (3, [.ref ga, .ref ma, .int (nI n), .int rg, .int bl])), (ga, .inl (cI, 20, .inl fg)), (ma, .inl (cI, 20, .inl fm))]) (rdQi (fun r => r = A_sees n bl G M x y)) 0 0 noA := by
  refine Met.ofW (cc := cX6_sees) (maxL := 3) (ret := (some .int)) (by decide) rfl ?_
  intro p e s m args below meth c s₁ B hml hv
  obtain ⟨rfl, hP, hK, hN⟩ := hv
  have hx := B.exec
  have hb := B.bytes
  have hr := B.returns
  have hts := atoms_spec (ws := wsX6_sees) B.pre
  have hown : s.vm.findClass RX6 = some m.cls := findClass_of_methodNamed B.named
  have hlocks := B.notSynchronized
  have hS : va_S noA s.heap s.heap [] := va_S.rf
  have hl := lv_entry ([.ref z, .int x, .int y]) (n := 3) (Nat.le_of_ble_eq_true rfl)
  rw [lg_entry_eq]
  generalize (lg_sl ([.ref z, .int x, .int y]) ++ List.replicate (3 - (lg_sl ([.ref z, .int x, .int y])).length) Slot.unset).toArray = ls at hl ⊢
  have hl : lv_has ls 3 [(0, .ref z), (1, .int x), (2, .int y)] := hl
  refine lv_aload_n hx hb dX6_sees_0 rfl (lv_at hl 0 rfl) ?_
  refine va_get (D := D) (ci := 6) (v := .ref o) (C := RX6) (T := TX6) (N := 7) hx hb hts kX6_sees_0 hown hK hP 0 rfl rfl 0 (by decide) (hts (.fieldLink RX6 10 "SightRidge" "ridge" "LSightRidge$Profile;") kX6_sees_1) (fun _ h9 => h9) rfl dX6_sees_1 ?_
  refine lv_iload_n hx hb dX6_sees_4 rfl (lv_at hl 1 rfl) ?_
  refine rd_calli hP hS (va_runV (As := [.int x]) (rest := []) ⟨hx, hb, hml, hown, hts⟩ (c_X3_has l D cI cB cO o ga ma n rg bl fg fm x ) (cwV 1 hts gX6_sees_X3_has rfl rfl rfl (by decide +kernel) ⟨Nat.le_of_ble_eq_true rfl, Nat.le_of_ble_eq_true rfl⟩) (rd_preV (r := (RX3, TX3, 5)) (ci := 3) hK (hP.pick [1, 2, 3] rfl) hN (q0 := 0) rfl rfl) rfl rfl hl.1 rfl (lv_room (Nat.le_of_ble_eq_true rfl)) dX6_sees_5 ⟨Nat.le_refl _, Nat.le_refl _⟩) (fun r_5 H locs h_5 hP hS => ?_)
  refine lv_if_eq (tgt := 22) hx hb dX6_sees_8 (by decide) (fun c_8 => ?_) (fun c_8 => ?_)
  · skip
    have d1 := bI_e0 (h_5.symm.trans c_8)
    refine lv_bipush (v := (-2)) hx hb dX6_sees_22 (by decide) ?_
    exact W.iret (v := -2) hx hb hr (fun tS htS hWS => ⟨⟨-2, (), rfl, (by unfold A_sees; rw [if_neg]; intro q; first | exact Bool.false_ne_true (d1.symm.trans q.1) | exact Bool.false_ne_true (d2.symm.trans q.2) | fail), trivial⟩, hS.F htS⟩) hS.2.2 dX6_sees_24
  · skip
    have d1 := bI_n0 (fun q => c_8 (h_5.trans q))
    refine lv_aload_n hx hb dX6_sees_11 rfl (lv_at hl 0 rfl) ?_
    refine va_get (D := D) (ci := 6) (v := .ref o) (C := RX6) (T := TX6) (N := 7) hx hb hts kX6_sees_0 hown hK hP 0 rfl rfl 0 (by decide) (hts (.fieldLink RX6 10 "SightRidge" "ridge" "LSightRidge$Profile;") kX6_sees_1) (fun _ h9 => h9) rfl dX6_sees_12 ?_
    refine lv_iload_n hx hb dX6_sees_15 rfl (lv_at hl 2 rfl) ?_
    refine rd_calli hP hS (va_runV (As := [.int y]) (rest := []) ⟨hx, hb, hml, hown, hts⟩ (c_X3_has l D cI cB cO o ga ma n rg bl fg fm y ) (cwV 1 hts gX6_sees_X3_has rfl rfl rfl (by decide +kernel) ⟨Nat.le_of_ble_eq_true rfl, Nat.le_of_ble_eq_true rfl⟩) (rd_preV (r := (RX3, TX3, 5)) (ci := 3) hK (hP.pick [1, 2, 3] rfl) hN (q0 := 0) rfl rfl) rfl rfl hl.1 rfl (lv_room (Nat.le_of_ble_eq_true rfl)) dX6_sees_16 ⟨Nat.le_refl _, Nat.le_refl _⟩) (fun r_16 H locs h_16 hP hS => ?_)
    refine lv_if_ne (tgt := 25) hx hb dX6_sees_19 (by decide) (fun c_19 => ?_) (fun c_19 => ?_)
    · skip
      have d2 := bI_n0 (fun q => c_19 (h_16.trans q))
      obtain ⟨a, ha, rfl⟩ := hasB_T d1 hn
      obtain ⟨b, hb0, rfl⟩ := hasB_T d2 hn
      refine lv_aload_n hx hb dX6_sees_25 rfl (lv_at hl 0 rfl) ?_
      refine va_get (D := D) (ci := 6) (v := .ref o) (C := RX6) (T := TX6) (N := 7) hx hb hts kX6_sees_0 hown hK hP 0 rfl rfl 0 (by decide) (hts (.fieldLink RX6 10 "SightRidge" "ridge" "LSightRidge$Profile;") kX6_sees_1) (fun _ h9 => h9) rfl dX6_sees_26 ?_
      refine lv_iload_n hx hb dX6_sees_29 rfl (lv_at hl 1 rfl) ?_
      refine lv_iload_n hx hb dX6_sees_30 rfl (lv_at hl 2 rfl) ?_
      refine rd_calli hP hS (va_runV (As := [.int (nI a), .int (nI b)]) (rest := []) ⟨hx, hb, hml, hown, hts⟩ (c_X3_topsSee l D cI cB cO o ga ma n rg bl fg fm G M a b hn hG hM ha hb0) (cwV 2 hts gX6_sees_X3_topsSee rfl rfl rfl (by decide +kernel) ⟨Nat.le_of_ble_eq_true rfl, Nat.le_of_ble_eq_true rfl⟩) (rd_preV (r := (RX3, TX3, 5)) (ci := 3) hK (hP.pick [1, 2, 3] rfl) hN (q0 := 0) rfl rfl) rfl rfl hl.1 rfl (lv_room (Nat.le_of_ble_eq_true rfl)) dX6_sees_31 ⟨Nat.le_refl _, Nat.le_refl _⟩) (fun r_31 H locs h_31 hP hS => ?_)
      refine lv_if_eq (tgt := 41) hx hb dX6_sees_34 (by decide) (fun c_34 => ?_) (fun c_34 => ?_)
      · skip
        have c3 := bI_e0 (h_31.symm.trans c_34)
        refine lv_iconst (v := 0) hx hb dX6_sees_41 (by decide) ?_
        exact W.iret (v := 0) hx hb hr (fun tS htS hWS => ⟨⟨0, (), rfl, (by unfold A_sees; rw [if_pos ⟨d1, d2⟩, cN_nI (by omega), cN_nI (by omega), c3]; rfl), trivial⟩, hS.F htS⟩) hS.2.2 dX6_sees_42
      · skip
        have c3 := bI_n0 (fun q => c_34 (h_31.trans q))
        refine lv_iconst (v := 1) hx hb dX6_sees_37 (by decide) ?_
        refine lv_goto (tgt := 42) hx hb dX6_sees_38 (by decide) ?_
        exact W.iret (v := 1) hx hb hr (fun tS htS hWS => ⟨⟨1, (), rfl, (by unfold A_sees; rw [if_pos ⟨d1, d2⟩, cN_nI (by omega), cN_nI (by omega), c3]; rfl), trivial⟩, hS.F htS⟩) hS.2.2 dX6_sees_42
    · skip
      have d2 := bI_e0 (h_16.symm.trans c_19)
      refine lv_bipush (v := (-2)) hx hb dX6_sees_22 (by decide) ?_
      exact W.iret (v := -2) hx hb hr (fun tS htS hWS => ⟨⟨-2, (), rfl, (by unfold A_sees; rw [if_neg]; intro q; first | exact Bool.false_ne_true (d1.symm.trans q.1) | exact Bool.false_ne_true (d2.symm.trans q.2) | fail), trivial⟩, hS.F htS⟩) hS.2.2 dX6_sees_24
theorem kX6_obstacle_0 : ∀ w ∈ wsX60, w ∈ wsX6_obstacle := by decide +kernel
theorem kX6_obstacle_1 : (.fieldLink RX6 10 "SightRidge" "ridge" "LSightRidge$Profile;" : Cond) ∈ wsX6_obstacle := by decide +kernel
set_option maxHeartbeats 4000000 in
set_option maxRecDepth 100000 in
/-- obstacle(x, y, w) -/
theorem c_X6_obstacle (l : Launch) (D : va_G) (cI cB cO : ClassId) (z : Nat) (fs : List Value) (o ga ma : Nat) (n : Nat) (rg bl : Int32) (fg fm : Nat → Int32) (G M : Nat → Int32) (x y w : Int32) (hn : n ≤ 20) (hG : ∀ k, k < n → fg k = G k) (hM : ∀ k, k < n → fm k = M k) : Met l yX6_obstacle wsX6_obstacle (rmD 6) (rdPc D (tyL cI cB cO) [.ref z, .int x, .int y, .int w] [(z, .inr (6, .ref o :: fs)), (o, .inr (3, [.ref ga, .ref ma, .int (nI n), .int rg, .int bl])), (ga, .inl (cI, 20, .inl fg)), (ma, .inl (cI, 20, .inl fm))]) (rdQi (fun r => r = A_obstacle n bl G M x y w)) 0 0 noA := by
  refine Met.ofW (cc := cX6_obstacle) (maxL := 5) (ret := (some .int)) (by decide) rfl ?_
  intro p e s m args below meth c s₁ B hml hv
  obtain ⟨rfl, hP, hK, hN⟩ := hv
  have hx := B.exec
  have hb := B.bytes
  have hr := B.returns
  have hts := atoms_spec (ws := wsX6_obstacle) B.pre
  have hown : s.vm.findClass RX6 = some m.cls := findClass_of_methodNamed B.named
  have hlocks := B.notSynchronized
  have hS : va_S noA s.heap s.heap [] := va_S.rf
  have hl := lv_entry ([.ref z, .int x, .int y, .int w]) (n := 5) (Nat.le_of_ble_eq_true rfl)
  rw [lg_entry_eq]
  generalize (lg_sl ([.ref z, .int x, .int y, .int w]) ++ List.replicate (5 - (lg_sl ([.ref z, .int x, .int y, .int w])).length) Slot.unset).toArray = ls at hl ⊢
  have hl : lv_has ls 5 [(0, .ref z), (1, .int x), (2, .int y), (3, .int w)] := hl
  refine lv_aload_n hx hb dX6_obstacle_0 rfl (lv_at hl 0 rfl) ?_
  refine va_get (D := D) (ci := 6) (v := .ref o) (C := RX6) (T := TX6) (N := 7) hx hb hts kX6_obstacle_0 hown hK hP 0 rfl rfl 0 (by decide) (hts (.fieldLink RX6 10 "SightRidge" "ridge" "LSightRidge$Profile;") kX6_obstacle_1) (fun _ h9 => h9) rfl dX6_obstacle_1 ?_
  refine lv_iload_n hx hb dX6_obstacle_4 rfl (lv_at hl 1 rfl) ?_
  refine lv_iload_n hx hb dX6_obstacle_5 rfl (lv_at hl 2 rfl) ?_
  refine rd_calli hP hS (va_runV (As := [.int x, .int y]) (rest := []) ⟨hx, hb, hml, hown, hts⟩ (c_X3_hasPair l D cI cB cO o ga ma n rg bl fg fm x y ) (cwV 2 hts gX6_obstacle_X3_hasPair rfl rfl rfl (by decide +kernel) ⟨Nat.le_of_ble_eq_true rfl, Nat.le_of_ble_eq_true rfl⟩) (rd_preV (r := (RX3, TX3, 5)) (ci := 3) hK (hP.pick [1, 2, 3] rfl) hN (q0 := 0) rfl rfl) rfl rfl hl.1 rfl (lv_room (Nat.le_of_ble_eq_true rfl)) dX6_obstacle_6 ⟨Nat.le_refl _, Nat.le_refl _⟩) (fun r_6 H locs h_6 hP hS => ?_)
  refine lv_if_eq (tgt := 21) hx hb dX6_obstacle_9 (by decide) (fun c_9 => ?_) (fun c_9 => ?_)
  · skip
    have d1 : pairB n x y = false := bI_e0 (h_6.symm.trans c_9)
    refine lv_bipush (v := (-2)) hx hb dX6_obstacle_21 (by decide) ?_
    exact W.iret (v := -2) hx hb hr (fun tS htS hWS => ⟨⟨-2, (), rfl, (by unfold A_obstacle; rw [if_neg]; intro q; first | exact Bool.false_ne_true (d1.symm.trans q.1) | exact Bool.false_ne_true (d2.symm.trans q.2) | fail), trivial⟩, hS.F htS⟩) hS.2.2 dX6_obstacle_23
  · skip
    have d1 : pairB n x y = true := bI_n0 (fun q => c_9 (h_6.trans q))
    refine lv_iload_n hx hb dX6_obstacle_12 rfl (lv_at hl 3 rfl) ?_
    refine lv_iconst (v := 0) hx hb dX6_obstacle_13 (by decide) ?_
    refine lv_iconst (v := 1) hx hb dX6_obstacle_14 (by decide) ?_
    refine rd_calli hP hS (va_runS (As := [.int w, .int 0, .int 1]) (rest := []) ⟨hx, hb, hml, hown, hts⟩ (c_X6_within l D cI cB cO w 0 1 ) (va_cwS 3 hts gX6_obstacle_X6_within rfl rfl rfl (by decide +kernel) ⟨Nat.le_of_ble_eq_true rfl, Nat.le_of_ble_eq_true rfl⟩) (rd_preS hK (hP.pick [] rfl) hN) rfl rfl hl.1 rfl (lv_room (Nat.le_of_ble_eq_true rfl)) dX6_obstacle_15 ⟨Nat.le_refl _, Nat.le_refl _⟩) (fun r_15 H locs h_15 hP hS => ?_)
    refine lv_if_ne (tgt := 24) hx hb dX6_obstacle_18 (by decide) (fun c_18 => ?_) (fun c_18 => ?_)
    · skip
      have d2 := bI_n0 (fun q => c_18 (h_15.trans q))
      obtain ⟨a, b, ha, hb0, hab, rfl, rfl⟩ := pairB_T d1 hn
      have ea : A_obstacle n bl G M (nI a) (nI b) w = if (obT bl G M a b).1 = -1 ∨ w = 0 then (obT bl G M a b).1 else (obT bl G M a b).2 := by unfold A_obstacle; rw [if_pos ⟨d1, d2⟩, cN_nI (by omega), cN_nI (by omega)]
      refine lv_aload_n hx hb dX6_obstacle_24 rfl (lv_at hl 0 rfl) ?_
      refine va_get (D := D) (ci := 6) (v := .ref o) (C := RX6) (T := TX6) (N := 7) hx hb hts kX6_obstacle_0 hown hK hP 0 rfl rfl 0 (by decide) (hts (.fieldLink RX6 10 "SightRidge" "ridge" "LSightRidge$Profile;") kX6_obstacle_1) (fun _ h9 => h9) rfl dX6_obstacle_25 ?_
      refine lv_iload_n hx hb dX6_obstacle_28 rfl (lv_at hl 1 rfl) ?_
      refine lv_iload_n hx hb dX6_obstacle_29 rfl (lv_at hl 2 rfl) ?_
      refine rd_calli hP hS (va_runV (As := [.int (nI a), .int (nI b)]) (rest := []) ⟨hx, hb, hml, hown, hts⟩ (c_X3_mostInTheWay l D cI cB cO o ga ma n rg bl fg fm G M a b hn hG hM ha hb0 hab) (cwV 2 hts gX6_obstacle_X3_mostInTheWay rfl rfl rfl (by decide +kernel) ⟨Nat.le_of_ble_eq_true rfl, Nat.le_of_ble_eq_true rfl⟩) (rd_preV (r := (RX3, TX3, 5)) (ci := 3) hK (hP.pick [1, 2, 3] rfl) hN (q0 := 0) rfl rfl) rfl rfl hl.1 rfl (lv_room (Nat.le_of_ble_eq_true rfl)) dX6_obstacle_30 ⟨Nat.le_refl _, Nat.le_refl _⟩) (fun r_30 H locs h_30 hP hS => ?_)
      have h_30 : r_30 = (obT bl G M a b).1 := h_30
      refine lv_istore (lv' := [(4, .int r_30), (0, .ref z), (1, .int (nI a)), (2, .int (nI b)), (3, .int w)]) hx hb dX6_obstacle_33 hl (by decide) rfl (fun ls hl => ?_)
      refine lv_iload hx hb dX6_obstacle_35 (lv_at hl 0 rfl) ?_
      refine lv_iconst (v := (-1)) hx hb dX6_obstacle_37 (by decide) ?_
      refine lv_icmp_eq (tgt := 45) hx hb dX6_obstacle_38 (by decide) (fun c_38 => ?_) (fun c_38 => ?_)
      · skip
        have e1 : (obT bl G M a b).1 = -1 := h_30.symm.trans c_38
        refine lv_iload hx hb dX6_obstacle_45 (lv_at hl 0 rfl) ?_
        exact W.iret (v := r_30) hx hb hr (fun tS htS hWS => ⟨⟨r_30, (), rfl, (by rw [ea]; first | (rw [if_pos (Or.inl e1)]; exact h_30) | (rw [if_pos (Or.inr c_42)]; exact h_30) | fail), trivial⟩, hS.F htS⟩) hS.2.2 dX6_obstacle_47
      · skip
        have e2 : ¬ (obT bl G M a b).1 = -1 := fun q => c_38 (h_30.trans q)
        obtain ⟨k, hk1, hk2, hk3, hk4⟩ := obs_val (clT bl G M a b) (min a b) (max a b - min a b - 1) e2
        have hk5 : nI k = r_30 := (h_30.trans hk3).symm
        subst hk5
        refine lv_iload_n hx hb dX6_obstacle_41 rfl (lv_at hl 4 rfl) ?_
        refine lv_if_ne (tgt := 48) hx hb dX6_obstacle_42 (by decide) (fun c_42 => ?_) (fun c_42 => ?_)
        · skip
          refine lv_aload_n hx hb dX6_obstacle_48 rfl (lv_at hl 1 rfl) ?_
          refine va_get (D := D) (ci := 6) (v := .ref o) (C := RX6) (T := TX6) (N := 7) hx hb hts kX6_obstacle_0 hown hK hP 0 rfl rfl 0 (by decide) (hts (.fieldLink RX6 10 "SightRidge" "ridge" "LSightRidge$Profile;") kX6_obstacle_1) (fun _ h9 => h9) rfl dX6_obstacle_49 ?_
          refine lv_iload_n hx hb dX6_obstacle_52 rfl (lv_at hl 2 rfl) ?_
          refine lv_aload_n hx hb dX6_obstacle_53 rfl (lv_at hl 1 rfl) ?_
          refine va_get (D := D) (ci := 6) (v := .ref o) (C := RX6) (T := TX6) (N := 7) hx hb hts kX6_obstacle_0 hown hK hP 0 rfl rfl 0 (by decide) (hts (.fieldLink RX6 10 "SightRidge" "ridge" "LSightRidge$Profile;") kX6_obstacle_1) (fun _ h9 => h9) rfl dX6_obstacle_54 ?_
          refine lv_iload_n hx hb dX6_obstacle_57 rfl (lv_at hl 2 rfl) ?_
          refine rd_calli hP hS (va_runV (As := [.int (nI a)]) (rest := [.int (nI a), .ref o]) ⟨hx, hb, hml, hown, hts⟩ (c_X3_topOf l D cI cB cO o ga ma n rg bl fg fm G M a hn hG hM ha) (cwV 1 hts gX6_obstacle_X3_topOf rfl rfl rfl (by decide +kernel) ⟨Nat.le_of_ble_eq_true rfl, Nat.le_of_ble_eq_true rfl⟩) (rd_preV (r := (RX3, TX3, 5)) (ci := 3) hK (hP.pick [1, 2, 3] rfl) hN (q0 := 0) rfl rfl) rfl rfl hl.1 rfl (lv_room (Nat.le_of_ble_eq_true rfl)) dX6_obstacle_58 ⟨Nat.le_refl _, Nat.le_refl _⟩) (fun r_58 H locs h_58 hP hS => ?_)
          subst h_58
          refine lv_iload_n hx hb dX6_obstacle_61 rfl (lv_at hl 3 rfl) ?_
          refine lv_aload_n hx hb dX6_obstacle_62 rfl (lv_at hl 1 rfl) ?_
          refine va_get (D := D) (ci := 6) (v := .ref o) (C := RX6) (T := TX6) (N := 7) hx hb hts kX6_obstacle_0 hown hK hP 0 rfl rfl 0 (by decide) (hts (.fieldLink RX6 10 "SightRidge" "ridge" "LSightRidge$Profile;") kX6_obstacle_1) (fun _ h9 => h9) rfl dX6_obstacle_63 ?_
          refine lv_iload_n hx hb dX6_obstacle_66 rfl (lv_at hl 3 rfl) ?_
          refine rd_calli hP hS (va_runV (As := [.int (nI b)]) (rest := [.int (nI b), .int (tp G M a), .int (nI a), .ref o]) ⟨hx, hb, hml, hown, hts⟩ (c_X3_topOf l D cI cB cO o ga ma n rg bl fg fm G M b hn hG hM hb0) (cwV 1 hts gX6_obstacle_X3_topOf rfl rfl rfl (by decide +kernel) ⟨Nat.le_of_ble_eq_true rfl, Nat.le_of_ble_eq_true rfl⟩) (rd_preV (r := (RX3, TX3, 5)) (ci := 3) hK (hP.pick [1, 2, 3] rfl) hN (q0 := 0) rfl rfl) rfl rfl hl.1 rfl (lv_room (Nat.le_of_ble_eq_true rfl)) dX6_obstacle_67 ⟨Nat.le_refl _, Nat.le_refl _⟩) (fun r_67 H locs h_67 hP hS => ?_)
          subst h_67
          refine lv_iload hx hb dX6_obstacle_70 (lv_at hl 0 rfl) ?_
          refine rd_calli hP hS (va_runV (As := [.int (nI a), .int (tp G M a), .int (nI b), .int (tp G M b), .int (nI k)]) (rest := []) ⟨hx, hb, hml, hown, hts⟩ (c_X3_clearance l D cI cB cO o ga ma n rg bl fg fm G M a (tp G M a) b (tp G M b) k hn hG hM (by omega) (by omega) (by omega)) (cwV 5 hts gX6_obstacle_X3_clearance rfl rfl rfl (by decide +kernel) ⟨Nat.le_of_ble_eq_true rfl, Nat.le_of_ble_eq_true rfl⟩) (rd_preV (r := (RX3, TX3, 5)) (ci := 3) hK (hP.pick [1, 2, 3] rfl) hN (q0 := 0) rfl rfl) rfl rfl hl.1 rfl (lv_room (Nat.le_of_ble_eq_true rfl)) dX6_obstacle_72 ⟨Nat.le_refl _, Nat.le_refl _⟩) (fun r_72 H locs h_72 hP hS => ?_)
          exact W.iret (v := r_72) hx hb hr (fun tS htS hWS => ⟨⟨r_72, (), rfl, (by rw [ea, if_neg (fun q => q.elim e2 c_42)]; exact h_72.trans hk4.symm), trivial⟩, hS.F htS⟩) hS.2.2 dX6_obstacle_75
        · skip
          refine lv_iload hx hb dX6_obstacle_45 (lv_at hl 0 rfl) ?_
          exact W.iret (v := nI k) hx hb hr (fun tS htS hWS => ⟨⟨nI k, (), rfl, (by rw [ea]; first | (rw [if_pos (Or.inl e1)]; exact h_30) | (rw [if_pos (Or.inr c_42)]; exact h_30) | fail), trivial⟩, hS.F htS⟩) hS.2.2 dX6_obstacle_47
    · skip
      have d2 := bI_e0 (h_15.symm.trans c_18)
      refine lv_bipush (v := (-2)) hx hb dX6_obstacle_21 (by decide) ?_
      exact W.iret (v := -2) hx hb hr (fun tS htS hWS => ⟨⟨-2, (), rfl, (by unfold A_obstacle; rw [if_neg]; intro q; first | exact Bool.false_ne_true (d1.symm.trans q.1) | exact Bool.false_ne_true (d2.symm.trans q.2) | fail), trivial⟩, hS.F htS⟩) hS.2.2 dX6_obstacle_23
theorem kX6_farthest_0 : ∀ w ∈ wsX60, w ∈ wsX6_farthest := by decide +kernel
theorem kX6_farthest_1 : (.fieldLink RX6 10 "SightRidge" "ridge" "LSightRidge$Profile;" : Cond) ∈ wsX6_farthest := by decide +kernel
theorem kX6_farthest_2 : ∀ w ∈ wsX30, w ∈ wsX6_farthest := by decide +kernel
theorem kX6_farthest_3 : (.fieldLink RX6 115 "SightRidge$Profile" "stations" "I" : Cond) ∈ wsX6_farthest := by decide +kernel
set_option maxHeartbeats 4000000 in
set_option maxRecDepth 100000 in
/-- farthest() -/
theorem c_X6_farthest (l : Launch) (D : va_G) (cI cB cO : ClassId) (z : Nat) (fs : List Value) (o ga ma : Nat) (n : Nat) (rg bl : Int32) (fg fm : Nat → Int32) (G M : Nat → Int32) (hn : n ≤ 20) (hn2 : 2 ≤ n) (hc01 : conB G M rg bl 0 1 = true) (hG : ∀ k, k < n → fg k = G k) (hM : ∀ k, k < n → fm k = M k) : Met l yX6_farthest wsX6_farthest (rmD 6) (rdPc D (tyL cI cB cO) [.ref z] [(z, .inr (6, .ref o :: fs)), (o, .inr (3, [.ref ga, .ref ma, .int (nI n), .int rg, .int bl])), (ga, .inl (cI, 20, .inl fg)), (ma, .inl (cI, 20, .inl fm))]) (rdQi (fun r => r = A_farthest n rg bl G M)) 0 0 noA := by
  refine Met.ofW (cc := cX6_farthest) (maxL := 5) (ret := (some .int)) (by decide) rfl ?_
  intro p e s m args below meth c s₁ B hml hv
  obtain ⟨rfl, hP, hK, hN⟩ := hv
  have hx := B.exec
  have hb := B.bytes
  have hr := B.returns
  have hts := atoms_spec (ws := wsX6_farthest) B.pre
  have hown : s.vm.findClass RX6 = some m.cls := findClass_of_methodNamed B.named
  have hlocks := B.notSynchronized
  have hS : va_S noA s.heap s.heap [] := va_S.rf
  have hl := lv_entry ([.ref z]) (n := 5) (Nat.le_of_ble_eq_true rfl)
  rw [lg_entry_eq]
  generalize (lg_sl ([.ref z]) ++ List.replicate (5 - (lg_sl ([.ref z])).length) Slot.unset).toArray = ls at hl ⊢
  have hl : lv_has ls 5 [(0, .ref z)] := hl
  refine lv_iconst (v := 0) hx hb dX6_farthest_0 (by decide) ?_
  refine lv_istore_n (lv' := [(1, .int 0), (0, .ref z)]) hx hb dX6_farthest_1 rfl hl (by decide) rfl (fun ls hl => ?_)
  refine lv_iconst (v := 1) hx hb dX6_farthest_2 (by decide) ?_
  refine lv_istore_n (lv' := [(2, .int 1), (1, .int 0), (0, .ref z)]) hx hb dX6_farthest_3 rfl hl (by decide) rfl (fun ls hl => ?_)
  refine lv_iconst (v := 0) hx hb dX6_farthest_4 (by decide) ?_
  refine lv_istore_n (lv' := [(3, .int 0), (2, .int 1), (1, .int 0), (0, .ref z)]) hx hb dX6_farthest_5 rfl hl (by decide) rfl (fun ls hl => ?_)
  have L_6 : ∀ (k_6 : Nat) (a : Nat) (u : Nat) (v : Nat), n - a < k_6 → (a ≤ n) → (u < v ∧ v ≤ 20) → (fout (conB G M rg bl) n (1, 1) a = (100 * u + v, v - u)) → ∀ (H : Heap) (locs : List Loc), va_P D vwCl [(z, .inr (6, .ref o :: fs)), (o, .inr (3, [.ref ga, .ref ma, .int (nI n), .int rg, .int bl])), (ga, .inl (cI, 20, .inl fg)), (ma, .inl (cI, 20, .inl fm))] H → va_S noA s.heap H locs → ∀ (ls : Array Slot), lv_has ls 5 [(0, .ref z), (1, .int (nI u)), (2, .int (nI v)), (3, .int (nI a))] → W p l e (rmD 6) s m ([.ref z] : List Value).toArray below meth c H locs 0 0 (MQ below (rdQi (fun r => r = A_farthest n rg bl G M)) ([.ref z] : List Value).toArray s 0 0 noA) (F0 m 6 ls []) := by
    intro k_6
    induction k_6 with
    | zero => intro a u v h9; exact absurd h9 (Nat.not_lt_zero _)
    | succ k_6 ih_6 =>
      intro a u v hm_6 hi huv hf H locs hP hS ls hl
      refine lv_iload_n hx hb dX6_farthest_6 rfl (lv_at hl 3 rfl) ?_
      refine lv_aload_n hx hb dX6_farthest_7 rfl (lv_at hl 0 rfl) ?_
      refine va_get (D := D) (ci := 6) (v := .ref o) (C := RX6) (T := TX6) (N := 7) hx hb hts kX6_farthest_0 hown hK hP 0 rfl rfl 0 (by decide) (hts (.fieldLink RX6 10 "SightRidge" "ridge" "LSightRidge$Profile;") kX6_farthest_1) (fun _ h9 => h9) rfl dX6_farthest_8 ?_
      refine va_get (D := D) (ci := 3) (v := .int (nI n)) (C := RX3) (T := TX3) (N := 5) hx hb hts kX6_farthest_2 hown hK hP 1 rfl rfl 2 (by decide) (hts (.fieldLink RX6 115 "SightRidge$Profile" "stations" "I") kX6_farthest_3) (fun _ h9 => h9) rfl dX6_farthest_11 ?_
      refine lv_icmp_ge (tgt := 74) hx hb dX6_farthest_14 (by decide) (fun c_14 => ?_) (fun c_14 => ?_)
      · skip
        have c0 : n ≤ a := ge_t (by omega) c_14
        refine lv_bipush (v := 100) hx hb dX6_farthest_74 (by decide) ?_
        refine lv_iload_n hx hb dX6_farthest_76 rfl (lv_at hl 1 rfl) ?_
        refine lv_imul hx hb dX6_farthest_77 ?_
        refine lv_topi (fun y_1 e_2 => ?_)
        have e_2 : nI (100 * u) = y_1 := (e_2.trans (pk_mul 100 u)).symm
        subst e_2
        refine lv_iload_n hx hb dX6_farthest_78 rfl (lv_at hl 2 rfl) ?_
        refine lv_iadd hx hb dX6_farthest_79 ?_
        refine lv_topi (fun y_3 e_4 => ?_)
        have e_4 : nI ((100 * u) + v) = y_3 := (e_4.trans (nI_add (100 * u) v)).symm
        subst e_4
        exact W.iret (v := nI ((100 * u) + v)) hx hb hr (fun tS htS hWS => ⟨⟨nI ((100 * u) + v), (), rfl, (by unfold A_farthest; rw [fout_one _ _ hn2 hc01 n (by omega), show fout (conB G M rg bl) n (1, 1) n = (100 * u + v, v - u) by rw [← hf, show a = n by omega]]), trivial⟩, hS.F htS⟩) hS.2.2 dX6_farthest_80
      · skip
        have c0 : a < n := ge_f (by omega) c_14
        refine lv_iload_n hx hb dX6_farthest_17 rfl (lv_at hl 3 rfl) ?_
        refine lv_iconst (v := 1) hx hb dX6_farthest_18 (by decide) ?_
        refine lv_iadd hx hb dX6_farthest_19 ?_
        refine lv_topi (fun y_5 e_6 => ?_)
        have e_6 : nI (a + 1) = y_5 := (e_6.trans (nI_add a 1)).symm
        subst e_6
        refine lv_istore (lv' := [(4, .int (nI (a + 1))), (0, .ref z), (1, .int (nI u)), (2, .int (nI v)), (3, .int (nI a))]) hx hb dX6_farthest_20 hl (by decide) rfl (fun ls hl => ?_)
        have L_22 : ∀ (k_22 : Nat) (b : Nat) (u1 : Nat) (v1 : Nat), n - b < k_22 → (a < b) → (b ≤ n) → (u1 < v1 ∧ v1 ≤ 20) → (fin (conB G M rg bl) a (b - (a + 1)) (fout (conB G M rg bl) n (1, 1) a) = (100 * u1 + v1, v1 - u1)) → ∀ (H : Heap) (locs : List Loc), va_P D vwCl [(z, .inr (6, .ref o :: fs)), (o, .inr (3, [.ref ga, .ref ma, .int (nI n), .int rg, .int bl])), (ga, .inl (cI, 20, .inl fg)), (ma, .inl (cI, 20, .inl fm))] H → va_S noA s.heap H locs → ∀ (ls : Array Slot), lv_has ls 5 [(0, .ref z), (1, .int (nI u1)), (2, .int (nI v1)), (3, .int (nI a)), (4, .int (nI b))] → W p l e (rmD 6) s m ([.ref z] : List Value).toArray below meth c H locs 0 0 (MQ below (rdQi (fun r => r = A_farthest n rg bl G M)) ([.ref z] : List Value).toArray s 0 0 noA) (F0 m 22 ls []) := by
          intro k_22
          induction k_22 with
          | zero => intro b u1 v1 h9; exact absurd h9 (Nat.not_lt_zero _)
          | succ k_22 ih_22 =>
            intro b u1 v1 hm_22 hj hj2 huv1 hf1 H locs hP hS ls hl
            refine lv_iload hx hb dX6_farthest_22 (lv_at hl 4 rfl) ?_
            refine lv_aload_n hx hb dX6_farthest_24 rfl (lv_at hl 0 rfl) ?_
            refine va_get (D := D) (ci := 6) (v := .ref o) (C := RX6) (T := TX6) (N := 7) hx hb hts kX6_farthest_0 hown hK hP 0 rfl rfl 0 (by decide) (hts (.fieldLink RX6 10 "SightRidge" "ridge" "LSightRidge$Profile;") kX6_farthest_1) (fun _ h9 => h9) rfl dX6_farthest_25 ?_
            refine va_get (D := D) (ci := 3) (v := .int (nI n)) (C := RX3) (T := TX3) (N := 5) hx hb hts kX6_farthest_2 hown hK hP 1 rfl rfl 2 (by decide) (hts (.fieldLink RX6 115 "SightRidge$Profile" "stations" "I") kX6_farthest_3) (fun _ h9 => h9) rfl dX6_farthest_28 ?_
            refine lv_icmp_ge (tgt := 68) hx hb dX6_farthest_31 (by decide) (fun c_31 => ?_) (fun c_31 => ?_)
            · skip
              have c1 : n ≤ b := ge_t (by omega) c_31
              have hd : fout (conB G M rg bl) n (1, 1) (a + 1) = (100 * u1 + v1, v1 - u1) := by rw [fout, show n - 1 - a = b - (a + 1) by omega]; exact hf1
              refine lv_iinc (v := nI (a + 1)) (lv' := [(3, .int (nI (a + 1))), (0, .ref z), (1, .int (nI u1)), (2, .int (nI v1)), (4, .int (nI b))]) hx hb dX6_farthest_68 hl (k := 3) rfl (inc1 _) (by decide) rfl (fun ls hl => ?_)
              refine lv_goto (tgt := 6) hx hb dX6_farthest_71 (by decide) ?_
              exact ih_6 (a + 1) u1 v1 (by omega) (by omega) (by omega) (hd) _ _ hP hS ls (lv_sub hl [1, 2, 3, 0] rfl)
            · skip
              have c1 : b < n := ge_f (by omega) c_31
              refine lv_iload hx hb dX6_farthest_34 (lv_at hl 4 rfl) ?_
              refine lv_iload_n hx hb dX6_farthest_36 rfl (lv_at hl 3 rfl) ?_
              refine lv_isub hx hb dX6_farthest_37 ?_
              refine lv_topi (fun y_7 e_8 => ?_)
              have e_8 : nI (b - a) = y_7 := (e_8.trans (pk_sub (by omega))).symm
              subst e_8
              refine lv_iload_n hx hb dX6_farthest_38 rfl (lv_at hl 2 rfl) ?_
              refine lv_iload_n hx hb dX6_farthest_39 rfl (lv_at hl 1 rfl) ?_
              refine lv_isub hx hb dX6_farthest_40 ?_
              refine lv_topi (fun y_9 e_10 => ?_)
              have e_10 : nI (v1 - u1) = y_9 := (e_10.trans (pk_sub (by omega))).symm
              subst e_10
              refine lv_icmp_le (tgt := 62) hx hb dX6_farthest_41 (by decide) (fun c_41 => ?_) (fun c_41 => ?_)
              · skip
                have c2 : b - a ≤ v1 - u1 := (nI_leI (by omega) (by omega)).mp c_41
                refine lv_iinc (v := nI (b + 1)) (lv' := [(4, .int (nI (b + 1))), (0, .ref z), (1, .int (nI u1)), (2, .int (nI v1)), (3, .int (nI a))]) hx hb dX6_farthest_62 hl (k := 4) rfl (inc1 _) (by decide) rfl (fun ls hl => ?_)
                refine lv_goto (tgt := 22) hx hb dX6_farthest_65 (by decide) ?_
                exact ih_22 (b + 1) u1 v1 (by omega) (by omega) (by omega) (by omega) (by rw [show b + 1 - (a + 1) = (b - (a + 1)) + 1 by omega, fin_F (fun q => by rw [hf1] at q; have q1 : v1 - u1 < _ := q.1; omega)]; exact hf1) _ _ hP hS ls (lv_sub hl [1, 2, 3, 4, 0] rfl)
              · skip
                have c2 : v1 - u1 < b - a := Nat.lt_of_not_le (fun q => c_41 ((nI_leI (by omega) (by omega)).mpr q))
                refine lv_aload_n hx hb dX6_farthest_44 rfl (lv_at hl 0 rfl) ?_
                refine va_get (D := D) (ci := 6) (v := .ref o) (C := RX6) (T := TX6) (N := 7) hx hb hts kX6_farthest_0 hown hK hP 0 rfl rfl 0 (by decide) (hts (.fieldLink RX6 10 "SightRidge" "ridge" "LSightRidge$Profile;") kX6_farthest_1) (fun _ h9 => h9) rfl dX6_farthest_45 ?_
                refine lv_iload_n hx hb dX6_farthest_48 rfl (lv_at hl 3 rfl) ?_
                refine lv_iload hx hb dX6_farthest_49 (lv_at hl 4 rfl) ?_
                refine rd_calli hP hS (va_runV (As := [.int (nI a), .int (nI b)]) (rest := []) ⟨hx, hb, hml, hown, hts⟩ (c_X3_inContact l D cI cB cO o ga ma n rg bl fg fm G M a b hn hG hM (by omega) c1) (cwV 2 hts gX6_farthest_X3_inContact rfl rfl rfl (by decide +kernel) ⟨Nat.le_of_ble_eq_true rfl, Nat.le_of_ble_eq_true rfl⟩) (rd_preV (r := (RX3, TX3, 5)) (ci := 3) hK (hP.pick [1, 2, 3] rfl) hN (q0 := 0) rfl rfl) rfl rfl hl.1 rfl (lv_room (Nat.le_of_ble_eq_true rfl)) dX6_farthest_51 ⟨Nat.le_refl _, Nat.le_refl _⟩) (fun r_51 H locs h_51 hP hS => ?_)
                refine lv_if_eq (tgt := 62) hx hb dX6_farthest_54 (by decide) (fun c_54 => ?_) (fun c_54 => ?_)
                · skip
                  have c3 := bI_e0 (h_51.symm.trans c_54)
                  refine lv_iinc (v := nI (b + 1)) (lv' := [(4, .int (nI (b + 1))), (0, .ref z), (1, .int (nI u1)), (2, .int (nI v1)), (3, .int (nI a))]) hx hb dX6_farthest_62 hl (k := 4) rfl (inc1 _) (by decide) rfl (fun ls hl => ?_)
                  refine lv_goto (tgt := 22) hx hb dX6_farthest_65 (by decide) ?_
                  exact ih_22 (b + 1) u1 v1 (by omega) (by omega) (by omega) (by omega) (by rw [show b + 1 - (a + 1) = (b - (a + 1)) + 1 by omega, fin_F (fun q => by rw [hf1, show a + 1 + (b - (a + 1)) = b by omega, c3] at q; exact Bool.false_ne_true q.2)]; exact hf1) _ _ hP hS ls (lv_sub hl [1, 2, 3, 4, 0] rfl)
                · skip
                  have c3 := bI_n0 (fun q => c_54 (h_51.trans q))
                  refine lv_iload_n hx hb dX6_farthest_57 rfl (lv_at hl 3 rfl) ?_
                  refine lv_istore_n (lv' := [(1, .int (nI a)), (0, .ref z), (2, .int (nI v1)), (3, .int (nI a)), (4, .int (nI b))]) hx hb dX6_farthest_58 rfl hl (by decide) rfl (fun ls hl => ?_)
                  refine lv_iload hx hb dX6_farthest_59 (lv_at hl 4 rfl) ?_
                  refine lv_istore_n (lv' := [(2, .int (nI b)), (1, .int (nI a)), (0, .ref z), (3, .int (nI a)), (4, .int (nI b))]) hx hb dX6_farthest_61 rfl hl (by decide) rfl (fun ls hl => ?_)
                  refine lv_iinc (v := nI (b + 1)) (lv' := [(4, .int (nI (b + 1))), (2, .int (nI b)), (1, .int (nI a)), (0, .ref z), (3, .int (nI a))]) hx hb dX6_farthest_62 hl (k := 4) rfl (inc1 _) (by decide) rfl (fun ls hl => ?_)
                  refine lv_goto (tgt := 22) hx hb dX6_farthest_65 (by decide) ?_
                  exact ih_22 (b + 1) a b (by omega) (by omega) (by omega) (by omega) (by rw [show b + 1 - (a + 1) = (b - (a + 1)) + 1 by omega, fin_T (by rw [hf1]; show v1 - u1 < _; omega) (by rw [show a + 1 + (b - (a + 1)) = b by omega]; exact c3)]; rw [show a + 1 + (b - (a + 1)) = b by omega, show b - (a + 1) + 1 = b - a by omega]) _ _ hP hS ls (lv_sub hl [3, 2, 1, 4, 0] rfl)
        exact L_22 _ (a + 1) u v (Nat.lt_succ_self _) (by omega) (by omega) (huv) (by rw [Nat.sub_self]; exact hf) _ _ hP hS ls (lv_sub hl [1, 2, 3, 4, 0] rfl)
  exact L_6 _ 0 0 1 (Nat.lt_succ_self _) (by omega) (⟨by decide, by decide⟩) (rfl) _ _ hP hS ls (lv_sub hl [3, 2, 1, 0] rfl)
