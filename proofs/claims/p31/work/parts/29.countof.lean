/-! count(w), of both -/
theorem prN_all {n : Nat} {P : Nat → Nat → Bool} (hn : n ≤ 20) : prN (fun a b => P a b && decide (nI (b - a) ≤ 19)) n = prN P n := by
  unfold prN
  refine fb_sm_cong (fun a ha => fb_ct_cong (fun b hb => ?_))
  have e : decide (nI (b - a) ≤ 19) = true := decide_eq_true ((nI_leI (a := b - a) (b := 19) (by omega) (by decide)).mpr (by omega))
  show (decide (a < b) && (P a b && decide (nI (b - a) ≤ 19))) = _
  rw [e, Bool.and_true]
theorem kX6_count_0 : ∀ w ∈ wsX60, w ∈ wsX6_count := by decide +kernel
theorem kX6_count_1 : (.fieldLink RX6 10 "SightRidge" "ridge" "LSightRidge$Profile;" : Cond) ∈ wsX6_count := by decide +kernel
theorem kX6_count_2 : ∀ w ∈ wsX30, w ∈ wsX6_count := by decide +kernel
theorem kX6_count_3 : (.fieldLink RX6 115 "SightRidge$Profile" "stations" "I" : Cond) ∈ wsX6_count := by decide +kernel
theorem kX6_count_4 : (.fieldLink RX6 91 "SightRidge$Profile" "range" "I" : Cond) ∈ wsX6_count := by decide +kernel
theorem kX6_count_5 : (.fieldLink RX6 95 "SightRidge$Profile" "bulge" "I" : Cond) ∈ wsX6_count := by decide +kernel
theorem kX6_count_6 : (.fieldLink RX6 22 "SightRidge" "history" "LSightRidge$History;" : Cond) ∈ wsX6_count := by decide +kernel
theorem kX6_count_7 : ∀ w ∈ wsX20, w ∈ wsX6_count := by decide +kernel
theorem kX6_count_8 : (.fieldLink RX6 98 "SightRidge$History" "size" "I" : Cond) ∈ wsX6_count := by decide +kernel
theorem kX6_count_9 : (.fieldLink RX6 29 "SightRidge" "text" "LSightRidge$Text;" : Cond) ∈ wsX6_count := by decide +kernel
theorem kX6_count_10 : ∀ w ∈ wsX50, w ∈ wsX6_count := by decide +kernel
theorem kX6_count_11 : (.fieldLink RX6 106 "SightRidge$Text" "length" "I" : Cond) ∈ wsX6_count := by decide +kernel
set_option maxHeartbeats 4000000 in
set_option maxRecDepth 100000 in
/-- count(w) -/
theorem c_X6_count (l : Launch) (D : va_G) (cI cB cO : ClassId) (z o2 h q o5 o6 o7 hq tq : Nat) (hz tn : Nat) (hj ta tf : Int32) (o ga ma : Nat) (n : Nat) (rg bl : Int32) (fg fm : Nat → Int32) (G M : Nat → Int32) (w : Int32) (hn : n ≤ 20) (hG : ∀ k, k < n → fg k = G k) (hM : ∀ k, k < n → fm k = M k) : Met l yX6_count wsX6_count (rmD 6) (rdPc D (tyL cI cB cO) [.ref z, .int w] [(z, .inr (6, [.ref o, .ref o2, .ref h, .ref q, .ref o5, .ref o6, .ref o7])), (o, .inr (3, [.ref ga, .ref ma, .int (nI n), .int rg, .int bl])), (ga, .inl (cI, 20, .inl fg)), (ma, .inl (cI, 20, .inl fm)), (h, .inr (2, [.ref hq, .int (nI hz), .int hj])), (q, .inr (5, [.ref tq, .int (nI tn), .int ta, .int tf]))]) (rdQi (fun r => r = A_count n rg bl G M hz tn w)) 0 0 noA := by
  refine Met.ofW (cc := cX6_count) (maxL := 2) (ret := (some .int)) (by decide) rfl ?_
  intro p e s m args below meth c s₁ B hml hv
  obtain ⟨rfl, hP, hK, hN⟩ := hv
  have hx := B.exec
  have hb := B.bytes
  have hr := B.returns
  have hts := atoms_spec (ws := wsX6_count) B.pre
  have hown : s.vm.findClass RX6 = some m.cls := findClass_of_methodNamed B.named
  have hlocks := B.notSynchronized
  have hS : va_S noA s.heap s.heap [] := va_S.rf
  have hl := lv_entry ([.ref z, .int w]) (n := 2) (Nat.le_of_ble_eq_true rfl)
  rw [lg_entry_eq]
  generalize (lg_sl ([.ref z, .int w]) ++ List.replicate (2 - (lg_sl ([.ref z, .int w])).length) Slot.unset).toArray = ls at hl ⊢
  have hl : lv_has ls 2 [(0, .ref z), (1, .int w)] := hl
  refine lv_iload_n hx hb dX6_count_0 rfl (lv_at hl 1 rfl) ?_
  rcases sw9 w with rfl | rfl | rfl | rfl | rfl | rfl | rfl | rfl | rfl | hw
  · skip
    refine lv_tableIn (off := 51) (tgt := 52) hx hb dX6_count_1 (by decide) (by decide) rfl (by decide) ?_
    refine lv_aload_n hx hb dX6_count_52 rfl (lv_at hl 0 rfl) ?_
    refine va_get (D := D) (ci := 6) (v := .ref o) (C := RX6) (T := TX6) (N := 7) hx hb hts kX6_count_0 hown hK hP 0 rfl rfl 0 (by decide) (hts (.fieldLink RX6 10 "SightRidge" "ridge" "LSightRidge$Profile;") kX6_count_1) (fun _ h9 => h9) rfl dX6_count_53 ?_
    refine va_get (D := D) (ci := 3) (v := .int (nI n)) (C := RX3) (T := TX3) (N := 5) hx hb hts kX6_count_2 hown hK hP 1 rfl rfl 2 (by decide) (hts (.fieldLink RX6 115 "SightRidge$Profile" "stations" "I") kX6_count_3) (fun _ h9 => h9) rfl dX6_count_56 ?_
    exact W.iret (v := nI n) hx hb hr (fun tS htS hWS => ⟨⟨nI n, (), rfl, rfl, trivial⟩, hS.F htS⟩) hS.2.2 dX6_count_59
  · skip
    refine lv_tableIn (off := 59) (tgt := 60) hx hb dX6_count_1 (by decide) (by decide) rfl (by decide) ?_
    refine lv_aload_n hx hb dX6_count_60 rfl (lv_at hl 0 rfl) ?_
    refine va_get (D := D) (ci := 6) (v := .ref o) (C := RX6) (T := TX6) (N := 7) hx hb hts kX6_count_0 hown hK hP 0 rfl rfl 0 (by decide) (hts (.fieldLink RX6 10 "SightRidge" "ridge" "LSightRidge$Profile;") kX6_count_1) (fun _ h9 => h9) rfl dX6_count_61 ?_
    refine rd_calli hP hS (va_runV (As := []) (rest := []) ⟨hx, hb, hml, hown, hts⟩ (c_X3_countMasts l D cI cB cO o ga ma n rg bl fg fm G M hn hG hM) (cwV 0 hts gX6_count_X3_countMasts rfl rfl rfl (by decide +kernel) ⟨Nat.le_of_ble_eq_true rfl, Nat.le_of_ble_eq_true rfl⟩) (rd_preV (r := (RX3, TX3, 5)) (ci := 3) hK (hP.pick [1, 2, 3] rfl) hN (q0 := 0) rfl rfl) rfl rfl hl.1 rfl (lv_room (Nat.le_of_ble_eq_true rfl)) dX6_count_64 ⟨Nat.le_refl _, Nat.le_refl _⟩) (fun r_64 H locs h_64 hP hS => ?_)
    exact W.iret (v := r_64) hx hb hr (fun tS htS hWS => ⟨⟨r_64, (), rfl, h_64.trans rfl, trivial⟩, hS.F htS⟩) hS.2.2 dX6_count_67
  · skip
    refine lv_tableIn (off := 67) (tgt := 68) hx hb dX6_count_1 (by decide) (by decide) rfl (by decide) ?_
    refine lv_aload_n hx hb dX6_count_68 rfl (lv_at hl 0 rfl) ?_
    refine va_get (D := D) (ci := 6) (v := .ref o) (C := RX6) (T := TX6) (N := 7) hx hb hts kX6_count_0 hown hK hP 0 rfl rfl 0 (by decide) (hts (.fieldLink RX6 10 "SightRidge" "ridge" "LSightRidge$Profile;") kX6_count_1) (fun _ h9 => h9) rfl dX6_count_69 ?_
    refine va_get (D := D) (ci := 3) (v := .int rg) (C := RX3) (T := TX3) (N := 5) hx hb hts kX6_count_2 hown hK hP 1 rfl rfl 3 (by decide) (hts (.fieldLink RX6 91 "SightRidge$Profile" "range" "I") kX6_count_4) (fun _ h9 => h9) rfl dX6_count_72 ?_
    exact W.iret (v := rg) hx hb hr (fun tS htS hWS => ⟨⟨rg, (), rfl, rfl, trivial⟩, hS.F htS⟩) hS.2.2 dX6_count_75
  · skip
    refine lv_tableIn (off := 75) (tgt := 76) hx hb dX6_count_1 (by decide) (by decide) rfl (by decide) ?_
    refine lv_aload_n hx hb dX6_count_76 rfl (lv_at hl 0 rfl) ?_
    refine va_get (D := D) (ci := 6) (v := .ref o) (C := RX6) (T := TX6) (N := 7) hx hb hts kX6_count_0 hown hK hP 0 rfl rfl 0 (by decide) (hts (.fieldLink RX6 10 "SightRidge" "ridge" "LSightRidge$Profile;") kX6_count_1) (fun _ h9 => h9) rfl dX6_count_77 ?_
    refine va_get (D := D) (ci := 3) (v := .int bl) (C := RX3) (T := TX3) (N := 5) hx hb hts kX6_count_2 hown hK hP 1 rfl rfl 4 (by decide) (hts (.fieldLink RX6 95 "SightRidge$Profile" "bulge" "I") kX6_count_5) (fun _ h9 => h9) rfl dX6_count_80 ?_
    exact W.iret (v := bl) hx hb hr (fun tS htS hWS => ⟨⟨bl, (), rfl, rfl, trivial⟩, hS.F htS⟩) hS.2.2 dX6_count_83
  · skip
    refine lv_tableIn (off := 83) (tgt := 84) hx hb dX6_count_1 (by decide) (by decide) rfl (by decide) ?_
    refine lv_aload_n hx hb dX6_count_84 rfl (lv_at hl 0 rfl) ?_
    refine va_get (D := D) (ci := 6) (v := .ref o) (C := RX6) (T := TX6) (N := 7) hx hb hts kX6_count_0 hown hK hP 0 rfl rfl 0 (by decide) (hts (.fieldLink RX6 10 "SightRidge" "ridge" "LSightRidge$Profile;") kX6_count_1) (fun _ h9 => h9) rfl dX6_count_85 ?_
    refine lv_bipush (v := 19) hx hb dX6_count_88 (by decide) ?_
    refine rd_calli hP hS (va_runV (As := [.int 19]) (rest := []) ⟨hx, hb, hml, hown, hts⟩ (c_X3_pairsWithin l D cI cB cO o ga ma n rg bl fg fm G M 19 hn hG hM) (cwV 1 hts gX6_count_X3_pairsWithin rfl rfl rfl (by decide +kernel) ⟨Nat.le_of_ble_eq_true rfl, Nat.le_of_ble_eq_true rfl⟩) (rd_preV (r := (RX3, TX3, 5)) (ci := 3) hK (hP.pick [1, 2, 3] rfl) hN (q0 := 0) rfl rfl) rfl rfl hl.1 rfl (lv_room (Nat.le_of_ble_eq_true rfl)) dX6_count_90 ⟨Nat.le_refl _, Nat.le_refl _⟩) (fun r_90 H locs h_90 hP hS => ?_)
    exact W.iret (v := r_90) hx hb hr (fun tS htS hWS => ⟨⟨r_90, (), rfl, h_90.trans ((congrArg nI (prN_all hn)).trans rfl), trivial⟩, hS.F htS⟩) hS.2.2 dX6_count_93
  · skip
    refine lv_tableIn (off := 93) (tgt := 94) hx hb dX6_count_1 (by decide) (by decide) rfl (by decide) ?_
    refine lv_aload_n hx hb dX6_count_94 rfl (lv_at hl 0 rfl) ?_
    refine va_get (D := D) (ci := 6) (v := .ref o) (C := RX6) (T := TX6) (N := 7) hx hb hts kX6_count_0 hown hK hP 0 rfl rfl 0 (by decide) (hts (.fieldLink RX6 10 "SightRidge" "ridge" "LSightRidge$Profile;") kX6_count_1) (fun _ h9 => h9) rfl dX6_count_95 ?_
    refine lv_aload_n hx hb dX6_count_98 rfl (lv_at hl 0 rfl) ?_
    refine va_get (D := D) (ci := 6) (v := .ref o) (C := RX6) (T := TX6) (N := 7) hx hb hts kX6_count_0 hown hK hP 0 rfl rfl 0 (by decide) (hts (.fieldLink RX6 10 "SightRidge" "ridge" "LSightRidge$Profile;") kX6_count_1) (fun _ h9 => h9) rfl dX6_count_99 ?_
    refine va_get (D := D) (ci := 3) (v := .int rg) (C := RX3) (T := TX3) (N := 5) hx hb hts kX6_count_2 hown hK hP 1 rfl rfl 3 (by decide) (hts (.fieldLink RX6 91 "SightRidge$Profile" "range" "I") kX6_count_4) (fun _ h9 => h9) rfl dX6_count_102 ?_
    refine rd_calli hP hS (va_runV (As := [.int rg]) (rest := []) ⟨hx, hb, hml, hown, hts⟩ (c_X3_pairsWithin l D cI cB cO o ga ma n rg bl fg fm G M rg hn hG hM) (cwV 1 hts gX6_count_X3_pairsWithin rfl rfl rfl (by decide +kernel) ⟨Nat.le_of_ble_eq_true rfl, Nat.le_of_ble_eq_true rfl⟩) (rd_preV (r := (RX3, TX3, 5)) (ci := 3) hK (hP.pick [1, 2, 3] rfl) hN (q0 := 0) rfl rfl) rfl rfl hl.1 rfl (lv_room (Nat.le_of_ble_eq_true rfl)) dX6_count_105 ⟨Nat.le_refl _, Nat.le_refl _⟩) (fun r_105 H locs h_105 hP hS => ?_)
    exact W.iret (v := r_105) hx hb hr (fun tS htS hWS => ⟨⟨r_105, (), rfl, h_105.trans rfl, trivial⟩, hS.F htS⟩) hS.2.2 dX6_count_108
  · skip
    refine lv_tableIn (off := 108) (tgt := 109) hx hb dX6_count_1 (by decide) (by decide) rfl (by decide) ?_
    refine lv_aload_n hx hb dX6_count_109 rfl (lv_at hl 0 rfl) ?_
    refine va_get (D := D) (ci := 6) (v := .ref h) (C := RX6) (T := TX6) (N := 7) hx hb hts kX6_count_0 hown hK hP 0 rfl rfl 2 (by decide) (hts (.fieldLink RX6 22 "SightRidge" "history" "LSightRidge$History;") kX6_count_6) (fun _ h9 => h9) rfl dX6_count_110 ?_
    refine va_get (D := D) (ci := 2) (v := .int (nI hz)) (C := RX2) (T := TX2) (N := 3) hx hb hts kX6_count_7 hown hK hP 4 rfl rfl 1 (by decide) (hts (.fieldLink RX6 98 "SightRidge$History" "size" "I") kX6_count_8) (fun _ h9 => h9) rfl dX6_count_113 ?_
    exact W.iret (v := nI hz) hx hb hr (fun tS htS hWS => ⟨⟨nI hz, (), rfl, rfl, trivial⟩, hS.F htS⟩) hS.2.2 dX6_count_116
  · skip
    refine lv_tableIn (off := 116) (tgt := 117) hx hb dX6_count_1 (by decide) (by decide) rfl (by decide) ?_
    refine lv_aload_n hx hb dX6_count_117 rfl (lv_at hl 0 rfl) ?_
    refine va_get (D := D) (ci := 6) (v := .ref q) (C := RX6) (T := TX6) (N := 7) hx hb hts kX6_count_0 hown hK hP 0 rfl rfl 3 (by decide) (hts (.fieldLink RX6 29 "SightRidge" "text" "LSightRidge$Text;") kX6_count_9) (fun _ h9 => h9) rfl dX6_count_118 ?_
    refine va_get (D := D) (ci := 5) (v := .int (nI tn)) (C := RX5) (T := TX5) (N := 4) hx hb hts kX6_count_10 hown hK hP 5 rfl rfl 1 (by decide) (hts (.fieldLink RX6 106 "SightRidge$Text" "length" "I") kX6_count_11) (fun _ h9 => h9) rfl dX6_count_121 ?_
    exact W.iret (v := nI tn) hx hb hr (fun tS htS hWS => ⟨⟨nI tn, (), rfl, rfl, trivial⟩, hS.F htS⟩) hS.2.2 dX6_count_124
  · skip
    refine lv_tableIn (off := 124) (tgt := 125) hx hb dX6_count_1 (by decide) (by decide) rfl (by decide) ?_
    refine lv_aload_n hx hb dX6_count_125 rfl (lv_at hl 0 rfl) ?_
    refine va_get (D := D) (ci := 6) (v := .ref o) (C := RX6) (T := TX6) (N := 7) hx hb hts kX6_count_0 hown hK hP 0 rfl rfl 0 (by decide) (hts (.fieldLink RX6 10 "SightRidge" "ridge" "LSightRidge$Profile;") kX6_count_1) (fun _ h9 => h9) rfl dX6_count_126 ?_
    refine rd_calli hP hS (va_runV (As := []) (rest := []) ⟨hx, hb, hml, hown, hts⟩ (c_X3_sumOfMasts l D cI cB cO o ga ma n rg bl fg fm G M hn hG hM) (cwV 0 hts gX6_count_X3_sumOfMasts rfl rfl rfl (by decide +kernel) ⟨Nat.le_of_ble_eq_true rfl, Nat.le_of_ble_eq_true rfl⟩) (rd_preV (r := (RX3, TX3, 5)) (ci := 3) hK (hP.pick [1, 2, 3] rfl) hN (q0 := 0) rfl rfl) rfl rfl hl.1 rfl (lv_room (Nat.le_of_ble_eq_true rfl)) dX6_count_129 ⟨Nat.le_refl _, Nat.le_refl _⟩) (fun r_129 H locs h_129 hP hS => ?_)
    exact W.iret (v := r_129) hx hb hr (fun tS htS hWS => ⟨⟨r_129, (), rfl, h_129.trans rfl, trivial⟩, hS.F htS⟩) hS.2.2 dX6_count_132
  · skip
    refine lv_tableOut (tgt := 133) hx hb dX6_count_1 (by omega) (by decide) ?_
    refine lv_bipush (v := (-2)) hx hb dX6_count_133 (by decide) ?_
    exact W.iret (v := -2) hx hb hr (fun tS htS hWS => ⟨⟨-2, (), rfl, (A_count_out hw).symm, trivial⟩, hS.F htS⟩) hS.2.2 dX6_count_135
