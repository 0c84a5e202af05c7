/-! the methods of Profile that read -/
theorem ge_t {i n : Nat} (h : n < 2 ^ 31) (c : nI n ≤ nI i) : n ≤ i := by
  rcases Nat.lt_or_ge i n with q | q
  · exact absurd c (nI_ge q h)
  · exact q
theorem ge_f {i n : Nat} (h : i < 2 ^ 31) (c : ¬ nI n ≤ nI i) : i < n := by
  rcases Nat.lt_or_ge i n with q | q
  · exact q
  · exact absurd (nI_le q h) c
theorem gt_t {i n : Nat} (h : n < 2 ^ 31) (c : nI n < nI i) : n < i := by
  rcases Nat.lt_or_ge n i with q | q
  · exact q
  · exact absurd c (nI_nlt q h)
theorem tb_1 {x k : Nat} (h : nI (x / 2 ^ k % 2) = 1) : x.testBit k = true := by
  rw [Nat.testBit_eq_decide_div_mod_eq]
  exact decide_eq_true ((nI_eq (by omega) (by omega)).mp (h.trans (rfl : (1 : Int32) = nI 1)))
theorem tb_0 {x k : Nat} (h : ¬ nI (x / 2 ^ k % 2) = 1) : x.testBit k = false := by
  rw [Nat.testBit_eq_decide_div_mod_eq]
  exact decide_eq_false (fun q => h (by rw [q]; rfl))
set_option maxHeartbeats 4000000 in
set_option maxRecDepth 100000 in
/-- within(v, a, b) -/
theorem c_X6_within (l : Launch) (D : va_G) (cI cB cO : ClassId) (v a b : Int32) : Met l yX6_within wsX6_within (rmD 1) (rdPc D (tyL cI cB cO) [.int v, .int a, .int b] []) (rdQi (fun r => r = bI (inB v a b))) 0 0 noA := by
  refine Met.ofW (cc := cX6_within) (maxL := 3) (ret := (some .boolean)) (by decide) rfl ?_
  intro p e s m args below meth c s₁ B hml hv
  obtain ⟨rfl, hP, hK, hN⟩ := hv
  have hx := B.exec
  have hb := B.bytes
  have hr := B.returns
  have hts := atoms_spec (ws := wsX6_within) B.pre
  have hown : s.vm.findClass RX6 = some m.cls := findClass_of_methodNamed B.named
  have hlocks := B.notSynchronized
  have hS : va_S noA s.heap s.heap [] := va_S.rf
  have hl := lv_entry ([.int v, .int a, .int b]) (n := 3) (Nat.le_of_ble_eq_true rfl)
  rw [lg_entry_eq]
  generalize (lg_sl ([.int v, .int a, .int b]) ++ List.replicate (3 - (lg_sl ([.int v, .int a, .int b])).length) Slot.unset).toArray = ls at hl ⊢
  have hl : lv_has ls 3 [(0, .int v), (1, .int a), (2, .int b)] := hl
  refine lv_iload_n hx hb dX6_within_0 rfl (lv_at hl 0 rfl) ?_
  refine lv_iload_n hx hb dX6_within_1 rfl (lv_at hl 1 rfl) ?_
  refine lv_icmp_lt (tgt := 14) hx hb dX6_within_2 (by decide) (fun c_2 => ?_) (fun c_2 => ?_)
  · skip
    refine lv_iconst (v := 0) hx hb dX6_within_14 (by decide) ?_
    exact W.zret (v := 0) hx hb hr (rfl) (fun tS htS hWS => ⟨⟨0, (), rfl, (by unfold inB; first | exact bI_t (decide_eq_true ⟨Int32.not_lt.mp c_2, Int32.not_lt.mp c_7⟩) | exact bI_f (decide_eq_false (fun q => absurd q.1 (Int32.not_le.mpr c_2))) | exact bI_f (decide_eq_false (fun q => absurd q.2 (Int32.not_le.mpr c_7)))), trivial⟩, hS.F htS⟩) hS.2.2 dX6_within_15
  · skip
    refine lv_iload_n hx hb dX6_within_5 rfl (lv_at hl 0 rfl) ?_
    refine lv_iload_n hx hb dX6_within_6 rfl (lv_at hl 2 rfl) ?_
    refine lv_icmp_gt (tgt := 14) hx hb dX6_within_7 (by decide) (fun c_7 => ?_) (fun c_7 => ?_)
    · skip
      refine lv_iconst (v := 0) hx hb dX6_within_14 (by decide) ?_
      exact W.zret (v := 0) hx hb hr (rfl) (fun tS htS hWS => ⟨⟨0, (), rfl, (by unfold inB; first | exact bI_t (decide_eq_true ⟨Int32.not_lt.mp c_2, Int32.not_lt.mp c_7⟩) | exact bI_f (decide_eq_false (fun q => absurd q.1 (Int32.not_le.mpr c_2))) | exact bI_f (decide_eq_false (fun q => absurd q.2 (Int32.not_le.mpr c_7)))), trivial⟩, hS.F htS⟩) hS.2.2 dX6_within_15
    · skip
      refine lv_iconst (v := 1) hx hb dX6_within_10 (by decide) ?_
      refine lv_goto (tgt := 15) hx hb dX6_within_11 (by decide) ?_
      exact W.zret (v := 1) hx hb hr (rfl) (fun tS htS hWS => ⟨⟨1, (), rfl, (by unfold inB; first | exact bI_t (decide_eq_true ⟨Int32.not_lt.mp c_2, Int32.not_lt.mp c_7⟩) | exact bI_f (decide_eq_false (fun q => absurd q.1 (Int32.not_le.mpr c_2))) | exact bI_f (decide_eq_false (fun q => absurd q.2 (Int32.not_le.mpr c_7)))), trivial⟩, hS.F htS⟩) hS.2.2 dX6_within_15
set_option maxHeartbeats 4000000 in
set_option maxRecDepth 100000 in
/-- holds(set, s) -/
theorem c_X6_holds (l : Launch) (D : va_G) (cI cB cO : ClassId) (x k : Nat) (hx0 : x < 2 ^ 31) (hk : k < 32) : Met l yX6_holds wsX6_holds (rmD 1) (rdPc D (tyL cI cB cO) [.int (nI x), .int (nI k)] []) (rdQi (fun r => r = bI (x.testBit k))) 0 0 noA := by
  refine Met.ofW (cc := cX6_holds) (maxL := 2) (ret := (some .boolean)) (by decide) rfl ?_
  intro p e s m args below meth c s₁ B hml hv
  obtain ⟨rfl, hP, hK, hN⟩ := hv
  have hx := B.exec
  have hb := B.bytes
  have hr := B.returns
  have hts := atoms_spec (ws := wsX6_holds) B.pre
  have hown : s.vm.findClass RX6 = some m.cls := findClass_of_methodNamed B.named
  have hlocks := B.notSynchronized
  have hS : va_S noA s.heap s.heap [] := va_S.rf
  have hl := lv_entry ([.int (nI x), .int (nI k)]) (n := 2) (Nat.le_of_ble_eq_true rfl)
  rw [lg_entry_eq]
  generalize (lg_sl ([.int (nI x), .int (nI k)]) ++ List.replicate (2 - (lg_sl ([.int (nI x), .int (nI k)])).length) Slot.unset).toArray = ls at hl ⊢
  have hl : lv_has ls 2 [(0, .int (nI x)), (1, .int (nI k))] := hl
  refine lv_iload_n hx hb dX6_holds_0 rfl (lv_at hl 0 rfl) ?_
  refine lv_iload_n hx hb dX6_holds_1 rfl (lv_at hl 1 rfl) ?_
  refine lv_ishr hx hb dX6_holds_2 ?_
  refine lv_topi (fun y_1 e_2 => ?_)
  have e_2 : nI (x / 2 ^ k) = y_1 := (e_2.trans (pk_shrN hx0 (nI k &&& 31) k (s_l k hk))).symm
  subst e_2
  refine lv_iconst (v := 1) hx hb dX6_holds_3 (by decide) ?_
  refine lv_iand hx hb dX6_holds_4 ?_
  refine lv_topi (fun y_3 e_4 => ?_)
  have e_4 : nI (x / 2 ^ k % 2) = y_3 := (e_4.trans (pk_andN (by have := Nat.div_le_self x (2 ^ k); omega) 1 (by decide))).symm
  subst e_4
  refine lv_iconst (v := 1) hx hb dX6_holds_5 (by decide) ?_
  refine lv_icmp_ne (tgt := 13) hx hb dX6_holds_6 (by decide) (fun c_6 => ?_) (fun c_6 => ?_)
  · skip
    refine lv_iconst (v := 0) hx hb dX6_holds_13 (by decide) ?_
    exact W.zret (v := 0) hx hb hr (rfl) (fun tS htS hWS => ⟨⟨0, (), rfl, (by first | exact bI_t (tb_1 c_6) | exact bI_f (tb_0 c_6)), trivial⟩, hS.F htS⟩) hS.2.2 dX6_holds_14
  · skip
    refine lv_iconst (v := 1) hx hb dX6_holds_9 (by decide) ?_
    refine lv_goto (tgt := 14) hx hb dX6_holds_10 (by decide) ?_
    exact W.zret (v := 1) hx hb hr (rfl) (fun tS htS hWS => ⟨⟨1, (), rfl, (by first | exact bI_t (tb_1 c_6) | exact bI_f (tb_0 c_6)), trivial⟩, hS.F htS⟩) hS.2.2 dX6_holds_14
theorem kX3_has_0 : ∀ w ∈ wsX30, w ∈ wsX3_has := by decide +kernel
theorem kX3_has_1 : (.fieldLink RX3 18 "SightRidge$Profile" "stations" "I" : Cond) ∈ wsX3_has := by decide +kernel
set_option maxHeartbeats 4000000 in
set_option maxRecDepth 100000 in
/-- has(x) -/
theorem c_X3_has (l : Launch) (D : va_G) (cI cB cO : ClassId) (o ga ma : Nat) (n : Nat) (rg bl : Int32) (fg fm : Nat → Int32) (x : Int32) : Met l yX3_has wsX3_has (rmD 1) (rdPc D (tyL cI cB cO) [.ref o, .int x] [(o, .inr (3, [.ref ga, .ref ma, .int (nI n), .int rg, .int bl])), (ga, .inl (cI, 20, .inl fg)), (ma, .inl (cI, 20, .inl fm))]) (rdQi (fun r => r = bI (hasB n x))) 0 0 noA := by
  refine Met.ofW (cc := cX3_has) (maxL := 2) (ret := (some .boolean)) (by decide) rfl ?_
  intro p e s m args below meth c s₁ B hml hv
  obtain ⟨rfl, hP, hK, hN⟩ := hv
  have hx := B.exec
  have hb := B.bytes
  have hr := B.returns
  have hts := atoms_spec (ws := wsX3_has) B.pre
  have hown : s.vm.findClass RX3 = some m.cls := findClass_of_methodNamed B.named
  have hlocks := B.notSynchronized
  have hS : va_S noA s.heap s.heap [] := va_S.rf
  have hl := lv_entry ([.ref o, .int x]) (n := 2) (Nat.le_of_ble_eq_true rfl)
  rw [lg_entry_eq]
  generalize (lg_sl ([.ref o, .int x]) ++ List.replicate (2 - (lg_sl ([.ref o, .int x])).length) Slot.unset).toArray = ls at hl ⊢
  have hl : lv_has ls 2 [(0, .ref o), (1, .int x)] := hl
  refine lv_iload_n hx hb dX3_has_0 rfl (lv_at hl 1 rfl) ?_
  refine lv_if_lt (tgt := 16) hx hb dX3_has_1 (by decide) (fun c_1 => ?_) (fun c_1 => ?_)
  · skip
    refine lv_iconst (v := 0) hx hb dX3_has_16 (by decide) ?_
    exact W.zret (v := 0) hx hb hr (rfl) (fun tS htS hWS => ⟨⟨0, (), rfl, (by unfold hasB; first | exact bI_t (decide_eq_true ⟨c_1, Int32.not_le.mp c_9⟩) | exact bI_f (decide_eq_false (fun q => q.1 c_1)) | exact bI_f (decide_eq_false (fun q => absurd q.2 (Int32.not_lt.mpr c_9)))), trivial⟩, hS.F htS⟩) hS.2.2 dX3_has_17
  · skip
    refine lv_iload_n hx hb dX3_has_4 rfl (lv_at hl 1 rfl) ?_
    refine lv_aload_n hx hb dX3_has_5 rfl (lv_at hl 0 rfl) ?_
    refine va_get (D := D) (ci := 3) (v := .int (nI n)) (C := RX3) (T := TX3) (N := 5) hx hb hts kX3_has_0 hown hK hP 0 rfl rfl 2 (by decide) (hts (.fieldLink RX3 18 "SightRidge$Profile" "stations" "I") kX3_has_1) (fun _ h9 => h9) rfl dX3_has_6 ?_
    refine lv_icmp_ge (tgt := 16) hx hb dX3_has_9 (by decide) (fun c_9 => ?_) (fun c_9 => ?_)
    · skip
      refine lv_iconst (v := 0) hx hb dX3_has_16 (by decide) ?_
      exact W.zret (v := 0) hx hb hr (rfl) (fun tS htS hWS => ⟨⟨0, (), rfl, (by unfold hasB; first | exact bI_t (decide_eq_true ⟨c_1, Int32.not_le.mp c_9⟩) | exact bI_f (decide_eq_false (fun q => q.1 c_1)) | exact bI_f (decide_eq_false (fun q => absurd q.2 (Int32.not_lt.mpr c_9)))), trivial⟩, hS.F htS⟩) hS.2.2 dX3_has_17
    · skip
      refine lv_iconst (v := 1) hx hb dX3_has_12 (by decide) ?_
      refine lv_goto (tgt := 17) hx hb dX3_has_13 (by decide) ?_
      exact W.zret (v := 1) hx hb hr (rfl) (fun tS htS hWS => ⟨⟨1, (), rfl, (by unfold hasB; first | exact bI_t (decide_eq_true ⟨c_1, Int32.not_le.mp c_9⟩) | exact bI_f (decide_eq_false (fun q => q.1 c_1)) | exact bI_f (decide_eq_false (fun q => absurd q.2 (Int32.not_lt.mpr c_9)))), trivial⟩, hS.F htS⟩) hS.2.2 dX3_has_17
set_option maxHeartbeats 4000000 in
set_option maxRecDepth 100000 in
/-- hasPair(x, y) -/
theorem c_X3_hasPair (l : Launch) (D : va_G) (cI cB cO : ClassId) (o ga ma : Nat) (n : Nat) (rg bl : Int32) (fg fm : Nat → Int32) (x y : Int32) : Met l yX3_hasPair wsX3_hasPair (rmD 2) (rdPc D (tyL cI cB cO) [.ref o, .int x, .int y] [(o, .inr (3, [.ref ga, .ref ma, .int (nI n), .int rg, .int bl])), (ga, .inl (cI, 20, .inl fg)), (ma, .inl (cI, 20, .inl fm))]) (rdQi (fun r => r = bI (decide (hasB n x = true ∧ hasB n y = true ∧ x ≠ y)))) 0 0 noA := by
  refine Met.ofW (cc := cX3_hasPair) (maxL := 3) (ret := (some .boolean)) (by decide) rfl ?_
  intro p e s m args below meth c s₁ B hml hv
  obtain ⟨rfl, hP, hK, hN⟩ := hv
  have hx := B.exec
  have hb := B.bytes
  have hr := B.returns
  have hts := atoms_spec (ws := wsX3_hasPair) B.pre
  have hown : s.vm.findClass RX3 = some m.cls := findClass_of_methodNamed B.named
  have hlocks := B.notSynchronized
  have hS : va_S noA s.heap s.heap [] := va_S.rf
  have hl := lv_entry ([.ref o, .int x, .int y]) (n := 3) (Nat.le_of_ble_eq_true rfl)
  rw [lg_entry_eq]
  generalize (lg_sl ([.ref o, .int x, .int y]) ++ List.replicate (3 - (lg_sl ([.ref o, .int x, .int y])).length) Slot.unset).toArray = ls at hl ⊢
  have hl : lv_has ls 3 [(0, .ref o), (1, .int x), (2, .int y)] := hl
  refine lv_aload_n hx hb dX3_hasPair_0 rfl (lv_at hl 0 rfl) ?_
  refine lv_iload_n hx hb dX3_hasPair_1 rfl (lv_at hl 1 rfl) ?_
  refine rd_calli hP hS (va_runV (As := [.int x]) (rest := []) ⟨hx, hb, hml, hown, hts⟩ (c_X3_has l D cI cB cO o ga ma n rg bl fg fm x ) (cwV 1 hts gX3_hasPair_X3_has rfl rfl rfl (by decide +kernel) ⟨Nat.le_of_ble_eq_true rfl, Nat.le_of_ble_eq_true rfl⟩) (rd_preV (r := (RX3, TX3, 5)) (ci := 3) hK (hP.pick [0, 1, 2] rfl) hN (q0 := 0) rfl rfl) rfl rfl hl.1 rfl (lv_room (Nat.le_of_ble_eq_true rfl)) dX3_hasPair_2 ⟨Nat.le_refl _, Nat.le_refl _⟩) (fun r_2 H locs h_2 hP hS => ?_)
  refine lv_if_eq (tgt := 25) hx hb dX3_hasPair_5 (by decide) (fun c_5 => ?_) (fun c_5 => ?_)
  · skip
    have c1 := bI_e0 (h_2 ▸ c_5)
    refine lv_iconst (v := 0) hx hb dX3_hasPair_25 (by decide) ?_
    exact W.zret (v := 0) hx hb hr (rfl) (fun tS htS hWS => ⟨⟨0, (), rfl, (by first | exact bI_t (decide_eq_true ⟨c1, c2, c_18⟩) | exact bI_f (decide_eq_false (fun q => q.2.2 c_18)) | exact bI_f (decide_eq_false (fun q => Bool.false_ne_true (c2.symm.trans q.2.1))) | exact bI_f (decide_eq_false (fun q => Bool.false_ne_true (c1.symm.trans q.1))) | fail), trivial⟩, hS.F htS⟩) hS.2.2 dX3_hasPair_26
  · skip
    have c1 := bI_n0 (fun q => c_5 (h_2.trans q))
    refine lv_aload_n hx hb dX3_hasPair_8 rfl (lv_at hl 0 rfl) ?_
    refine lv_iload_n hx hb dX3_hasPair_9 rfl (lv_at hl 2 rfl) ?_
    refine rd_calli hP hS (va_runV (As := [.int y]) (rest := []) ⟨hx, hb, hml, hown, hts⟩ (c_X3_has l D cI cB cO o ga ma n rg bl fg fm y ) (cwV 1 hts gX3_hasPair_X3_has rfl rfl rfl (by decide +kernel) ⟨Nat.le_of_ble_eq_true rfl, Nat.le_of_ble_eq_true rfl⟩) (rd_preV (r := (RX3, TX3, 5)) (ci := 3) hK (hP.pick [0, 1, 2] rfl) hN (q0 := 0) rfl rfl) rfl rfl hl.1 rfl (lv_room (Nat.le_of_ble_eq_true rfl)) dX3_hasPair_10 ⟨Nat.le_refl _, Nat.le_refl _⟩) (fun r_10 H locs h_10 hP hS => ?_)
    refine lv_if_eq (tgt := 25) hx hb dX3_hasPair_13 (by decide) (fun c_13 => ?_) (fun c_13 => ?_)
    · skip
      have c2 := bI_e0 (h_10 ▸ c_13)
      refine lv_iconst (v := 0) hx hb dX3_hasPair_25 (by decide) ?_
      exact W.zret (v := 0) hx hb hr (rfl) (fun tS htS hWS => ⟨⟨0, (), rfl, (by first | exact bI_t (decide_eq_true ⟨c1, c2, c_18⟩) | exact bI_f (decide_eq_false (fun q => q.2.2 c_18)) | exact bI_f (decide_eq_false (fun q => Bool.false_ne_true (c2.symm.trans q.2.1))) | exact bI_f (decide_eq_false (fun q => Bool.false_ne_true (c1.symm.trans q.1))) | fail), trivial⟩, hS.F htS⟩) hS.2.2 dX3_hasPair_26
    · skip
      have c2 := bI_n0 (fun q => c_13 (h_10.trans q))
      refine lv_iload_n hx hb dX3_hasPair_16 rfl (lv_at hl 1 rfl) ?_
      refine lv_iload_n hx hb dX3_hasPair_17 rfl (lv_at hl 2 rfl) ?_
      refine lv_icmp_eq (tgt := 25) hx hb dX3_hasPair_18 (by decide) (fun c_18 => ?_) (fun c_18 => ?_)
      · skip
        refine lv_iconst (v := 0) hx hb dX3_hasPair_25 (by decide) ?_
        exact W.zret (v := 0) hx hb hr (rfl) (fun tS htS hWS => ⟨⟨0, (), rfl, (by first | exact bI_t (decide_eq_true ⟨c1, c2, c_18⟩) | exact bI_f (decide_eq_false (fun q => q.2.2 c_18)) | exact bI_f (decide_eq_false (fun q => Bool.false_ne_true (c2.symm.trans q.2.1))) | exact bI_f (decide_eq_false (fun q => Bool.false_ne_true (c1.symm.trans q.1))) | fail), trivial⟩, hS.F htS⟩) hS.2.2 dX3_hasPair_26
      · skip
        refine lv_iconst (v := 1) hx hb dX3_hasPair_21 (by decide) ?_
        refine lv_goto (tgt := 26) hx hb dX3_hasPair_22 (by decide) ?_
        exact W.zret (v := 1) hx hb hr (rfl) (fun tS htS hWS => ⟨⟨1, (), rfl, (by first | exact bI_t (decide_eq_true ⟨c1, c2, c_18⟩) | exact bI_f (decide_eq_false (fun q => q.2.2 c_18)) | exact bI_f (decide_eq_false (fun q => Bool.false_ne_true (c2.symm.trans q.2.1))) | exact bI_f (decide_eq_false (fun q => Bool.false_ne_true (c1.symm.trans q.1))) | fail), trivial⟩, hS.F htS⟩) hS.2.2 dX3_hasPair_26
theorem kX3_all_0 : ∀ w ∈ wsX30, w ∈ wsX3_all := by decide +kernel
theorem kX3_all_1 : (.fieldLink RX3 18 "SightRidge$Profile" "stations" "I" : Cond) ∈ wsX3_all := by decide +kernel
set_option maxHeartbeats 4000000 in
set_option maxRecDepth 100000 in
/-- all() -/
theorem c_X3_all (l : Launch) (D : va_G) (cI cB cO : ClassId) (o ga ma : Nat) (n : Nat) (rg bl : Int32) (fg fm : Nat → Int32) (hn : n ≤ 20) : Met l yX3_all wsX3_all (rmD 1) (rdPc D (tyL cI cB cO) [.ref o] [(o, .inr (3, [.ref ga, .ref ma, .int (nI n), .int rg, .int bl])), (ga, .inl (cI, 20, .inl fg)), (ma, .inl (cI, 20, .inl fm))]) (rdQi (fun r => r = nI (2 ^ n - 1))) 0 0 noA := by
  refine Met.ofW (cc := cX3_all) (maxL := 1) (ret := (some .int)) (by decide) rfl ?_
  intro p e s m args below meth c s₁ B hml hv
  obtain ⟨rfl, hP, hK, hN⟩ := hv
  have hx := B.exec
  have hb := B.bytes
  have hr := B.returns
  have hts := atoms_spec (ws := wsX3_all) B.pre
  have hown : s.vm.findClass RX3 = some m.cls := findClass_of_methodNamed B.named
  have hlocks := B.notSynchronized
  have hS : va_S noA s.heap s.heap [] := va_S.rf
  have hl := lv_entry ([.ref o]) (n := 1) (Nat.le_of_ble_eq_true rfl)
  rw [lg_entry_eq]
  generalize (lg_sl ([.ref o]) ++ List.replicate (1 - (lg_sl ([.ref o])).length) Slot.unset).toArray = ls at hl ⊢
  have hl : lv_has ls 1 [(0, .ref o)] := hl
  refine lv_iconst (v := 1) hx hb dX3_all_0 (by decide) ?_
  refine lv_aload_n hx hb dX3_all_1 rfl (lv_at hl 0 rfl) ?_
  refine va_get (D := D) (ci := 3) (v := .int (nI n)) (C := RX3) (T := TX3) (N := 5) hx hb hts kX3_all_0 hown hK hP 0 rfl rfl 2 (by decide) (hts (.fieldLink RX3 18 "SightRidge$Profile" "stations" "I") kX3_all_1) (fun _ h9 => h9) rfl dX3_all_2 ?_
  refine lv_ishl hx hb dX3_all_5 ?_
  refine lv_topi (fun y_1 e_2 => ?_)
  have e_2 : nI (2 ^ n) = y_1 := (e_2.trans (shl1 (by omega))).symm
  subst e_2
  refine lv_iconst (v := 1) hx hb dX3_all_6 (by decide) ?_
  refine lv_isub hx hb dX3_all_7 ?_
  refine lv_topi (fun y_3 e_4 => ?_)
  have e_4 : nI (2 ^ n - 1) = y_3 := (e_4.trans ((pk_sub (a := 2 ^ n) (b := 1) (Nat.pos_of_ne_zero (by simp))))).symm
  subst e_4
  exact W.iret (v := nI (2 ^ n - 1)) hx hb hr (fun tS htS hWS => ⟨⟨nI (2 ^ n - 1), (), rfl, rfl, trivial⟩, hS.F htS⟩) hS.2.2 dX3_all_8
theorem kX3_topOf_0 : ∀ w ∈ wsX30, w ∈ wsX3_topOf := by decide +kernel
theorem kX3_topOf_1 : (.fieldLink RX3 9 "SightRidge$Profile" "grounds" "[I" : Cond) ∈ wsX3_topOf := by decide +kernel
theorem kX3_topOf_2 : (.fieldLink RX3 15 "SightRidge$Profile" "masts" "[I" : Cond) ∈ wsX3_topOf := by decide +kernel
set_option maxHeartbeats 4000000 in
set_option maxRecDepth 100000 in
/-- topOf(k) -/
theorem c_X3_topOf (l : Launch) (D : va_G) (cI cB cO : ClassId) (o ga ma : Nat) (n : Nat) (rg bl : Int32) (fg fm : Nat → Int32) (G M : Nat → Int32) (k : Nat) (hn : n ≤ 20) (hG : ∀ k, k < n → fg k = G k) (hM : ∀ k, k < n → fm k = M k) (hk : k < n) : Met l yX3_topOf wsX3_topOf (rmD 2) (rdPc D (tyL cI cB cO) [.ref o, .int (nI k)] [(o, .inr (3, [.ref ga, .ref ma, .int (nI n), .int rg, .int bl])), (ga, .inl (cI, 20, .inl fg)), (ma, .inl (cI, 20, .inl fm))]) (rdQi (fun r => r = tp G M k)) 0 0 noA := by
  refine Met.ofW (cc := cX3_topOf) (maxL := 2) (ret := (some .int)) (by decide) rfl ?_
  intro p e s m args below meth c s₁ B hml hv
  obtain ⟨rfl, hP, hK, hN⟩ := hv
  have hx := B.exec
  have hb := B.bytes
  have hr := B.returns
  have hts := atoms_spec (ws := wsX3_topOf) B.pre
  have hown : s.vm.findClass RX3 = some m.cls := findClass_of_methodNamed B.named
  have hlocks := B.notSynchronized
  have hS : va_S noA s.heap s.heap [] := va_S.rf
  have hl := lv_entry ([.ref o, .int (nI k)]) (n := 2) (Nat.le_of_ble_eq_true rfl)
  rw [lg_entry_eq]
  generalize (lg_sl ([.ref o, .int (nI k)]) ++ List.replicate (2 - (lg_sl ([.ref o, .int (nI k)])).length) Slot.unset).toArray = ls at hl ⊢
  have hl : lv_has ls 2 [(0, .ref o), (1, .int (nI k))] := hl
  refine lv_aload_n hx hb dX3_topOf_0 rfl (lv_at hl 0 rfl) ?_
  refine lv_iload_n hx hb dX3_topOf_1 rfl (lv_at hl 1 rfl) ?_
  refine rd_calli hP hS (va_runV (As := [.int (nI k)]) (rest := []) ⟨hx, hb, hml, hown, hts⟩ (c_X3_has l D cI cB cO o ga ma n rg bl fg fm (nI k) ) (cwV 1 hts gX3_topOf_X3_has rfl rfl rfl (by decide +kernel) ⟨Nat.le_of_ble_eq_true rfl, Nat.le_of_ble_eq_true rfl⟩) (rd_preV (r := (RX3, TX3, 5)) (ci := 3) hK (hP.pick [0, 1, 2] rfl) hN (q0 := 0) rfl rfl) rfl rfl hl.1 rfl (lv_room (Nat.le_of_ble_eq_true rfl)) dX3_topOf_2 ⟨Nat.le_refl _, Nat.le_refl _⟩) (fun r_2 H locs h_2 hP hS => ?_)
  rw [hasB_in hk hn] at h_2
  subst h_2
  refine lv_if_eq (tgt := 24) hx hb dX3_topOf_5 (by decide) (fun c_5 => ?_) (fun c_5 => ?_)
  · skip
    exact absurd c_5 (by decide)
  · skip
    refine lv_aload_n hx hb dX3_topOf_8 rfl (lv_at hl 0 rfl) ?_
    refine va_get (D := D) (ci := 3) (v := .ref ga) (C := RX3) (T := TX3) (N := 5) hx hb hts kX3_topOf_0 hown hK hP 0 rfl rfl 0 (by decide) (hts (.fieldLink RX3 9 "SightRidge$Profile" "grounds" "[I") kX3_topOf_1) (fun _ h9 => h9) rfl dX3_topOf_9 ?_
    refine lv_iload_n hx hb dX3_topOf_12 rfl (lv_at hl 1 rfl) ?_
    refine va_iald hx hb hK hP 1 0 rfl rfl (i := nI k) (vp_in_nI (N := 20) (by omega) (by decide)) dX3_topOf_13 ?_
    rw [nI_clamp (n := k) (by omega)]
    refine lv_topi (fun y_1 e_2 => ?_)
    have e_2 : G k = y_1 := (e_2.trans (hG k hk)).symm
    subst e_2
    refine lv_aload_n hx hb dX3_topOf_14 rfl (lv_at hl 0 rfl) ?_
    refine va_get (D := D) (ci := 3) (v := .ref ma) (C := RX3) (T := TX3) (N := 5) hx hb hts kX3_topOf_0 hown hK hP 0 rfl rfl 1 (by decide) (hts (.fieldLink RX3 15 "SightRidge$Profile" "masts" "[I") kX3_topOf_2) (fun _ h9 => h9) rfl dX3_topOf_15 ?_
    refine lv_iload_n hx hb dX3_topOf_18 rfl (lv_at hl 1 rfl) ?_
    refine va_iald hx hb hK hP 2 0 rfl rfl (i := nI k) (vp_in_nI (N := 20) (by omega) (by decide)) dX3_topOf_19 ?_
    rw [nI_clamp (n := k) (by omega)]
    refine lv_topi (fun y_3 e_4 => ?_)
    have e_4 : M k = y_3 := (e_4.trans (hM k hk)).symm
    subst e_4
    refine lv_iadd hx hb dX3_topOf_20 ?_
    refine lv_goto (tgt := 25) hx hb dX3_topOf_21 (by decide) ?_
    exact W.iret (v := (G k) + (M k)) hx hb hr (fun tS htS hWS => ⟨⟨(G k) + (M k), (), rfl, rfl, trivial⟩, hS.F htS⟩) hS.2.2 dX3_topOf_25
theorem kX3_clearance_0 : (.methodLink RX3 36 Lib.Math.abs.name : Cond) ∈ wsX3_clearance := by decide +kernel
theorem kX3_clearance_1 : (.static Lib.Math.abs.name : Cond) ∈ wsX3_clearance := by decide +kernel
theorem kX3_clearance_2 : (.initialized "java/lang/Math" : Cond) ∈ wsX3_clearance := by decide +kernel
theorem kX3_clearance_3 : (.code Lib.Math.abs.name Lib.Math.abs.code 1 (some .int) : Cond) ∈ wsX3_clearance := by decide +kernel
theorem kX3_clearance_4 : ∀ w ∈ wsX30, w ∈ wsX3_clearance := by decide +kernel
theorem kX3_clearance_5 : (.fieldLink RX3 9 "SightRidge$Profile" "grounds" "[I" : Cond) ∈ wsX3_clearance := by decide +kernel
theorem kX3_clearance_6 : (.fieldLink RX3 25 "SightRidge$Profile" "bulge" "I" : Cond) ∈ wsX3_clearance := by decide +kernel
set_option maxHeartbeats 4000000 in
set_option maxRecDepth 100000 in
/-- clearance(a, x, b, y, k) -/
theorem c_X3_clearance (l : Launch) (D : va_G) (cI cB cO : ClassId) (o ga ma : Nat) (n : Nat) (rg bl : Int32) (fg fm : Nat → Int32) (G M : Nat → Int32) (a : Nat) (x : Int32) (b : Nat) (y : Int32) (k : Nat) (hn : n ≤ 20) (hG : ∀ k, k < n → fg k = G k) (hM : ∀ k, k < n → fm k = M k) (ha : a < 20) (hb0 : b < 20) (hk : k < n) : Met l yX3_clearance wsX3_clearance (rmD 2) (rdPc D (tyL cI cB cO) [.ref o, .int (nI a), .int x, .int (nI b), .int y, .int (nI k)] [(o, .inr (3, [.ref ga, .ref ma, .int (nI n), .int rg, .int bl])), (ga, .inl (cI, 20, .inl fg)), (ma, .inl (cI, 20, .inl fm))]) (rdQi (fun r => r = clr G bl a x b y k)) 0 0 noA := by
  refine Met.ofW (cc := cX3_clearance) (maxL := 8) (ret := (some .int)) (by decide) rfl ?_
  intro p e s m args below meth c s₁ B hml hv
  obtain ⟨rfl, hP, hK, hN⟩ := hv
  have hx := B.exec
  have hb := B.bytes
  have hr := B.returns
  have hts := atoms_spec (ws := wsX3_clearance) B.pre
  have hown : s.vm.findClass RX3 = some m.cls := findClass_of_methodNamed B.named
  have hlocks := B.notSynchronized
  have hS : va_S noA s.heap s.heap [] := va_S.rf
  have hl := lv_entry ([.ref o, .int (nI a), .int x, .int (nI b), .int y, .int (nI k)]) (n := 8) (Nat.le_of_ble_eq_true rfl)
  rw [lg_entry_eq]
  generalize (lg_sl ([.ref o, .int (nI a), .int x, .int (nI b), .int y, .int (nI k)]) ++ List.replicate (8 - (lg_sl ([.ref o, .int (nI a), .int x, .int (nI b), .int y, .int (nI k)])).length) Slot.unset).toArray = ls at hl ⊢
  have hl : lv_has ls 8 [(0, .ref o), (1, .int (nI a)), (2, .int x), (3, .int (nI b)), (4, .int y), (5, .int (nI k))] := hl
  refine lv_aload_n hx hb dX3_clearance_0 rfl (lv_at hl 0 rfl) ?_
  refine lv_iload hx hb dX3_clearance_1 (lv_at hl 5 rfl) ?_
  refine rd_calli hP hS (va_runV (As := [.int (nI k)]) (rest := []) ⟨hx, hb, hml, hown, hts⟩ (c_X3_has l D cI cB cO o ga ma n rg bl fg fm (nI k) ) (cwV 1 hts gX3_clearance_X3_has rfl rfl rfl (by decide +kernel) ⟨Nat.le_of_ble_eq_true rfl, Nat.le_of_ble_eq_true rfl⟩) (rd_preV (r := (RX3, TX3, 5)) (ci := 3) hK (hP.pick [0, 1, 2] rfl) hN (q0 := 0) rfl rfl) rfl rfl hl.1 rfl (lv_room (Nat.le_of_ble_eq_true rfl)) dX3_clearance_3 ⟨Nat.le_refl _, Nat.le_refl _⟩) (fun r_3 H locs h_3 hP hS => ?_)
  rw [hasB_in hk hn] at h_3
  subst h_3
  refine lv_if_ne (tgt := 11) hx hb dX3_clearance_6 (by decide) (fun c_6 => ?_) (fun c_6 => ?_)
  · skip
    refine lv_iload hx hb dX3_clearance_11 (lv_at hl 5 rfl) ?_
    refine lv_iload_n hx hb dX3_clearance_13 rfl (lv_at hl 1 rfl) ?_
    refine lv_isub hx hb dX3_clearance_14 ?_
    refine va_mabs hx hb (hml.trans hl.1.symm) hown (hts (.methodLink RX3 36 Lib.Math.abs.name) kX3_clearance_0) (hts (.static Lib.Math.abs.name) kX3_clearance_1) (hts (.initialized "java/lang/Math") kX3_clearance_2) (hts (.code Lib.Math.abs.name Lib.Math.abs.code 1 (some .int)) kX3_clearance_3) (Nat.le_of_ble_eq_true rfl) (Nat.le_of_ble_eq_true rfl) (Nat.le_refl _) (Nat.le_refl _) dX3_clearance_15 ?_
    refine lv_topi (fun y_1 e_2 => ?_)
    have e_2 : nI (dd k a) = y_1 := (e_2.trans (absd (by omega) (by omega))).symm
    subst e_2
    refine lv_istore (lv' := [(6, .int (nI (dd k a))), (0, .ref o), (1, .int (nI a)), (2, .int x), (3, .int (nI b)), (4, .int y), (5, .int (nI k))]) hx hb dX3_clearance_18 hl (by decide) rfl (fun ls hl => ?_)
    refine lv_iload_n hx hb dX3_clearance_20 rfl (lv_at hl 4 rfl) ?_
    refine lv_iload hx hb dX3_clearance_21 (lv_at hl 6 rfl) ?_
    refine lv_isub hx hb dX3_clearance_23 ?_
    refine va_mabs hx hb (hml.trans hl.1.symm) hown (hts (.methodLink RX3 36 Lib.Math.abs.name) kX3_clearance_0) (hts (.static Lib.Math.abs.name) kX3_clearance_1) (hts (.initialized "java/lang/Math") kX3_clearance_2) (hts (.code Lib.Math.abs.name Lib.Math.abs.code 1 (some .int)) kX3_clearance_3) (Nat.le_of_ble_eq_true rfl) (Nat.le_of_ble_eq_true rfl) (Nat.le_refl _) (Nat.le_refl _) dX3_clearance_24 ?_
    refine lv_topi (fun y_3 e_4 => ?_)
    have e_4 : nI (dd b k) = y_3 := (e_4.trans (absd (by omega) (by omega))).symm
    subst e_4
    refine lv_istore (lv' := [(7, .int (nI (dd b k))), (6, .int (nI (dd k a))), (0, .ref o), (1, .int (nI a)), (2, .int x), (3, .int (nI b)), (4, .int y), (5, .int (nI k))]) hx hb dX3_clearance_27 hl (by decide) rfl (fun ls hl => ?_)
    refine lv_iload_n hx hb dX3_clearance_29 rfl (lv_at hl 4 rfl) ?_
    refine lv_iload hx hb dX3_clearance_30 (lv_at hl 0 rfl) ?_
    refine lv_imul hx hb dX3_clearance_32 ?_
    refine lv_iload hx hb dX3_clearance_33 (lv_at hl 6 rfl) ?_
    refine lv_iload hx hb dX3_clearance_35 (lv_at hl 1 rfl) ?_
    refine lv_imul hx hb dX3_clearance_37 ?_
    refine lv_iadd hx hb dX3_clearance_38 ?_
    refine lv_iload hx hb dX3_clearance_39 (lv_at hl 1 rfl) ?_
    refine lv_iload hx hb dX3_clearance_41 (lv_at hl 0 rfl) ?_
    refine lv_iadd hx hb dX3_clearance_43 ?_
    refine lv_topi (fun y_5 e_6 => ?_)
    have e_6 : nI ((dd k a) + (dd b k)) = y_5 := (e_6.trans (nI_add (dd k a) (dd b k))).symm
    subst e_6
    refine lv_aload_n hx hb dX3_clearance_44 rfl (lv_at hl 2 rfl) ?_
    refine va_get (D := D) (ci := 3) (v := .ref ga) (C := RX3) (T := TX3) (N := 5) hx hb hts kX3_clearance_4 hown hK hP 0 rfl rfl 0 (by decide) (hts (.fieldLink RX3 9 "SightRidge$Profile" "grounds" "[I") kX3_clearance_5) (fun _ h9 => h9) rfl dX3_clearance_45 ?_
    refine lv_iload hx hb dX3_clearance_48 (lv_at hl 7 rfl) ?_
    refine va_iald hx hb hK hP 1 0 rfl rfl (i := nI k) (vp_in_nI (N := 20) (by omega) (by decide)) dX3_clearance_50 ?_
    rw [nI_clamp (n := k) (by omega)]
    refine lv_topi (fun y_7 e_8 => ?_)
    have e_8 : G k = y_7 := (e_8.trans (hG k hk)).symm
    subst e_8
    refine lv_aload_n hx hb dX3_clearance_51 rfl (lv_at hl 2 rfl) ?_
    refine va_get (D := D) (ci := 3) (v := .int bl) (C := RX3) (T := TX3) (N := 5) hx hb hts kX3_clearance_4 hown hK hP 0 rfl rfl 4 (by decide) (hts (.fieldLink RX3 25 "SightRidge$Profile" "bulge" "I") kX3_clearance_6) (fun _ h9 => h9) rfl dX3_clearance_52 ?_
    refine lv_iload hx hb dX3_clearance_55 (lv_at hl 1 rfl) ?_
    refine lv_imul hx hb dX3_clearance_57 ?_
    refine lv_iload hx hb dX3_clearance_58 (lv_at hl 0 rfl) ?_
    refine lv_imul hx hb dX3_clearance_60 ?_
    refine lv_iadd hx hb dX3_clearance_61 ?_
    refine lv_imul hx hb dX3_clearance_62 ?_
    refine lv_isub hx hb dX3_clearance_63 ?_
    exact W.iret (v := ((x * (nI (dd b k))) + (y * (nI (dd k a)))) - ((nI ((dd k a) + (dd b k))) * ((G k) + ((bl * (nI (dd k a))) * (nI (dd b k)))))) hx hb hr (fun tS htS hWS => ⟨⟨((x * (nI (dd b k))) + (y * (nI (dd k a)))) - ((nI ((dd k a) + (dd b k))) * ((G k) + ((bl * (nI (dd k a))) * (nI (dd b k))))), (), rfl, (by unfold clr; rw [nI_add]), trivial⟩, hS.F htS⟩) hS.2.2 dX3_clearance_64
  · skip
    exact absurd c_6 (by decide)
theorem kX3_pointsSee_0 : (.methodLink RX3 42 Lib.Math.max.name : Cond) ∈ wsX3_pointsSee := by decide +kernel
theorem kX3_pointsSee_1 : (.static Lib.Math.max.name : Cond) ∈ wsX3_pointsSee := by decide +kernel
theorem kX3_pointsSee_2 : (.initialized "java/lang/Math" : Cond) ∈ wsX3_pointsSee := by decide +kernel
theorem kX3_pointsSee_3 : (.code Lib.Math.max.name Lib.Math.max.code 2 (some .int) : Cond) ∈ wsX3_pointsSee := by decide +kernel
theorem kX3_pointsSee_4 : (.methodLink RX3 46 Lib.Math.min.name : Cond) ∈ wsX3_pointsSee := by decide +kernel
theorem kX3_pointsSee_5 : (.static Lib.Math.min.name : Cond) ∈ wsX3_pointsSee := by decide +kernel
theorem kX3_pointsSee_6 : (.code Lib.Math.min.name Lib.Math.min.code 2 (some .int) : Cond) ∈ wsX3_pointsSee := by decide +kernel
set_option maxHeartbeats 4000000 in
set_option maxRecDepth 100000 in
/-- pointsSee(a, x, b, y) -/
theorem c_X3_pointsSee (l : Launch) (D : va_G) (cI cB cO : ClassId) (o ga ma : Nat) (n : Nat) (rg bl : Int32) (fg fm : Nat → Int32) (G M : Nat → Int32) (a : Nat) (x : Int32) (b : Nat) (y : Int32) (hn : n ≤ 20) (hG : ∀ k, k < n → fg k = G k) (hM : ∀ k, k < n → fm k = M k) (ha : a < n) (hb0 : b < n) : Met l yX3_pointsSee wsX3_pointsSee (rmD 3) (rdPc D (tyL cI cB cO) [.ref o, .int (nI a), .int x, .int (nI b), .int y] [(o, .inr (3, [.ref ga, .ref ma, .int (nI n), .int rg, .int bl])), (ga, .inl (cI, 20, .inl fg)), (ma, .inl (cI, 20, .inl fm))]) (rdQi (fun r => r = bI (seesB G bl a x b y))) 0 0 noA := by
  refine Met.ofW (cc := cX3_pointsSee) (maxL := 7) (ret := (some .boolean)) (by decide) rfl ?_
  intro p e s m args below meth c s₁ B hml hv
  obtain ⟨rfl, hP, hK, hN⟩ := hv
  have hx := B.exec
  have hb := B.bytes
  have hr := B.returns
  have hts := atoms_spec (ws := wsX3_pointsSee) B.pre
  have hown : s.vm.findClass RX3 = some m.cls := findClass_of_methodNamed B.named
  have hlocks := B.notSynchronized
  have hS : va_S noA s.heap s.heap [] := va_S.rf
  have hl := lv_entry ([.ref o, .int (nI a), .int x, .int (nI b), .int y]) (n := 7) (Nat.le_of_ble_eq_true rfl)
  rw [lg_entry_eq]
  generalize (lg_sl ([.ref o, .int (nI a), .int x, .int (nI b), .int y]) ++ List.replicate (7 - (lg_sl ([.ref o, .int (nI a), .int x, .int (nI b), .int y])).length) Slot.unset).toArray = ls at hl ⊢
  have hl : lv_has ls 7 [(0, .ref o), (1, .int (nI a)), (2, .int x), (3, .int (nI b)), (4, .int y)] := hl
  refine lv_iload_n hx hb dX3_pointsSee_0 rfl (lv_at hl 1 rfl) ?_
  refine lv_iload_n hx hb dX3_pointsSee_1 rfl (lv_at hl 3 rfl) ?_
  refine va_mmax hx hb (hml.trans hl.1.symm) hown (hts (.methodLink RX3 42 Lib.Math.max.name) kX3_pointsSee_0) (hts (.static Lib.Math.max.name) kX3_pointsSee_1) (hts (.initialized "java/lang/Math") kX3_pointsSee_2) (hts (.code Lib.Math.max.name Lib.Math.max.code 2 (some .int)) kX3_pointsSee_3) (Nat.le_of_ble_eq_true rfl) (Nat.le_of_ble_eq_true rfl) (Nat.le_refl _) (Nat.le_refl _) dX3_pointsSee_2 ?_
  refine lv_topi (fun y_1 e_2 => ?_)
  have e_2 : nI (max a b) = y_1 := (e_2.trans (maxI (by omega) (by omega))).symm
  subst e_2
  refine lv_istore (lv' := [(5, .int (nI (max a b))), (0, .ref o), (1, .int (nI a)), (2, .int x), (3, .int (nI b)), (4, .int y)]) hx hb dX3_pointsSee_5 hl (by decide) rfl (fun ls hl => ?_)
  refine lv_iload_n hx hb dX3_pointsSee_7 rfl (lv_at hl 2 rfl) ?_
  refine lv_iload_n hx hb dX3_pointsSee_8 rfl (lv_at hl 4 rfl) ?_
  refine va_mmin hx hb (hml.trans hl.1.symm) hown (hts (.methodLink RX3 46 Lib.Math.min.name) kX3_pointsSee_4) (hts (.static Lib.Math.min.name) kX3_pointsSee_5) (hts (.initialized "java/lang/Math") kX3_pointsSee_2) (hts (.code Lib.Math.min.name Lib.Math.min.code 2 (some .int)) kX3_pointsSee_6) (Nat.le_of_ble_eq_true rfl) (Nat.le_of_ble_eq_true rfl) (Nat.le_refl _) (Nat.le_refl _) dX3_pointsSee_9 ?_
  refine lv_topi (fun y_3 e_4 => ?_)
  have e_4 : nI (min a b) = y_3 := (e_4.trans (minI (by omega) (by omega))).symm
  subst e_4
  refine lv_iconst (v := 1) hx hb dX3_pointsSee_12 (by decide) ?_
  refine lv_iadd hx hb dX3_pointsSee_13 ?_
  refine lv_topi (fun y_5 e_6 => ?_)
  have e_6 : nI ((min a b) + 1) = y_5 := (e_6.trans (nI_add (min a b) 1)).symm
  subst e_6
  refine lv_istore (lv' := [(6, .int (nI ((min a b) + 1))), (5, .int (nI (max a b))), (0, .ref o), (1, .int (nI a)), (2, .int x), (3, .int (nI b)), (4, .int y)]) hx hb dX3_pointsSee_14 hl (by decide) rfl (fun ls hl => ?_)
  have L_16 : ∀ (k_16 : Nat) (i : Nat), max a b - i < k_16 → (i ≤ max a b + 1) → (min a b < i) → (∀ j, j < i → min a b < j → ¬ clr G bl a x b y j < 0) → ∀ (H : Heap) (locs : List Loc), va_P D vwCl [(o, .inr (3, [.ref ga, .ref ma, .int (nI n), .int rg, .int bl])), (ga, .inl (cI, 20, .inl fg)), (ma, .inl (cI, 20, .inl fm))] H → va_S noA s.heap H locs → ∀ (ls : Array Slot), lv_has ls 7 [(0, .ref o), (1, .int (nI a)), (2, .int x), (3, .int (nI b)), (4, .int y), (5, .int (nI (max a b))), (6, .int (nI i))] → W p l e (rmD 3) s m ([.ref o, .int (nI a), .int x, .int (nI b), .int y] : List Value).toArray below meth c H locs 0 0 (MQ below (rdQi (fun r => r = bI (seesB G bl a x b y))) ([.ref o, .int (nI a), .int x, .int (nI b), .int y] : List Value).toArray s 0 0 noA) (F0 m 16 ls []) := by
    intro k_16
    induction k_16 with
    | zero => intro i h9; exact absurd h9 (Nat.not_lt_zero _)
    | succ k_16 ih_16 =>
      intro i hm_16 hi hlo hs H locs hP hS ls hl
      refine lv_iload hx hb dX3_pointsSee_16 (lv_at hl 6 rfl) ?_
      refine lv_iload hx hb dX3_pointsSee_18 (lv_at hl 5 rfl) ?_
      refine lv_icmp_ge (tgt := 45) hx hb dX3_pointsSee_20 (by decide) (fun c_20 => ?_) (fun c_20 => ?_)
      · skip
        have c0 : max a b ≤ i := ge_t (by omega) c_20
        refine lv_iconst (v := 1) hx hb dX3_pointsSee_45 (by decide) ?_
        exact W.zret (v := 1) hx hb hr (rfl) (fun tS htS hWS => ⟨⟨1, (), rfl, (bI_t (decide_eq_true (fun j h1 h2 => hs j (by omega) h2))), trivial⟩, hS.F htS⟩) hS.2.2 dX3_pointsSee_46
      · skip
        have c0 : i < max a b := ge_f (by omega) c_20
        refine lv_aload_n hx hb dX3_pointsSee_23 rfl (lv_at hl 0 rfl) ?_
        refine lv_iload_n hx hb dX3_pointsSee_24 rfl (lv_at hl 1 rfl) ?_
        refine lv_iload_n hx hb dX3_pointsSee_25 rfl (lv_at hl 2 rfl) ?_
        refine lv_iload_n hx hb dX3_pointsSee_26 rfl (lv_at hl 3 rfl) ?_
        refine lv_iload hx hb dX3_pointsSee_27 (lv_at hl 4 rfl) ?_
        refine lv_iload hx hb dX3_pointsSee_29 (lv_at hl 6 rfl) ?_
        refine rd_calli hP hS (va_runV (As := [.int (nI a), .int x, .int (nI b), .int y, .int (nI i)]) (rest := []) ⟨hx, hb, hml, hown, hts⟩ (c_X3_clearance l D cI cB cO o ga ma n rg bl fg fm G M a x b y i hn hG hM (by omega) (by omega) (by omega)) (cwV 5 hts gX3_pointsSee_X3_clearance rfl rfl rfl (by decide +kernel) ⟨Nat.le_of_ble_eq_true rfl, Nat.le_of_ble_eq_true rfl⟩) (rd_preV (r := (RX3, TX3, 5)) (ci := 3) hK (hP.pick [0, 1, 2] rfl) hN (q0 := 0) rfl rfl) rfl rfl hl.1 rfl (lv_room (Nat.le_of_ble_eq_true rfl)) dX3_pointsSee_31 ⟨Nat.le_refl _, Nat.le_refl _⟩) (fun r_31 H locs h_31 hP hS => ?_)
        refine lv_if_ge (tgt := 39) hx hb dX3_pointsSee_34 (by decide) (fun c_34 => ?_) (fun c_34 => ?_)
        · skip
          have c1 : 0 ≤ clr G bl a x b y i := by rw [← h_31]; exact c_34
          refine lv_iinc (v := nI (i + 1)) (lv' := [(6, .int (nI (i + 1))), (0, .ref o), (1, .int (nI a)), (2, .int x), (3, .int (nI b)), (4, .int y), (5, .int (nI (max a b)))]) hx hb dX3_pointsSee_39 hl (k := 6) rfl (inc1 _) (by decide) rfl (fun ls hl => ?_)
          refine lv_goto (tgt := 16) hx hb dX3_pointsSee_42 (by decide) ?_
          exact ih_16 (i + 1) (by omega) (by omega) (by omega) (fun j h1 h2 => (Nat.lt_succ_iff_lt_or_eq.mp h1).elim (fun q => hs j q h2) (fun q => q.symm ▸ Int32.not_lt.mpr c1)) _ _ hP hS ls (lv_sub hl [1, 2, 3, 4, 5, 6, 0] rfl)
        · skip
          have c1 : clr G bl a x b y i < 0 := by rw [← h_31]; exact Int32.not_le.mp c_34
          refine lv_iconst (v := 0) hx hb dX3_pointsSee_37 (by decide) ?_
          exact W.zret (v := 0) hx hb hr (rfl) (fun tS htS hWS => ⟨⟨0, (), rfl, (bI_f (decide_eq_false (fun q => q i c0 hlo c1))), trivial⟩, hS.F htS⟩) hS.2.2 dX3_pointsSee_38
  exact L_16 _ ((min a b) + 1) (Nat.lt_succ_self _) (by omega) (by omega) (fun j h1 h2 => by omega) _ _ hP hS ls (lv_sub hl [2, 3, 4, 5, 6, 1, 0] rfl)
set_option maxHeartbeats 4000000 in
set_option maxRecDepth 100000 in
/-- topsSee(a, b) -/
theorem c_X3_topsSee (l : Launch) (D : va_G) (cI cB cO : ClassId) (o ga ma : Nat) (n : Nat) (rg bl : Int32) (fg fm : Nat → Int32) (G M : Nat → Int32) (a b : Nat) (hn : n ≤ 20) (hG : ∀ k, k < n → fg k = G k) (hM : ∀ k, k < n → fm k = M k) (ha : a < n) (hb0 : b < n) : Met l yX3_topsSee wsX3_topsSee (rmD 4) (rdPc D (tyL cI cB cO) [.ref o, .int (nI a), .int (nI b)] [(o, .inr (3, [.ref ga, .ref ma, .int (nI n), .int rg, .int bl])), (ga, .inl (cI, 20, .inl fg)), (ma, .inl (cI, 20, .inl fm))]) (rdQi (fun r => r = bI (seesB G bl a (tp G M a) b (tp G M b)))) 0 0 noA := by
  refine Met.ofW (cc := cX3_topsSee) (maxL := 3) (ret := (some .boolean)) (by decide) rfl ?_
  intro p e s m args below meth c s₁ B hml hv
  obtain ⟨rfl, hP, hK, hN⟩ := hv
  have hx := B.exec
  have hb := B.bytes
  have hr := B.returns
  have hts := atoms_spec (ws := wsX3_topsSee) B.pre
  have hown : s.vm.findClass RX3 = some m.cls := findClass_of_methodNamed B.named
  have hlocks := B.notSynchronized
  have hS : va_S noA s.heap s.heap [] := va_S.rf
  have hl := lv_entry ([.ref o, .int (nI a), .int (nI b)]) (n := 3) (Nat.le_of_ble_eq_true rfl)
  rw [lg_entry_eq]
  generalize (lg_sl ([.ref o, .int (nI a), .int (nI b)]) ++ List.replicate (3 - (lg_sl ([.ref o, .int (nI a), .int (nI b)])).length) Slot.unset).toArray = ls at hl ⊢
  have hl : lv_has ls 3 [(0, .ref o), (1, .int (nI a)), (2, .int (nI b))] := hl
  refine lv_aload_n hx hb dX3_topsSee_0 rfl (lv_at hl 0 rfl) ?_
  refine lv_iload_n hx hb dX3_topsSee_1 rfl (lv_at hl 1 rfl) ?_
  refine lv_aload_n hx hb dX3_topsSee_2 rfl (lv_at hl 0 rfl) ?_
  refine lv_iload_n hx hb dX3_topsSee_3 rfl (lv_at hl 1 rfl) ?_
  refine rd_calli hP hS (va_runV (As := [.int (nI a)]) (rest := [.int (nI a), .ref o]) ⟨hx, hb, hml, hown, hts⟩ (c_X3_topOf l D cI cB cO o ga ma n rg bl fg fm G M a hn hG hM ha) (cwV 1 hts gX3_topsSee_X3_topOf rfl rfl rfl (by decide +kernel) ⟨Nat.le_of_ble_eq_true rfl, Nat.le_of_ble_eq_true rfl⟩) (rd_preV (r := (RX3, TX3, 5)) (ci := 3) hK (hP.pick [0, 1, 2] rfl) hN (q0 := 0) rfl rfl) rfl rfl hl.1 rfl (lv_room (Nat.le_of_ble_eq_true rfl)) dX3_topsSee_4 ⟨Nat.le_refl _, Nat.le_refl _⟩) (fun r_4 H locs h_4 hP hS => ?_)
  subst h_4
  refine lv_iload_n hx hb dX3_topsSee_7 rfl (lv_at hl 2 rfl) ?_
  refine lv_aload_n hx hb dX3_topsSee_8 rfl (lv_at hl 0 rfl) ?_
  refine lv_iload_n hx hb dX3_topsSee_9 rfl (lv_at hl 2 rfl) ?_
  refine rd_calli hP hS (va_runV (As := [.int (nI b)]) (rest := [.int (nI b), .int (tp G M a), .int (nI a), .ref o]) ⟨hx, hb, hml, hown, hts⟩ (c_X3_topOf l D cI cB cO o ga ma n rg bl fg fm G M b hn hG hM hb0) (cwV 1 hts gX3_topsSee_X3_topOf rfl rfl rfl (by decide +kernel) ⟨Nat.le_of_ble_eq_true rfl, Nat.le_of_ble_eq_true rfl⟩) (rd_preV (r := (RX3, TX3, 5)) (ci := 3) hK (hP.pick [0, 1, 2] rfl) hN (q0 := 0) rfl rfl) rfl rfl hl.1 rfl (lv_room (Nat.le_of_ble_eq_true rfl)) dX3_topsSee_10 ⟨Nat.le_refl _, Nat.le_refl _⟩) (fun r_10 H locs h_10 hP hS => ?_)
  subst h_10
  refine rd_calli hP hS (va_runV (As := [.int (nI a), .int (tp G M a), .int (nI b), .int (tp G M b)]) (rest := []) ⟨hx, hb, hml, hown, hts⟩ (c_X3_pointsSee l D cI cB cO o ga ma n rg bl fg fm G M a (tp G M a) b (tp G M b) hn hG hM ha hb0) (cwV 4 hts gX3_topsSee_X3_pointsSee rfl rfl rfl (by decide +kernel) ⟨Nat.le_of_ble_eq_true rfl, Nat.le_of_ble_eq_true rfl⟩) (rd_preV (r := (RX3, TX3, 5)) (ci := 3) hK (hP.pick [0, 1, 2] rfl) hN (q0 := 0) rfl rfl) rfl rfl hl.1 rfl (lv_room (Nat.le_of_ble_eq_true rfl)) dX3_topsSee_13 ⟨Nat.le_refl _, Nat.le_refl _⟩) (fun r_13 H locs h_13 hP hS => ?_)
  subst h_13
  exact W.zret (v := bI (seesB G bl a (tp G M a) b (tp G M b))) hx hb hr (bI_nar _) (fun tS htS hWS => ⟨⟨bI (seesB G bl a (tp G M a) b (tp G M b)), (), rfl, rfl, trivial⟩, hS.F htS⟩) hS.2.2 dX3_topsSee_16
theorem kX3_inContact_0 : (.methodLink RX3 36 Lib.Math.abs.name : Cond) ∈ wsX3_inContact := by decide +kernel
theorem kX3_inContact_1 : (.static Lib.Math.abs.name : Cond) ∈ wsX3_inContact := by decide +kernel
theorem kX3_inContact_2 : (.initialized "java/lang/Math" : Cond) ∈ wsX3_inContact := by decide +kernel
theorem kX3_inContact_3 : (.code Lib.Math.abs.name Lib.Math.abs.code 1 (some .int) : Cond) ∈ wsX3_inContact := by decide +kernel
theorem kX3_inContact_4 : ∀ w ∈ wsX30, w ∈ wsX3_inContact := by decide +kernel
theorem kX3_inContact_5 : (.fieldLink RX3 22 "SightRidge$Profile" "range" "I" : Cond) ∈ wsX3_inContact := by decide +kernel
set_option maxHeartbeats 4000000 in
set_option maxRecDepth 100000 in
/-- inContact(a, b) -/
theorem c_X3_inContact (l : Launch) (D : va_G) (cI cB cO : ClassId) (o ga ma : Nat) (n : Nat) (rg bl : Int32) (fg fm : Nat → Int32) (G M : Nat → Int32) (a b : Nat) (hn : n ≤ 20) (hG : ∀ k, k < n → fg k = G k) (hM : ∀ k, k < n → fm k = M k) (ha : a < n) (hb0 : b < n) : Met l yX3_inContact wsX3_inContact (rmD 4) (rdPc D (tyL cI cB cO) [.ref o, .int (nI a), .int (nI b)] [(o, .inr (3, [.ref ga, .ref ma, .int (nI n), .int rg, .int bl])), (ga, .inl (cI, 20, .inl fg)), (ma, .inl (cI, 20, .inl fm))]) (rdQi (fun r => r = bI (conB G M rg bl a b))) 0 0 noA := by
  refine Met.ofW (cc := cX3_inContact) (maxL := 3) (ret := (some .boolean)) (by decide) rfl ?_
  intro p e s m args below meth c s₁ B hml hv
  obtain ⟨rfl, hP, hK, hN⟩ := hv
  have hx := B.exec
  have hb := B.bytes
  have hr := B.returns
  have hts := atoms_spec (ws := wsX3_inContact) B.pre
  have hown : s.vm.findClass RX3 = some m.cls := findClass_of_methodNamed B.named
  have hlocks := B.notSynchronized
  have hS : va_S noA s.heap s.heap [] := va_S.rf
  have hl := lv_entry ([.ref o, .int (nI a), .int (nI b)]) (n := 3) (Nat.le_of_ble_eq_true rfl)
  rw [lg_entry_eq]
  generalize (lg_sl ([.ref o, .int (nI a), .int (nI b)]) ++ List.replicate (3 - (lg_sl ([.ref o, .int (nI a), .int (nI b)])).length) Slot.unset).toArray = ls at hl ⊢
  have hl : lv_has ls 3 [(0, .ref o), (1, .int (nI a)), (2, .int (nI b))] := hl
  refine lv_iload_n hx hb dX3_inContact_0 rfl (lv_at hl 1 rfl) ?_
  refine lv_iload_n hx hb dX3_inContact_1 rfl (lv_at hl 2 rfl) ?_
  refine lv_icmp_eq (tgt := 41) hx hb dX3_inContact_2 (by decide) (fun c_2 => ?_) (fun c_2 => ?_)
  · skip
    have c1 : a = b := (nI_eq (by omega) (by omega)).mp c_2
    refine lv_iconst (v := 0) hx hb dX3_inContact_41 (by decide) ?_
    exact W.zret (v := 0) hx hb hr (rfl) (fun tS htS hWS => ⟨⟨0, (), rfl, (by unfold conB; first | exact bI_t (decide_eq_true ⟨c1, Int32.not_lt.mp c_15, c3⟩) | exact bI_f (decide_eq_false (fun q => q.1 c1)) | exact bI_f (decide_eq_false (fun q => absurd q.2.1 (Int32.not_le.mpr c_15))) | exact bI_f (decide_eq_false (fun q => by simp [c3] at q))), trivial⟩, hS.F htS⟩) hS.2.2 dX3_inContact_42
  · skip
    have c1 : a ≠ b := fun q => c_2 (by rw [q])
    refine lv_iload_n hx hb dX3_inContact_5 rfl (lv_at hl 1 rfl) ?_
    refine lv_iload_n hx hb dX3_inContact_6 rfl (lv_at hl 2 rfl) ?_
    refine lv_isub hx hb dX3_inContact_7 ?_
    refine va_mabs hx hb (hml.trans hl.1.symm) hown (hts (.methodLink RX3 36 Lib.Math.abs.name) kX3_inContact_0) (hts (.static Lib.Math.abs.name) kX3_inContact_1) (hts (.initialized "java/lang/Math") kX3_inContact_2) (hts (.code Lib.Math.abs.name Lib.Math.abs.code 1 (some .int)) kX3_inContact_3) (Nat.le_of_ble_eq_true rfl) (Nat.le_of_ble_eq_true rfl) (Nat.le_refl _) (Nat.le_refl _) dX3_inContact_8 ?_
    refine lv_topi (fun y_1 e_2 => ?_)
    have e_2 : nI (dd a b) = y_1 := (e_2.trans (absd (by omega) (by omega))).symm
    subst e_2
    refine lv_aload_n hx hb dX3_inContact_11 rfl (lv_at hl 0 rfl) ?_
    refine va_get (D := D) (ci := 3) (v := .int rg) (C := RX3) (T := TX3) (N := 5) hx hb hts kX3_inContact_4 hown hK hP 0 rfl rfl 3 (by decide) (hts (.fieldLink RX3 22 "SightRidge$Profile" "range" "I") kX3_inContact_5) (fun _ h9 => h9) rfl dX3_inContact_12 ?_
    refine lv_icmp_gt (tgt := 41) hx hb dX3_inContact_15 (by decide) (fun c_15 => ?_) (fun c_15 => ?_)
    · skip
      refine lv_iconst (v := 0) hx hb dX3_inContact_41 (by decide) ?_
      exact W.zret (v := 0) hx hb hr (rfl) (fun tS htS hWS => ⟨⟨0, (), rfl, (by unfold conB; first | exact bI_t (decide_eq_true ⟨c1, Int32.not_lt.mp c_15, c3⟩) | exact bI_f (decide_eq_false (fun q => q.1 c1)) | exact bI_f (decide_eq_false (fun q => absurd q.2.1 (Int32.not_le.mpr c_15))) | exact bI_f (decide_eq_false (fun q => by simp [c3] at q))), trivial⟩, hS.F htS⟩) hS.2.2 dX3_inContact_42
    · skip
      refine lv_aload_n hx hb dX3_inContact_18 rfl (lv_at hl 0 rfl) ?_
      refine lv_iload_n hx hb dX3_inContact_19 rfl (lv_at hl 1 rfl) ?_
      refine lv_aload_n hx hb dX3_inContact_20 rfl (lv_at hl 0 rfl) ?_
      refine lv_iload_n hx hb dX3_inContact_21 rfl (lv_at hl 1 rfl) ?_
      refine rd_calli hP hS (va_runV (As := [.int (nI a)]) (rest := [.int (nI a), .ref o]) ⟨hx, hb, hml, hown, hts⟩ (c_X3_topOf l D cI cB cO o ga ma n rg bl fg fm G M a hn hG hM ha) (cwV 1 hts gX3_inContact_X3_topOf rfl rfl rfl (by decide +kernel) ⟨Nat.le_of_ble_eq_true rfl, Nat.le_of_ble_eq_true rfl⟩) (rd_preV (r := (RX3, TX3, 5)) (ci := 3) hK (hP.pick [0, 1, 2] rfl) hN (q0 := 0) rfl rfl) rfl rfl hl.1 rfl (lv_room (Nat.le_of_ble_eq_true rfl)) dX3_inContact_22 ⟨Nat.le_refl _, Nat.le_refl _⟩) (fun r_22 H locs h_22 hP hS => ?_)
      subst h_22
      refine lv_iload_n hx hb dX3_inContact_25 rfl (lv_at hl 2 rfl) ?_
      refine lv_aload_n hx hb dX3_inContact_26 rfl (lv_at hl 0 rfl) ?_
      refine lv_iload_n hx hb dX3_inContact_27 rfl (lv_at hl 2 rfl) ?_
      refine rd_calli hP hS (va_runV (As := [.int (nI b)]) (rest := [.int (nI b), .int (tp G M a), .int (nI a), .ref o]) ⟨hx, hb, hml, hown, hts⟩ (c_X3_topOf l D cI cB cO o ga ma n rg bl fg fm G M b hn hG hM hb0) (cwV 1 hts gX3_inContact_X3_topOf rfl rfl rfl (by decide +kernel) ⟨Nat.le_of_ble_eq_true rfl, Nat.le_of_ble_eq_true rfl⟩) (rd_preV (r := (RX3, TX3, 5)) (ci := 3) hK (hP.pick [0, 1, 2] rfl) hN (q0 := 0) rfl rfl) rfl rfl hl.1 rfl (lv_room (Nat.le_of_ble_eq_true rfl)) dX3_inContact_28 ⟨Nat.le_refl _, Nat.le_refl _⟩) (fun r_28 H locs h_28 hP hS => ?_)
      subst h_28
      refine rd_calli hP hS (va_runV (As := [.int (nI a), .int (tp G M a), .int (nI b), .int (tp G M b)]) (rest := []) ⟨hx, hb, hml, hown, hts⟩ (c_X3_pointsSee l D cI cB cO o ga ma n rg bl fg fm G M a (tp G M a) b (tp G M b) hn hG hM ha hb0) (cwV 4 hts gX3_inContact_X3_pointsSee rfl rfl rfl (by decide +kernel) ⟨Nat.le_of_ble_eq_true rfl, Nat.le_of_ble_eq_true rfl⟩) (rd_preV (r := (RX3, TX3, 5)) (ci := 3) hK (hP.pick [0, 1, 2] rfl) hN (q0 := 0) rfl rfl) rfl rfl hl.1 rfl (lv_room (Nat.le_of_ble_eq_true rfl)) dX3_inContact_31 ⟨Nat.le_refl _, Nat.le_refl _⟩) (fun r_31 H locs h_31 hP hS => ?_)
      refine lv_if_eq (tgt := 41) hx hb dX3_inContact_34 (by decide) (fun c_34 => ?_) (fun c_34 => ?_)
      · skip
        have c3 := bI_e0 (h_31 ▸ c_34)
        refine lv_iconst (v := 0) hx hb dX3_inContact_41 (by decide) ?_
        exact W.zret (v := 0) hx hb hr (rfl) (fun tS htS hWS => ⟨⟨0, (), rfl, (by unfold conB; first | exact bI_t (decide_eq_true ⟨c1, Int32.not_lt.mp c_15, c3⟩) | exact bI_f (decide_eq_false (fun q => q.1 c1)) | exact bI_f (decide_eq_false (fun q => absurd q.2.1 (Int32.not_le.mpr c_15))) | exact bI_f (decide_eq_false (fun q => by simp [c3] at q))), trivial⟩, hS.F htS⟩) hS.2.2 dX3_inContact_42
      · skip
        have c3 := bI_n0 (fun q => c_34 (h_31.trans q))
        refine lv_iconst (v := 1) hx hb dX3_inContact_37 (by decide) ?_
        refine lv_goto (tgt := 42) hx hb dX3_inContact_38 (by decide) ?_
        exact W.zret (v := 1) hx hb hr (rfl) (fun tS htS hWS => ⟨⟨1, (), rfl, (by unfold conB; first | exact bI_t (decide_eq_true ⟨c1, Int32.not_lt.mp c_15, c3⟩) | exact bI_f (decide_eq_false (fun q => q.1 c1)) | exact bI_f (decide_eq_false (fun q => absurd q.2.1 (Int32.not_le.mpr c_15))) | exact bI_f (decide_eq_false (fun q => by simp [c3] at q))), trivial⟩, hS.F htS⟩) hS.2.2 dX3_inContact_42
theorem kX3_contacts_0 : ∀ w ∈ wsX30, w ∈ wsX3_contacts := by decide +kernel
theorem kX3_contacts_1 : (.fieldLink RX3 18 "SightRidge$Profile" "stations" "I" : Cond) ∈ wsX3_contacts := by decide +kernel
set_option maxHeartbeats 4000000 in
set_option maxRecDepth 100000 in
/-- contacts(a) -/
theorem c_X3_contacts (l : Launch) (D : va_G) (cI cB cO : ClassId) (o ga ma : Nat) (n : Nat) (rg bl : Int32) (fg fm : Nat → Int32) (G M : Nat → Int32) (a : Nat) (hn : n ≤ 20) (hG : ∀ k, k < n → fg k = G k) (hM : ∀ k, k < n → fm k = M k) (ha : a < n) : Met l yX3_contacts wsX3_contacts (rmD 5) (rdPc D (tyL cI cB cO) [.ref o, .int (nI a)] [(o, .inr (3, [.ref ga, .ref ma, .int (nI n), .int rg, .int bl])), (ga, .inl (cI, 20, .inl fg)), (ma, .inl (cI, 20, .inl fm))]) (rdQi (fun r => r = nI (bs (conB G M rg bl a) n))) 0 0 noA := by
  refine Met.ofW (cc := cX3_contacts) (maxL := 4) (ret := (some .int)) (by decide) rfl ?_
  intro p e s m args below meth c s₁ B hml hv
  obtain ⟨rfl, hP, hK, hN⟩ := hv
  have hx := B.exec
  have hb := B.bytes
  have hr := B.returns
  have hts := atoms_spec (ws := wsX3_contacts) B.pre
  have hown : s.vm.findClass RX3 = some m.cls := findClass_of_methodNamed B.named
  have hlocks := B.notSynchronized
  have hS : va_S noA s.heap s.heap [] := va_S.rf
  have hl := lv_entry ([.ref o, .int (nI a)]) (n := 4) (Nat.le_of_ble_eq_true rfl)
  rw [lg_entry_eq]
  generalize (lg_sl ([.ref o, .int (nI a)]) ++ List.replicate (4 - (lg_sl ([.ref o, .int (nI a)])).length) Slot.unset).toArray = ls at hl ⊢
  have hl : lv_has ls 4 [(0, .ref o), (1, .int (nI a))] := hl
  refine lv_iconst (v := 0) hx hb dX3_contacts_0 (by decide) ?_
  refine lv_istore_n (lv' := [(2, .int 0), (0, .ref o), (1, .int (nI a))]) hx hb dX3_contacts_1 rfl hl (by decide) rfl (fun ls hl => ?_)
  refine lv_iconst (v := 0) hx hb dX3_contacts_2 (by decide) ?_
  refine lv_istore_n (lv' := [(3, .int 0), (2, .int 0), (0, .ref o), (1, .int (nI a))]) hx hb dX3_contacts_3 rfl hl (by decide) rfl (fun ls hl => ?_)
  have L_4 : ∀ (k_4 : Nat) (i : Nat) (v : Int32), n - i < k_4 → (i ≤ n) → (v = nI (bs (conB G M rg bl a) i)) → ∀ (H : Heap) (locs : List Loc), va_P D vwCl [(o, .inr (3, [.ref ga, .ref ma, .int (nI n), .int rg, .int bl])), (ga, .inl (cI, 20, .inl fg)), (ma, .inl (cI, 20, .inl fm))] H → va_S noA s.heap H locs → ∀ (ls : Array Slot), lv_has ls 4 [(0, .ref o), (1, .int (nI a)), (2, .int v), (3, .int (nI i))] → W p l e (rmD 5) s m ([.ref o, .int (nI a)] : List Value).toArray below meth c H locs 0 0 (MQ below (rdQi (fun r => r = nI (bs (conB G M rg bl a) n))) ([.ref o, .int (nI a)] : List Value).toArray s 0 0 noA) (F0 m 4 ls []) := by
    intro k_4
    induction k_4 with
    | zero => intro i v h9; exact absurd h9 (Nat.not_lt_zero _)
    | succ k_4 ih_4 =>
      intro i v hm_4 hi hv H locs hP hS ls hl
      refine lv_iload_n hx hb dX3_contacts_4 rfl (lv_at hl 3 rfl) ?_
      refine lv_aload_n hx hb dX3_contacts_5 rfl (lv_at hl 0 rfl) ?_
      refine va_get (D := D) (ci := 3) (v := .int (nI n)) (C := RX3) (T := TX3) (N := 5) hx hb hts kX3_contacts_0 hown hK hP 0 rfl rfl 2 (by decide) (hts (.fieldLink RX3 18 "SightRidge$Profile" "stations" "I") kX3_contacts_1) (fun _ h9 => h9) rfl dX3_contacts_6 ?_
      refine lv_icmp_ge (tgt := 33) hx hb dX3_contacts_9 (by decide) (fun c_9 => ?_) (fun c_9 => ?_)
      · skip
        have c0 : n ≤ i := ge_t (by omega) c_9
        refine lv_iload_n hx hb dX3_contacts_33 rfl (lv_at hl 2 rfl) ?_
        exact W.iret (v := v) hx hb hr (fun tS htS hWS => ⟨⟨v, (), rfl, (by rw [show n = i by omega]; exact hv), trivial⟩, hS.F htS⟩) hS.2.2 dX3_contacts_34
      · skip
        have c0 : i < n := ge_f (by omega) c_9
        refine lv_aload_n hx hb dX3_contacts_12 rfl (lv_at hl 0 rfl) ?_
        refine lv_iload_n hx hb dX3_contacts_13 rfl (lv_at hl 1 rfl) ?_
        refine lv_iload_n hx hb dX3_contacts_14 rfl (lv_at hl 3 rfl) ?_
        refine rd_calli hP hS (va_runV (As := [.int (nI a), .int (nI i)]) (rest := []) ⟨hx, hb, hml, hown, hts⟩ (c_X3_inContact l D cI cB cO o ga ma n rg bl fg fm G M a i hn hG hM ha c0) (cwV 2 hts gX3_contacts_X3_inContact rfl rfl rfl (by decide +kernel) ⟨Nat.le_of_ble_eq_true rfl, Nat.le_of_ble_eq_true rfl⟩) (rd_preV (r := (RX3, TX3, 5)) (ci := 3) hK (hP.pick [0, 1, 2] rfl) hN (q0 := 0) rfl rfl) rfl rfl hl.1 rfl (lv_room (Nat.le_of_ble_eq_true rfl)) dX3_contacts_15 ⟨Nat.le_refl _, Nat.le_refl _⟩) (fun r_15 H locs h_15 hP hS => ?_)
        refine lv_if_eq (tgt := 27) hx hb dX3_contacts_18 (by decide) (fun c_18 => ?_) (fun c_18 => ?_)
        · skip
          have c1 := bI_e0 (h_15 ▸ c_18)
          refine lv_iinc (v := nI (i + 1)) (lv' := [(3, .int (nI (i + 1))), (0, .ref o), (1, .int (nI a)), (2, .int v)]) hx hb dX3_contacts_27 hl (k := 3) rfl (inc1 _) (by decide) rfl (fun ls hl => ?_)
          refine lv_goto (tgt := 4) hx hb dX3_contacts_30 (by decide) ?_
          exact ih_4 (i + 1) v (by omega) (by omega) (by subst hv; first | exact bs_orT (by omega) c1 | exact bs_orF c1) _ _ hP hS ls (lv_sub hl [1, 2, 3, 0] rfl)
        · skip
          have c1 := bI_n0 (fun q => c_18 (h_15.trans q))
          refine lv_iload_n hx hb dX3_contacts_21 rfl (lv_at hl 2 rfl) ?_
          refine lv_iconst (v := 1) hx hb dX3_contacts_22 (by decide) ?_
          refine lv_iload_n hx hb dX3_contacts_23 rfl (lv_at hl 3 rfl) ?_
          refine lv_ishl hx hb dX3_contacts_24 ?_
          refine lv_ior hx hb dX3_contacts_25 ?_
          refine lv_istore_n (lv' := [(2, .int (v ||| (1 <<< ((nI i) &&& 31)))), (0, .ref o), (1, .int (nI a)), (3, .int (nI i))]) hx hb dX3_contacts_26 rfl hl (by decide) rfl (fun ls hl => ?_)
          refine lv_iinc (v := nI (i + 1)) (lv' := [(3, .int (nI (i + 1))), (2, .int (v ||| (1 <<< ((nI i) &&& 31)))), (0, .ref o), (1, .int (nI a))]) hx hb dX3_contacts_27 hl (k := 3) rfl (inc1 _) (by decide) rfl (fun ls hl => ?_)
          refine lv_goto (tgt := 4) hx hb dX3_contacts_30 (by decide) ?_
          exact ih_4 (i + 1) (v ||| (1 <<< ((nI i) &&& 31))) (by omega) (by omega) (by subst hv; first | exact bs_orT (by omega) c1 | exact bs_orF c1) _ _ hP hS ls (lv_sub hl [2, 3, 1, 0] rfl)
  exact L_4 _ 0 0 (Nat.lt_succ_self _) (by omega) (rfl) _ _ hP hS ls (lv_sub hl [2, 3, 1, 0] rfl)
/-- the grounds that a point sees -/
def gsB (fg : Nat → Int32) (bl : Int32) (a : Nat) (x : Int32) (t : Nat) : Bool := seesB fg bl a x t (fg t)
/-- how many neighbors are higher -/
def hnN (T : Nat → Int32) (n a : Nat) : Nat := (if 0 < a ∧ T a < T (a - 1) then 1 else 0) + (if a + 1 < n ∧ T a < T (a + 1) then 1 else 0)
/-- the least of d values from lo + 1 on: its place and the value, the first of several -/
def obs (cl : Nat → Int32) (lo : Nat) : Nat → Int32 × Int32
  | 0 => (-1, 0)
  | d + 1 => if (obs cl lo d).1 = -1 ∨ cl (lo + 1 + d) < (obs cl lo d).2 then (nI (lo + 1 + d), cl (lo + 1 + d)) else obs cl lo d
theorem obs_T {cl : Nat → Int32} {lo d : Nat} (h : (obs cl lo d).1 = -1 ∨ cl (lo + 1 + d) < (obs cl lo d).2) : obs cl lo (d + 1) = (nI (lo + 1 + d), cl (lo + 1 + d)) := by rw [obs, if_pos h]
theorem obs_F {cl : Nat → Int32} {lo d : Nat} (h1 : ¬ (obs cl lo d).1 = -1) (h2 : ¬ cl (lo + 1 + d) < (obs cl lo d).2) : obs cl lo (d + 1) = obs cl lo d := by rw [obs, if_neg (fun q => q.elim h1 h2)]
/-- pairs a < b -/
def prN (P : Nat → Nat → Bool) (n : Nat) : Nat := fb_sm (fun a => fb_ct (fun b => decide (a < b) && P a b) n) n
theorem fb_ct_stop {P : Nat → Bool} {k : Nat} : ∀ {n : Nat}, k ≤ n → (∀ j, k ≤ j → j < n → P j = false) → fb_ct P n = fb_ct P k
  | 0, h, _ => by rw [Nat.le_zero.mp h]
  | n + 1, h, hp => by
    rcases Nat.eq_or_lt_of_le h with e | e
    · rw [e]
    · rw [fb_ct_succ, hp n (by omega) (by omega), if_neg (by decide), Nat.add_zero]
      exact fb_ct_stop (by omega) (fun j h1 h2 => hp j h1 (by omega))
theorem fb_ct_low (P : Nat → Bool) (a k : Nat) (h : k ≤ a + 1) : fb_ct (fun b => decide (a < b) && P b) k = 0 := fb_ct_zero.mpr (fun j hj => by rw [decide_eq_false (by omega)]; rfl)
theorem fb_ct_T {P : Nat → Bool} {k : Nat} (h : P k = true) : fb_ct P (k + 1) = fb_ct P k + 1 := by rw [fb_ct_succ, if_pos h]
theorem fb_ct_F {P : Nat → Bool} {k : Nat} (h : P k = false) : fb_ct P (k + 1) = fb_ct P k := by rw [fb_ct_succ, if_neg (by rw [h]; decide), Nat.add_zero]
def smI (f : Nat → Int32) : Nat → Int32
  | 0 => 0
  | k + 1 => smI f k + f k
theorem kX3_groundsSeen_0 : ∀ w ∈ wsX30, w ∈ wsX3_groundsSeen := by decide +kernel
theorem kX3_groundsSeen_1 : (.fieldLink RX3 18 "SightRidge$Profile" "stations" "I" : Cond) ∈ wsX3_groundsSeen := by decide +kernel
theorem kX3_groundsSeen_2 : (.fieldLink RX3 9 "SightRidge$Profile" "grounds" "[I" : Cond) ∈ wsX3_groundsSeen := by decide +kernel
set_option maxHeartbeats 4000000 in
set_option maxRecDepth 100000 in
/-- groundsSeen(a, x) -/
theorem c_X3_groundsSeen (l : Launch) (D : va_G) (cI cB cO : ClassId) (o ga ma : Nat) (n : Nat) (rg bl : Int32) (fg fm : Nat → Int32) (G M : Nat → Int32) (a : Nat) (x : Int32) (hn : n ≤ 20) (hG : ∀ k, k < n → fg k = G k) (hM : ∀ k, k < n → fm k = M k) (ha : a < n) : Met l yX3_groundsSeen wsX3_groundsSeen (rmD 4) (rdPc D (tyL cI cB cO) [.ref o, .int (nI a), .int x] [(o, .inr (3, [.ref ga, .ref ma, .int (nI n), .int rg, .int bl])), (ga, .inl (cI, 20, .inl fg)), (ma, .inl (cI, 20, .inl fm))]) (rdQi (fun r => r = nI (bs (gsB G bl a x) n))) 0 0 noA := by
  refine Met.ofW (cc := cX3_groundsSeen) (maxL := 5) (ret := (some .int)) (by decide) rfl ?_
  intro p e s m args below meth c s₁ B hml hv
  obtain ⟨rfl, hP, hK, hN⟩ := hv
  have hx := B.exec
  have hb := B.bytes
  have hr := B.returns
  have hts := atoms_spec (ws := wsX3_groundsSeen) B.pre
  have hown : s.vm.findClass RX3 = some m.cls := findClass_of_methodNamed B.named
  have hlocks := B.notSynchronized
  have hS : va_S noA s.heap s.heap [] := va_S.rf
  have hl := lv_entry ([.ref o, .int (nI a), .int x]) (n := 5) (Nat.le_of_ble_eq_true rfl)
  rw [lg_entry_eq]
  generalize (lg_sl ([.ref o, .int (nI a), .int x]) ++ List.replicate (5 - (lg_sl ([.ref o, .int (nI a), .int x])).length) Slot.unset).toArray = ls at hl ⊢
  have hl : lv_has ls 5 [(0, .ref o), (1, .int (nI a)), (2, .int x)] := hl
  refine lv_iconst (v := 0) hx hb dX3_groundsSeen_0 (by decide) ?_
  refine lv_istore_n (lv' := [(3, .int 0), (0, .ref o), (1, .int (nI a)), (2, .int x)]) hx hb dX3_groundsSeen_1 rfl hl (by decide) rfl (fun ls hl => ?_)
  refine lv_iconst (v := 0) hx hb dX3_groundsSeen_2 (by decide) ?_
  refine lv_istore (lv' := [(4, .int 0), (3, .int 0), (0, .ref o), (1, .int (nI a)), (2, .int x)]) hx hb dX3_groundsSeen_3 hl (by decide) rfl (fun ls hl => ?_)
  have L_5 : ∀ (k_5 : Nat) (i : Nat) (v : Int32), n - i < k_5 → (i ≤ n) → (v = nI (bs (gsB G bl a x) i)) → ∀ (H : Heap) (locs : List Loc), va_P D vwCl [(o, .inr (3, [.ref ga, .ref ma, .int (nI n), .int rg, .int bl])), (ga, .inl (cI, 20, .inl fg)), (ma, .inl (cI, 20, .inl fm))] H → va_S noA s.heap H locs → ∀ (ls : Array Slot), lv_has ls 5 [(0, .ref o), (1, .int (nI a)), (2, .int x), (3, .int v), (4, .int (nI i))] → W p l e (rmD 4) s m ([.ref o, .int (nI a), .int x] : List Value).toArray below meth c H locs 0 0 (MQ below (rdQi (fun r => r = nI (bs (gsB G bl a x) n))) ([.ref o, .int (nI a), .int x] : List Value).toArray s 0 0 noA) (F0 m 5 ls []) := by
    intro k_5
    induction k_5 with
    | zero => intro i v h9; exact absurd h9 (Nat.not_lt_zero _)
    | succ k_5 ih_5 =>
      intro i v hm_5 hi hv H locs hP hS ls hl
      refine lv_iload hx hb dX3_groundsSeen_5 (lv_at hl 4 rfl) ?_
      refine lv_aload_n hx hb dX3_groundsSeen_7 rfl (lv_at hl 0 rfl) ?_
      refine va_get (D := D) (ci := 3) (v := .int (nI n)) (C := RX3) (T := TX3) (N := 5) hx hb hts kX3_groundsSeen_0 hown hK hP 0 rfl rfl 2 (by decide) (hts (.fieldLink RX3 18 "SightRidge$Profile" "stations" "I") kX3_groundsSeen_1) (fun _ h9 => h9) rfl dX3_groundsSeen_8 ?_
      refine lv_icmp_ge (tgt := 45) hx hb dX3_groundsSeen_11 (by decide) (fun c_11 => ?_) (fun c_11 => ?_)
      · skip
        have c0 : n ≤ i := ge_t (by omega) c_11
        refine lv_iload_n hx hb dX3_groundsSeen_45 rfl (lv_at hl 3 rfl) ?_
        exact W.iret (v := v) hx hb hr (fun tS htS hWS => ⟨⟨v, (), rfl, (by rw [show n = i by omega]; exact hv), trivial⟩, hS.F htS⟩) hS.2.2 dX3_groundsSeen_46
      · skip
        have c0 : i < n := ge_f (by omega) c_11
        refine lv_aload_n hx hb dX3_groundsSeen_14 rfl (lv_at hl 0 rfl) ?_
        refine lv_iload_n hx hb dX3_groundsSeen_15 rfl (lv_at hl 1 rfl) ?_
        refine lv_iload_n hx hb dX3_groundsSeen_16 rfl (lv_at hl 2 rfl) ?_
        refine lv_iload hx hb dX3_groundsSeen_17 (lv_at hl 4 rfl) ?_
        refine lv_aload_n hx hb dX3_groundsSeen_19 rfl (lv_at hl 0 rfl) ?_
        refine va_get (D := D) (ci := 3) (v := .ref ga) (C := RX3) (T := TX3) (N := 5) hx hb hts kX3_groundsSeen_0 hown hK hP 0 rfl rfl 0 (by decide) (hts (.fieldLink RX3 9 "SightRidge$Profile" "grounds" "[I") kX3_groundsSeen_2) (fun _ h9 => h9) rfl dX3_groundsSeen_20 ?_
        refine lv_iload hx hb dX3_groundsSeen_23 (lv_at hl 4 rfl) ?_
        refine va_iald hx hb hK hP 1 0 rfl rfl (i := nI i) (vp_in_nI (N := 20) (by omega) (by decide)) dX3_groundsSeen_25 ?_
        rw [nI_clamp (n := i) (by omega)]
        refine lv_topi (fun y_1 e_2 => ?_)
        have e_2 : G i = y_1 := (e_2.trans (hG i c0)).symm
        subst e_2
        refine rd_calli hP hS (va_runV (As := [.int (nI a), .int x, .int (nI i), .int (G i)]) (rest := []) ⟨hx, hb, hml, hown, hts⟩ (c_X3_pointsSee l D cI cB cO o ga ma n rg bl fg fm G M a x i (G i) hn hG hM ha c0) (cwV 4 hts gX3_groundsSeen_X3_pointsSee rfl rfl rfl (by decide +kernel) ⟨Nat.le_of_ble_eq_true rfl, Nat.le_of_ble_eq_true rfl⟩) (rd_preV (r := (RX3, TX3, 5)) (ci := 3) hK (hP.pick [0, 1, 2] rfl) hN (q0 := 0) rfl rfl) rfl rfl hl.1 rfl (lv_room (Nat.le_of_ble_eq_true rfl)) dX3_groundsSeen_26 ⟨Nat.le_refl _, Nat.le_refl _⟩) (fun r_26 H locs h_26 hP hS => ?_)
        refine lv_if_eq (tgt := 39) hx hb dX3_groundsSeen_29 (by decide) (fun c_29 => ?_) (fun c_29 => ?_)
        · skip
          have c1 := bI_e0 (h_26 ▸ c_29)
          refine lv_iinc (v := nI (i + 1)) (lv' := [(4, .int (nI (i + 1))), (0, .ref o), (1, .int (nI a)), (2, .int x), (3, .int v)]) hx hb dX3_groundsSeen_39 hl (k := 4) rfl (inc1 _) (by decide) rfl (fun ls hl => ?_)
          refine lv_goto (tgt := 5) hx hb dX3_groundsSeen_42 (by decide) ?_
          exact ih_5 (i + 1) v (by omega) (by omega) (by subst hv; first | exact bs_orT (by omega) c1 | exact bs_orF c1) _ _ hP hS ls (lv_sub hl [1, 2, 3, 4, 0] rfl)
        · skip
          have c1 := bI_n0 (fun q => c_29 (h_26.trans q))
          refine lv_iload_n hx hb dX3_groundsSeen_32 rfl (lv_at hl 3 rfl) ?_
          refine lv_iconst (v := 1) hx hb dX3_groundsSeen_33 (by decide) ?_
          refine lv_iload hx hb dX3_groundsSeen_34 (lv_at hl 4 rfl) ?_
          refine lv_ishl hx hb dX3_groundsSeen_36 ?_
          refine lv_ior hx hb dX3_groundsSeen_37 ?_
          refine lv_istore_n (lv' := [(3, .int (v ||| (1 <<< ((nI i) &&& 31)))), (0, .ref o), (1, .int (nI a)), (2, .int x), (4, .int (nI i))]) hx hb dX3_groundsSeen_38 rfl hl (by decide) rfl (fun ls hl => ?_)
          refine lv_iinc (v := nI (i + 1)) (lv' := [(4, .int (nI (i + 1))), (3, .int (v ||| (1 <<< ((nI i) &&& 31)))), (0, .ref o), (1, .int (nI a)), (2, .int x)]) hx hb dX3_groundsSeen_39 hl (k := 4) rfl (inc1 _) (by decide) rfl (fun ls hl => ?_)
          refine lv_goto (tgt := 5) hx hb dX3_groundsSeen_42 (by decide) ?_
          exact ih_5 (i + 1) (v ||| (1 <<< ((nI i) &&& 31))) (by omega) (by omega) (by subst hv; first | exact bs_orT (by omega) c1 | exact bs_orF c1) _ _ hP hS ls (lv_sub hl [2, 3, 4, 1, 0] rfl)
  exact L_5 _ 0 0 (Nat.lt_succ_self _) (by omega) (rfl) _ _ hP hS ls (lv_sub hl [2, 3, 4, 1, 0] rfl)
set_option maxHeartbeats 4000000 in
set_option maxRecDepth 100000 in
/-- higherNeighbors(a) -/
theorem c_X3_higherNeighbors (l : Launch) (D : va_G) (cI cB cO : ClassId) (o ga ma : Nat) (n : Nat) (rg bl : Int32) (fg fm : Nat → Int32) (G M : Nat → Int32) (a : Nat) (hn : n ≤ 20) (hG : ∀ k, k < n → fg k = G k) (hM : ∀ k, k < n → fm k = M k) (ha : a < n) : Met l yX3_higherNeighbors wsX3_higherNeighbors (rmD 4) (rdPc D (tyL cI cB cO) [.ref o, .int (nI a)] [(o, .inr (3, [.ref ga, .ref ma, .int (nI n), .int rg, .int bl])), (ga, .inl (cI, 20, .inl fg)), (ma, .inl (cI, 20, .inl fm))]) (rdQi (fun r => r = nI (hnN (tp G M) n a))) 0 0 noA := by
  refine Met.ofW (cc := cX3_higherNeighbors) (maxL := 4) (ret := (some .int)) (by decide) rfl ?_
  intro p e s m args below meth c s₁ B hml hv
  obtain ⟨rfl, hP, hK, hN⟩ := hv
  have hx := B.exec
  have hb := B.bytes
  have hr := B.returns
  have hts := atoms_spec (ws := wsX3_higherNeighbors) B.pre
  have hown : s.vm.findClass RX3 = some m.cls := findClass_of_methodNamed B.named
  have hlocks := B.notSynchronized
  have hS : va_S noA s.heap s.heap [] := va_S.rf
  have hl := lv_entry ([.ref o, .int (nI a)]) (n := 4) (Nat.le_of_ble_eq_true rfl)
  rw [lg_entry_eq]
  generalize (lg_sl ([.ref o, .int (nI a)]) ++ List.replicate (4 - (lg_sl ([.ref o, .int (nI a)])).length) Slot.unset).toArray = ls at hl ⊢
  have hl : lv_has ls 4 [(0, .ref o), (1, .int (nI a))] := hl
  refine lv_iconst (v := 0) hx hb dX3_higherNeighbors_0 (by decide) ?_
  refine lv_istore_n (lv' := [(2, .int 0), (0, .ref o), (1, .int (nI a))]) hx hb dX3_higherNeighbors_1 rfl hl (by decide) rfl (fun ls hl => ?_)
  rcases Nat.eq_zero_or_pos a with h0 | h0
  · skip
    subst h0
    have hl : lv_has ls 4 [(2, .int 0), (0, .ref o), (1, .int (nI 0))] := hl
    refine lv_iload_n hx hb dX3_higherNeighbors_2 rfl (lv_at hl 2 rfl) ?_
    refine lv_iconst (v := 1) hx hb dX3_higherNeighbors_3 (by decide) ?_
    refine lv_isub hx hb dX3_higherNeighbors_4 ?_
    refine lv_topi (fun y_1 e_2 => ?_)
    have e_2 : (-1) = y_1 := (e_2.trans (by decide)).symm
    subst e_2
    refine lv_istore_n (lv' := [(3, .int (-1)), (2, .int 0), (0, .ref o), (1, .int (nI 0))]) hx hb dX3_higherNeighbors_5 rfl hl (by decide) rfl (fun ls hl => ?_)
    refine lv_iload_n hx hb dX3_higherNeighbors_6 rfl (lv_at hl 0 rfl) ?_
    refine lv_iload_n hx hb dX3_higherNeighbors_7 rfl (lv_at hl 3 rfl) ?_
    refine lv_iconst (v := 1) hx hb dX3_higherNeighbors_8 (by decide) ?_
    refine lv_iadd hx hb dX3_higherNeighbors_9 ?_
    refine lv_topi (fun y_3 e_4 => ?_)
    have e_4 : nI (0 + 1) = y_3 := (e_4.trans (nI_add 0 1)).symm
    subst e_4
    refine lv_icmp_gt (tgt := 43) hx hb dX3_higherNeighbors_10 (by decide) (fun c_10 => ?_) (fun c_10 => ?_)
    · skip
      exact absurd c_10 (by decide)
    · skip
      refine lv_aload_n hx hb dX3_higherNeighbors_13 rfl (lv_at hl 2 rfl) ?_
      refine lv_iload_n hx hb dX3_higherNeighbors_14 rfl (lv_at hl 0 rfl) ?_
      refine rd_calli hP hS (va_runV (As := [.int (-1)]) (rest := []) ⟨hx, hb, hml, hown, hts⟩ (c_X3_has l D cI cB cO o ga ma n rg bl fg fm (-1) ) (cwV 1 hts gX3_higherNeighbors_X3_has rfl rfl rfl (by decide +kernel) ⟨Nat.le_of_ble_eq_true rfl, Nat.le_of_ble_eq_true rfl⟩) (rd_preV (r := (RX3, TX3, 5)) (ci := 3) hK (hP.pick [0, 1, 2] rfl) hN (q0 := 0) rfl rfl) rfl rfl hl.1 rfl (lv_room (Nat.le_of_ble_eq_true rfl)) dX3_higherNeighbors_15 ⟨Nat.le_refl _, Nat.le_refl _⟩) (fun r_15 H locs h_15 hP hS => ?_)
      have g0 : r_15 = bI false := h_15.trans (by unfold hasB; rw [decide_eq_false (fun q => q.1 (by decide))])
      refine lv_if_eq (tgt := 37) hx hb dX3_higherNeighbors_18 (by decide) (fun c_18 => ?_) (fun c_18 => ?_)
      · skip
        refine lv_iinc (v := nI 0) (lv' := [(3, .int (nI 0)), (2, .int 0), (0, .ref o), (1, .int (nI 0))]) hx hb dX3_higherNeighbors_37 hl (k := 0) rfl (by decide) (by decide) rfl (fun ls hl => ?_)
        refine lv_goto (tgt := 6) hx hb dX3_higherNeighbors_40 (by decide) ?_
        refine lv_iload_n hx hb dX3_higherNeighbors_6 rfl (lv_at hl 0 rfl) ?_
        refine lv_iload_n hx hb dX3_higherNeighbors_7 rfl (lv_at hl 3 rfl) ?_
        refine lv_iconst (v := 1) hx hb dX3_higherNeighbors_8 (by decide) ?_
        refine lv_iadd hx hb dX3_higherNeighbors_9 ?_
        refine lv_topi (fun y_5 e_6 => ?_)
        have e_6 : nI (0 + 1) = y_5 := (e_6.trans (nI_add 0 1)).symm
        subst e_6
        refine lv_icmp_gt (tgt := 43) hx hb dX3_higherNeighbors_10 (by decide) (fun c_10 => ?_) (fun c_10 => ?_)
        · skip
          exact absurd c_10 (nI_nlt (by omega) (by omega))
        · skip
          refine lv_aload_n hx hb dX3_higherNeighbors_13 rfl (lv_at hl 2 rfl) ?_
          refine lv_iload_n hx hb dX3_higherNeighbors_14 rfl (lv_at hl 0 rfl) ?_
          refine rd_calli hP hS (va_runV (As := [.int (nI 0)]) (rest := []) ⟨hx, hb, hml, hown, hts⟩ (c_X3_has l D cI cB cO o ga ma n rg bl fg fm (nI 0) ) (cwV 1 hts gX3_higherNeighbors_X3_has rfl rfl rfl (by decide +kernel) ⟨Nat.le_of_ble_eq_true rfl, Nat.le_of_ble_eq_true rfl⟩) (rd_preV (r := (RX3, TX3, 5)) (ci := 3) hK (hP.pick [0, 1, 2] rfl) hN (q0 := 0) rfl rfl) rfl rfl hl.1 rfl (lv_room (Nat.le_of_ble_eq_true rfl)) dX3_higherNeighbors_15 ⟨Nat.le_refl _, Nat.le_refl _⟩) (fun r_15 H locs h_15 hP hS => ?_)
          have g0 : r_15 = bI true := h_15.trans (by rw [hasB_in ha hn])
          refine lv_if_eq (tgt := 37) hx hb dX3_higherNeighbors_18 (by decide) (fun c_18 => ?_) (fun c_18 => ?_)
          · skip
            exact absurd (g0.symm.trans c_18) (by decide)
          · skip
            refine lv_aload_n hx hb dX3_higherNeighbors_21 rfl (lv_at hl 2 rfl) ?_
            refine lv_iload_n hx hb dX3_higherNeighbors_22 rfl (lv_at hl 0 rfl) ?_
            refine rd_calli hP hS (va_runV (As := [.int (nI 0)]) (rest := []) ⟨hx, hb, hml, hown, hts⟩ (c_X3_topOf l D cI cB cO o ga ma n rg bl fg fm G M 0 hn hG hM (by omega)) (cwV 1 hts gX3_higherNeighbors_X3_topOf rfl rfl rfl (by decide +kernel) ⟨Nat.le_of_ble_eq_true rfl, Nat.le_of_ble_eq_true rfl⟩) (rd_preV (r := (RX3, TX3, 5)) (ci := 3) hK (hP.pick [0, 1, 2] rfl) hN (q0 := 0) rfl rfl) rfl rfl hl.1 rfl (lv_room (Nat.le_of_ble_eq_true rfl)) dX3_higherNeighbors_23 ⟨Nat.le_refl _, Nat.le_refl _⟩) (fun r_23 H locs h_23 hP hS => ?_)
            refine lv_aload_n hx hb dX3_higherNeighbors_26 rfl (lv_at hl 2 rfl) ?_
            refine lv_iload_n hx hb dX3_higherNeighbors_27 rfl (lv_at hl 3 rfl) ?_
            refine rd_calli hP hS (va_runV (As := [.int (nI 0)]) (rest := [.int r_23]) ⟨hx, hb, hml, hown, hts⟩ (c_X3_topOf l D cI cB cO o ga ma n rg bl fg fm G M 0 hn hG hM (by omega)) (cwV 1 hts gX3_higherNeighbors_X3_topOf rfl rfl rfl (by decide +kernel) ⟨Nat.le_of_ble_eq_true rfl, Nat.le_of_ble_eq_true rfl⟩) (rd_preV (r := (RX3, TX3, 5)) (ci := 3) hK (hP.pick [0, 1, 2] rfl) hN (q0 := 0) rfl rfl) rfl rfl hl.1 rfl (lv_room (Nat.le_of_ble_eq_true rfl)) dX3_higherNeighbors_28 ⟨Nat.le_refl _, Nat.le_refl _⟩) (fun r_28 H locs h_28 hP hS => ?_)
            refine lv_icmp_le (tgt := 37) hx hb dX3_higherNeighbors_31 (by decide) (fun c_31 => ?_) (fun c_31 => ?_)
            · skip
              rw [h_23, h_28] at c_31
              refine lv_iinc (v := nI (0 + 1)) (lv' := [(3, .int (nI (0 + 1))), (2, .int 0), (0, .ref o), (1, .int (nI 0))]) hx hb dX3_higherNeighbors_37 hl (k := 0) rfl (inc1 _) (by decide) rfl (fun ls hl => ?_)
              refine lv_goto (tgt := 6) hx hb dX3_higherNeighbors_40 (by decide) ?_
              refine lv_iload_n hx hb dX3_higherNeighbors_6 rfl (lv_at hl 0 rfl) ?_
              refine lv_iload_n hx hb dX3_higherNeighbors_7 rfl (lv_at hl 3 rfl) ?_
              refine lv_iconst (v := 1) hx hb dX3_higherNeighbors_8 (by decide) ?_
              refine lv_iadd hx hb dX3_higherNeighbors_9 ?_
              refine lv_topi (fun y_7 e_8 => ?_)
              have e_8 : nI (0 + 1) = y_7 := (e_8.trans (nI_add 0 1)).symm
              subst e_8
              refine lv_icmp_gt (tgt := 43) hx hb dX3_higherNeighbors_10 (by decide) (fun c_10 => ?_) (fun c_10 => ?_)
              · skip
                exact absurd c_10 (nI_nlt (by omega) (by omega))
              · skip
                refine lv_aload_n hx hb dX3_higherNeighbors_13 rfl (lv_at hl 2 rfl) ?_
                refine lv_iload_n hx hb dX3_higherNeighbors_14 rfl (lv_at hl 0 rfl) ?_
                refine rd_calli hP hS (va_runV (As := [.int (nI (0 + 1))]) (rest := []) ⟨hx, hb, hml, hown, hts⟩ (c_X3_has l D cI cB cO o ga ma n rg bl fg fm (nI (0 + 1)) ) (cwV 1 hts gX3_higherNeighbors_X3_has rfl rfl rfl (by decide +kernel) ⟨Nat.le_of_ble_eq_true rfl, Nat.le_of_ble_eq_true rfl⟩) (rd_preV (r := (RX3, TX3, 5)) (ci := 3) hK (hP.pick [0, 1, 2] rfl) hN (q0 := 0) rfl rfl) rfl rfl hl.1 rfl (lv_room (Nat.le_of_ble_eq_true rfl)) dX3_higherNeighbors_15 ⟨Nat.le_refl _, Nat.le_refl _⟩) (fun r_15 H locs h_15 hP hS => ?_)
                have g0 : r_15 = bI (decide (0 + 1 < n)) := h_15.trans (by rw [hasB_nI (by omega) (by omega)])
                refine lv_if_eq (tgt := 37) hx hb dX3_higherNeighbors_18 (by decide) (fun c_18 => ?_) (fun c_18 => ?_)
                · skip
                  have g2 : ¬ 0 + 1 < n := of_decide_eq_false (bI_e0 (g0.symm.trans c_18))
                  refine lv_iinc (v := nI (0 + 1 + 1)) (lv' := [(3, .int (nI (0 + 1 + 1))), (2, .int 0), (0, .ref o), (1, .int (nI 0))]) hx hb dX3_higherNeighbors_37 hl (k := 0) rfl (inc1 _) (by decide) rfl (fun ls hl => ?_)
                  refine lv_goto (tgt := 6) hx hb dX3_higherNeighbors_40 (by decide) ?_
                  refine lv_iload_n hx hb dX3_higherNeighbors_6 rfl (lv_at hl 0 rfl) ?_
                  refine lv_iload_n hx hb dX3_higherNeighbors_7 rfl (lv_at hl 3 rfl) ?_
                  refine lv_iconst (v := 1) hx hb dX3_higherNeighbors_8 (by decide) ?_
                  refine lv_iadd hx hb dX3_higherNeighbors_9 ?_
                  refine lv_topi (fun y_9 e_10 => ?_)
                  have e_10 : nI (0 + 1) = y_9 := (e_10.trans (nI_add 0 1)).symm
                  subst e_10
                  refine lv_icmp_gt (tgt := 43) hx hb dX3_higherNeighbors_10 (by decide) (fun c_10 => ?_) (fun c_10 => ?_)
                  · skip
                    refine lv_iload_n hx hb dX3_higherNeighbors_43 rfl (lv_at hl 1 rfl) ?_
                    exact W.iret (v := 0) hx hb hr (fun tS htS hWS => ⟨⟨0, (), rfl, (by unfold hnN; rw [if_neg (fun q => absurd q.1 (Nat.lt_irrefl 0)), if_neg (fun q => g2 q.1)]; rfl), trivial⟩, hS.F htS⟩) hS.2.2 dX3_higherNeighbors_44
                  · skip
                    exact absurd (nI_lt (by omega) (by omega)) c_10
                · skip
                  have g2 : 0 + 1 < n := of_decide_eq_true (bI_n0 (fun q => c_18 (g0.trans q)))
                  refine lv_aload_n hx hb dX3_higherNeighbors_21 rfl (lv_at hl 2 rfl) ?_
                  refine lv_iload_n hx hb dX3_higherNeighbors_22 rfl (lv_at hl 0 rfl) ?_
                  refine rd_calli hP hS (va_runV (As := [.int (nI (0 + 1))]) (rest := []) ⟨hx, hb, hml, hown, hts⟩ (c_X3_topOf l D cI cB cO o ga ma n rg bl fg fm G M (0 + 1) hn hG hM (by omega)) (cwV 1 hts gX3_higherNeighbors_X3_topOf rfl rfl rfl (by decide +kernel) ⟨Nat.le_of_ble_eq_true rfl, Nat.le_of_ble_eq_true rfl⟩) (rd_preV (r := (RX3, TX3, 5)) (ci := 3) hK (hP.pick [0, 1, 2] rfl) hN (q0 := 0) rfl rfl) rfl rfl hl.1 rfl (lv_room (Nat.le_of_ble_eq_true rfl)) dX3_higherNeighbors_23 ⟨Nat.le_refl _, Nat.le_refl _⟩) (fun r_23 H locs h_23 hP hS => ?_)
                  refine lv_aload_n hx hb dX3_higherNeighbors_26 rfl (lv_at hl 2 rfl) ?_
                  refine lv_iload_n hx hb dX3_higherNeighbors_27 rfl (lv_at hl 3 rfl) ?_
                  refine rd_calli hP hS (va_runV (As := [.int (nI 0)]) (rest := [.int r_23]) ⟨hx, hb, hml, hown, hts⟩ (c_X3_topOf l D cI cB cO o ga ma n rg bl fg fm G M 0 hn hG hM (by omega)) (cwV 1 hts gX3_higherNeighbors_X3_topOf rfl rfl rfl (by decide +kernel) ⟨Nat.le_of_ble_eq_true rfl, Nat.le_of_ble_eq_true rfl⟩) (rd_preV (r := (RX3, TX3, 5)) (ci := 3) hK (hP.pick [0, 1, 2] rfl) hN (q0 := 0) rfl rfl) rfl rfl hl.1 rfl (lv_room (Nat.le_of_ble_eq_true rfl)) dX3_higherNeighbors_28 ⟨Nat.le_refl _, Nat.le_refl _⟩) (fun r_28 H locs h_28 hP hS => ?_)
                  refine lv_icmp_le (tgt := 37) hx hb dX3_higherNeighbors_31 (by decide) (fun c_31 => ?_) (fun c_31 => ?_)
                  · skip
                    rw [h_23, h_28] at c_31
                    have g3 : ¬ tp G M 0 < tp G M (0 + 1) := Int32.not_lt.mpr c_31
                    refine lv_iinc (v := nI (0 + 1 + 1)) (lv' := [(3, .int (nI (0 + 1 + 1))), (2, .int 0), (0, .ref o), (1, .int (nI 0))]) hx hb dX3_higherNeighbors_37 hl (k := 0) rfl (inc1 _) (by decide) rfl (fun ls hl => ?_)
                    refine lv_goto (tgt := 6) hx hb dX3_higherNeighbors_40 (by decide) ?_
                    refine lv_iload_n hx hb dX3_higherNeighbors_6 rfl (lv_at hl 0 rfl) ?_
                    refine lv_iload_n hx hb dX3_higherNeighbors_7 rfl (lv_at hl 3 rfl) ?_
                    refine lv_iconst (v := 1) hx hb dX3_higherNeighbors_8 (by decide) ?_
                    refine lv_iadd hx hb dX3_higherNeighbors_9 ?_
                    refine lv_topi (fun y_11 e_12 => ?_)
                    have e_12 : nI (0 + 1) = y_11 := (e_12.trans (nI_add 0 1)).symm
                    subst e_12
                    refine lv_icmp_gt (tgt := 43) hx hb dX3_higherNeighbors_10 (by decide) (fun c_10 => ?_) (fun c_10 => ?_)
                    · skip
                      refine lv_iload_n hx hb dX3_higherNeighbors_43 rfl (lv_at hl 1 rfl) ?_
                      exact W.iret (v := 0) hx hb hr (fun tS htS hWS => ⟨⟨0, (), rfl, (by unfold hnN; rw [if_neg (fun q => absurd q.1 (Nat.lt_irrefl 0)), if_neg (fun q => g3 q.2)]; rfl), trivial⟩, hS.F htS⟩) hS.2.2 dX3_higherNeighbors_44
                    · skip
                      exact absurd (nI_lt (by omega) (by omega)) c_10
                  · skip
                    rw [h_23, h_28] at c_31
                    have g3 : tp G M 0 < tp G M (0 + 1) := Int32.not_le.mp c_31
                    refine lv_iinc (v := 0 + 1) (lv' := [(2, .int (0 + 1)), (3, .int (nI (0 + 1))), (0, .ref o), (1, .int (nI 0))]) hx hb dX3_higherNeighbors_34 hl (k := 1) rfl (rfl) (by decide) rfl (fun ls hl => ?_)
                    refine lv_iinc (v := nI (0 + 1 + 1)) (lv' := [(3, .int (nI (0 + 1 + 1))), (2, .int (0 + 1)), (0, .ref o), (1, .int (nI 0))]) hx hb dX3_higherNeighbors_37 hl (k := 1) rfl (inc1 _) (by decide) rfl (fun ls hl => ?_)
                    refine lv_goto (tgt := 6) hx hb dX3_higherNeighbors_40 (by decide) ?_
                    refine lv_iload_n hx hb dX3_higherNeighbors_6 rfl (lv_at hl 0 rfl) ?_
                    refine lv_iload_n hx hb dX3_higherNeighbors_7 rfl (lv_at hl 3 rfl) ?_
                    refine lv_iconst (v := 1) hx hb dX3_higherNeighbors_8 (by decide) ?_
                    refine lv_iadd hx hb dX3_higherNeighbors_9 ?_
                    refine lv_topi (fun y_13 e_14 => ?_)
                    have e_14 : nI (0 + 1) = y_13 := (e_14.trans (nI_add 0 1)).symm
                    subst e_14
                    refine lv_icmp_gt (tgt := 43) hx hb dX3_higherNeighbors_10 (by decide) (fun c_10 => ?_) (fun c_10 => ?_)
                    · skip
                      refine lv_iload_n hx hb dX3_higherNeighbors_43 rfl (lv_at hl 1 rfl) ?_
                      exact W.iret (v := 0 + 1) hx hb hr (fun tS htS hWS => ⟨⟨0 + 1, (), rfl, (by unfold hnN; rw [if_neg (fun q => absurd q.1 (Nat.lt_irrefl 0)), if_pos (⟨g2, g3⟩ : 0 + 1 < n ∧ tp G M 0 < tp G M (0 + 1))]; rfl), trivial⟩, hS.F htS⟩) hS.2.2 dX3_higherNeighbors_44
                    · skip
                      exact absurd (nI_lt (by omega) (by omega)) c_10
            · skip
              rw [h_23, h_28] at c_31
              exact absurd (Int32.not_le.mp c_31) (Int32.lt_irrefl)
      · skip
        exact absurd g0 c_18
  · skip
    refine lv_iload_n hx hb dX3_higherNeighbors_2 rfl (lv_at hl 2 rfl) ?_
    refine lv_iconst (v := 1) hx hb dX3_higherNeighbors_3 (by decide) ?_
    refine lv_isub hx hb dX3_higherNeighbors_4 ?_
    refine lv_topi (fun y_15 e_16 => ?_)
    have e_16 : nI (a - 1) = y_15 := (e_16.trans (pk_sub h0)).symm
    subst e_16
    refine lv_istore_n (lv' := [(3, .int (nI (a - 1))), (2, .int 0), (0, .ref o), (1, .int (nI a))]) hx hb dX3_higherNeighbors_5 rfl hl (by decide) rfl (fun ls hl => ?_)
    refine lv_iload_n hx hb dX3_higherNeighbors_6 rfl (lv_at hl 0 rfl) ?_
    refine lv_iload_n hx hb dX3_higherNeighbors_7 rfl (lv_at hl 3 rfl) ?_
    refine lv_iconst (v := 1) hx hb dX3_higherNeighbors_8 (by decide) ?_
    refine lv_iadd hx hb dX3_higherNeighbors_9 ?_
    refine lv_topi (fun y_17 e_18 => ?_)
    have e_18 : nI (a + 1) = y_17 := (e_18.trans (nI_add a 1)).symm
    subst e_18
    refine lv_icmp_gt (tgt := 43) hx hb dX3_higherNeighbors_10 (by decide) (fun c_10 => ?_) (fun c_10 => ?_)
    · skip
      exact absurd c_10 (nI_nlt (by omega) (by omega))
    · skip
      refine lv_aload_n hx hb dX3_higherNeighbors_13 rfl (lv_at hl 2 rfl) ?_
      refine lv_iload_n hx hb dX3_higherNeighbors_14 rfl (lv_at hl 0 rfl) ?_
      refine rd_calli hP hS (va_runV (As := [.int (nI (a - 1))]) (rest := []) ⟨hx, hb, hml, hown, hts⟩ (c_X3_has l D cI cB cO o ga ma n rg bl fg fm (nI (a - 1)) ) (cwV 1 hts gX3_higherNeighbors_X3_has rfl rfl rfl (by decide +kernel) ⟨Nat.le_of_ble_eq_true rfl, Nat.le_of_ble_eq_true rfl⟩) (rd_preV (r := (RX3, TX3, 5)) (ci := 3) hK (hP.pick [0, 1, 2] rfl) hN (q0 := 0) rfl rfl) rfl rfl hl.1 rfl (lv_room (Nat.le_of_ble_eq_true rfl)) dX3_higherNeighbors_15 ⟨Nat.le_refl _, Nat.le_refl _⟩) (fun r_15 H locs h_15 hP hS => ?_)
      have g0 : r_15 = bI true := h_15.trans (by rw [hasB_in (by omega) hn])
      refine lv_if_eq (tgt := 37) hx hb dX3_higherNeighbors_18 (by decide) (fun c_18 => ?_) (fun c_18 => ?_)
      · skip
        exact absurd (g0.symm.trans c_18) (by decide)
      · skip
        refine lv_aload_n hx hb dX3_higherNeighbors_21 rfl (lv_at hl 2 rfl) ?_
        refine lv_iload_n hx hb dX3_higherNeighbors_22 rfl (lv_at hl 0 rfl) ?_
        refine rd_calli hP hS (va_runV (As := [.int (nI (a - 1))]) (rest := []) ⟨hx, hb, hml, hown, hts⟩ (c_X3_topOf l D cI cB cO o ga ma n rg bl fg fm G M (a - 1) hn hG hM (by omega)) (cwV 1 hts gX3_higherNeighbors_X3_topOf rfl rfl rfl (by decide +kernel) ⟨Nat.le_of_ble_eq_true rfl, Nat.le_of_ble_eq_true rfl⟩) (rd_preV (r := (RX3, TX3, 5)) (ci := 3) hK (hP.pick [0, 1, 2] rfl) hN (q0 := 0) rfl rfl) rfl rfl hl.1 rfl (lv_room (Nat.le_of_ble_eq_true rfl)) dX3_higherNeighbors_23 ⟨Nat.le_refl _, Nat.le_refl _⟩) (fun r_23 H locs h_23 hP hS => ?_)
        refine lv_aload_n hx hb dX3_higherNeighbors_26 rfl (lv_at hl 2 rfl) ?_
        refine lv_iload_n hx hb dX3_higherNeighbors_27 rfl (lv_at hl 3 rfl) ?_
        refine rd_calli hP hS (va_runV (As := [.int (nI a)]) (rest := [.int r_23]) ⟨hx, hb, hml, hown, hts⟩ (c_X3_topOf l D cI cB cO o ga ma n rg bl fg fm G M a hn hG hM (by omega)) (cwV 1 hts gX3_higherNeighbors_X3_topOf rfl rfl rfl (by decide +kernel) ⟨Nat.le_of_ble_eq_true rfl, Nat.le_of_ble_eq_true rfl⟩) (rd_preV (r := (RX3, TX3, 5)) (ci := 3) hK (hP.pick [0, 1, 2] rfl) hN (q0 := 0) rfl rfl) rfl rfl hl.1 rfl (lv_room (Nat.le_of_ble_eq_true rfl)) dX3_higherNeighbors_28 ⟨Nat.le_refl _, Nat.le_refl _⟩) (fun r_28 H locs h_28 hP hS => ?_)
        refine lv_icmp_le (tgt := 37) hx hb dX3_higherNeighbors_31 (by decide) (fun c_31 => ?_) (fun c_31 => ?_)
        · skip
          rw [h_23, h_28] at c_31
          have g1 : ¬ tp G M a < tp G M (a - 1) := Int32.not_lt.mpr c_31
          refine lv_iinc (v := nI a) (lv' := [(3, .int (nI a)), (2, .int 0), (0, .ref o), (1, .int (nI a))]) hx hb dX3_higherNeighbors_37 hl (k := 0) rfl ((inc1 (a - 1)).trans (by rw [Nat.sub_add_cancel h0])) (by decide) rfl (fun ls hl => ?_)
          refine lv_goto (tgt := 6) hx hb dX3_higherNeighbors_40 (by decide) ?_
          refine lv_iload_n hx hb dX3_higherNeighbors_6 rfl (lv_at hl 0 rfl) ?_
          refine lv_iload_n hx hb dX3_higherNeighbors_7 rfl (lv_at hl 3 rfl) ?_
          refine lv_iconst (v := 1) hx hb dX3_higherNeighbors_8 (by decide) ?_
          refine lv_iadd hx hb dX3_higherNeighbors_9 ?_
          refine lv_topi (fun y_19 e_20 => ?_)
          have e_20 : nI (a + 1) = y_19 := (e_20.trans (nI_add a 1)).symm
          subst e_20
          refine lv_icmp_gt (tgt := 43) hx hb dX3_higherNeighbors_10 (by decide) (fun c_10 => ?_) (fun c_10 => ?_)
          · skip
            exact absurd c_10 (nI_nlt (by omega) (by omega))
          · skip
            refine lv_aload_n hx hb dX3_higherNeighbors_13 rfl (lv_at hl 2 rfl) ?_
            refine lv_iload_n hx hb dX3_higherNeighbors_14 rfl (lv_at hl 0 rfl) ?_
            refine rd_calli hP hS (va_runV (As := [.int (nI a)]) (rest := []) ⟨hx, hb, hml, hown, hts⟩ (c_X3_has l D cI cB cO o ga ma n rg bl fg fm (nI a) ) (cwV 1 hts gX3_higherNeighbors_X3_has rfl rfl rfl (by decide +kernel) ⟨Nat.le_of_ble_eq_true rfl, Nat.le_of_ble_eq_true rfl⟩) (rd_preV (r := (RX3, TX3, 5)) (ci := 3) hK (hP.pick [0, 1, 2] rfl) hN (q0 := 0) rfl rfl) rfl rfl hl.1 rfl (lv_room (Nat.le_of_ble_eq_true rfl)) dX3_higherNeighbors_15 ⟨Nat.le_refl _, Nat.le_refl _⟩) (fun r_15 H locs h_15 hP hS => ?_)
            have g0 : r_15 = bI true := h_15.trans (by rw [hasB_in (by omega) hn])
            refine lv_if_eq (tgt := 37) hx hb dX3_higherNeighbors_18 (by decide) (fun c_18 => ?_) (fun c_18 => ?_)
            · skip
              exact absurd (g0.symm.trans c_18) (by decide)
            · skip
              refine lv_aload_n hx hb dX3_higherNeighbors_21 rfl (lv_at hl 2 rfl) ?_
              refine lv_iload_n hx hb dX3_higherNeighbors_22 rfl (lv_at hl 0 rfl) ?_
              refine rd_calli hP hS (va_runV (As := [.int (nI a)]) (rest := []) ⟨hx, hb, hml, hown, hts⟩ (c_X3_topOf l D cI cB cO o ga ma n rg bl fg fm G M a hn hG hM (by omega)) (cwV 1 hts gX3_higherNeighbors_X3_topOf rfl rfl rfl (by decide +kernel) ⟨Nat.le_of_ble_eq_true rfl, Nat.le_of_ble_eq_true rfl⟩) (rd_preV (r := (RX3, TX3, 5)) (ci := 3) hK (hP.pick [0, 1, 2] rfl) hN (q0 := 0) rfl rfl) rfl rfl hl.1 rfl (lv_room (Nat.le_of_ble_eq_true rfl)) dX3_higherNeighbors_23 ⟨Nat.le_refl _, Nat.le_refl _⟩) (fun r_23 H locs h_23 hP hS => ?_)
              refine lv_aload_n hx hb dX3_higherNeighbors_26 rfl (lv_at hl 2 rfl) ?_
              refine lv_iload_n hx hb dX3_higherNeighbors_27 rfl (lv_at hl 3 rfl) ?_
              refine rd_calli hP hS (va_runV (As := [.int (nI a)]) (rest := [.int r_23]) ⟨hx, hb, hml, hown, hts⟩ (c_X3_topOf l D cI cB cO o ga ma n rg bl fg fm G M a hn hG hM (by omega)) (cwV 1 hts gX3_higherNeighbors_X3_topOf rfl rfl rfl (by decide +kernel) ⟨Nat.le_of_ble_eq_true rfl, Nat.le_of_ble_eq_true rfl⟩) (rd_preV (r := (RX3, TX3, 5)) (ci := 3) hK (hP.pick [0, 1, 2] rfl) hN (q0 := 0) rfl rfl) rfl rfl hl.1 rfl (lv_room (Nat.le_of_ble_eq_true rfl)) dX3_higherNeighbors_28 ⟨Nat.le_refl _, Nat.le_refl _⟩) (fun r_28 H locs h_28 hP hS => ?_)
              refine lv_icmp_le (tgt := 37) hx hb dX3_higherNeighbors_31 (by decide) (fun c_31 => ?_) (fun c_31 => ?_)
              · skip
                rw [h_23, h_28] at c_31
                refine lv_iinc (v := nI (a + 1)) (lv' := [(3, .int (nI (a + 1))), (2, .int 0), (0, .ref o), (1, .int (nI a))]) hx hb dX3_higherNeighbors_37 hl (k := 0) rfl (inc1 _) (by decide) rfl (fun ls hl => ?_)
                refine lv_goto (tgt := 6) hx hb dX3_higherNeighbors_40 (by decide) ?_
                refine lv_iload_n hx hb dX3_higherNeighbors_6 rfl (lv_at hl 0 rfl) ?_
                refine lv_iload_n hx hb dX3_higherNeighbors_7 rfl (lv_at hl 3 rfl) ?_
                refine lv_iconst (v := 1) hx hb dX3_higherNeighbors_8 (by decide) ?_
                refine lv_iadd hx hb dX3_higherNeighbors_9 ?_
                refine lv_topi (fun y_21 e_22 => ?_)
                have e_22 : nI (a + 1) = y_21 := (e_22.trans (nI_add a 1)).symm
                subst e_22
                refine lv_icmp_gt (tgt := 43) hx hb dX3_higherNeighbors_10 (by decide) (fun c_10 => ?_) (fun c_10 => ?_)
                · skip
                  exact absurd c_10 (nI_nlt (by omega) (by omega))
                · skip
                  refine lv_aload_n hx hb dX3_higherNeighbors_13 rfl (lv_at hl 2 rfl) ?_
                  refine lv_iload_n hx hb dX3_higherNeighbors_14 rfl (lv_at hl 0 rfl) ?_
                  refine rd_calli hP hS (va_runV (As := [.int (nI (a + 1))]) (rest := []) ⟨hx, hb, hml, hown, hts⟩ (c_X3_has l D cI cB cO o ga ma n rg bl fg fm (nI (a + 1)) ) (cwV 1 hts gX3_higherNeighbors_X3_has rfl rfl rfl (by decide +kernel) ⟨Nat.le_of_ble_eq_true rfl, Nat.le_of_ble_eq_true rfl⟩) (rd_preV (r := (RX3, TX3, 5)) (ci := 3) hK (hP.pick [0, 1, 2] rfl) hN (q0 := 0) rfl rfl) rfl rfl hl.1 rfl (lv_room (Nat.le_of_ble_eq_true rfl)) dX3_higherNeighbors_15 ⟨Nat.le_refl _, Nat.le_refl _⟩) (fun r_15 H locs h_15 hP hS => ?_)
                  have g0 : r_15 = bI (decide (a + 1 < n)) := h_15.trans (by rw [hasB_nI (by omega) (by omega)])
                  refine lv_if_eq (tgt := 37) hx hb dX3_higherNeighbors_18 (by decide) (fun c_18 => ?_) (fun c_18 => ?_)
                  · skip
                    have g2 : ¬ a + 1 < n := of_decide_eq_false (bI_e0 (g0.symm.trans c_18))
                    refine lv_iinc (v := nI (a + 1 + 1)) (lv' := [(3, .int (nI (a + 1 + 1))), (2, .int 0), (0, .ref o), (1, .int (nI a))]) hx hb dX3_higherNeighbors_37 hl (k := 0) rfl (inc1 _) (by decide) rfl (fun ls hl => ?_)
                    refine lv_goto (tgt := 6) hx hb dX3_higherNeighbors_40 (by decide) ?_
                    refine lv_iload_n hx hb dX3_higherNeighbors_6 rfl (lv_at hl 0 rfl) ?_
                    refine lv_iload_n hx hb dX3_higherNeighbors_7 rfl (lv_at hl 3 rfl) ?_
                    refine lv_iconst (v := 1) hx hb dX3_higherNeighbors_8 (by decide) ?_
                    refine lv_iadd hx hb dX3_higherNeighbors_9 ?_
                    refine lv_topi (fun y_23 e_24 => ?_)
                    have e_24 : nI (a + 1) = y_23 := (e_24.trans (nI_add a 1)).symm
                    subst e_24
                    refine lv_icmp_gt (tgt := 43) hx hb dX3_higherNeighbors_10 (by decide) (fun c_10 => ?_) (fun c_10 => ?_)
                    · skip
                      refine lv_iload_n hx hb dX3_higherNeighbors_43 rfl (lv_at hl 1 rfl) ?_
                      exact W.iret (v := 0) hx hb hr (fun tS htS hWS => ⟨⟨0, (), rfl, (by unfold hnN; rw [if_neg (fun q => g1 q.2), if_neg (fun q => g2 q.1)]; rfl), trivial⟩, hS.F htS⟩) hS.2.2 dX3_higherNeighbors_44
                    · skip
                      exact absurd (nI_lt (by omega) (by omega)) c_10
                  · skip
                    have g2 : a + 1 < n := of_decide_eq_true (bI_n0 (fun q => c_18 (g0.trans q)))
                    refine lv_aload_n hx hb dX3_higherNeighbors_21 rfl (lv_at hl 2 rfl) ?_
                    refine lv_iload_n hx hb dX3_higherNeighbors_22 rfl (lv_at hl 0 rfl) ?_
                    refine rd_calli hP hS (va_runV (As := [.int (nI (a + 1))]) (rest := []) ⟨hx, hb, hml, hown, hts⟩ (c_X3_topOf l D cI cB cO o ga ma n rg bl fg fm G M (a + 1) hn hG hM (by omega)) (cwV 1 hts gX3_higherNeighbors_X3_topOf rfl rfl rfl (by decide +kernel) ⟨Nat.le_of_ble_eq_true rfl, Nat.le_of_ble_eq_true rfl⟩) (rd_preV (r := (RX3, TX3, 5)) (ci := 3) hK (hP.pick [0, 1, 2] rfl) hN (q0 := 0) rfl rfl) rfl rfl hl.1 rfl (lv_room (Nat.le_of_ble_eq_true rfl)) dX3_higherNeighbors_23 ⟨Nat.le_refl _, Nat.le_refl _⟩) (fun r_23 H locs h_23 hP hS => ?_)
                    refine lv_aload_n hx hb dX3_higherNeighbors_26 rfl (lv_at hl 2 rfl) ?_
                    refine lv_iload_n hx hb dX3_higherNeighbors_27 rfl (lv_at hl 3 rfl) ?_
                    refine rd_calli hP hS (va_runV (As := [.int (nI a)]) (rest := [.int r_23]) ⟨hx, hb, hml, hown, hts⟩ (c_X3_topOf l D cI cB cO o ga ma n rg bl fg fm G M a hn hG hM (by omega)) (cwV 1 hts gX3_higherNeighbors_X3_topOf rfl rfl rfl (by decide +kernel) ⟨Nat.le_of_ble_eq_true rfl, Nat.le_of_ble_eq_true rfl⟩) (rd_preV (r := (RX3, TX3, 5)) (ci := 3) hK (hP.pick [0, 1, 2] rfl) hN (q0 := 0) rfl rfl) rfl rfl hl.1 rfl (lv_room (Nat.le_of_ble_eq_true rfl)) dX3_higherNeighbors_28 ⟨Nat.le_refl _, Nat.le_refl _⟩) (fun r_28 H locs h_28 hP hS => ?_)
                    refine lv_icmp_le (tgt := 37) hx hb dX3_higherNeighbors_31 (by decide) (fun c_31 => ?_) (fun c_31 => ?_)
                    · skip
                      rw [h_23, h_28] at c_31
                      have g3 : ¬ tp G M a < tp G M (a + 1) := Int32.not_lt.mpr c_31
                      refine lv_iinc (v := nI (a + 1 + 1)) (lv' := [(3, .int (nI (a + 1 + 1))), (2, .int 0), (0, .ref o), (1, .int (nI a))]) hx hb dX3_higherNeighbors_37 hl (k := 0) rfl (inc1 _) (by decide) rfl (fun ls hl => ?_)
                      refine lv_goto (tgt := 6) hx hb dX3_higherNeighbors_40 (by decide) ?_
                      refine lv_iload_n hx hb dX3_higherNeighbors_6 rfl (lv_at hl 0 rfl) ?_
                      refine lv_iload_n hx hb dX3_higherNeighbors_7 rfl (lv_at hl 3 rfl) ?_
                      refine lv_iconst (v := 1) hx hb dX3_higherNeighbors_8 (by decide) ?_
                      refine lv_iadd hx hb dX3_higherNeighbors_9 ?_
                      refine lv_topi (fun y_25 e_26 => ?_)
                      have e_26 : nI (a + 1) = y_25 := (e_26.trans (nI_add a 1)).symm
                      subst e_26
                      refine lv_icmp_gt (tgt := 43) hx hb dX3_higherNeighbors_10 (by decide) (fun c_10 => ?_) (fun c_10 => ?_)
                      · skip
                        refine lv_iload_n hx hb dX3_higherNeighbors_43 rfl (lv_at hl 1 rfl) ?_
                        exact W.iret (v := 0) hx hb hr (fun tS htS hWS => ⟨⟨0, (), rfl, (by unfold hnN; rw [if_neg (fun q => g1 q.2), if_neg (fun q => g3 q.2)]; rfl), trivial⟩, hS.F htS⟩) hS.2.2 dX3_higherNeighbors_44
                      · skip
                        exact absurd (nI_lt (by omega) (by omega)) c_10
                    · skip
                      rw [h_23, h_28] at c_31
                      have g3 : tp G M a < tp G M (a + 1) := Int32.not_le.mp c_31
                      refine lv_iinc (v := 0 + 1) (lv' := [(2, .int (0 + 1)), (3, .int (nI (a + 1))), (0, .ref o), (1, .int (nI a))]) hx hb dX3_higherNeighbors_34 hl (k := 1) rfl (rfl) (by decide) rfl (fun ls hl => ?_)
                      refine lv_iinc (v := nI (a + 1 + 1)) (lv' := [(3, .int (nI (a + 1 + 1))), (2, .int (0 + 1)), (0, .ref o), (1, .int (nI a))]) hx hb dX3_higherNeighbors_37 hl (k := 1) rfl (inc1 _) (by decide) rfl (fun ls hl => ?_)
                      refine lv_goto (tgt := 6) hx hb dX3_higherNeighbors_40 (by decide) ?_
                      refine lv_iload_n hx hb dX3_higherNeighbors_6 rfl (lv_at hl 0 rfl) ?_
                      refine lv_iload_n hx hb dX3_higherNeighbors_7 rfl (lv_at hl 3 rfl) ?_
                      refine lv_iconst (v := 1) hx hb dX3_higherNeighbors_8 (by decide) ?_
                      refine lv_iadd hx hb dX3_higherNeighbors_9 ?_
                      refine lv_topi (fun y_27 e_28 => ?_)
                      have e_28 : nI (a + 1) = y_27 := (e_28.trans (nI_add a 1)).symm
                      subst e_28
                      refine lv_icmp_gt (tgt := 43) hx hb dX3_higherNeighbors_10 (by decide) (fun c_10 => ?_) (fun c_10 => ?_)
                      · skip
                        refine lv_iload_n hx hb dX3_higherNeighbors_43 rfl (lv_at hl 1 rfl) ?_
                        exact W.iret (v := 0 + 1) hx hb hr (fun tS htS hWS => ⟨⟨0 + 1, (), rfl, (by unfold hnN; rw [if_neg (fun q => g1 q.2), if_pos (⟨g2, g3⟩ : a + 1 < n ∧ tp G M a < tp G M (a + 1))]; rfl), trivial⟩, hS.F htS⟩) hS.2.2 dX3_higherNeighbors_44
                      · skip
                        exact absurd (nI_lt (by omega) (by omega)) c_10
              · skip
                rw [h_23, h_28] at c_31
                exact absurd (Int32.not_le.mp c_31) (Int32.lt_irrefl)
        · skip
          rw [h_23, h_28] at c_31
          have g1 : tp G M a < tp G M (a - 1) := Int32.not_le.mp c_31
          refine lv_iinc (v := 0 + 1) (lv' := [(2, .int (0 + 1)), (3, .int (nI (a - 1))), (0, .ref o), (1, .int (nI a))]) hx hb dX3_higherNeighbors_34 hl (k := 1) rfl (rfl) (by decide) rfl (fun ls hl => ?_)
          refine lv_iinc (v := nI a) (lv' := [(3, .int (nI a)), (2, .int (0 + 1)), (0, .ref o), (1, .int (nI a))]) hx hb dX3_higherNeighbors_37 hl (k := 1) rfl ((inc1 (a - 1)).trans (by rw [Nat.sub_add_cancel h0])) (by decide) rfl (fun ls hl => ?_)
          refine lv_goto (tgt := 6) hx hb dX3_higherNeighbors_40 (by decide) ?_
          refine lv_iload_n hx hb dX3_higherNeighbors_6 rfl (lv_at hl 0 rfl) ?_
          refine lv_iload_n hx hb dX3_higherNeighbors_7 rfl (lv_at hl 3 rfl) ?_
          refine lv_iconst (v := 1) hx hb dX3_higherNeighbors_8 (by decide) ?_
          refine lv_iadd hx hb dX3_higherNeighbors_9 ?_
          refine lv_topi (fun y_29 e_30 => ?_)
          have e_30 : nI (a + 1) = y_29 := (e_30.trans (nI_add a 1)).symm
          subst e_30
          refine lv_icmp_gt (tgt := 43) hx hb dX3_higherNeighbors_10 (by decide) (fun c_10 => ?_) (fun c_10 => ?_)
          · skip
            exact absurd c_10 (nI_nlt (by omega) (by omega))
          · skip
            refine lv_aload_n hx hb dX3_higherNeighbors_13 rfl (lv_at hl 2 rfl) ?_
            refine lv_iload_n hx hb dX3_higherNeighbors_14 rfl (lv_at hl 0 rfl) ?_
            refine rd_calli hP hS (va_runV (As := [.int (nI a)]) (rest := []) ⟨hx, hb, hml, hown, hts⟩ (c_X3_has l D cI cB cO o ga ma n rg bl fg fm (nI a) ) (cwV 1 hts gX3_higherNeighbors_X3_has rfl rfl rfl (by decide +kernel) ⟨Nat.le_of_ble_eq_true rfl, Nat.le_of_ble_eq_true rfl⟩) (rd_preV (r := (RX3, TX3, 5)) (ci := 3) hK (hP.pick [0, 1, 2] rfl) hN (q0 := 0) rfl rfl) rfl rfl hl.1 rfl (lv_room (Nat.le_of_ble_eq_true rfl)) dX3_higherNeighbors_15 ⟨Nat.le_refl _, Nat.le_refl _⟩) (fun r_15 H locs h_15 hP hS => ?_)
            have g0 : r_15 = bI true := h_15.trans (by rw [hasB_in (by omega) hn])
            refine lv_if_eq (tgt := 37) hx hb dX3_higherNeighbors_18 (by decide) (fun c_18 => ?_) (fun c_18 => ?_)
            · skip
              exact absurd (g0.symm.trans c_18) (by decide)
            · skip
              refine lv_aload_n hx hb dX3_higherNeighbors_21 rfl (lv_at hl 2 rfl) ?_
              refine lv_iload_n hx hb dX3_higherNeighbors_22 rfl (lv_at hl 0 rfl) ?_
              refine rd_calli hP hS (va_runV (As := [.int (nI a)]) (rest := []) ⟨hx, hb, hml, hown, hts⟩ (c_X3_topOf l D cI cB cO o ga ma n rg bl fg fm G M a hn hG hM (by omega)) (cwV 1 hts gX3_higherNeighbors_X3_topOf rfl rfl rfl (by decide +kernel) ⟨Nat.le_of_ble_eq_true rfl, Nat.le_of_ble_eq_true rfl⟩) (rd_preV (r := (RX3, TX3, 5)) (ci := 3) hK (hP.pick [0, 1, 2] rfl) hN (q0 := 0) rfl rfl) rfl rfl hl.1 rfl (lv_room (Nat.le_of_ble_eq_true rfl)) dX3_higherNeighbors_23 ⟨Nat.le_refl _, Nat.le_refl _⟩) (fun r_23 H locs h_23 hP hS => ?_)
              refine lv_aload_n hx hb dX3_higherNeighbors_26 rfl (lv_at hl 2 rfl) ?_
              refine lv_iload_n hx hb dX3_higherNeighbors_27 rfl (lv_at hl 3 rfl) ?_
              refine rd_calli hP hS (va_runV (As := [.int (nI a)]) (rest := [.int r_23]) ⟨hx, hb, hml, hown, hts⟩ (c_X3_topOf l D cI cB cO o ga ma n rg bl fg fm G M a hn hG hM (by omega)) (cwV 1 hts gX3_higherNeighbors_X3_topOf rfl rfl rfl (by decide +kernel) ⟨Nat.le_of_ble_eq_true rfl, Nat.le_of_ble_eq_true rfl⟩) (rd_preV (r := (RX3, TX3, 5)) (ci := 3) hK (hP.pick [0, 1, 2] rfl) hN (q0 := 0) rfl rfl) rfl rfl hl.1 rfl (lv_room (Nat.le_of_ble_eq_true rfl)) dX3_higherNeighbors_28 ⟨Nat.le_refl _, Nat.le_refl _⟩) (fun r_28 H locs h_28 hP hS => ?_)
              refine lv_icmp_le (tgt := 37) hx hb dX3_higherNeighbors_31 (by decide) (fun c_31 => ?_) (fun c_31 => ?_)
              · skip
                rw [h_23, h_28] at c_31
                refine lv_iinc (v := nI (a + 1)) (lv' := [(3, .int (nI (a + 1))), (2, .int (0 + 1)), (0, .ref o), (1, .int (nI a))]) hx hb dX3_higherNeighbors_37 hl (k := 0) rfl (inc1 _) (by decide) rfl (fun ls hl => ?_)
                refine lv_goto (tgt := 6) hx hb dX3_higherNeighbors_40 (by decide) ?_
                refine lv_iload_n hx hb dX3_higherNeighbors_6 rfl (lv_at hl 0 rfl) ?_
                refine lv_iload_n hx hb dX3_higherNeighbors_7 rfl (lv_at hl 3 rfl) ?_
                refine lv_iconst (v := 1) hx hb dX3_higherNeighbors_8 (by decide) ?_
                refine lv_iadd hx hb dX3_higherNeighbors_9 ?_
                refine lv_topi (fun y_31 e_32 => ?_)
                have e_32 : nI (a + 1) = y_31 := (e_32.trans (nI_add a 1)).symm
                subst e_32
                refine lv_icmp_gt (tgt := 43) hx hb dX3_higherNeighbors_10 (by decide) (fun c_10 => ?_) (fun c_10 => ?_)
                · skip
                  exact absurd c_10 (nI_nlt (by omega) (by omega))
                · skip
                  refine lv_aload_n hx hb dX3_higherNeighbors_13 rfl (lv_at hl 2 rfl) ?_
                  refine lv_iload_n hx hb dX3_higherNeighbors_14 rfl (lv_at hl 0 rfl) ?_
                  refine rd_calli hP hS (va_runV (As := [.int (nI (a + 1))]) (rest := []) ⟨hx, hb, hml, hown, hts⟩ (c_X3_has l D cI cB cO o ga ma n rg bl fg fm (nI (a + 1)) ) (cwV 1 hts gX3_higherNeighbors_X3_has rfl rfl rfl (by decide +kernel) ⟨Nat.le_of_ble_eq_true rfl, Nat.le_of_ble_eq_true rfl⟩) (rd_preV (r := (RX3, TX3, 5)) (ci := 3) hK (hP.pick [0, 1, 2] rfl) hN (q0 := 0) rfl rfl) rfl rfl hl.1 rfl (lv_room (Nat.le_of_ble_eq_true rfl)) dX3_higherNeighbors_15 ⟨Nat.le_refl _, Nat.le_refl _⟩) (fun r_15 H locs h_15 hP hS => ?_)
                  have g0 : r_15 = bI (decide (a + 1 < n)) := h_15.trans (by rw [hasB_nI (by omega) (by omega)])
                  refine lv_if_eq (tgt := 37) hx hb dX3_higherNeighbors_18 (by decide) (fun c_18 => ?_) (fun c_18 => ?_)
                  · skip
                    have g2 : ¬ a + 1 < n := of_decide_eq_false (bI_e0 (g0.symm.trans c_18))
                    refine lv_iinc (v := nI (a + 1 + 1)) (lv' := [(3, .int (nI (a + 1 + 1))), (2, .int (0 + 1)), (0, .ref o), (1, .int (nI a))]) hx hb dX3_higherNeighbors_37 hl (k := 0) rfl (inc1 _) (by decide) rfl (fun ls hl => ?_)
                    refine lv_goto (tgt := 6) hx hb dX3_higherNeighbors_40 (by decide) ?_
                    refine lv_iload_n hx hb dX3_higherNeighbors_6 rfl (lv_at hl 0 rfl) ?_
                    refine lv_iload_n hx hb dX3_higherNeighbors_7 rfl (lv_at hl 3 rfl) ?_
                    refine lv_iconst (v := 1) hx hb dX3_higherNeighbors_8 (by decide) ?_
                    refine lv_iadd hx hb dX3_higherNeighbors_9 ?_
                    refine lv_topi (fun y_33 e_34 => ?_)
                    have e_34 : nI (a + 1) = y_33 := (e_34.trans (nI_add a 1)).symm
                    subst e_34
                    refine lv_icmp_gt (tgt := 43) hx hb dX3_higherNeighbors_10 (by decide) (fun c_10 => ?_) (fun c_10 => ?_)
                    · skip
                      refine lv_iload_n hx hb dX3_higherNeighbors_43 rfl (lv_at hl 1 rfl) ?_
                      exact W.iret (v := 0 + 1) hx hb hr (fun tS htS hWS => ⟨⟨0 + 1, (), rfl, (by unfold hnN; rw [if_pos (⟨h0, g1⟩ : 0 < a ∧ tp G M a < tp G M (a - 1)), if_neg (fun q => g2 q.1)]; rfl), trivial⟩, hS.F htS⟩) hS.2.2 dX3_higherNeighbors_44
                    · skip
                      exact absurd (nI_lt (by omega) (by omega)) c_10
                  · skip
                    have g2 : a + 1 < n := of_decide_eq_true (bI_n0 (fun q => c_18 (g0.trans q)))
                    refine lv_aload_n hx hb dX3_higherNeighbors_21 rfl (lv_at hl 2 rfl) ?_
                    refine lv_iload_n hx hb dX3_higherNeighbors_22 rfl (lv_at hl 0 rfl) ?_
                    refine rd_calli hP hS (va_runV (As := [.int (nI (a + 1))]) (rest := []) ⟨hx, hb, hml, hown, hts⟩ (c_X3_topOf l D cI cB cO o ga ma n rg bl fg fm G M (a + 1) hn hG hM (by omega)) (cwV 1 hts gX3_higherNeighbors_X3_topOf rfl rfl rfl (by decide +kernel) ⟨Nat.le_of_ble_eq_true rfl, Nat.le_of_ble_eq_true rfl⟩) (rd_preV (r := (RX3, TX3, 5)) (ci := 3) hK (hP.pick [0, 1, 2] rfl) hN (q0 := 0) rfl rfl) rfl rfl hl.1 rfl (lv_room (Nat.le_of_ble_eq_true rfl)) dX3_higherNeighbors_23 ⟨Nat.le_refl _, Nat.le_refl _⟩) (fun r_23 H locs h_23 hP hS => ?_)
                    refine lv_aload_n hx hb dX3_higherNeighbors_26 rfl (lv_at hl 2 rfl) ?_
                    refine lv_iload_n hx hb dX3_higherNeighbors_27 rfl (lv_at hl 3 rfl) ?_
                    refine rd_calli hP hS (va_runV (As := [.int (nI a)]) (rest := [.int r_23]) ⟨hx, hb, hml, hown, hts⟩ (c_X3_topOf l D cI cB cO o ga ma n rg bl fg fm G M a hn hG hM (by omega)) (cwV 1 hts gX3_higherNeighbors_X3_topOf rfl rfl rfl (by decide +kernel) ⟨Nat.le_of_ble_eq_true rfl, Nat.le_of_ble_eq_true rfl⟩) (rd_preV (r := (RX3, TX3, 5)) (ci := 3) hK (hP.pick [0, 1, 2] rfl) hN (q0 := 0) rfl rfl) rfl rfl hl.1 rfl (lv_room (Nat.le_of_ble_eq_true rfl)) dX3_higherNeighbors_28 ⟨Nat.le_refl _, Nat.le_refl _⟩) (fun r_28 H locs h_28 hP hS => ?_)
                    refine lv_icmp_le (tgt := 37) hx hb dX3_higherNeighbors_31 (by decide) (fun c_31 => ?_) (fun c_31 => ?_)
                    · skip
                      rw [h_23, h_28] at c_31
                      have g3 : ¬ tp G M a < tp G M (a + 1) := Int32.not_lt.mpr c_31
                      refine lv_iinc (v := nI (a + 1 + 1)) (lv' := [(3, .int (nI (a + 1 + 1))), (2, .int (0 + 1)), (0, .ref o), (1, .int (nI a))]) hx hb dX3_higherNeighbors_37 hl (k := 0) rfl (inc1 _) (by decide) rfl (fun ls hl => ?_)
                      refine lv_goto (tgt := 6) hx hb dX3_higherNeighbors_40 (by decide) ?_
                      refine lv_iload_n hx hb dX3_higherNeighbors_6 rfl (lv_at hl 0 rfl) ?_
                      refine lv_iload_n hx hb dX3_higherNeighbors_7 rfl (lv_at hl 3 rfl) ?_
                      refine lv_iconst (v := 1) hx hb dX3_higherNeighbors_8 (by decide) ?_
                      refine lv_iadd hx hb dX3_higherNeighbors_9 ?_
                      refine lv_topi (fun y_35 e_36 => ?_)
                      have e_36 : nI (a + 1) = y_35 := (e_36.trans (nI_add a 1)).symm
                      subst e_36
                      refine lv_icmp_gt (tgt := 43) hx hb dX3_higherNeighbors_10 (by decide) (fun c_10 => ?_) (fun c_10 => ?_)
                      · skip
                        refine lv_iload_n hx hb dX3_higherNeighbors_43 rfl (lv_at hl 1 rfl) ?_
                        exact W.iret (v := 0 + 1) hx hb hr (fun tS htS hWS => ⟨⟨0 + 1, (), rfl, (by unfold hnN; rw [if_pos (⟨h0, g1⟩ : 0 < a ∧ tp G M a < tp G M (a - 1)), if_neg (fun q => g3 q.2)]; rfl), trivial⟩, hS.F htS⟩) hS.2.2 dX3_higherNeighbors_44
                      · skip
                        exact absurd (nI_lt (by omega) (by omega)) c_10
                    · skip
                      rw [h_23, h_28] at c_31
                      have g3 : tp G M a < tp G M (a + 1) := Int32.not_le.mp c_31
                      refine lv_iinc (v := (0 + 1) + 1) (lv' := [(2, .int ((0 + 1) + 1)), (3, .int (nI (a + 1))), (0, .ref o), (1, .int (nI a))]) hx hb dX3_higherNeighbors_34 hl (k := 1) rfl (rfl) (by decide) rfl (fun ls hl => ?_)
                      refine lv_iinc (v := nI (a + 1 + 1)) (lv' := [(3, .int (nI (a + 1 + 1))), (2, .int ((0 + 1) + 1)), (0, .ref o), (1, .int (nI a))]) hx hb dX3_higherNeighbors_37 hl (k := 1) rfl (inc1 _) (by decide) rfl (fun ls hl => ?_)
                      refine lv_goto (tgt := 6) hx hb dX3_higherNeighbors_40 (by decide) ?_
                      refine lv_iload_n hx hb dX3_higherNeighbors_6 rfl (lv_at hl 0 rfl) ?_
                      refine lv_iload_n hx hb dX3_higherNeighbors_7 rfl (lv_at hl 3 rfl) ?_
                      refine lv_iconst (v := 1) hx hb dX3_higherNeighbors_8 (by decide) ?_
                      refine lv_iadd hx hb dX3_higherNeighbors_9 ?_
                      refine lv_topi (fun y_37 e_38 => ?_)
                      have e_38 : nI (a + 1) = y_37 := (e_38.trans (nI_add a 1)).symm
                      subst e_38
                      refine lv_icmp_gt (tgt := 43) hx hb dX3_higherNeighbors_10 (by decide) (fun c_10 => ?_) (fun c_10 => ?_)
                      · skip
                        refine lv_iload_n hx hb dX3_higherNeighbors_43 rfl (lv_at hl 1 rfl) ?_
                        exact W.iret (v := (0 + 1) + 1) hx hb hr (fun tS htS hWS => ⟨⟨(0 + 1) + 1, (), rfl, (by unfold hnN; rw [if_pos (⟨h0, g1⟩ : 0 < a ∧ tp G M a < tp G M (a - 1)), if_pos (⟨g2, g3⟩ : a + 1 < n ∧ tp G M a < tp G M (a + 1))]; rfl), trivial⟩, hS.F htS⟩) hS.2.2 dX3_higherNeighbors_44
                      · skip
                        exact absurd (nI_lt (by omega) (by omega)) c_10
              · skip
                rw [h_23, h_28] at c_31
                exact absurd (Int32.not_le.mp c_31) (Int32.lt_irrefl)
theorem kX3_mostInTheWay_0 : (.methodLink RX3 42 Lib.Math.max.name : Cond) ∈ wsX3_mostInTheWay := by decide +kernel
theorem kX3_mostInTheWay_1 : (.static Lib.Math.max.name : Cond) ∈ wsX3_mostInTheWay := by decide +kernel
theorem kX3_mostInTheWay_2 : (.initialized "java/lang/Math" : Cond) ∈ wsX3_mostInTheWay := by decide +kernel
theorem kX3_mostInTheWay_3 : (.code Lib.Math.max.name Lib.Math.max.code 2 (some .int) : Cond) ∈ wsX3_mostInTheWay := by decide +kernel
theorem kX3_mostInTheWay_4 : (.methodLink RX3 46 Lib.Math.min.name : Cond) ∈ wsX3_mostInTheWay := by decide +kernel
theorem kX3_mostInTheWay_5 : (.static Lib.Math.min.name : Cond) ∈ wsX3_mostInTheWay := by decide +kernel
theorem kX3_mostInTheWay_6 : (.code Lib.Math.min.name Lib.Math.min.code 2 (some .int) : Cond) ∈ wsX3_mostInTheWay := by decide +kernel
set_option maxHeartbeats 4000000 in
set_option maxRecDepth 100000 in
/-- mostInTheWay(a, b) -/
theorem c_X3_mostInTheWay (l : Launch) (D : va_G) (cI cB cO : ClassId) (o ga ma : Nat) (n : Nat) (rg bl : Int32) (fg fm : Nat → Int32) (G M : Nat → Int32) (a b : Nat) (hn : n ≤ 20) (hG : ∀ k, k < n → fg k = G k) (hM : ∀ k, k < n → fm k = M k) (ha : a < n) (hb0 : b < n) (hab : a ≠ b) : Met l yX3_mostInTheWay wsX3_mostInTheWay (rmD 4) (rdPc D (tyL cI cB cO) [.ref o, .int (nI a), .int (nI b)] [(o, .inr (3, [.ref ga, .ref ma, .int (nI n), .int rg, .int bl])), (ga, .inl (cI, 20, .inl fg)), (ma, .inl (cI, 20, .inl fm))]) (rdQi (fun r => r = (obs (clr G bl a (tp G M a) b (tp G M b)) (min a b) (max a b - min a b - 1)).1)) 0 0 noA := by
  refine Met.ofW (cc := cX3_mostInTheWay) (maxL := 8) (ret := (some .int)) (by decide) rfl ?_
  intro p e s m args below meth c s₁ B hml hv
  obtain ⟨rfl, hP, hK, hN⟩ := hv
  have hx := B.exec
  have hb := B.bytes
  have hr := B.returns
  have hts := atoms_spec (ws := wsX3_mostInTheWay) B.pre
  have hown : s.vm.findClass RX3 = some m.cls := findClass_of_methodNamed B.named
  have hlocks := B.notSynchronized
  have hS : va_S noA s.heap s.heap [] := va_S.rf
  have hl := lv_entry ([.ref o, .int (nI a), .int (nI b)]) (n := 8) (Nat.le_of_ble_eq_true rfl)
  rw [lg_entry_eq]
  generalize (lg_sl ([.ref o, .int (nI a), .int (nI b)]) ++ List.replicate (8 - (lg_sl ([.ref o, .int (nI a), .int (nI b)])).length) Slot.unset).toArray = ls at hl ⊢
  have hl : lv_has ls 8 [(0, .ref o), (1, .int (nI a)), (2, .int (nI b))] := hl
  refine lv_iconst (v := (-1)) hx hb dX3_mostInTheWay_0 (by decide) ?_
  refine lv_istore_n (lv' := [(3, .int (-1)), (0, .ref o), (1, .int (nI a)), (2, .int (nI b))]) hx hb dX3_mostInTheWay_1 rfl hl (by decide) rfl (fun ls hl => ?_)
  refine lv_iconst (v := 0) hx hb dX3_mostInTheWay_2 (by decide) ?_
  refine lv_istore (lv' := [(4, .int 0), (3, .int (-1)), (0, .ref o), (1, .int (nI a)), (2, .int (nI b))]) hx hb dX3_mostInTheWay_3 hl (by decide) rfl (fun ls hl => ?_)
  refine lv_iload_n hx hb dX3_mostInTheWay_5 rfl (lv_at hl 3 rfl) ?_
  refine lv_iload_n hx hb dX3_mostInTheWay_6 rfl (lv_at hl 4 rfl) ?_
  refine va_mmax hx hb (hml.trans hl.1.symm) hown (hts (.methodLink RX3 42 Lib.Math.max.name) kX3_mostInTheWay_0) (hts (.static Lib.Math.max.name) kX3_mostInTheWay_1) (hts (.initialized "java/lang/Math") kX3_mostInTheWay_2) (hts (.code Lib.Math.max.name Lib.Math.max.code 2 (some .int)) kX3_mostInTheWay_3) (Nat.le_of_ble_eq_true rfl) (Nat.le_of_ble_eq_true rfl) (Nat.le_refl _) (Nat.le_refl _) dX3_mostInTheWay_7 ?_
  refine lv_topi (fun y_1 e_2 => ?_)
  have e_2 : nI (max a b) = y_1 := (e_2.trans (maxI (by omega) (by omega))).symm
  subst e_2
  refine lv_istore (lv' := [(5, .int (nI (max a b))), (4, .int 0), (3, .int (-1)), (0, .ref o), (1, .int (nI a)), (2, .int (nI b))]) hx hb dX3_mostInTheWay_10 hl (by decide) rfl (fun ls hl => ?_)
  refine lv_iload_n hx hb dX3_mostInTheWay_12 rfl (lv_at hl 4 rfl) ?_
  refine lv_iload_n hx hb dX3_mostInTheWay_13 rfl (lv_at hl 5 rfl) ?_
  refine va_mmin hx hb (hml.trans hl.1.symm) hown (hts (.methodLink RX3 46 Lib.Math.min.name) kX3_mostInTheWay_4) (hts (.static Lib.Math.min.name) kX3_mostInTheWay_5) (hts (.initialized "java/lang/Math") kX3_mostInTheWay_2) (hts (.code Lib.Math.min.name Lib.Math.min.code 2 (some .int)) kX3_mostInTheWay_6) (Nat.le_of_ble_eq_true rfl) (Nat.le_of_ble_eq_true rfl) (Nat.le_refl _) (Nat.le_refl _) dX3_mostInTheWay_14 ?_
  refine lv_topi (fun y_3 e_4 => ?_)
  have e_4 : nI (min a b) = y_3 := (e_4.trans (minI (by omega) (by omega))).symm
  subst e_4
  refine lv_iconst (v := 1) hx hb dX3_mostInTheWay_17 (by decide) ?_
  refine lv_iadd hx hb dX3_mostInTheWay_18 ?_
  refine lv_topi (fun y_5 e_6 => ?_)
  have e_6 : nI ((min a b) + 1) = y_5 := (e_6.trans (nI_add (min a b) 1)).symm
  subst e_6
  refine lv_istore (lv' := [(6, .int (nI ((min a b) + 1))), (5, .int (nI (max a b))), (4, .int 0), (3, .int (-1)), (0, .ref o), (1, .int (nI a)), (2, .int (nI b))]) hx hb dX3_mostInTheWay_19 hl (by decide) rfl (fun ls hl => ?_)
  have L_21 : ∀ (k_21 : Nat) (d : Nat) (w : Int32) (v : Int32), max a b - (min a b + 1 + d) < k_21 → (min a b + 1 + d ≤ max a b) → (w = (obs (clr G bl a (tp G M a) b (tp G M b)) (min a b) d).1) → (v = (obs (clr G bl a (tp G M a) b (tp G M b)) (min a b) d).2) → ∀ (H : Heap) (locs : List Loc), va_P D vwCl [(o, .inr (3, [.ref ga, .ref ma, .int (nI n), .int rg, .int bl])), (ga, .inl (cI, 20, .inl fg)), (ma, .inl (cI, 20, .inl fm))] H → va_S noA s.heap H locs → ∀ (ls : Array Slot), lv_has ls 8 [(0, .ref o), (1, .int (nI a)), (2, .int (nI b)), (3, .int w), (4, .int v), (5, .int (nI (max a b))), (6, .int (nI (min a b + 1 + d)))] → W p l e (rmD 4) s m ([.ref o, .int (nI a), .int (nI b)] : List Value).toArray below meth c H locs 0 0 (MQ below (rdQi (fun r => r = (obs (clr G bl a (tp G M a) b (tp G M b)) (min a b) (max a b - min a b - 1)).1)) ([.ref o, .int (nI a), .int (nI b)] : List Value).toArray s 0 0 noA) (F0 m 21 ls []) := by
    intro k_21
    induction k_21 with
    | zero => intro d w v h9; exact absurd h9 (Nat.not_lt_zero _)
    | succ k_21 ih_21 =>
      intro d w v hm_21 hi hw hv H locs hP hS ls hl
      refine lv_iload hx hb dX3_mostInTheWay_21 (lv_at hl 6 rfl) ?_
      refine lv_iload hx hb dX3_mostInTheWay_23 (lv_at hl 5 rfl) ?_
      refine lv_icmp_ge (tgt := 73) hx hb dX3_mostInTheWay_25 (by decide) (fun c_25 => ?_) (fun c_25 => ?_)
      · skip
        have c0 : max a b ≤ min a b + 1 + d := ge_t (by omega) c_25
        refine lv_iload_n hx hb dX3_mostInTheWay_73 rfl (lv_at hl 3 rfl) ?_
        exact W.iret (v := w) hx hb hr (fun tS htS hWS => ⟨⟨w, (), rfl, (by rw [show max a b - min a b - 1 = d by omega]; exact hw), trivial⟩, hS.F htS⟩) hS.2.2 dX3_mostInTheWay_74
      · skip
        have c0 : min a b + 1 + d < max a b := ge_f (by omega) c_25
        refine lv_aload_n hx hb dX3_mostInTheWay_28 rfl (lv_at hl 0 rfl) ?_
        refine lv_iload_n hx hb dX3_mostInTheWay_29 rfl (lv_at hl 1 rfl) ?_
        refine lv_aload_n hx hb dX3_mostInTheWay_30 rfl (lv_at hl 0 rfl) ?_
        refine lv_iload_n hx hb dX3_mostInTheWay_31 rfl (lv_at hl 1 rfl) ?_
        refine rd_calli hP hS (va_runV (As := [.int (nI a)]) (rest := [.int (nI a), .ref o]) ⟨hx, hb, hml, hown, hts⟩ (c_X3_topOf l D cI cB cO o ga ma n rg bl fg fm G M a hn hG hM ha) (cwV 1 hts gX3_mostInTheWay_X3_topOf rfl rfl rfl (by decide +kernel) ⟨Nat.le_of_ble_eq_true rfl, Nat.le_of_ble_eq_true rfl⟩) (rd_preV (r := (RX3, TX3, 5)) (ci := 3) hK (hP.pick [0, 1, 2] rfl) hN (q0 := 0) rfl rfl) rfl rfl hl.1 rfl (lv_room (Nat.le_of_ble_eq_true rfl)) dX3_mostInTheWay_32 ⟨Nat.le_refl _, Nat.le_refl _⟩) (fun r_32 H locs h_32 hP hS => ?_)
        subst h_32
        refine lv_iload_n hx hb dX3_mostInTheWay_35 rfl (lv_at hl 2 rfl) ?_
        refine lv_aload_n hx hb dX3_mostInTheWay_36 rfl (lv_at hl 0 rfl) ?_
        refine lv_iload_n hx hb dX3_mostInTheWay_37 rfl (lv_at hl 2 rfl) ?_
        refine rd_calli hP hS (va_runV (As := [.int (nI b)]) (rest := [.int (nI b), .int (tp G M a), .int (nI a), .ref o]) ⟨hx, hb, hml, hown, hts⟩ (c_X3_topOf l D cI cB cO o ga ma n rg bl fg fm G M b hn hG hM hb0) (cwV 1 hts gX3_mostInTheWay_X3_topOf rfl rfl rfl (by decide +kernel) ⟨Nat.le_of_ble_eq_true rfl, Nat.le_of_ble_eq_true rfl⟩) (rd_preV (r := (RX3, TX3, 5)) (ci := 3) hK (hP.pick [0, 1, 2] rfl) hN (q0 := 0) rfl rfl) rfl rfl hl.1 rfl (lv_room (Nat.le_of_ble_eq_true rfl)) dX3_mostInTheWay_38 ⟨Nat.le_refl _, Nat.le_refl _⟩) (fun r_38 H locs h_38 hP hS => ?_)
        subst h_38
        refine lv_iload hx hb dX3_mostInTheWay_41 (lv_at hl 6 rfl) ?_
        refine rd_calli hP hS (va_runV (As := [.int (nI a), .int (tp G M a), .int (nI b), .int (tp G M b), .int (nI (min a b + 1 + d))]) (rest := []) ⟨hx, hb, hml, hown, hts⟩ (c_X3_clearance l D cI cB cO o ga ma n rg bl fg fm G M a (tp G M a) b (tp G M b) (min a b + 1 + d) hn hG hM (by omega) (by omega) (by omega)) (cwV 5 hts gX3_mostInTheWay_X3_clearance rfl rfl rfl (by decide +kernel) ⟨Nat.le_of_ble_eq_true rfl, Nat.le_of_ble_eq_true rfl⟩) (rd_preV (r := (RX3, TX3, 5)) (ci := 3) hK (hP.pick [0, 1, 2] rfl) hN (q0 := 0) rfl rfl) rfl rfl hl.1 rfl (lv_room (Nat.le_of_ble_eq_true rfl)) dX3_mostInTheWay_43 ⟨Nat.le_refl _, Nat.le_refl _⟩) (fun r_43 H locs h_43 hP hS => ?_)
        refine lv_istore (lv' := [(7, .int r_43), (0, .ref o), (1, .int (nI a)), (2, .int (nI b)), (3, .int w), (4, .int v), (5, .int (nI (max a b))), (6, .int (nI (min a b + 1 + d)))]) hx hb dX3_mostInTheWay_46 hl (by decide) rfl (fun ls hl => ?_)
        refine lv_iload_n hx hb dX3_mostInTheWay_48 rfl (lv_at hl 4 rfl) ?_
        refine lv_iconst (v := (-1)) hx hb dX3_mostInTheWay_49 (by decide) ?_
        refine lv_icmp_eq (tgt := 60) hx hb dX3_mostInTheWay_50 (by decide) (fun c_50 => ?_) (fun c_50 => ?_)
        · skip
          have c2 : (obs (clr G bl a (tp G M a) b (tp G M b)) (min a b) d).1 = -1 ∨ (clr G bl a (tp G M a) b (tp G M b)) (min a b + 1 + d) < (obs (clr G bl a (tp G M a) b (tp G M b)) (min a b) d).2 := Or.inl (hw ▸ c_50)
          refine lv_iload hx hb dX3_mostInTheWay_60 (lv_at hl 7 rfl) ?_
          refine lv_istore_n (lv' := [(3, .int (nI (min a b + 1 + d))), (7, .int r_43), (0, .ref o), (1, .int (nI a)), (2, .int (nI b)), (4, .int v), (5, .int (nI (max a b))), (6, .int (nI (min a b + 1 + d)))]) hx hb dX3_mostInTheWay_62 rfl hl (by decide) rfl (fun ls hl => ?_)
          refine lv_iload hx hb dX3_mostInTheWay_63 (lv_at hl 1 rfl) ?_
          refine lv_istore (lv' := [(4, .int r_43), (3, .int (nI (min a b + 1 + d))), (7, .int r_43), (0, .ref o), (1, .int (nI a)), (2, .int (nI b)), (5, .int (nI (max a b))), (6, .int (nI (min a b + 1 + d)))]) hx hb dX3_mostInTheWay_65 hl (by decide) rfl (fun ls hl => ?_)
          refine lv_iinc (v := nI (min a b + 1 + d + 1)) (lv' := [(6, .int (nI (min a b + 1 + d + 1))), (4, .int r_43), (3, .int (nI (min a b + 1 + d))), (7, .int r_43), (0, .ref o), (1, .int (nI a)), (2, .int (nI b)), (5, .int (nI (max a b)))]) hx hb dX3_mostInTheWay_67 hl (k := 7) rfl (inc1 _) (by decide) rfl (fun ls hl => ?_)
          refine lv_goto (tgt := 21) hx hb dX3_mostInTheWay_70 (by decide) ?_
          exact ih_21 (d + 1) (nI (min a b + 1 + d)) r_43 (by omega) (by omega) (by first | (rw [obs_T c2]; done) | (rw [obs_F c3 c4]; exact hw)) (by first | (rw [obs_T c2]; exact h_43) | (rw [obs_F c3 c4]; exact hv)) _ _ hP hS ls (lv_sub hl [4, 5, 6, 2, 1, 7, 0] rfl)
        · skip
          have c3 : ¬ (obs (clr G bl a (tp G M a) b (tp G M b)) (min a b) d).1 = -1 := hw ▸ c_50
          refine lv_iload hx hb dX3_mostInTheWay_53 (lv_at hl 0 rfl) ?_
          refine lv_iload hx hb dX3_mostInTheWay_55 (lv_at hl 5 rfl) ?_
          refine lv_icmp_ge (tgt := 67) hx hb dX3_mostInTheWay_57 (by decide) (fun c_57 => ?_) (fun c_57 => ?_)
          · skip
            have c4 : ¬ (clr G bl a (tp G M a) b (tp G M b)) (min a b + 1 + d) < (obs (clr G bl a (tp G M a) b (tp G M b)) (min a b) d).2 := by rw [← h_43, ← hv]; exact Int32.not_lt.mpr c_57
            refine lv_iinc (v := nI (min a b + 1 + d + 1)) (lv' := [(6, .int (nI (min a b + 1 + d + 1))), (7, .int r_43), (0, .ref o), (1, .int (nI a)), (2, .int (nI b)), (3, .int w), (4, .int v), (5, .int (nI (max a b)))]) hx hb dX3_mostInTheWay_67 hl (k := 7) rfl (inc1 _) (by decide) rfl (fun ls hl => ?_)
            refine lv_goto (tgt := 21) hx hb dX3_mostInTheWay_70 (by decide) ?_
            exact ih_21 (d + 1) w v (by omega) (by omega) (by first | (rw [obs_T c2]; done) | (rw [obs_F c3 c4]; exact hw)) (by first | (rw [obs_T c2]; exact h_43) | (rw [obs_F c3 c4]; exact hv)) _ _ hP hS ls (lv_sub hl [2, 3, 4, 5, 6, 7, 0] rfl)
          · skip
            have c2 : (obs (clr G bl a (tp G M a) b (tp G M b)) (min a b) d).1 = -1 ∨ (clr G bl a (tp G M a) b (tp G M b)) (min a b + 1 + d) < (obs (clr G bl a (tp G M a) b (tp G M b)) (min a b) d).2 := Or.inr (by rw [← h_43, ← hv]; exact Int32.not_le.mp c_57)
            refine lv_iload hx hb dX3_mostInTheWay_60 (lv_at hl 7 rfl) ?_
            refine lv_istore_n (lv' := [(3, .int (nI (min a b + 1 + d))), (7, .int r_43), (0, .ref o), (1, .int (nI a)), (2, .int (nI b)), (4, .int v), (5, .int (nI (max a b))), (6, .int (nI (min a b + 1 + d)))]) hx hb dX3_mostInTheWay_62 rfl hl (by decide) rfl (fun ls hl => ?_)
            refine lv_iload hx hb dX3_mostInTheWay_63 (lv_at hl 1 rfl) ?_
            refine lv_istore (lv' := [(4, .int r_43), (3, .int (nI (min a b + 1 + d))), (7, .int r_43), (0, .ref o), (1, .int (nI a)), (2, .int (nI b)), (5, .int (nI (max a b))), (6, .int (nI (min a b + 1 + d)))]) hx hb dX3_mostInTheWay_65 hl (by decide) rfl (fun ls hl => ?_)
            refine lv_iinc (v := nI (min a b + 1 + d + 1)) (lv' := [(6, .int (nI (min a b + 1 + d + 1))), (4, .int r_43), (3, .int (nI (min a b + 1 + d))), (7, .int r_43), (0, .ref o), (1, .int (nI a)), (2, .int (nI b)), (5, .int (nI (max a b)))]) hx hb dX3_mostInTheWay_67 hl (k := 7) rfl (inc1 _) (by decide) rfl (fun ls hl => ?_)
            refine lv_goto (tgt := 21) hx hb dX3_mostInTheWay_70 (by decide) ?_
            exact ih_21 (d + 1) (nI (min a b + 1 + d)) r_43 (by omega) (by omega) (by first | (rw [obs_T c2]; done) | (rw [obs_F c3 c4]; exact hw)) (by first | (rw [obs_T c2]; exact h_43) | (rw [obs_F c3 c4]; exact hv)) _ _ hP hS ls (lv_sub hl [4, 5, 6, 2, 1, 7, 0] rfl)
  exact L_21 _ 0 (-1) 0 (Nat.lt_succ_self _) (by omega) (rfl) (rfl) _ _ hP hS ls (lv_sub hl [4, 5, 6, 3, 2, 1, 0] rfl)
theorem kX3_pairsWithin_0 : ∀ w ∈ wsX30, w ∈ wsX3_pairsWithin := by decide +kernel
theorem kX3_pairsWithin_1 : (.fieldLink RX3 18 "SightRidge$Profile" "stations" "I" : Cond) ∈ wsX3_pairsWithin := by decide +kernel
set_option maxHeartbeats 4000000 in
set_option maxRecDepth 100000 in
/-- pairsWithin(q) -/
theorem c_X3_pairsWithin (l : Launch) (D : va_G) (cI cB cO : ClassId) (o ga ma : Nat) (n : Nat) (rg bl : Int32) (fg fm : Nat → Int32) (G M : Nat → Int32) (q : Int32) (hn : n ≤ 20) (hG : ∀ k, k < n → fg k = G k) (hM : ∀ k, k < n → fm k = M k) : Met l yX3_pairsWithin wsX3_pairsWithin (rmD 5) (rdPc D (tyL cI cB cO) [.ref o, .int q] [(o, .inr (3, [.ref ga, .ref ma, .int (nI n), .int rg, .int bl])), (ga, .inl (cI, 20, .inl fg)), (ma, .inl (cI, 20, .inl fm))]) (rdQi (fun r => r = nI (prN (fun a b => seesB G bl a (tp G M a) b (tp G M b) && decide (nI (b - a) ≤ q)) n))) 0 0 noA := by
  refine Met.ofW (cc := cX3_pairsWithin) (maxL := 5) (ret := (some .int)) (by decide) rfl ?_
  intro p e s m args below meth c s₁ B hml hv
  obtain ⟨rfl, hP, hK, hN⟩ := hv
  have hx := B.exec
  have hb := B.bytes
  have hr := B.returns
  have hts := atoms_spec (ws := wsX3_pairsWithin) B.pre
  have hown : s.vm.findClass RX3 = some m.cls := findClass_of_methodNamed B.named
  have hlocks := B.notSynchronized
  have hS : va_S noA s.heap s.heap [] := va_S.rf
  have hl := lv_entry ([.ref o, .int q]) (n := 5) (Nat.le_of_ble_eq_true rfl)
  rw [lg_entry_eq]
  generalize (lg_sl ([.ref o, .int q]) ++ List.replicate (5 - (lg_sl ([.ref o, .int q])).length) Slot.unset).toArray = ls at hl ⊢
  have hl : lv_has ls 5 [(0, .ref o), (1, .int q)] := hl
  refine lv_iconst (v := 0) hx hb dX3_pairsWithin_0 (by decide) ?_
  refine lv_istore_n (lv' := [(2, .int 0), (0, .ref o), (1, .int q)]) hx hb dX3_pairsWithin_1 rfl hl (by decide) rfl (fun ls hl => ?_)
  refine lv_iconst (v := 0) hx hb dX3_pairsWithin_2 (by decide) ?_
  refine lv_istore_n (lv' := [(3, .int 0), (2, .int 0), (0, .ref o), (1, .int q)]) hx hb dX3_pairsWithin_3 rfl hl (by decide) rfl (fun ls hl => ?_)
  have L_4 : ∀ (k_4 : Nat) (a : Nat) (t : Nat), n - a < k_4 → (a ≤ n) → (t = fb_sm (fun a => fb_ct (fun b => decide (a < b) && (seesB G bl a (tp G M a) b (tp G M b) && decide (nI (b - a) ≤ q))) n) a) → ∀ (H : Heap) (locs : List Loc), va_P D vwCl [(o, .inr (3, [.ref ga, .ref ma, .int (nI n), .int rg, .int bl])), (ga, .inl (cI, 20, .inl fg)), (ma, .inl (cI, 20, .inl fm))] H → va_S noA s.heap H locs → ∀ (ls : Array Slot), lv_has ls 5 [(0, .ref o), (1, .int q), (2, .int (nI t)), (3, .int (nI a))] → W p l e (rmD 5) s m ([.ref o, .int q] : List Value).toArray below meth c H locs 0 0 (MQ below (rdQi (fun r => r = nI (prN (fun a b => seesB G bl a (tp G M a) b (tp G M b) && decide (nI (b - a) ≤ q)) n))) ([.ref o, .int q] : List Value).toArray s 0 0 noA) (F0 m 4 ls []) := by
    intro k_4
    induction k_4 with
    | zero => intro a t h9; exact absurd h9 (Nat.not_lt_zero _)
    | succ k_4 ih_4 =>
      intro a t hm_4 hi ht H locs hP hS ls hl
      refine lv_iload_n hx hb dX3_pairsWithin_4 rfl (lv_at hl 3 rfl) ?_
      refine lv_aload_n hx hb dX3_pairsWithin_5 rfl (lv_at hl 0 rfl) ?_
      refine va_get (D := D) (ci := 3) (v := .int (nI n)) (C := RX3) (T := TX3) (N := 5) hx hb hts kX3_pairsWithin_0 hown hK hP 0 rfl rfl 2 (by decide) (hts (.fieldLink RX3 18 "SightRidge$Profile" "stations" "I") kX3_pairsWithin_1) (fun _ h9 => h9) rfl dX3_pairsWithin_6 ?_
      refine lv_icmp_ge (tgt := 59) hx hb dX3_pairsWithin_9 (by decide) (fun c_9 => ?_) (fun c_9 => ?_)
      · skip
        have c0 : n ≤ a := ge_t (by omega) c_9
        refine lv_iload_n hx hb dX3_pairsWithin_59 rfl (lv_at hl 2 rfl) ?_
        exact W.iret (v := nI t) hx hb hr (fun tS htS hWS => ⟨⟨nI t, (), rfl, (by unfold prN; exact congrArg nI (ht.trans (congrArg (fb_sm _) (show a = n by omega)))), trivial⟩, hS.F htS⟩) hS.2.2 dX3_pairsWithin_60
      · skip
        have c0 : a < n := ge_f (by omega) c_9
        refine lv_iload_n hx hb dX3_pairsWithin_12 rfl (lv_at hl 3 rfl) ?_
        refine lv_iconst (v := 1) hx hb dX3_pairsWithin_13 (by decide) ?_
        refine lv_iadd hx hb dX3_pairsWithin_14 ?_
        refine lv_topi (fun y_1 e_2 => ?_)
        have e_2 : nI (a + 1) = y_1 := (e_2.trans (nI_add a 1)).symm
        subst e_2
        refine lv_istore (lv' := [(4, .int (nI (a + 1))), (0, .ref o), (1, .int q), (2, .int (nI t)), (3, .int (nI a))]) hx hb dX3_pairsWithin_15 hl (by decide) rfl (fun ls hl => ?_)
        have L_17 : ∀ (k_17 : Nat) (b : Nat) (z : Nat), n - b < k_17 → (a < b) → (b ≤ n) → (z = t + fb_ct (fun b => decide (a < b) && (seesB G bl a (tp G M a) b (tp G M b) && decide (nI (b - a) ≤ q))) b) → ∀ (H : Heap) (locs : List Loc), va_P D vwCl [(o, .inr (3, [.ref ga, .ref ma, .int (nI n), .int rg, .int bl])), (ga, .inl (cI, 20, .inl fg)), (ma, .inl (cI, 20, .inl fm))] H → va_S noA s.heap H locs → ∀ (ls : Array Slot), lv_has ls 5 [(0, .ref o), (1, .int q), (2, .int (nI z)), (3, .int (nI a)), (4, .int (nI b))] → W p l e (rmD 5) s m ([.ref o, .int q] : List Value).toArray below meth c H locs 0 0 (MQ below (rdQi (fun r => r = nI (prN (fun a b => seesB G bl a (tp G M a) b (tp G M b) && decide (nI (b - a) ≤ q)) n))) ([.ref o, .int q] : List Value).toArray s 0 0 noA) (F0 m 17 ls []) := by
          intro k_17
          induction k_17 with
          | zero => intro b z h9; exact absurd h9 (Nat.not_lt_zero _)
          | succ k_17 ih_17 =>
            intro b z hm_17 hj hj2 hz H locs hP hS ls hl
            refine lv_iload hx hb dX3_pairsWithin_17 (lv_at hl 4 rfl) ?_
            refine lv_aload_n hx hb dX3_pairsWithin_19 rfl (lv_at hl 0 rfl) ?_
            refine va_get (D := D) (ci := 3) (v := .int (nI n)) (C := RX3) (T := TX3) (N := 5) hx hb hts kX3_pairsWithin_0 hown hK hP 0 rfl rfl 2 (by decide) (hts (.fieldLink RX3 18 "SightRidge$Profile" "stations" "I") kX3_pairsWithin_1) (fun _ h9 => h9) rfl dX3_pairsWithin_20 ?_
            refine lv_icmp_ge (tgt := 53) hx hb dX3_pairsWithin_23 (by decide) (fun c_23 => ?_) (fun c_23 => ?_)
            · skip
              have c1 : n ≤ b := ge_t (by omega) c_23
              have hd : z = t + fb_ct (fun b => decide (a < b) && (seesB G bl a (tp G M a) b (tp G M b) && decide (nI (b - a) ≤ q))) n := by rw [show n = b by omega]; exact hz
              refine lv_iinc (v := nI (a + 1)) (lv' := [(3, .int (nI (a + 1))), (0, .ref o), (1, .int q), (2, .int (nI z)), (4, .int (nI b))]) hx hb dX3_pairsWithin_53 hl (k := 3) rfl (inc1 _) (by decide) rfl (fun ls hl => ?_)
              refine lv_goto (tgt := 4) hx hb dX3_pairsWithin_56 (by decide) ?_
              exact ih_4 (a + 1) z (by omega) (by omega) (by rw [fb_sm_succ, ← ht]; exact hd) _ _ hP hS ls (lv_sub hl [1, 2, 3, 0] rfl)
            · skip
              have c1 : b < n := ge_f (by omega) c_23
              refine lv_iload hx hb dX3_pairsWithin_26 (lv_at hl 4 rfl) ?_
              refine lv_iload_n hx hb dX3_pairsWithin_28 rfl (lv_at hl 3 rfl) ?_
              refine lv_isub hx hb dX3_pairsWithin_29 ?_
              refine lv_topi (fun y_3 e_4 => ?_)
              have e_4 : nI (b - a) = y_3 := (e_4.trans (pk_sub (by omega))).symm
              subst e_4
              refine lv_iload_n hx hb dX3_pairsWithin_30 rfl (lv_at hl 1 rfl) ?_
              refine lv_icmp_gt (tgt := 53) hx hb dX3_pairsWithin_31 (by decide) (fun c_31 => ?_) (fun c_31 => ?_)
              · skip
                have hd : z = t + fb_ct (fun b => decide (a < b) && (seesB G bl a (tp G M a) b (tp G M b) && decide (nI (b - a) ≤ q))) n := by
                  rw [fb_ct_stop (k := b) (by omega) (fun j h1 h2 => ?_)]
                  · exact hz
                  · rw [decide_eq_false (p := nI (j - a) ≤ q) (Int32.not_le.mpr ?_)]; simp
                    rcases Nat.lt_or_ge b j with h3 | h3
                    · exact Int32.lt_trans c_31 (nI_lt (by omega) (by omega))
                    · rw [show j = b by omega]; exact c_31
                refine lv_iinc (v := nI (a + 1)) (lv' := [(3, .int (nI (a + 1))), (0, .ref o), (1, .int q), (2, .int (nI z)), (4, .int (nI b))]) hx hb dX3_pairsWithin_53 hl (k := 3) rfl (inc1 _) (by decide) rfl (fun ls hl => ?_)
                refine lv_goto (tgt := 4) hx hb dX3_pairsWithin_56 (by decide) ?_
                exact ih_4 (a + 1) z (by omega) (by omega) (by rw [fb_sm_succ, ← ht]; exact hd) _ _ hP hS ls (lv_sub hl [1, 2, 3, 0] rfl)
              · skip
                have c3 := Int32.not_lt.mp c_31
                refine lv_aload_n hx hb dX3_pairsWithin_34 rfl (lv_at hl 0 rfl) ?_
                refine lv_iload_n hx hb dX3_pairsWithin_35 rfl (lv_at hl 3 rfl) ?_
                refine lv_iload hx hb dX3_pairsWithin_36 (lv_at hl 4 rfl) ?_
                refine rd_calli hP hS (va_runV (As := [.int (nI a), .int (nI b)]) (rest := []) ⟨hx, hb, hml, hown, hts⟩ (c_X3_topsSee l D cI cB cO o ga ma n rg bl fg fm G M a b hn hG hM (by omega) (by omega)) (cwV 2 hts gX3_pairsWithin_X3_topsSee rfl rfl rfl (by decide +kernel) ⟨Nat.le_of_ble_eq_true rfl, Nat.le_of_ble_eq_true rfl⟩) (rd_preV (r := (RX3, TX3, 5)) (ci := 3) hK (hP.pick [0, 1, 2] rfl) hN (q0 := 0) rfl rfl) rfl rfl hl.1 rfl (lv_room (Nat.le_of_ble_eq_true rfl)) dX3_pairsWithin_38 ⟨Nat.le_refl _, Nat.le_refl _⟩) (fun r_38 H locs h_38 hP hS => ?_)
                refine lv_if_eq (tgt := 47) hx hb dX3_pairsWithin_41 (by decide) (fun c_41 => ?_) (fun c_41 => ?_)
                · skip
                  have c2 := bI_e0 (h_38 ▸ c_41)
                  refine lv_iinc (v := nI (b + 1)) (lv' := [(4, .int (nI (b + 1))), (0, .ref o), (1, .int q), (2, .int (nI z)), (3, .int (nI a))]) hx hb dX3_pairsWithin_47 hl (k := 4) rfl (inc1 _) (by decide) rfl (fun ls hl => ?_)
                  refine lv_goto (tgt := 17) hx hb dX3_pairsWithin_50 (by decide) ?_
                  exact ih_17 (b + 1) z (by omega) (by omega) (by omega) (by first | (rw [fb_ct_T (by simp [hj, c2, c3]), hz]; omega) | (rw [fb_ct_F (by simp [c2]), hz])) _ _ hP hS ls (lv_sub hl [1, 2, 3, 4, 0] rfl)
                · skip
                  have c2 := bI_n0 (fun q => c_41 (h_38.trans q))
                  refine lv_iinc (v := nI (z + 1)) (lv' := [(2, .int (nI (z + 1))), (0, .ref o), (1, .int q), (3, .int (nI a)), (4, .int (nI b))]) hx hb dX3_pairsWithin_44 hl (k := 2) rfl (inc1 _) (by decide) rfl (fun ls hl => ?_)
                  refine lv_iinc (v := nI (b + 1)) (lv' := [(4, .int (nI (b + 1))), (2, .int (nI (z + 1))), (0, .ref o), (1, .int q), (3, .int (nI a))]) hx hb dX3_pairsWithin_47 hl (k := 4) rfl (inc1 _) (by decide) rfl (fun ls hl => ?_)
                  refine lv_goto (tgt := 17) hx hb dX3_pairsWithin_50 (by decide) ?_
                  exact ih_17 (b + 1) (z + 1) (by omega) (by omega) (by omega) (by first | (rw [fb_ct_T (by simp [hj, c2, c3]), hz]; omega) | (rw [fb_ct_F (by simp [c2]), hz])) _ _ hP hS ls (lv_sub hl [2, 3, 1, 4, 0] rfl)
        exact L_17 _ (a + 1) t (Nat.lt_succ_self _) (by omega) (by omega) (by rw [fb_ct_low _ _ _ (Nat.le_refl _)]; rfl) _ _ hP hS ls (lv_sub hl [1, 2, 3, 4, 0] rfl)
  exact L_4 _ 0 0 (Nat.lt_succ_self _) (by omega) (rfl) _ _ hP hS ls (lv_sub hl [2, 3, 1, 0] rfl)
theorem kX3_countMasts_0 : ∀ w ∈ wsX30, w ∈ wsX3_countMasts := by decide +kernel
theorem kX3_countMasts_1 : (.fieldLink RX3 18 "SightRidge$Profile" "stations" "I" : Cond) ∈ wsX3_countMasts := by decide +kernel
theorem kX3_countMasts_2 : (.fieldLink RX3 15 "SightRidge$Profile" "masts" "[I" : Cond) ∈ wsX3_countMasts := by decide +kernel
set_option maxHeartbeats 4000000 in
set_option maxRecDepth 100000 in
/-- countMasts() -/
theorem c_X3_countMasts (l : Launch) (D : va_G) (cI cB cO : ClassId) (o ga ma : Nat) (n : Nat) (rg bl : Int32) (fg fm : Nat → Int32) (G M : Nat → Int32) (hn : n ≤ 20) (hG : ∀ k, k < n → fg k = G k) (hM : ∀ k, k < n → fm k = M k) : Met l yX3_countMasts wsX3_countMasts (rmD 1) (rdPc D (tyL cI cB cO) [.ref o] [(o, .inr (3, [.ref ga, .ref ma, .int (nI n), .int rg, .int bl])), (ga, .inl (cI, 20, .inl fg)), (ma, .inl (cI, 20, .inl fm))]) (rdQi (fun r => r = nI (fb_ct (fun k => decide (0 < M k)) n))) 0 0 noA := by
  refine Met.ofW (cc := cX3_countMasts) (maxL := 3) (ret := (some .int)) (by decide) rfl ?_
  intro p e s m args below meth c s₁ B hml hv
  obtain ⟨rfl, hP, hK, hN⟩ := hv
  have hx := B.exec
  have hb := B.bytes
  have hr := B.returns
  have hts := atoms_spec (ws := wsX3_countMasts) B.pre
  have hown : s.vm.findClass RX3 = some m.cls := findClass_of_methodNamed B.named
  have hlocks := B.notSynchronized
  have hS : va_S noA s.heap s.heap [] := va_S.rf
  have hl := lv_entry ([.ref o]) (n := 3) (Nat.le_of_ble_eq_true rfl)
  rw [lg_entry_eq]
  generalize (lg_sl ([.ref o]) ++ List.replicate (3 - (lg_sl ([.ref o])).length) Slot.unset).toArray = ls at hl ⊢
  have hl : lv_has ls 3 [(0, .ref o)] := hl
  refine lv_iconst (v := 0) hx hb dX3_countMasts_0 (by decide) ?_
  refine lv_istore_n (lv' := [(1, .int 0), (0, .ref o)]) hx hb dX3_countMasts_1 rfl hl (by decide) rfl (fun ls hl => ?_)
  refine lv_iconst (v := 0) hx hb dX3_countMasts_2 (by decide) ?_
  refine lv_istore_n (lv' := [(2, .int 0), (1, .int 0), (0, .ref o)]) hx hb dX3_countMasts_3 rfl hl (by decide) rfl (fun ls hl => ?_)
  have L_4 : ∀ (k_4 : Nat) (i : Nat) (t : Nat), n - i < k_4 → (i ≤ n) → (t = fb_ct (fun k => decide (0 < M k)) i) → ∀ (H : Heap) (locs : List Loc), va_P D vwCl [(o, .inr (3, [.ref ga, .ref ma, .int (nI n), .int rg, .int bl])), (ga, .inl (cI, 20, .inl fg)), (ma, .inl (cI, 20, .inl fm))] H → va_S noA s.heap H locs → ∀ (ls : Array Slot), lv_has ls 3 [(0, .ref o), (1, .int (nI t)), (2, .int (nI i))] → W p l e (rmD 1) s m ([.ref o] : List Value).toArray below meth c H locs 0 0 (MQ below (rdQi (fun r => r = nI (fb_ct (fun k => decide (0 < M k)) n))) ([.ref o] : List Value).toArray s 0 0 noA) (F0 m 4 ls []) := by
    intro k_4
    induction k_4 with
    | zero => intro i t h9; exact absurd h9 (Nat.not_lt_zero _)
    | succ k_4 ih_4 =>
      intro i t hm_4 hi ht H locs hP hS ls hl
      refine lv_iload_n hx hb dX3_countMasts_4 rfl (lv_at hl 2 rfl) ?_
      refine lv_aload_n hx hb dX3_countMasts_5 rfl (lv_at hl 0 rfl) ?_
      refine va_get (D := D) (ci := 3) (v := .int (nI n)) (C := RX3) (T := TX3) (N := 5) hx hb hts kX3_countMasts_0 hown hK hP 0 rfl rfl 2 (by decide) (hts (.fieldLink RX3 18 "SightRidge$Profile" "stations" "I") kX3_countMasts_1) (fun _ h9 => h9) rfl dX3_countMasts_6 ?_
      refine lv_icmp_ge (tgt := 30) hx hb dX3_countMasts_9 (by decide) (fun c_9 => ?_) (fun c_9 => ?_)
      · skip
        have c0 : n ≤ i := ge_t (by omega) c_9
        refine lv_iload_n hx hb dX3_countMasts_30 rfl (lv_at hl 1 rfl) ?_
        exact W.iret (v := nI t) hx hb hr (fun tS htS hWS => ⟨⟨nI t, (), rfl, (by rw [show n = i by omega]; exact congrArg nI ht), trivial⟩, hS.F htS⟩) hS.2.2 dX3_countMasts_31
      · skip
        have c0 : i < n := ge_f (by omega) c_9
        refine lv_aload_n hx hb dX3_countMasts_12 rfl (lv_at hl 0 rfl) ?_
        refine va_get (D := D) (ci := 3) (v := .ref ma) (C := RX3) (T := TX3) (N := 5) hx hb hts kX3_countMasts_0 hown hK hP 0 rfl rfl 1 (by decide) (hts (.fieldLink RX3 15 "SightRidge$Profile" "masts" "[I") kX3_countMasts_2) (fun _ h9 => h9) rfl dX3_countMasts_13 ?_
        refine lv_iload_n hx hb dX3_countMasts_16 rfl (lv_at hl 2 rfl) ?_
        refine va_iald hx hb hK hP 2 0 rfl rfl (i := nI i) (vp_in_nI (N := 20) (by omega) (by decide)) dX3_countMasts_17 ?_
        rw [nI_clamp (n := i) (by omega)]
        refine lv_topi (fun y_1 e_2 => ?_)
        have e_2 : M i = y_1 := (e_2.trans (hM i c0)).symm
        subst e_2
        refine lv_if_le (tgt := 24) hx hb dX3_countMasts_18 (by decide) (fun c_18 => ?_) (fun c_18 => ?_)
        · skip
          refine lv_iinc (v := nI (i + 1)) (lv' := [(2, .int (nI (i + 1))), (0, .ref o), (1, .int (nI t))]) hx hb dX3_countMasts_24 hl (k := 2) rfl (inc1 _) (by decide) rfl (fun ls hl => ?_)
          refine lv_goto (tgt := 4) hx hb dX3_countMasts_27 (by decide) ?_
          exact ih_4 (i + 1) t (by omega) (by omega) (by first | (rw [fb_ct_T (decide_eq_true (Int32.not_le.mp c_18)), ht]) | (rw [fb_ct_F (decide_eq_false (Int32.not_lt.mpr c_18)), ht])) _ _ hP hS ls (lv_sub hl [1, 2, 0] rfl)
        · skip
          refine lv_iinc (v := nI (t + 1)) (lv' := [(1, .int (nI (t + 1))), (0, .ref o), (2, .int (nI i))]) hx hb dX3_countMasts_21 hl (k := 1) rfl (inc1 _) (by decide) rfl (fun ls hl => ?_)
          refine lv_iinc (v := nI (i + 1)) (lv' := [(2, .int (nI (i + 1))), (1, .int (nI (t + 1))), (0, .ref o)]) hx hb dX3_countMasts_24 hl (k := 2) rfl (inc1 _) (by decide) rfl (fun ls hl => ?_)
          refine lv_goto (tgt := 4) hx hb dX3_countMasts_27 (by decide) ?_
          exact ih_4 (i + 1) (t + 1) (by omega) (by omega) (by first | (rw [fb_ct_T (decide_eq_true (Int32.not_le.mp c_18)), ht]) | (rw [fb_ct_F (decide_eq_false (Int32.not_lt.mpr c_18)), ht])) _ _ hP hS ls (lv_sub hl [2, 1, 0] rfl)
  exact L_4 _ 0 0 (Nat.lt_succ_self _) (by omega) (rfl) _ _ hP hS ls (lv_sub hl [2, 1, 0] rfl)
theorem kX3_sumOfMasts_0 : ∀ w ∈ wsX30, w ∈ wsX3_sumOfMasts := by decide +kernel
theorem kX3_sumOfMasts_1 : (.fieldLink RX3 18 "SightRidge$Profile" "stations" "I" : Cond) ∈ wsX3_sumOfMasts := by decide +kernel
theorem kX3_sumOfMasts_2 : (.fieldLink RX3 15 "SightRidge$Profile" "masts" "[I" : Cond) ∈ wsX3_sumOfMasts := by decide +kernel
set_option maxHeartbeats 4000000 in
set_option maxRecDepth 100000 in
/-- sumOfMasts() -/
theorem c_X3_sumOfMasts (l : Launch) (D : va_G) (cI cB cO : ClassId) (o ga ma : Nat) (n : Nat) (rg bl : Int32) (fg fm : Nat → Int32) (G M : Nat → Int32) (hn : n ≤ 20) (hG : ∀ k, k < n → fg k = G k) (hM : ∀ k, k < n → fm k = M k) : Met l yX3_sumOfMasts wsX3_sumOfMasts (rmD 1) (rdPc D (tyL cI cB cO) [.ref o] [(o, .inr (3, [.ref ga, .ref ma, .int (nI n), .int rg, .int bl])), (ga, .inl (cI, 20, .inl fg)), (ma, .inl (cI, 20, .inl fm))]) (rdQi (fun r => r = smI M n)) 0 0 noA := by
  refine Met.ofW (cc := cX3_sumOfMasts) (maxL := 3) (ret := (some .int)) (by decide) rfl ?_
  intro p e s m args below meth c s₁ B hml hv
  obtain ⟨rfl, hP, hK, hN⟩ := hv
  have hx := B.exec
  have hb := B.bytes
  have hr := B.returns
  have hts := atoms_spec (ws := wsX3_sumOfMasts) B.pre
  have hown : s.vm.findClass RX3 = some m.cls := findClass_of_methodNamed B.named
  have hlocks := B.notSynchronized
  have hS : va_S noA s.heap s.heap [] := va_S.rf
  have hl := lv_entry ([.ref o]) (n := 3) (Nat.le_of_ble_eq_true rfl)
  rw [lg_entry_eq]
  generalize (lg_sl ([.ref o]) ++ List.replicate (3 - (lg_sl ([.ref o])).length) Slot.unset).toArray = ls at hl ⊢
  have hl : lv_has ls 3 [(0, .ref o)] := hl
  refine lv_iconst (v := 0) hx hb dX3_sumOfMasts_0 (by decide) ?_
  refine lv_istore_n (lv' := [(1, .int 0), (0, .ref o)]) hx hb dX3_sumOfMasts_1 rfl hl (by decide) rfl (fun ls hl => ?_)
  refine lv_iconst (v := 0) hx hb dX3_sumOfMasts_2 (by decide) ?_
  refine lv_istore_n (lv' := [(2, .int 0), (1, .int 0), (0, .ref o)]) hx hb dX3_sumOfMasts_3 rfl hl (by decide) rfl (fun ls hl => ?_)
  have L_4 : ∀ (k_4 : Nat) (i : Nat) (t : Int32), n - i < k_4 → (i ≤ n) → (t = smI M i) → ∀ (H : Heap) (locs : List Loc), va_P D vwCl [(o, .inr (3, [.ref ga, .ref ma, .int (nI n), .int rg, .int bl])), (ga, .inl (cI, 20, .inl fg)), (ma, .inl (cI, 20, .inl fm))] H → va_S noA s.heap H locs → ∀ (ls : Array Slot), lv_has ls 3 [(0, .ref o), (1, .int t), (2, .int (nI i))] → W p l e (rmD 1) s m ([.ref o] : List Value).toArray below meth c H locs 0 0 (MQ below (rdQi (fun r => r = smI M n)) ([.ref o] : List Value).toArray s 0 0 noA) (F0 m 4 ls []) := by
    intro k_4
    induction k_4 with
    | zero => intro i t h9; exact absurd h9 (Nat.not_lt_zero _)
    | succ k_4 ih_4 =>
      intro i t hm_4 hi ht H locs hP hS ls hl
      refine lv_iload_n hx hb dX3_sumOfMasts_4 rfl (lv_at hl 2 rfl) ?_
      refine lv_aload_n hx hb dX3_sumOfMasts_5 rfl (lv_at hl 0 rfl) ?_
      refine va_get (D := D) (ci := 3) (v := .int (nI n)) (C := RX3) (T := TX3) (N := 5) hx hb hts kX3_sumOfMasts_0 hown hK hP 0 rfl rfl 2 (by decide) (hts (.fieldLink RX3 18 "SightRidge$Profile" "stations" "I") kX3_sumOfMasts_1) (fun _ h9 => h9) rfl dX3_sumOfMasts_6 ?_
      refine lv_icmp_ge (tgt := 27) hx hb dX3_sumOfMasts_9 (by decide) (fun c_9 => ?_) (fun c_9 => ?_)
      · skip
        have c0 : n ≤ i := ge_t (by omega) c_9
        refine lv_iload_n hx hb dX3_sumOfMasts_27 rfl (lv_at hl 1 rfl) ?_
        exact W.iret (v := t) hx hb hr (fun tS htS hWS => ⟨⟨t, (), rfl, (by rw [show n = i by omega]; exact ht), trivial⟩, hS.F htS⟩) hS.2.2 dX3_sumOfMasts_28
      · skip
        have c0 : i < n := ge_f (by omega) c_9
        refine lv_iload_n hx hb dX3_sumOfMasts_12 rfl (lv_at hl 1 rfl) ?_
        refine lv_aload_n hx hb dX3_sumOfMasts_13 rfl (lv_at hl 0 rfl) ?_
        refine va_get (D := D) (ci := 3) (v := .ref ma) (C := RX3) (T := TX3) (N := 5) hx hb hts kX3_sumOfMasts_0 hown hK hP 0 rfl rfl 1 (by decide) (hts (.fieldLink RX3 15 "SightRidge$Profile" "masts" "[I") kX3_sumOfMasts_2) (fun _ h9 => h9) rfl dX3_sumOfMasts_14 ?_
        refine lv_iload_n hx hb dX3_sumOfMasts_17 rfl (lv_at hl 2 rfl) ?_
        refine va_iald hx hb hK hP 2 0 rfl rfl (i := nI i) (vp_in_nI (N := 20) (by omega) (by decide)) dX3_sumOfMasts_18 ?_
        rw [nI_clamp (n := i) (by omega)]
        refine lv_topi (fun y_1 e_2 => ?_)
        have e_2 : M i = y_1 := (e_2.trans (hM i c0)).symm
        subst e_2
        refine lv_iadd hx hb dX3_sumOfMasts_19 ?_
        refine lv_istore_n (lv' := [(1, .int (t + (M i))), (0, .ref o), (2, .int (nI i))]) hx hb dX3_sumOfMasts_20 rfl hl (by decide) rfl (fun ls hl => ?_)
        refine lv_iinc (v := nI (i + 1)) (lv' := [(2, .int (nI (i + 1))), (1, .int (t + (M i))), (0, .ref o)]) hx hb dX3_sumOfMasts_21 hl (k := 2) rfl (inc1 _) (by decide) rfl (fun ls hl => ?_)
        refine lv_goto (tgt := 4) hx hb dX3_sumOfMasts_24 (by decide) ?_
        exact ih_4 (i + 1) (t + (M i)) (by omega) (by omega) (by rw [ht]; rfl) _ _ hP hS ls (lv_sub hl [2, 1, 0] rfl)
  exact L_4 _ 0 0 (Nat.lt_succ_self _) (by omega) (rfl) _ _ hP hS ls (lv_sub hl [2, 1, 0] rfl)
