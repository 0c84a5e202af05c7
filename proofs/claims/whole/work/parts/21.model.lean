/-! the reference's methods that read -/
/-- what the array m says -/
def MOK (n : Nat) (mm : Nat → Int32) (rg bl : Int32) (G M : Nat → Int32) : Prop := n ≤ 20 ∧ 2 ≤ n ∧ mm 0 = nI n ∧ mm 1 = rg ∧ mm 2 = bl ∧ (∀ k, k < n → mm (3 + k) = G k) ∧ (∀ k, k < n → mm (23 + k) = M k)
theorem clr_comm (fg : Nat → Int32) (bl : Int32) (a : Nat) (x : Int32) (b : Nat) (y : Int32) (k : Nat) : clr fg bl a x b y k = clr fg bl b y a x k := by
  unfold clr
  rw [dd_comm b k, dd_comm k a, Int32.add_comm (x * _), Int32.add_comm (nI (dd a k)), dd_comm a k, dd_comm k b]
  rw [Int32.mul_assoc bl, Int32.mul_assoc bl, Int32.mul_comm (nI (dd k a))]
theorem clr_lt {fg : Nat → Int32} {bl : Int32} {a : Nat} {x : Int32} {b : Nat} {y : Int32} {k : Nat} (h1 : a < k) (h2 : k < b) : clr fg bl a x b y k = x * nI (b - k) + y * nI (k - a) - nI (b - a) * (fg k + bl * nI (k - a) * nI (b - k)) := by
  unfold clr
  rw [dd_gt (a := b) (b := k) (by omega), dd_gt (a := k) (b := a) (by omega), nI_add, show k - a + (b - k) = b - a by omega]
theorem sees_comm (fg : Nat → Int32) (bl : Int32) (a : Nat) (x : Int32) (b : Nat) (y : Int32) : seesB fg bl a x b y = seesB fg bl b y a x := by
  unfold seesB
  rw [decide_eq_decide]
  simp only [Nat.max_comm b a, Nat.min_comm b a, clr_comm fg bl b y a x]
theorem sees_self (fg : Nat → Int32) (bl : Int32) (a : Nat) (x y : Int32) : seesB fg bl a x a y = true := by
  unfold seesB
  exact decide_eq_true (fun k h1 h2 => by omega)
set_option maxHeartbeats 4000000 in
set_option maxRecDepth 100000 in
/-- in(v, a, b) -/
theorem c_X7_in (l : Launch) (D : va_G) (cI cB cO : ClassId) (v a b : Int32) : Met l yX7_in wsX7_in (rmD 1) (rdPc D (tyL cI cB cO) [.int v, .int a, .int b] []) (rdQi (fun r => r = bI (inB v a b))) 0 0 noA := by
  refine Met.ofW (cc := cX7_in) (maxL := 3) (ret := (some .boolean)) (by decide) rfl ?_
  intro p e s m args below meth c s₁ B hml hv
  obtain ⟨rfl, hP, hK, hN⟩ := hv
  have hx := B.exec
  have hb := B.bytes
  have hr := B.returns
  have hts := atoms_spec (ws := wsX7_in) B.pre
  have hown : s.vm.findClass RX7 = some m.cls := findClass_of_methodNamed B.named
  have hlocks := B.notSynchronized
  have hS : va_S noA s.heap s.heap [] := va_S.rf
  have hl := lv_entry ([.int v, .int a, .int b]) (n := 3) (Nat.le_of_ble_eq_true rfl)
  rw [lg_entry_eq]
  generalize (lg_sl ([.int v, .int a, .int b]) ++ List.replicate (3 - (lg_sl ([.int v, .int a, .int b])).length) Slot.unset).toArray = ls at hl ⊢
  have hl : lv_has ls 3 [(0, .int v), (1, .int a), (2, .int b)] := hl
  refine lv_iload_n hx hb dX7_in_0 rfl (lv_at hl 0 rfl) ?_
  refine lv_iload_n hx hb dX7_in_1 rfl (lv_at hl 1 rfl) ?_
  refine lv_icmp_lt (tgt := 14) hx hb dX7_in_2 (by decide) (fun c_2 => ?_) (fun c_2 => ?_)
  · skip
    refine lv_iconst (v := 0) hx hb dX7_in_14 (by decide) ?_
    exact W.zret (v := 0) hx hb hr (rfl) (fun tS htS hWS => ⟨⟨0, (), rfl, (by unfold inB; first | exact bI_t (decide_eq_true ⟨Int32.not_lt.mp c_2, Int32.not_lt.mp c_7⟩) | exact bI_f (decide_eq_false (fun q => absurd q.1 (Int32.not_le.mpr c_2))) | exact bI_f (decide_eq_false (fun q => absurd q.2 (Int32.not_le.mpr c_7)))), trivial⟩, hS.F htS⟩) hS.2.2 dX7_in_15
  · skip
    refine lv_iload_n hx hb dX7_in_5 rfl (lv_at hl 0 rfl) ?_
    refine lv_iload_n hx hb dX7_in_6 rfl (lv_at hl 2 rfl) ?_
    refine lv_icmp_gt (tgt := 14) hx hb dX7_in_7 (by decide) (fun c_7 => ?_) (fun c_7 => ?_)
    · skip
      refine lv_iconst (v := 0) hx hb dX7_in_14 (by decide) ?_
      exact W.zret (v := 0) hx hb hr (rfl) (fun tS htS hWS => ⟨⟨0, (), rfl, (by unfold inB; first | exact bI_t (decide_eq_true ⟨Int32.not_lt.mp c_2, Int32.not_lt.mp c_7⟩) | exact bI_f (decide_eq_false (fun q => absurd q.1 (Int32.not_le.mpr c_2))) | exact bI_f (decide_eq_false (fun q => absurd q.2 (Int32.not_le.mpr c_7)))), trivial⟩, hS.F htS⟩) hS.2.2 dX7_in_15
    · skip
      refine lv_iconst (v := 1) hx hb dX7_in_10 (by decide) ?_
      refine lv_goto (tgt := 15) hx hb dX7_in_11 (by decide) ?_
      exact W.zret (v := 1) hx hb hr (rfl) (fun tS htS hWS => ⟨⟨1, (), rfl, (by unfold inB; first | exact bI_t (decide_eq_true ⟨Int32.not_lt.mp c_2, Int32.not_lt.mp c_7⟩) | exact bI_f (decide_eq_false (fun q => absurd q.1 (Int32.not_le.mpr c_2))) | exact bI_f (decide_eq_false (fun q => absurd q.2 (Int32.not_le.mpr c_7)))), trivial⟩, hS.F htS⟩) hS.2.2 dX7_in_15
theorem in_has {n : Nat} (h1 : 1 ≤ n) (h : n ≤ 20) (x : Int32) : inB x 0 (nI (n - 1)) = hasB n x := by
  unfold inB hasB
  rw [decide_eq_decide, Int32.not_lt]
  have e : (nI (n - 1)).toInt = (n - 1 : Nat) := nI_toInt (by omega)
  have e2 : (nI n).toInt = (n : Nat) := nI_toInt (by omega)
  rw [fa_le x, fa_lt x, e, e2]
  constructor
  · intro q; exact ⟨q.1, by omega⟩
  · intro q; exact ⟨q.1, by omega⟩
theorem kX7_isStation_0 : ∀ w ∈ wsX70, w ∈ wsX7_isStation := by decide +kernel
theorem kX7_isStation_1 : (.fieldLink RX7 7 "SightRidgeModel" "m" "[I" : Cond) ∈ wsX7_isStation := by decide +kernel
set_option maxHeartbeats 4000000 in
set_option maxRecDepth 100000 in
/-- isStation(x) -/
theorem c_X7_isStation (l : Launch) (D : va_G) (cI cB cO : ClassId) (o q1 : Nat) (fs : List Value) (n : Nat) (mm : Nat → Int32) (rg bl : Int32) (G M : Nat → Int32) (x : Int32) (hm : MOK n mm rg bl G M) : Met l yX7_isStation wsX7_isStation (rmD 2) (rdPc D (tyL cI cB cO) [.ref o, .int x] [(o, .inr (7, .ref q1 :: fs)), (q1, .inl (cI, 43, .inl mm))]) (rdQi (fun r => r = bI (hasB n x))) 0 0 noA := by
  refine Met.ofW (cc := cX7_isStation) (maxL := 2) (ret := (some .boolean)) (by decide) rfl ?_
  intro p e s m args below meth c s₁ B hml hv
  obtain ⟨rfl, hP, hK, hN⟩ := hv
  have hx := B.exec
  have hb := B.bytes
  have hr := B.returns
  have hts := atoms_spec (ws := wsX7_isStation) B.pre
  have hown : s.vm.findClass RX7 = some m.cls := findClass_of_methodNamed B.named
  have hlocks := B.notSynchronized
  have hS : va_S noA s.heap s.heap [] := va_S.rf
  have hl := lv_entry ([.ref o, .int x]) (n := 2) (Nat.le_of_ble_eq_true rfl)
  rw [lg_entry_eq]
  generalize (lg_sl ([.ref o, .int x]) ++ List.replicate (2 - (lg_sl ([.ref o, .int x])).length) Slot.unset).toArray = ls at hl ⊢
  have hl : lv_has ls 2 [(0, .ref o), (1, .int x)] := hl
  obtain ⟨hn, hn1, hm0, hm1, hm2, hG, hM⟩ := id hm
  refine lv_iload_n hx hb dX7_isStation_0 rfl (lv_at hl 1 rfl) ?_
  refine lv_iconst (v := 0) hx hb dX7_isStation_1 (by decide) ?_
  refine lv_aload_n hx hb dX7_isStation_2 rfl (lv_at hl 0 rfl) ?_
  refine va_get (D := D) (ci := 7) (v := .ref q1) (C := RX7) (T := TX7) (N := 15) hx hb hts kX7_isStation_0 hown hK hP 0 rfl rfl 0 (by decide) (hts (.fieldLink RX7 7 "SightRidgeModel" "m" "[I") kX7_isStation_1) (fun _ h9 => h9) rfl dX7_isStation_3 ?_
  refine lv_iconst (v := 0) hx hb dX7_isStation_6 (by decide) ?_
  refine va_iald hx hb hK hP 1 0 rfl rfl (i := nI 0) (vp_in_nI (N := 43) (by decide) (by decide)) dX7_isStation_7 ?_
  rw [nI_clamp (n := 0) (by decide)]
  refine lv_topi (fun y_1 e_2 => ?_)
  have e_2 : nI n = y_1 := (e_2.trans (hm0)).symm
  subst e_2
  refine lv_iconst (v := 1) hx hb dX7_isStation_8 (by decide) ?_
  refine lv_isub hx hb dX7_isStation_9 ?_
  refine lv_topi (fun y_3 e_4 => ?_)
  have e_4 : nI (n - 1) = y_3 := (e_4.trans (pk_sub (a := n) (b := 1) (by omega))).symm
  subst e_4
  refine rd_calli hP hS (va_runS (As := [.int x, .int 0, .int (nI (n - 1))]) (rest := []) ⟨hx, hb, hml, hown, hts⟩ (c_X7_in l D cI cB cO x 0 (nI (n - 1)) ) (va_cwS 3 hts gX7_isStation_X7_in rfl rfl rfl (by decide +kernel) ⟨Nat.le_of_ble_eq_true rfl, Nat.le_of_ble_eq_true rfl⟩) (rd_preS hK (hP.pick [] rfl) hN) rfl rfl hl.1 rfl (lv_room (Nat.le_of_ble_eq_true rfl)) dX7_isStation_10 ⟨Nat.le_refl _, Nat.le_refl _⟩) (fun r_10 H locs h_10 hP hS => ?_)
  rw [show r_10 = bI (inB x 0 (nI (n - 1))) from h_10]
  exact W.zret (v := bI (inB x 0 (nI (n - 1)))) hx hb hr (bI_nar _) (fun tS htS hWS => ⟨⟨bI (inB x 0 (nI (n - 1))), (), rfl, (by rw [in_has (by omega) hn]), trivial⟩, hS.F htS⟩) hS.2.2 dX7_isStation_13
theorem kX7_top_0 : ∀ w ∈ wsX70, w ∈ wsX7_top := by decide +kernel
theorem kX7_top_1 : (.fieldLink RX7 7 "SightRidgeModel" "m" "[I" : Cond) ∈ wsX7_top := by decide +kernel
set_option maxHeartbeats 4000000 in
set_option maxRecDepth 100000 in
/-- top(k) -/
theorem c_X7_top (l : Launch) (D : va_G) (cI cB cO : ClassId) (o q1 : Nat) (fs : List Value) (n : Nat) (mm : Nat → Int32) (rg bl : Int32) (G M : Nat → Int32) (k : Nat) (hm : MOK n mm rg bl G M) (hk : k < n) : Met l yX7_top wsX7_top (rmD 1) (rdPc D (tyL cI cB cO) [.ref o, .int (nI k)] [(o, .inr (7, .ref q1 :: fs)), (q1, .inl (cI, 43, .inl mm))]) (rdQi (fun r => r = tp G M k)) 0 0 noA := by
  refine Met.ofW (cc := cX7_top) (maxL := 2) (ret := (some .int)) (by decide) rfl ?_
  intro p e s m args below meth c s₁ B hml hv
  obtain ⟨rfl, hP, hK, hN⟩ := hv
  have hx := B.exec
  have hb := B.bytes
  have hr := B.returns
  have hts := atoms_spec (ws := wsX7_top) B.pre
  have hown : s.vm.findClass RX7 = some m.cls := findClass_of_methodNamed B.named
  have hlocks := B.notSynchronized
  have hS : va_S noA s.heap s.heap [] := va_S.rf
  have hl := lv_entry ([.ref o, .int (nI k)]) (n := 2) (Nat.le_of_ble_eq_true rfl)
  rw [lg_entry_eq]
  generalize (lg_sl ([.ref o, .int (nI k)]) ++ List.replicate (2 - (lg_sl ([.ref o, .int (nI k)])).length) Slot.unset).toArray = ls at hl ⊢
  have hl : lv_has ls 2 [(0, .ref o), (1, .int (nI k))] := hl
  obtain ⟨hn, hn1, hm0, hm1, hm2, hG, hM⟩ := id hm
  refine lv_aload_n hx hb dX7_top_0 rfl (lv_at hl 0 rfl) ?_
  refine va_get (D := D) (ci := 7) (v := .ref q1) (C := RX7) (T := TX7) (N := 15) hx hb hts kX7_top_0 hown hK hP 0 rfl rfl 0 (by decide) (hts (.fieldLink RX7 7 "SightRidgeModel" "m" "[I") kX7_top_1) (fun _ h9 => h9) rfl dX7_top_1 ?_
  refine lv_iconst (v := 3) hx hb dX7_top_4 (by decide) ?_
  refine lv_iload_n hx hb dX7_top_5 rfl (lv_at hl 1 rfl) ?_
  refine lv_iadd hx hb dX7_top_6 ?_
  refine lv_topi (fun y_1 e_2 => ?_)
  have e_2 : nI (3 + k) = y_1 := (e_2.trans (nI_add 3 k)).symm
  subst e_2
  refine va_iald hx hb hK hP 1 0 rfl rfl (i := nI (3 + k)) (vp_in_nI (N := 43) (by omega) (by decide)) dX7_top_7 ?_
  rw [nI_clamp (n := 3 + k) (by omega)]
  refine lv_topi (fun y_3 e_4 => ?_)
  have e_4 : G k = y_3 := (e_4.trans (hG k hk)).symm
  subst e_4
  refine lv_aload_n hx hb dX7_top_8 rfl (lv_at hl 0 rfl) ?_
  refine va_get (D := D) (ci := 7) (v := .ref q1) (C := RX7) (T := TX7) (N := 15) hx hb hts kX7_top_0 hown hK hP 0 rfl rfl 0 (by decide) (hts (.fieldLink RX7 7 "SightRidgeModel" "m" "[I") kX7_top_1) (fun _ h9 => h9) rfl dX7_top_9 ?_
  refine lv_bipush (v := 23) hx hb dX7_top_12 (by decide) ?_
  refine lv_iload_n hx hb dX7_top_14 rfl (lv_at hl 1 rfl) ?_
  refine lv_iadd hx hb dX7_top_15 ?_
  refine lv_topi (fun y_5 e_6 => ?_)
  have e_6 : nI (23 + k) = y_5 := (e_6.trans (nI_add 23 k)).symm
  subst e_6
  refine va_iald hx hb hK hP 1 0 rfl rfl (i := nI (23 + k)) (vp_in_nI (N := 43) (by omega) (by decide)) dX7_top_16 ?_
  rw [nI_clamp (n := 23 + k) (by omega)]
  refine lv_topi (fun y_7 e_8 => ?_)
  have e_8 : M k = y_7 := (e_8.trans (hM k hk)).symm
  subst e_8
  refine lv_iadd hx hb dX7_top_17 ?_
  exact W.iret (v := (G k) + (M k)) hx hb hr (fun tS htS hWS => ⟨⟨(G k) + (M k), (), rfl, rfl, trivial⟩, hS.F htS⟩) hS.2.2 dX7_top_18
theorem kX7_clearance_0 : ∀ w ∈ wsX70, w ∈ wsX7_clearance := by decide +kernel
theorem kX7_clearance_1 : (.fieldLink RX7 7 "SightRidgeModel" "m" "[I" : Cond) ∈ wsX7_clearance := by decide +kernel
set_option maxHeartbeats 4000000 in
set_option maxRecDepth 100000 in
/-- clearance(a, x, b, y, k) -/
theorem c_X7_clearance (l : Launch) (D : va_G) (cI cB cO : ClassId) (o q1 : Nat) (fs : List Value) (n : Nat) (mm : Nat → Int32) (rg bl : Int32) (G M : Nat → Int32) (a : Nat) (x : Int32) (b : Nat) (y : Int32) (k : Nat) (hm : MOK n mm rg bl G M) (ha : a < k) (hk : k < b) (hb0 : b < n) : Met l yX7_clearance wsX7_clearance (rmD 1) (rdPc D (tyL cI cB cO) [.ref o, .int (nI a), .int x, .int (nI b), .int y, .int (nI k)] [(o, .inr (7, .ref q1 :: fs)), (q1, .inl (cI, 43, .inl mm))]) (rdQi (fun r => r = clr G bl a x b y k)) 0 0 noA := by
  refine Met.ofW (cc := cX7_clearance) (maxL := 6) (ret := (some .int)) (by decide) rfl ?_
  intro p e s m args below meth c s₁ B hml hv
  obtain ⟨rfl, hP, hK, hN⟩ := hv
  have hx := B.exec
  have hb := B.bytes
  have hr := B.returns
  have hts := atoms_spec (ws := wsX7_clearance) B.pre
  have hown : s.vm.findClass RX7 = some m.cls := findClass_of_methodNamed B.named
  have hlocks := B.notSynchronized
  have hS : va_S noA s.heap s.heap [] := va_S.rf
  have hl := lv_entry ([.ref o, .int (nI a), .int x, .int (nI b), .int y, .int (nI k)]) (n := 6) (Nat.le_of_ble_eq_true rfl)
  rw [lg_entry_eq]
  generalize (lg_sl ([.ref o, .int (nI a), .int x, .int (nI b), .int y, .int (nI k)]) ++ List.replicate (6 - (lg_sl ([.ref o, .int (nI a), .int x, .int (nI b), .int y, .int (nI k)])).length) Slot.unset).toArray = ls at hl ⊢
  have hl : lv_has ls 6 [(0, .ref o), (1, .int (nI a)), (2, .int x), (3, .int (nI b)), (4, .int y), (5, .int (nI k))] := hl
  obtain ⟨hn, hn1, hm0, hm1, hm2, hG, hM⟩ := id hm
  refine lv_iload_n hx hb dX7_clearance_0 rfl (lv_at hl 2 rfl) ?_
  refine lv_iload_n hx hb dX7_clearance_1 rfl (lv_at hl 3 rfl) ?_
  refine lv_iload hx hb dX7_clearance_2 (lv_at hl 5 rfl) ?_
  refine lv_isub hx hb dX7_clearance_4 ?_
  refine lv_topi (fun y_1 e_2 => ?_)
  have e_2 : nI (b - k) = y_1 := (e_2.trans (pk_sub (by omega))).symm
  subst e_2
  refine lv_imul hx hb dX7_clearance_5 ?_
  refine lv_iload hx hb dX7_clearance_6 (lv_at hl 4 rfl) ?_
  refine lv_iload hx hb dX7_clearance_8 (lv_at hl 5 rfl) ?_
  refine lv_iload_n hx hb dX7_clearance_10 rfl (lv_at hl 1 rfl) ?_
  refine lv_isub hx hb dX7_clearance_11 ?_
  refine lv_topi (fun y_3 e_4 => ?_)
  have e_4 : nI (k - a) = y_3 := (e_4.trans (pk_sub (by omega))).symm
  subst e_4
  refine lv_imul hx hb dX7_clearance_12 ?_
  refine lv_iadd hx hb dX7_clearance_13 ?_
  refine lv_iload_n hx hb dX7_clearance_14 rfl (lv_at hl 3 rfl) ?_
  refine lv_iload_n hx hb dX7_clearance_15 rfl (lv_at hl 1 rfl) ?_
  refine lv_isub hx hb dX7_clearance_16 ?_
  refine lv_topi (fun y_5 e_6 => ?_)
  have e_6 : nI (b - a) = y_5 := (e_6.trans (pk_sub (by omega))).symm
  subst e_6
  refine lv_aload_n hx hb dX7_clearance_17 rfl (lv_at hl 0 rfl) ?_
  refine va_get (D := D) (ci := 7) (v := .ref q1) (C := RX7) (T := TX7) (N := 15) hx hb hts kX7_clearance_0 hown hK hP 0 rfl rfl 0 (by decide) (hts (.fieldLink RX7 7 "SightRidgeModel" "m" "[I") kX7_clearance_1) (fun _ h9 => h9) rfl dX7_clearance_18 ?_
  refine lv_iconst (v := 3) hx hb dX7_clearance_21 (by decide) ?_
  refine lv_iload hx hb dX7_clearance_22 (lv_at hl 5 rfl) ?_
  refine lv_iadd hx hb dX7_clearance_24 ?_
  refine lv_topi (fun y_7 e_8 => ?_)
  have e_8 : nI (3 + k) = y_7 := (e_8.trans (nI_add 3 k)).symm
  subst e_8
  refine va_iald hx hb hK hP 1 0 rfl rfl (i := nI (3 + k)) (vp_in_nI (N := 43) (by omega) (by decide)) dX7_clearance_25 ?_
  rw [nI_clamp (n := 3 + k) (by omega)]
  refine lv_topi (fun y_9 e_10 => ?_)
  have e_10 : G k = y_9 := (e_10.trans (hG k (by omega))).symm
  subst e_10
  refine lv_aload_n hx hb dX7_clearance_26 rfl (lv_at hl 0 rfl) ?_
  refine va_get (D := D) (ci := 7) (v := .ref q1) (C := RX7) (T := TX7) (N := 15) hx hb hts kX7_clearance_0 hown hK hP 0 rfl rfl 0 (by decide) (hts (.fieldLink RX7 7 "SightRidgeModel" "m" "[I") kX7_clearance_1) (fun _ h9 => h9) rfl dX7_clearance_27 ?_
  refine lv_iconst (v := 2) hx hb dX7_clearance_30 (by decide) ?_
  refine va_iald hx hb hK hP 1 0 rfl rfl (i := nI 2) (vp_in_nI (N := 43) (by decide) (by decide)) dX7_clearance_31 ?_
  rw [nI_clamp (n := 2) (by decide)]
  refine lv_topi (fun y_11 e_12 => ?_)
  have e_12 : bl = y_11 := (e_12.trans (hm2)).symm
  subst e_12
  refine lv_iload hx hb dX7_clearance_32 (lv_at hl 5 rfl) ?_
  refine lv_iload_n hx hb dX7_clearance_34 rfl (lv_at hl 1 rfl) ?_
  refine lv_isub hx hb dX7_clearance_35 ?_
  refine lv_topi (fun y_13 e_14 => ?_)
  have e_14 : nI (k - a) = y_13 := (e_14.trans (pk_sub (by omega))).symm
  subst e_14
  refine lv_imul hx hb dX7_clearance_36 ?_
  refine lv_iload_n hx hb dX7_clearance_37 rfl (lv_at hl 3 rfl) ?_
  refine lv_iload hx hb dX7_clearance_38 (lv_at hl 5 rfl) ?_
  refine lv_isub hx hb dX7_clearance_40 ?_
  refine lv_topi (fun y_15 e_16 => ?_)
  have e_16 : nI (b - k) = y_15 := (e_16.trans (pk_sub (by omega))).symm
  subst e_16
  refine lv_imul hx hb dX7_clearance_41 ?_
  refine lv_iadd hx hb dX7_clearance_42 ?_
  refine lv_imul hx hb dX7_clearance_43 ?_
  refine lv_isub hx hb dX7_clearance_44 ?_
  exact W.iret (v := ((x * (nI (b - k))) + (y * (nI (k - a)))) - ((nI (b - a)) * ((G k) + ((bl * (nI (k - a))) * (nI (b - k)))))) hx hb hr (fun tS htS hWS => ⟨⟨((x * (nI (b - k))) + (y * (nI (k - a)))) - ((nI (b - a)) * ((G k) + ((bl * (nI (k - a))) * (nI (b - k))))), (), rfl, (by rw [clr_lt ha hk]), trivial⟩, hS.F htS⟩) hS.2.2 dX7_clearance_45
set_option maxHeartbeats 4000000 in
set_option maxRecDepth 100000 in
/-- meet(a, x, b, y) -/
theorem c_X7_meet (l : Launch) (D : va_G) (cI cB cO : ClassId) (o q1 : Nat) (fs : List Value) (n : Nat) (mm : Nat → Int32) (rg bl : Int32) (G M : Nat → Int32) (a : Nat) (x : Int32) (b : Nat) (y : Int32) (hm : MOK n mm rg bl G M) (ha : a < n) (hb0 : b < n) : Met l yX7_meet wsX7_meet (rmD 2) (rdPc D (tyL cI cB cO) [.ref o, .int (nI a), .int x, .int (nI b), .int y] [(o, .inr (7, .ref q1 :: fs)), (q1, .inl (cI, 43, .inl mm))]) (rdQi (fun r => r = bI (seesB G bl a x b y))) 0 0 noA := by
  refine Met.ofW (cc := cX7_meet) (maxL := 9) (ret := (some .boolean)) (by decide) rfl ?_
  intro p e s m args below meth c s₁ B hml hv
  obtain ⟨rfl, hP, hK, hN⟩ := hv
  have hx := B.exec
  have hb := B.bytes
  have hr := B.returns
  have hts := atoms_spec (ws := wsX7_meet) B.pre
  have hown : s.vm.findClass RX7 = some m.cls := findClass_of_methodNamed B.named
  have hlocks := B.notSynchronized
  have hS : va_S noA s.heap s.heap [] := va_S.rf
  have hl := lv_entry ([.ref o, .int (nI a), .int x, .int (nI b), .int y]) (n := 9) (Nat.le_of_ble_eq_true rfl)
  rw [lg_entry_eq]
  generalize (lg_sl ([.ref o, .int (nI a), .int x, .int (nI b), .int y]) ++ List.replicate (9 - (lg_sl ([.ref o, .int (nI a), .int x, .int (nI b), .int y])).length) Slot.unset).toArray = ls at hl ⊢
  have hl : lv_has ls 9 [(0, .ref o), (1, .int (nI a)), (2, .int x), (3, .int (nI b)), (4, .int y)] := hl
  obtain ⟨hn, hn1, hm0, hm1, hm2, hG, hM⟩ := id hm
  rcases Nat.lt_or_ge a b with hab | hab
  · skip
    have hab1 : nI a < nI b := nI_lt hab (by omega)
    refine lv_iload_n hx hb dX7_meet_0 rfl (lv_at hl 1 rfl) ?_
    refine lv_iload_n hx hb dX7_meet_1 rfl (lv_at hl 3 rfl) ?_
    refine lv_icmp_ge (tgt := 9) hx hb dX7_meet_2 (by decide) (fun c_2 => ?_) (fun c_2 => ?_)
    · skip
      exact absurd hab1 (Int32.not_lt.mpr c_2)
    · skip
      refine lv_iload_n hx hb dX7_meet_5 rfl (lv_at hl 1 rfl) ?_
      refine lv_goto (tgt := 10) hx hb dX7_meet_6 (by decide) ?_
      refine lv_istore (lv' := [(5, .int (nI a)), (0, .ref o), (1, .int (nI a)), (2, .int x), (3, .int (nI b)), (4, .int y)]) hx hb dX7_meet_10 hl (by decide) rfl (fun ls hl => ?_)
      refine lv_iload_n hx hb dX7_meet_12 rfl (lv_at hl 2 rfl) ?_
      refine lv_iload_n hx hb dX7_meet_13 rfl (lv_at hl 4 rfl) ?_
      refine lv_icmp_ge (tgt := 21) hx hb dX7_meet_14 (by decide) (fun c_14 => ?_) (fun c_14 => ?_)
      · skip
        exact absurd hab1 (Int32.not_lt.mpr c_14)
      · skip
        refine lv_iload_n hx hb dX7_meet_17 rfl (lv_at hl 4 rfl) ?_
        refine lv_goto (tgt := 22) hx hb dX7_meet_18 (by decide) ?_
        refine lv_istore (lv' := [(6, .int (nI b)), (5, .int (nI a)), (0, .ref o), (1, .int (nI a)), (2, .int x), (3, .int (nI b)), (4, .int y)]) hx hb dX7_meet_22 hl (by decide) rfl (fun ls hl => ?_)
        refine lv_iconst (v := 1) hx hb dX7_meet_24 (by decide) ?_
        refine lv_istore (lv' := [(7, .int 1), (6, .int (nI b)), (5, .int (nI a)), (0, .ref o), (1, .int (nI a)), (2, .int x), (3, .int (nI b)), (4, .int y)]) hx hb dX7_meet_25 hl (by decide) rfl (fun ls hl => ?_)
        refine lv_iload hx hb dX7_meet_27 (lv_at hl 2 rfl) ?_
        refine lv_iconst (v := 1) hx hb dX7_meet_29 (by decide) ?_
        refine lv_iadd hx hb dX7_meet_30 ?_
        refine lv_topi (fun y_1 e_2 => ?_)
        have e_2 : nI (a + 1) = y_1 := (e_2.trans (nI_add a 1)).symm
        subst e_2
        refine lv_istore (lv' := [(8, .int (nI (a + 1))), (7, .int 1), (6, .int (nI b)), (5, .int (nI a)), (0, .ref o), (1, .int (nI a)), (2, .int x), (3, .int (nI b)), (4, .int y)]) hx hb dX7_meet_31 hl (by decide) rfl (fun ls hl => ?_)
        have L_33 : ∀ (k_33 : Nat) (i : Nat) (v : Bool), b - i < k_33 → (i ≤ b ∨ i = a + 1) → (a < i) → (v = decide (∀ j, j < i → a < j → ¬ clr G bl a x b y j < 0)) → ∀ (H : Heap) (locs : List Loc), va_P D vwCl [(o, .inr (7, .ref q1 :: fs)), (q1, .inl (cI, 43, .inl mm))] H → va_S noA s.heap H locs → ∀ (ls : Array Slot), lv_has ls 9 [(0, .ref o), (1, .int (nI a)), (2, .int x), (3, .int (nI b)), (4, .int y), (5, .int (nI a)), (6, .int (nI b)), (7, .int (bI v)), (8, .int (nI i))] → W p l e (rmD 2) s m ([.ref o, .int (nI a), .int x, .int (nI b), .int y] : List Value).toArray below meth c H locs 0 0 (MQ below (rdQi (fun r => r = bI (seesB G bl a x b y))) ([.ref o, .int (nI a), .int x, .int (nI b), .int y] : List Value).toArray s 0 0 noA) (F0 m 33 ls []) := by
          intro k_33
          induction k_33 with
          | zero => intro i v h9; exact absurd h9 (Nat.not_lt_zero _)
          | succ k_33 ih_33 =>
            intro i v hm_33 hi hlo hv H locs hP hS ls hl
            refine lv_iload hx hb dX7_meet_33 (lv_at hl 8 rfl) ?_
            refine lv_iload hx hb dX7_meet_35 (lv_at hl 6 rfl) ?_
            refine lv_icmp_ge (tgt := 93) hx hb dX7_meet_37 (by decide) (fun c_37 => ?_) (fun c_37 => ?_)
            · skip
              have c0 : b ≤ i := by rcases Nat.lt_or_ge i b with q | q; exact absurd c_37 (nI_ge q (by omega)); exact q
              refine lv_iload hx hb dX7_meet_93 (lv_at hl 7 rfl) ?_
              exact W.zret (v := bI v) hx hb hr (bI_nar _) (fun tS htS hWS => ⟨⟨bI v, (), rfl, (congrArg bI (by rw [hv]; unfold seesB; rw [decide_eq_decide]; constructor; intro q j h1 h2; exact q j (by omega) (by omega); intro q j h1 h2; exact q j (by omega) (by omega))), trivial⟩, hS.F htS⟩) hS.2.2 dX7_meet_95
            · skip
              have c0 : i < b := by rcases Nat.lt_or_ge i b with q | q; exact q; exact absurd (nI_le q (by omega)) c_37
              refine lv_iload hx hb dX7_meet_40 (lv_at hl 7 rfl) ?_
              refine lv_if_eq (tgt := 84) hx hb dX7_meet_42 (by decide) (fun c_42 => ?_) (fun c_42 => ?_)
              · skip
                have c1 : v = false := bI_e0 c_42
                refine lv_iconst (v := 0) hx hb dX7_meet_84 (by decide) ?_
                refine lv_istore (lv' := [(7, .int 0), (0, .ref o), (1, .int (nI a)), (2, .int x), (3, .int (nI b)), (4, .int y), (5, .int (nI a)), (6, .int (nI b)), (8, .int (nI i))]) hx hb dX7_meet_85 hl (by decide) rfl (fun ls hl => ?_)
                refine lv_iinc (v := nI (i + 1)) (lv' := [(8, .int (nI (i + 1))), (7, .int 0), (0, .ref o), (1, .int (nI a)), (2, .int x), (3, .int (nI b)), (4, .int y), (5, .int (nI a)), (6, .int (nI b))]) hx hb dX7_meet_87 hl (k := 8) rfl (inc1 _) (by decide) rfl (fun ls hl => ?_)
                refine lv_goto (tgt := 33) hx hb dX7_meet_90 (by decide) ?_
                exact ih_33 (i + 1) false (by omega) (by omega) (by omega) (by first | (have g2 := c2; exact (decide_eq_false (fun q => q i (by omega) hlo g2)).symm) | (rw [c1] at hv; have hv := of_decide_eq_false hv.symm; exact (decide_eq_false (fun q => hv (fun j h1 h2 => q j (by omega) h2))).symm)) _ _ hP hS ls (lv_sub hl [2, 3, 4, 5, 6, 7, 8, 1, 0] rfl)
              · skip
                have c1 : v = true := bI_n0 c_42
                refine lv_aload_n hx hb dX7_meet_45 rfl (lv_at hl 0 rfl) ?_
                refine lv_iload hx hb dX7_meet_46 (lv_at hl 5 rfl) ?_
                refine lv_iload_n hx hb dX7_meet_48 rfl (lv_at hl 1 rfl) ?_
                refine lv_iload_n hx hb dX7_meet_49 rfl (lv_at hl 3 rfl) ?_
                refine lv_icmp_ge (tgt := 57) hx hb dX7_meet_50 (by decide) (fun c_50 => ?_) (fun c_50 => ?_)
                · skip
                  exact absurd hab1 (Int32.not_lt.mpr c_50)
                · skip
                  refine lv_iload_n hx hb dX7_meet_53 rfl (lv_at hl 2 rfl) ?_
                  refine lv_goto (tgt := 59) hx hb dX7_meet_54 (by decide) ?_
                  refine lv_iload hx hb dX7_meet_59 (lv_at hl 6 rfl) ?_
                  refine lv_iload_n hx hb dX7_meet_61 rfl (lv_at hl 1 rfl) ?_
                  refine lv_iload_n hx hb dX7_meet_62 rfl (lv_at hl 3 rfl) ?_
                  refine lv_icmp_ge (tgt := 71) hx hb dX7_meet_63 (by decide) (fun c_63 => ?_) (fun c_63 => ?_)
                  · skip
                    exact absurd hab1 (Int32.not_lt.mpr c_63)
                  · skip
                    refine lv_iload hx hb dX7_meet_66 (lv_at hl 4 rfl) ?_
                    refine lv_goto (tgt := 72) hx hb dX7_meet_68 (by decide) ?_
                    refine lv_iload hx hb dX7_meet_72 (lv_at hl 8 rfl) ?_
                    refine rd_calli hP hS (va_runV (As := [.int (nI a), .int x, .int (nI b), .int y, .int (nI i)]) (rest := []) ⟨hx, hb, hml, hown, hts⟩ (c_X7_clearance l D cI cB cO o q1 fs n mm rg bl G M a x b y i hm (by omega) (by omega) (by omega)) (cwV 5 hts gX7_meet_X7_clearance rfl rfl rfl (by decide +kernel) ⟨Nat.le_of_ble_eq_true rfl, Nat.le_of_ble_eq_true rfl⟩) (rd_preV (r := (RX7, TX7, 15)) (ci := 7) hK (hP.pick [0, 1] rfl) hN (q0 := 0) rfl rfl) rfl rfl hl.1 rfl (lv_room (Nat.le_of_ble_eq_true rfl)) dX7_meet_74 ⟨Nat.le_refl _, Nat.le_refl _⟩) (fun r_74 H locs h_74 hP hS => ?_)
                    refine lv_if_lt (tgt := 84) hx hb dX7_meet_77 (by decide) (fun c_77 => ?_) (fun c_77 => ?_)
                    · skip
                      have c2 : clr G bl a x b y i < 0 := by rw [← h_74]; exact c_77
                      refine lv_iconst (v := 0) hx hb dX7_meet_84 (by decide) ?_
                      refine lv_istore (lv' := [(7, .int 0), (0, .ref o), (1, .int (nI a)), (2, .int x), (3, .int (nI b)), (4, .int y), (5, .int (nI a)), (6, .int (nI b)), (8, .int (nI i))]) hx hb dX7_meet_85 hl (by decide) rfl (fun ls hl => ?_)
                      refine lv_iinc (v := nI (i + 1)) (lv' := [(8, .int (nI (i + 1))), (7, .int 0), (0, .ref o), (1, .int (nI a)), (2, .int x), (3, .int (nI b)), (4, .int y), (5, .int (nI a)), (6, .int (nI b))]) hx hb dX7_meet_87 hl (k := 8) rfl (inc1 _) (by decide) rfl (fun ls hl => ?_)
                      refine lv_goto (tgt := 33) hx hb dX7_meet_90 (by decide) ?_
                      exact ih_33 (i + 1) false (by omega) (by omega) (by omega) (by first | (have g2 := c2; exact (decide_eq_false (fun q => q i (by omega) hlo g2)).symm) | (rw [c1] at hv; have hv := of_decide_eq_false hv.symm; exact (decide_eq_false (fun q => hv (fun j h1 h2 => q j (by omega) h2))).symm)) _ _ hP hS ls (lv_sub hl [2, 3, 4, 5, 6, 7, 8, 1, 0] rfl)
                    · skip
                      have c2 : ¬ clr G bl a x b y i < 0 := by rw [← h_74]; exact c_77
                      refine lv_iconst (v := 1) hx hb dX7_meet_80 (by decide) ?_
                      refine lv_goto (tgt := 85) hx hb dX7_meet_81 (by decide) ?_
                      refine lv_istore (lv' := [(7, .int 1), (0, .ref o), (1, .int (nI a)), (2, .int x), (3, .int (nI b)), (4, .int y), (5, .int (nI a)), (6, .int (nI b)), (8, .int (nI i))]) hx hb dX7_meet_85 hl (by decide) rfl (fun ls hl => ?_)
                      refine lv_iinc (v := nI (i + 1)) (lv' := [(8, .int (nI (i + 1))), (7, .int 1), (0, .ref o), (1, .int (nI a)), (2, .int x), (3, .int (nI b)), (4, .int y), (5, .int (nI a)), (6, .int (nI b))]) hx hb dX7_meet_87 hl (k := 8) rfl (inc1 _) (by decide) rfl (fun ls hl => ?_)
                      refine lv_goto (tgt := 33) hx hb dX7_meet_90 (by decide) ?_
                      exact ih_33 (i + 1) true (by omega) (by omega) (by omega) (by rw [c1] at hv; have hv := of_decide_eq_true hv.symm; exact (decide_eq_true (fun j h1 h2 => by rcases Nat.lt_or_ge j i with q | q; exact hv j q h2; rw [show j = i by omega]; exact c2)).symm) _ _ hP hS ls (lv_sub hl [2, 3, 4, 5, 6, 7, 8, 1, 0] rfl)
        exact L_33 _ (a + 1) true (Nat.lt_succ_self _) (by omega) (by omega) ((decide_eq_true (fun j h1 h2 => by omega)).symm) _ _ hP hS ls (lv_sub hl [4, 5, 6, 7, 8, 3, 2, 1, 0] rfl)
  · skip
    have hab1 : ¬ nI a < nI b := nI_nlt hab (by omega)
    refine lv_iload_n hx hb dX7_meet_0 rfl (lv_at hl 1 rfl) ?_
    refine lv_iload_n hx hb dX7_meet_1 rfl (lv_at hl 3 rfl) ?_
    refine lv_icmp_ge (tgt := 9) hx hb dX7_meet_2 (by decide) (fun c_2 => ?_) (fun c_2 => ?_)
    · skip
      refine lv_iload_n hx hb dX7_meet_9 rfl (lv_at hl 3 rfl) ?_
      refine lv_istore (lv' := [(5, .int (nI b)), (0, .ref o), (1, .int (nI a)), (2, .int x), (3, .int (nI b)), (4, .int y)]) hx hb dX7_meet_10 hl (by decide) rfl (fun ls hl => ?_)
      refine lv_iload_n hx hb dX7_meet_12 rfl (lv_at hl 2 rfl) ?_
      refine lv_iload_n hx hb dX7_meet_13 rfl (lv_at hl 4 rfl) ?_
      refine lv_icmp_ge (tgt := 21) hx hb dX7_meet_14 (by decide) (fun c_14 => ?_) (fun c_14 => ?_)
      · skip
        refine lv_iload_n hx hb dX7_meet_21 rfl (lv_at hl 2 rfl) ?_
        refine lv_istore (lv' := [(6, .int (nI a)), (5, .int (nI b)), (0, .ref o), (1, .int (nI a)), (2, .int x), (3, .int (nI b)), (4, .int y)]) hx hb dX7_meet_22 hl (by decide) rfl (fun ls hl => ?_)
        refine lv_iconst (v := 1) hx hb dX7_meet_24 (by decide) ?_
        refine lv_istore (lv' := [(7, .int 1), (6, .int (nI a)), (5, .int (nI b)), (0, .ref o), (1, .int (nI a)), (2, .int x), (3, .int (nI b)), (4, .int y)]) hx hb dX7_meet_25 hl (by decide) rfl (fun ls hl => ?_)
        refine lv_iload hx hb dX7_meet_27 (lv_at hl 2 rfl) ?_
        refine lv_iconst (v := 1) hx hb dX7_meet_29 (by decide) ?_
        refine lv_iadd hx hb dX7_meet_30 ?_
        refine lv_topi (fun y_3 e_4 => ?_)
        have e_4 : nI (b + 1) = y_3 := (e_4.trans (nI_add b 1)).symm
        subst e_4
        refine lv_istore (lv' := [(8, .int (nI (b + 1))), (7, .int 1), (6, .int (nI a)), (5, .int (nI b)), (0, .ref o), (1, .int (nI a)), (2, .int x), (3, .int (nI b)), (4, .int y)]) hx hb dX7_meet_31 hl (by decide) rfl (fun ls hl => ?_)
        have L_33 : ∀ (k_33 : Nat) (i : Nat) (v : Bool), a - i < k_33 → (i ≤ a ∨ i = b + 1) → (b < i) → (v = decide (∀ j, j < i → b < j → ¬ clr G bl a x b y j < 0)) → ∀ (H : Heap) (locs : List Loc), va_P D vwCl [(o, .inr (7, .ref q1 :: fs)), (q1, .inl (cI, 43, .inl mm))] H → va_S noA s.heap H locs → ∀ (ls : Array Slot), lv_has ls 9 [(0, .ref o), (1, .int (nI a)), (2, .int x), (3, .int (nI b)), (4, .int y), (5, .int (nI b)), (6, .int (nI a)), (7, .int (bI v)), (8, .int (nI i))] → W p l e (rmD 2) s m ([.ref o, .int (nI a), .int x, .int (nI b), .int y] : List Value).toArray below meth c H locs 0 0 (MQ below (rdQi (fun r => r = bI (seesB G bl a x b y))) ([.ref o, .int (nI a), .int x, .int (nI b), .int y] : List Value).toArray s 0 0 noA) (F0 m 33 ls []) := by
          intro k_33
          induction k_33 with
          | zero => intro i v h9; exact absurd h9 (Nat.not_lt_zero _)
          | succ k_33 ih_33 =>
            intro i v hm_33 hi hlo hv H locs hP hS ls hl
            refine lv_iload hx hb dX7_meet_33 (lv_at hl 8 rfl) ?_
            refine lv_iload hx hb dX7_meet_35 (lv_at hl 6 rfl) ?_
            refine lv_icmp_ge (tgt := 93) hx hb dX7_meet_37 (by decide) (fun c_37 => ?_) (fun c_37 => ?_)
            · skip
              have c0 : a ≤ i := by rcases Nat.lt_or_ge i a with q | q; exact absurd c_37 (nI_ge q (by omega)); exact q
              refine lv_iload hx hb dX7_meet_93 (lv_at hl 7 rfl) ?_
              exact W.zret (v := bI v) hx hb hr (bI_nar _) (fun tS htS hWS => ⟨⟨bI v, (), rfl, (congrArg bI (by rw [hv]; unfold seesB; rw [decide_eq_decide]; constructor; intro q j h1 h2; exact q j (by omega) (by omega); intro q j h1 h2; exact q j (by omega) (by omega))), trivial⟩, hS.F htS⟩) hS.2.2 dX7_meet_95
            · skip
              have c0 : i < a := by rcases Nat.lt_or_ge i a with q | q; exact q; exact absurd (nI_le q (by omega)) c_37
              refine lv_iload hx hb dX7_meet_40 (lv_at hl 7 rfl) ?_
              refine lv_if_eq (tgt := 84) hx hb dX7_meet_42 (by decide) (fun c_42 => ?_) (fun c_42 => ?_)
              · skip
                have c1 : v = false := bI_e0 c_42
                refine lv_iconst (v := 0) hx hb dX7_meet_84 (by decide) ?_
                refine lv_istore (lv' := [(7, .int 0), (0, .ref o), (1, .int (nI a)), (2, .int x), (3, .int (nI b)), (4, .int y), (5, .int (nI b)), (6, .int (nI a)), (8, .int (nI i))]) hx hb dX7_meet_85 hl (by decide) rfl (fun ls hl => ?_)
                refine lv_iinc (v := nI (i + 1)) (lv' := [(8, .int (nI (i + 1))), (7, .int 0), (0, .ref o), (1, .int (nI a)), (2, .int x), (3, .int (nI b)), (4, .int y), (5, .int (nI b)), (6, .int (nI a))]) hx hb dX7_meet_87 hl (k := 8) rfl (inc1 _) (by decide) rfl (fun ls hl => ?_)
                refine lv_goto (tgt := 33) hx hb dX7_meet_90 (by decide) ?_
                exact ih_33 (i + 1) false (by omega) (by omega) (by omega) (by first | (have g2 := c2; exact (decide_eq_false (fun q => q i (by omega) hlo g2)).symm) | (rw [c1] at hv; have hv := of_decide_eq_false hv.symm; exact (decide_eq_false (fun q => hv (fun j h1 h2 => q j (by omega) h2))).symm)) _ _ hP hS ls (lv_sub hl [2, 3, 4, 5, 6, 7, 8, 1, 0] rfl)
              · skip
                have c1 : v = true := bI_n0 c_42
                refine lv_aload_n hx hb dX7_meet_45 rfl (lv_at hl 0 rfl) ?_
                refine lv_iload hx hb dX7_meet_46 (lv_at hl 5 rfl) ?_
                refine lv_iload_n hx hb dX7_meet_48 rfl (lv_at hl 1 rfl) ?_
                refine lv_iload_n hx hb dX7_meet_49 rfl (lv_at hl 3 rfl) ?_
                refine lv_icmp_ge (tgt := 57) hx hb dX7_meet_50 (by decide) (fun c_50 => ?_) (fun c_50 => ?_)
                · skip
                  refine lv_iload hx hb dX7_meet_57 (lv_at hl 4 rfl) ?_
                  refine lv_iload hx hb dX7_meet_59 (lv_at hl 6 rfl) ?_
                  refine lv_iload_n hx hb dX7_meet_61 rfl (lv_at hl 1 rfl) ?_
                  refine lv_iload_n hx hb dX7_meet_62 rfl (lv_at hl 3 rfl) ?_
                  refine lv_icmp_ge (tgt := 71) hx hb dX7_meet_63 (by decide) (fun c_63 => ?_) (fun c_63 => ?_)
                  · skip
                    refine lv_iload_n hx hb dX7_meet_71 rfl (lv_at hl 2 rfl) ?_
                    refine lv_iload hx hb dX7_meet_72 (lv_at hl 8 rfl) ?_
                    refine rd_calli hP hS (va_runV (As := [.int (nI b), .int y, .int (nI a), .int x, .int (nI i)]) (rest := []) ⟨hx, hb, hml, hown, hts⟩ (c_X7_clearance l D cI cB cO o q1 fs n mm rg bl G M b y a x i hm (by omega) (by omega) (by omega)) (cwV 5 hts gX7_meet_X7_clearance rfl rfl rfl (by decide +kernel) ⟨Nat.le_of_ble_eq_true rfl, Nat.le_of_ble_eq_true rfl⟩) (rd_preV (r := (RX7, TX7, 15)) (ci := 7) hK (hP.pick [0, 1] rfl) hN (q0 := 0) rfl rfl) rfl rfl hl.1 rfl (lv_room (Nat.le_of_ble_eq_true rfl)) dX7_meet_74 ⟨Nat.le_refl _, Nat.le_refl _⟩) (fun r_74 H locs h_74 hP hS => ?_)
                    rw [clr_comm] at h_74
                    refine lv_if_lt (tgt := 84) hx hb dX7_meet_77 (by decide) (fun c_77 => ?_) (fun c_77 => ?_)
                    · skip
                      have c2 : clr G bl a x b y i < 0 := by rw [← h_74]; exact c_77
                      refine lv_iconst (v := 0) hx hb dX7_meet_84 (by decide) ?_
                      refine lv_istore (lv' := [(7, .int 0), (0, .ref o), (1, .int (nI a)), (2, .int x), (3, .int (nI b)), (4, .int y), (5, .int (nI b)), (6, .int (nI a)), (8, .int (nI i))]) hx hb dX7_meet_85 hl (by decide) rfl (fun ls hl => ?_)
                      refine lv_iinc (v := nI (i + 1)) (lv' := [(8, .int (nI (i + 1))), (7, .int 0), (0, .ref o), (1, .int (nI a)), (2, .int x), (3, .int (nI b)), (4, .int y), (5, .int (nI b)), (6, .int (nI a))]) hx hb dX7_meet_87 hl (k := 8) rfl (inc1 _) (by decide) rfl (fun ls hl => ?_)
                      refine lv_goto (tgt := 33) hx hb dX7_meet_90 (by decide) ?_
                      exact ih_33 (i + 1) false (by omega) (by omega) (by omega) (by first | (have g2 := c2; exact (decide_eq_false (fun q => q i (by omega) hlo g2)).symm) | (rw [c1] at hv; have hv := of_decide_eq_false hv.symm; exact (decide_eq_false (fun q => hv (fun j h1 h2 => q j (by omega) h2))).symm)) _ _ hP hS ls (lv_sub hl [2, 3, 4, 5, 6, 7, 8, 1, 0] rfl)
                    · skip
                      have c2 : ¬ clr G bl a x b y i < 0 := by rw [← h_74]; exact c_77
                      refine lv_iconst (v := 1) hx hb dX7_meet_80 (by decide) ?_
                      refine lv_goto (tgt := 85) hx hb dX7_meet_81 (by decide) ?_
                      refine lv_istore (lv' := [(7, .int 1), (0, .ref o), (1, .int (nI a)), (2, .int x), (3, .int (nI b)), (4, .int y), (5, .int (nI b)), (6, .int (nI a)), (8, .int (nI i))]) hx hb dX7_meet_85 hl (by decide) rfl (fun ls hl => ?_)
                      refine lv_iinc (v := nI (i + 1)) (lv' := [(8, .int (nI (i + 1))), (7, .int 1), (0, .ref o), (1, .int (nI a)), (2, .int x), (3, .int (nI b)), (4, .int y), (5, .int (nI b)), (6, .int (nI a))]) hx hb dX7_meet_87 hl (k := 8) rfl (inc1 _) (by decide) rfl (fun ls hl => ?_)
                      refine lv_goto (tgt := 33) hx hb dX7_meet_90 (by decide) ?_
                      exact ih_33 (i + 1) true (by omega) (by omega) (by omega) (by rw [c1] at hv; have hv := of_decide_eq_true hv.symm; exact (decide_eq_true (fun j h1 h2 => by rcases Nat.lt_or_ge j i with q | q; exact hv j q h2; rw [show j = i by omega]; exact c2)).symm) _ _ hP hS ls (lv_sub hl [2, 3, 4, 5, 6, 7, 8, 1, 0] rfl)
                  · skip
                    exact absurd (Int32.not_le.mp c_63) hab1
                · skip
                  exact absurd (Int32.not_le.mp c_50) hab1
        exact L_33 _ (b + 1) true (Nat.lt_succ_self _) (by omega) (by omega) ((decide_eq_true (fun j h1 h2 => by omega)).symm) _ _ hP hS ls (lv_sub hl [4, 5, 6, 7, 8, 3, 2, 1, 0] rfl)
      · skip
        exact absurd (Int32.not_le.mp c_14) hab1
    · skip
      exact absurd (Int32.not_le.mp c_2) hab1
set_option maxHeartbeats 4000000 in
set_option maxRecDepth 100000 in
/-- see(a, b) -/
theorem c_X7_see (l : Launch) (D : va_G) (cI cB cO : ClassId) (o q1 : Nat) (fs : List Value) (n : Nat) (mm : Nat → Int32) (rg bl : Int32) (G M : Nat → Int32) (a b : Nat) (hm : MOK n mm rg bl G M) (ha : a < n) (hb0 : b < n) : Met l yX7_see wsX7_see (rmD 3) (rdPc D (tyL cI cB cO) [.ref o, .int (nI a), .int (nI b)] [(o, .inr (7, .ref q1 :: fs)), (q1, .inl (cI, 43, .inl mm))]) (rdQi (fun r => r = bI (seesB G bl a (tp G M a) b (tp G M b)))) 0 0 noA := by
  refine Met.ofW (cc := cX7_see) (maxL := 3) (ret := (some .boolean)) (by decide) rfl ?_
  intro p e s m args below meth c s₁ B hml hv
  obtain ⟨rfl, hP, hK, hN⟩ := hv
  have hx := B.exec
  have hb := B.bytes
  have hr := B.returns
  have hts := atoms_spec (ws := wsX7_see) B.pre
  have hown : s.vm.findClass RX7 = some m.cls := findClass_of_methodNamed B.named
  have hlocks := B.notSynchronized
  have hS : va_S noA s.heap s.heap [] := va_S.rf
  have hl := lv_entry ([.ref o, .int (nI a), .int (nI b)]) (n := 3) (Nat.le_of_ble_eq_true rfl)
  rw [lg_entry_eq]
  generalize (lg_sl ([.ref o, .int (nI a), .int (nI b)]) ++ List.replicate (3 - (lg_sl ([.ref o, .int (nI a), .int (nI b)])).length) Slot.unset).toArray = ls at hl ⊢
  have hl : lv_has ls 3 [(0, .ref o), (1, .int (nI a)), (2, .int (nI b))] := hl
  obtain ⟨hn, hn1, hm0, hm1, hm2, hG, hM⟩ := id hm
  refine lv_aload_n hx hb dX7_see_0 rfl (lv_at hl 0 rfl) ?_
  refine lv_iload_n hx hb dX7_see_1 rfl (lv_at hl 1 rfl) ?_
  refine lv_aload_n hx hb dX7_see_2 rfl (lv_at hl 0 rfl) ?_
  refine lv_iload_n hx hb dX7_see_3 rfl (lv_at hl 1 rfl) ?_
  refine rd_calli hP hS (va_runV (As := [.int (nI a)]) (rest := [.int (nI a), .ref o]) ⟨hx, hb, hml, hown, hts⟩ (c_X7_top l D cI cB cO o q1 fs n mm rg bl G M a hm ha) (cwV 1 hts gX7_see_X7_top rfl rfl rfl (by decide +kernel) ⟨Nat.le_of_ble_eq_true rfl, Nat.le_of_ble_eq_true rfl⟩) (rd_preV (r := (RX7, TX7, 15)) (ci := 7) hK (hP.pick [0, 1] rfl) hN (q0 := 0) rfl rfl) rfl rfl hl.1 rfl (lv_room (Nat.le_of_ble_eq_true rfl)) dX7_see_4 ⟨Nat.le_refl _, Nat.le_refl _⟩) (fun r_4 H locs h_4 hP hS => ?_)
  subst h_4
  refine lv_iload_n hx hb dX7_see_7 rfl (lv_at hl 2 rfl) ?_
  refine lv_aload_n hx hb dX7_see_8 rfl (lv_at hl 0 rfl) ?_
  refine lv_iload_n hx hb dX7_see_9 rfl (lv_at hl 2 rfl) ?_
  refine rd_calli hP hS (va_runV (As := [.int (nI b)]) (rest := [.int (nI b), .int (tp G M a), .int (nI a), .ref o]) ⟨hx, hb, hml, hown, hts⟩ (c_X7_top l D cI cB cO o q1 fs n mm rg bl G M b hm hb0) (cwV 1 hts gX7_see_X7_top rfl rfl rfl (by decide +kernel) ⟨Nat.le_of_ble_eq_true rfl, Nat.le_of_ble_eq_true rfl⟩) (rd_preV (r := (RX7, TX7, 15)) (ci := 7) hK (hP.pick [0, 1] rfl) hN (q0 := 0) rfl rfl) rfl rfl hl.1 rfl (lv_room (Nat.le_of_ble_eq_true rfl)) dX7_see_10 ⟨Nat.le_refl _, Nat.le_refl _⟩) (fun r_10 H locs h_10 hP hS => ?_)
  subst h_10
  refine rd_calli hP hS (va_runV (As := [.int (nI a), .int (tp G M a), .int (nI b), .int (tp G M b)]) (rest := []) ⟨hx, hb, hml, hown, hts⟩ (c_X7_meet l D cI cB cO o q1 fs n mm rg bl G M a (tp G M a) b (tp G M b) hm ha hb0) (cwV 4 hts gX7_see_X7_meet rfl rfl rfl (by decide +kernel) ⟨Nat.le_of_ble_eq_true rfl, Nat.le_of_ble_eq_true rfl⟩) (rd_preV (r := (RX7, TX7, 15)) (ci := 7) hK (hP.pick [0, 1] rfl) hN (q0 := 0) rfl rfl) rfl rfl hl.1 rfl (lv_room (Nat.le_of_ble_eq_true rfl)) dX7_see_13 ⟨Nat.le_refl _, Nat.le_refl _⟩) (fun r_13 H locs h_13 hP hS => ?_)
  subst h_13
  exact W.zret (v := bI (seesB G bl a (tp G M a) b (tp G M b))) hx hb hr (bI_nar _) (fun tS htS hWS => ⟨⟨bI (seesB G bl a (tp G M a) b (tp G M b)), (), rfl, rfl, trivial⟩, hS.F htS⟩) hS.2.2 dX7_see_16
set_option maxHeartbeats 4000000 in
set_option maxRecDepth 100000 in
/-- apart(a, b) -/
theorem c_X7_apart (l : Launch) (D : va_G) (cI cB cO : ClassId) (a b : Nat) (ha : a < 2 ^ 30) (hb0 : b < 2 ^ 30) : Met l yX7_apart wsX7_apart (rmD 1) (rdPc D (tyL cI cB cO) [.int (nI a), .int (nI b)] []) (rdQi (fun r => r = nI (dd a b))) 0 0 noA := by
  refine Met.ofW (cc := cX7_apart) (maxL := 2) (ret := (some .int)) (by decide) rfl ?_
  intro p e s m args below meth c s₁ B hml hv
  obtain ⟨rfl, hP, hK, hN⟩ := hv
  have hx := B.exec
  have hb := B.bytes
  have hr := B.returns
  have hts := atoms_spec (ws := wsX7_apart) B.pre
  have hown : s.vm.findClass RX7 = some m.cls := findClass_of_methodNamed B.named
  have hlocks := B.notSynchronized
  have hS : va_S noA s.heap s.heap [] := va_S.rf
  have hl := lv_entry ([.int (nI a), .int (nI b)]) (n := 2) (Nat.le_of_ble_eq_true rfl)
  rw [lg_entry_eq]
  generalize (lg_sl ([.int (nI a), .int (nI b)]) ++ List.replicate (2 - (lg_sl ([.int (nI a), .int (nI b)])).length) Slot.unset).toArray = ls at hl ⊢
  have hl : lv_has ls 2 [(0, .int (nI a)), (1, .int (nI b))] := hl
  refine lv_iload_n hx hb dX7_apart_0 rfl (lv_at hl 0 rfl) ?_
  refine lv_iload_n hx hb dX7_apart_1 rfl (lv_at hl 1 rfl) ?_
  refine lv_icmp_ge (tgt := 11) hx hb dX7_apart_2 (by decide) (fun c_2 => ?_) (fun c_2 => ?_)
  · skip
    have c0 : b ≤ a := ge_t (by omega) c_2
    refine lv_iload_n hx hb dX7_apart_11 rfl (lv_at hl 0 rfl) ?_
    refine lv_iload_n hx hb dX7_apart_12 rfl (lv_at hl 1 rfl) ?_
    refine lv_isub hx hb dX7_apart_13 ?_
    exact W.iret (v := (nI a) - (nI b)) hx hb hr (fun tS htS hWS => ⟨⟨(nI a) - (nI b), (), rfl, (by first | (rw [dd_lt c0]; done) | (rw [dd_gt c0]; exact pk_sub c0)), trivial⟩, hS.F htS⟩) hS.2.2 dX7_apart_14
  · skip
    have c0 : a < b := ge_f (by omega) c_2
    refine lv_iload_n hx hb dX7_apart_5 rfl (lv_at hl 1 rfl) ?_
    refine lv_iload_n hx hb dX7_apart_6 rfl (lv_at hl 0 rfl) ?_
    refine lv_isub hx hb dX7_apart_7 ?_
    refine lv_topi (fun y_1 e_2 => ?_)
    have e_2 : nI (b - a) = y_1 := (e_2.trans (pk_sub (by omega))).symm
    subst e_2
    refine lv_goto (tgt := 14) hx hb dX7_apart_8 (by decide) ?_
    exact W.iret (v := nI (b - a)) hx hb hr (fun tS htS hWS => ⟨⟨nI (b - a), (), rfl, (by first | (rw [dd_lt c0]; done) | (rw [dd_gt c0]; exact pk_sub c0)), trivial⟩, hS.F htS⟩) hS.2.2 dX7_apart_14
theorem kX7_inContact_0 : ∀ w ∈ wsX70, w ∈ wsX7_inContact := by decide +kernel
theorem kX7_inContact_1 : (.fieldLink RX7 7 "SightRidgeModel" "m" "[I" : Cond) ∈ wsX7_inContact := by decide +kernel
set_option maxHeartbeats 4000000 in
set_option maxRecDepth 100000 in
/-- inContact(a, b) -/
theorem c_X7_inContact (l : Launch) (D : va_G) (cI cB cO : ClassId) (o q1 : Nat) (fs : List Value) (n : Nat) (mm : Nat → Int32) (rg bl : Int32) (G M : Nat → Int32) (a b : Nat) (hm : MOK n mm rg bl G M) (ha : a < n) (hb0 : b < n) : Met l yX7_inContact wsX7_inContact (rmD 4) (rdPc D (tyL cI cB cO) [.ref o, .int (nI a), .int (nI b)] [(o, .inr (7, .ref q1 :: fs)), (q1, .inl (cI, 43, .inl mm))]) (rdQi (fun r => r = bI (conB G M rg bl a b))) 0 0 noA := by
  refine Met.ofW (cc := cX7_inContact) (maxL := 3) (ret := (some .boolean)) (by decide) rfl ?_
  intro p e s m args below meth c s₁ B hml hv
  obtain ⟨rfl, hP, hK, hN⟩ := hv
  have hx := B.exec
  have hb := B.bytes
  have hr := B.returns
  have hts := atoms_spec (ws := wsX7_inContact) B.pre
  have hown : s.vm.findClass RX7 = some m.cls := findClass_of_methodNamed B.named
  have hlocks := B.notSynchronized
  have hS : va_S noA s.heap s.heap [] := va_S.rf
  have hl := lv_entry ([.ref o, .int (nI a), .int (nI b)]) (n := 3) (Nat.le_of_ble_eq_true rfl)
  rw [lg_entry_eq]
  generalize (lg_sl ([.ref o, .int (nI a), .int (nI b)]) ++ List.replicate (3 - (lg_sl ([.ref o, .int (nI a), .int (nI b)])).length) Slot.unset).toArray = ls at hl ⊢
  have hl : lv_has ls 3 [(0, .ref o), (1, .int (nI a)), (2, .int (nI b))] := hl
  obtain ⟨hn, hn1, hm0, hm1, hm2, hG, hM⟩ := id hm
  refine lv_iload_n hx hb dX7_inContact_0 rfl (lv_at hl 1 rfl) ?_
  refine lv_iload_n hx hb dX7_inContact_1 rfl (lv_at hl 2 rfl) ?_
  refine lv_icmp_eq (tgt := 32) hx hb dX7_inContact_2 (by decide) (fun c_2 => ?_) (fun c_2 => ?_)
  · skip
    have c1 : a = b := (nI_eq (by omega) (by omega)).mp c_2
    refine lv_iconst (v := 0) hx hb dX7_inContact_32 (by decide) ?_
    exact W.zret (v := 0) hx hb hr (rfl) (fun tS htS hWS => ⟨⟨0, (), rfl, (by unfold conB; first | exact bI_t (decide_eq_true ⟨c1, Int32.not_lt.mp c_16, c3⟩) | exact bI_f (decide_eq_false (fun q => q.1 c1)) | exact bI_f (decide_eq_false (fun q => absurd q.2.1 (Int32.not_le.mpr c_16))) | exact bI_f (decide_eq_false (fun q => by simp [c3] at q))), trivial⟩, hS.F htS⟩) hS.2.2 dX7_inContact_33
  · skip
    have c1 : a ≠ b := fun q => c_2 (by rw [q])
    refine lv_iload_n hx hb dX7_inContact_5 rfl (lv_at hl 1 rfl) ?_
    refine lv_iload_n hx hb dX7_inContact_6 rfl (lv_at hl 2 rfl) ?_
    refine rd_calli hP hS (va_runS (As := [.int (nI a), .int (nI b)]) (rest := []) ⟨hx, hb, hml, hown, hts⟩ (c_X7_apart l D cI cB cO a b (by omega) (by omega)) (va_cwS 2 hts gX7_inContact_X7_apart rfl rfl rfl (by decide +kernel) ⟨Nat.le_of_ble_eq_true rfl, Nat.le_of_ble_eq_true rfl⟩) (rd_preS hK (hP.pick [] rfl) hN) rfl rfl hl.1 rfl (lv_room (Nat.le_of_ble_eq_true rfl)) dX7_inContact_7 ⟨Nat.le_refl _, Nat.le_refl _⟩) (fun r_7 H locs h_7 hP hS => ?_)
    subst h_7
    refine lv_aload_n hx hb dX7_inContact_10 rfl (lv_at hl 0 rfl) ?_
    refine va_get (D := D) (ci := 7) (v := .ref q1) (C := RX7) (T := TX7) (N := 15) hx hb hts kX7_inContact_0 hown hK hP 0 rfl rfl 0 (by decide) (hts (.fieldLink RX7 7 "SightRidgeModel" "m" "[I") kX7_inContact_1) (fun _ h9 => h9) rfl dX7_inContact_11 ?_
    refine lv_iconst (v := 1) hx hb dX7_inContact_14 (by decide) ?_
    refine va_iald hx hb hK hP 1 0 rfl rfl (i := nI 1) (vp_in_nI (N := 43) (by decide) (by decide)) dX7_inContact_15 ?_
    rw [nI_clamp (n := 1) (by decide)]
    refine lv_topi (fun y_1 e_2 => ?_)
    have e_2 : rg = y_1 := (e_2.trans (hm1)).symm
    subst e_2
    refine lv_icmp_gt (tgt := 32) hx hb dX7_inContact_16 (by decide) (fun c_16 => ?_) (fun c_16 => ?_)
    · skip
      refine lv_iconst (v := 0) hx hb dX7_inContact_32 (by decide) ?_
      exact W.zret (v := 0) hx hb hr (rfl) (fun tS htS hWS => ⟨⟨0, (), rfl, (by unfold conB; first | exact bI_t (decide_eq_true ⟨c1, Int32.not_lt.mp c_16, c3⟩) | exact bI_f (decide_eq_false (fun q => q.1 c1)) | exact bI_f (decide_eq_false (fun q => absurd q.2.1 (Int32.not_le.mpr c_16))) | exact bI_f (decide_eq_false (fun q => by simp [c3] at q))), trivial⟩, hS.F htS⟩) hS.2.2 dX7_inContact_33
    · skip
      refine lv_aload_n hx hb dX7_inContact_19 rfl (lv_at hl 0 rfl) ?_
      refine lv_iload_n hx hb dX7_inContact_20 rfl (lv_at hl 1 rfl) ?_
      refine lv_iload_n hx hb dX7_inContact_21 rfl (lv_at hl 2 rfl) ?_
      refine rd_calli hP hS (va_runV (As := [.int (nI a), .int (nI b)]) (rest := []) ⟨hx, hb, hml, hown, hts⟩ (c_X7_see l D cI cB cO o q1 fs n mm rg bl G M a b hm ha hb0) (cwV 2 hts gX7_inContact_X7_see rfl rfl rfl (by decide +kernel) ⟨Nat.le_of_ble_eq_true rfl, Nat.le_of_ble_eq_true rfl⟩) (rd_preV (r := (RX7, TX7, 15)) (ci := 7) hK (hP.pick [0, 1] rfl) hN (q0 := 0) rfl rfl) rfl rfl hl.1 rfl (lv_room (Nat.le_of_ble_eq_true rfl)) dX7_inContact_22 ⟨Nat.le_refl _, Nat.le_refl _⟩) (fun r_22 H locs h_22 hP hS => ?_)
      refine lv_if_eq (tgt := 32) hx hb dX7_inContact_25 (by decide) (fun c_25 => ?_) (fun c_25 => ?_)
      · skip
        have c3 := bI_e0 (h_22.symm.trans c_25)
        refine lv_iconst (v := 0) hx hb dX7_inContact_32 (by decide) ?_
        exact W.zret (v := 0) hx hb hr (rfl) (fun tS htS hWS => ⟨⟨0, (), rfl, (by unfold conB; first | exact bI_t (decide_eq_true ⟨c1, Int32.not_lt.mp c_16, c3⟩) | exact bI_f (decide_eq_false (fun q => q.1 c1)) | exact bI_f (decide_eq_false (fun q => absurd q.2.1 (Int32.not_le.mpr c_16))) | exact bI_f (decide_eq_false (fun q => by simp [c3] at q))), trivial⟩, hS.F htS⟩) hS.2.2 dX7_inContact_33
      · skip
        have c3 := bI_n0 (fun q => c_25 (h_22.trans q))
        refine lv_iconst (v := 1) hx hb dX7_inContact_28 (by decide) ?_
        refine lv_goto (tgt := 33) hx hb dX7_inContact_29 (by decide) ?_
        exact W.zret (v := 1) hx hb hr (rfl) (fun tS htS hWS => ⟨⟨1, (), rfl, (by unfold conB; first | exact bI_t (decide_eq_true ⟨c1, Int32.not_lt.mp c_16, c3⟩) | exact bI_f (decide_eq_false (fun q => q.1 c1)) | exact bI_f (decide_eq_false (fun q => absurd q.2.1 (Int32.not_le.mpr c_16))) | exact bI_f (decide_eq_false (fun q => by simp [c3] at q))), trivial⟩, hS.F htS⟩) hS.2.2 dX7_inContact_33
theorem or0 (x : Int32) : x ||| 0 = x := by
  apply Int32.toBitVec_inj.1
  show x.toBitVec ||| 0#32 = x.toBitVec
  simp
theorem kX7_contacts_0 : ∀ w ∈ wsX70, w ∈ wsX7_contacts := by decide +kernel
theorem kX7_contacts_1 : (.fieldLink RX7 7 "SightRidgeModel" "m" "[I" : Cond) ∈ wsX7_contacts := by decide +kernel
set_option maxHeartbeats 4000000 in
set_option maxRecDepth 100000 in
/-- contacts(a) -/
theorem c_X7_contacts (l : Launch) (D : va_G) (cI cB cO : ClassId) (o q1 : Nat) (fs : List Value) (n : Nat) (mm : Nat → Int32) (rg bl : Int32) (G M : Nat → Int32) (a : Nat) (hm : MOK n mm rg bl G M) (ha : a < n) : Met l yX7_contacts wsX7_contacts (rmD 5) (rdPc D (tyL cI cB cO) [.ref o, .int (nI a)] [(o, .inr (7, .ref q1 :: fs)), (q1, .inl (cI, 43, .inl mm))]) (rdQi (fun r => r = nI (bs (conB G M rg bl a) n))) 0 0 noA := by
  refine Met.ofW (cc := cX7_contacts) (maxL := 4) (ret := (some .int)) (by decide) rfl ?_
  intro p e s m args below meth c s₁ B hml hv
  obtain ⟨rfl, hP, hK, hN⟩ := hv
  have hx := B.exec
  have hb := B.bytes
  have hr := B.returns
  have hts := atoms_spec (ws := wsX7_contacts) B.pre
  have hown : s.vm.findClass RX7 = some m.cls := findClass_of_methodNamed B.named
  have hlocks := B.notSynchronized
  have hS : va_S noA s.heap s.heap [] := va_S.rf
  have hl := lv_entry ([.ref o, .int (nI a)]) (n := 4) (Nat.le_of_ble_eq_true rfl)
  rw [lg_entry_eq]
  generalize (lg_sl ([.ref o, .int (nI a)]) ++ List.replicate (4 - (lg_sl ([.ref o, .int (nI a)])).length) Slot.unset).toArray = ls at hl ⊢
  have hl : lv_has ls 4 [(0, .ref o), (1, .int (nI a))] := hl
  obtain ⟨hn, hn1, hm0, hm1, hm2, hG, hM⟩ := id hm
  refine lv_iconst (v := 0) hx hb dX7_contacts_0 (by decide) ?_
  refine lv_istore_n (lv' := [(2, .int 0), (0, .ref o), (1, .int (nI a))]) hx hb dX7_contacts_1 rfl hl (by decide) rfl (fun ls hl => ?_)
  refine lv_iconst (v := 0) hx hb dX7_contacts_2 (by decide) ?_
  refine lv_istore_n (lv' := [(3, .int 0), (2, .int 0), (0, .ref o), (1, .int (nI a))]) hx hb dX7_contacts_3 rfl hl (by decide) rfl (fun ls hl => ?_)
  have L_4 : ∀ (k_4 : Nat) (i : Nat) (v : Int32), n - i < k_4 → (i ≤ n) → (v = nI (bs (conB G M rg bl a) i)) → ∀ (H : Heap) (locs : List Loc), va_P D vwCl [(o, .inr (7, .ref q1 :: fs)), (q1, .inl (cI, 43, .inl mm))] H → va_S noA s.heap H locs → ∀ (ls : Array Slot), lv_has ls 4 [(0, .ref o), (1, .int (nI a)), (2, .int v), (3, .int (nI i))] → W p l e (rmD 5) s m ([.ref o, .int (nI a)] : List Value).toArray below meth c H locs 0 0 (MQ below (rdQi (fun r => r = nI (bs (conB G M rg bl a) n))) ([.ref o, .int (nI a)] : List Value).toArray s 0 0 noA) (F0 m 4 ls []) := by
    intro k_4
    induction k_4 with
    | zero => intro i v h9; exact absurd h9 (Nat.not_lt_zero _)
    | succ k_4 ih_4 =>
      intro i v hm_4 hi hv H locs hP hS ls hl
      refine lv_iload_n hx hb dX7_contacts_4 rfl (lv_at hl 3 rfl) ?_
      refine lv_aload_n hx hb dX7_contacts_5 rfl (lv_at hl 0 rfl) ?_
      refine va_get (D := D) (ci := 7) (v := .ref q1) (C := RX7) (T := TX7) (N := 15) hx hb hts kX7_contacts_0 hown hK hP 0 rfl rfl 0 (by decide) (hts (.fieldLink RX7 7 "SightRidgeModel" "m" "[I") kX7_contacts_1) (fun _ h9 => h9) rfl dX7_contacts_6 ?_
      refine lv_iconst (v := 0) hx hb dX7_contacts_9 (by decide) ?_
      refine va_iald hx hb hK hP 1 0 rfl rfl (i := nI 0) (vp_in_nI (N := 43) (by decide) (by decide)) dX7_contacts_10 ?_
      rw [nI_clamp (n := 0) (by decide)]
      refine lv_topi (fun y_1 e_2 => ?_)
      have e_2 : nI n = y_1 := (e_2.trans (hm0)).symm
      subst e_2
      refine lv_icmp_ge (tgt := 39) hx hb dX7_contacts_11 (by decide) (fun c_11 => ?_) (fun c_11 => ?_)
      · skip
        have c0 : n ≤ i := ge_t (by omega) c_11
        refine lv_iload_n hx hb dX7_contacts_39 rfl (lv_at hl 2 rfl) ?_
        exact W.iret (v := v) hx hb hr (fun tS htS hWS => ⟨⟨v, (), rfl, (by rw [show n = i by omega]; exact hv), trivial⟩, hS.F htS⟩) hS.2.2 dX7_contacts_40
      · skip
        have c0 : i < n := ge_f (by omega) c_11
        refine lv_iload_n hx hb dX7_contacts_14 rfl (lv_at hl 2 rfl) ?_
        refine lv_aload_n hx hb dX7_contacts_15 rfl (lv_at hl 0 rfl) ?_
        refine lv_iload_n hx hb dX7_contacts_16 rfl (lv_at hl 1 rfl) ?_
        refine lv_iload_n hx hb dX7_contacts_17 rfl (lv_at hl 3 rfl) ?_
        refine rd_calli hP hS (va_runV (As := [.int (nI a), .int (nI i)]) (rest := [.int v]) ⟨hx, hb, hml, hown, hts⟩ (c_X7_inContact l D cI cB cO o q1 fs n mm rg bl G M a i hm ha c0) (cwV 2 hts gX7_contacts_X7_inContact rfl rfl rfl (by decide +kernel) ⟨Nat.le_of_ble_eq_true rfl, Nat.le_of_ble_eq_true rfl⟩) (rd_preV (r := (RX7, TX7, 15)) (ci := 7) hK (hP.pick [0, 1] rfl) hN (q0 := 0) rfl rfl) rfl rfl hl.1 rfl (lv_room (Nat.le_of_ble_eq_true rfl)) dX7_contacts_18 ⟨Nat.le_refl _, Nat.le_refl _⟩) (fun r_18 H locs h_18 hP hS => ?_)
        refine lv_if_eq (tgt := 30) hx hb dX7_contacts_21 (by decide) (fun c_21 => ?_) (fun c_21 => ?_)
        · skip
          have c1 := bI_e0 (h_18.symm.trans c_21)
          refine lv_iconst (v := 0) hx hb dX7_contacts_30 (by decide) ?_
          refine lv_ior hx hb dX7_contacts_31 ?_
          refine lv_istore_n (lv' := [(2, .int (v ||| 0)), (0, .ref o), (1, .int (nI a)), (3, .int (nI i))]) hx hb dX7_contacts_32 rfl hl (by decide) rfl (fun ls hl => ?_)
          refine lv_iinc (v := nI (i + 1)) (lv' := [(3, .int (nI (i + 1))), (2, .int (v ||| 0)), (0, .ref o), (1, .int (nI a))]) hx hb dX7_contacts_33 hl (k := 3) rfl (inc1 _) (by decide) rfl (fun ls hl => ?_)
          refine lv_goto (tgt := 4) hx hb dX7_contacts_36 (by decide) ?_
          exact ih_4 (i + 1) (v ||| 0) (by omega) (by omega) (by subst hv; first | exact bs_orT (by omega) c1 | exact (or0 _).trans (bs_orF c1)) _ _ hP hS ls (lv_sub hl [2, 3, 1, 0] rfl)
        · skip
          have c1 := bI_n0 (fun q => c_21 (h_18.trans q))
          refine lv_iconst (v := 1) hx hb dX7_contacts_24 (by decide) ?_
          refine lv_iload_n hx hb dX7_contacts_25 rfl (lv_at hl 3 rfl) ?_
          refine lv_ishl hx hb dX7_contacts_26 ?_
          refine lv_goto (tgt := 31) hx hb dX7_contacts_27 (by decide) ?_
          refine lv_ior hx hb dX7_contacts_31 ?_
          refine lv_istore_n (lv' := [(2, .int (v ||| (1 <<< ((nI i) &&& 31)))), (0, .ref o), (1, .int (nI a)), (3, .int (nI i))]) hx hb dX7_contacts_32 rfl hl (by decide) rfl (fun ls hl => ?_)
          refine lv_iinc (v := nI (i + 1)) (lv' := [(3, .int (nI (i + 1))), (2, .int (v ||| (1 <<< ((nI i) &&& 31)))), (0, .ref o), (1, .int (nI a))]) hx hb dX7_contacts_33 hl (k := 3) rfl (inc1 _) (by decide) rfl (fun ls hl => ?_)
          refine lv_goto (tgt := 4) hx hb dX7_contacts_36 (by decide) ?_
          exact ih_4 (i + 1) (v ||| (1 <<< ((nI i) &&& 31))) (by omega) (by omega) (by subst hv; first | exact bs_orT (by omega) c1 | exact (or0 _).trans (bs_orF c1)) _ _ hP hS ls (lv_sub hl [2, 3, 1, 0] rfl)
  exact L_4 _ 0 0 (Nat.lt_succ_self _) (by omega) (rfl) _ _ hP hS ls (lv_sub hl [2, 3, 1, 0] rfl)
theorem kX7_grounds_0 : ∀ w ∈ wsX70, w ∈ wsX7_grounds := by decide +kernel
theorem kX7_grounds_1 : (.fieldLink RX7 7 "SightRidgeModel" "m" "[I" : Cond) ∈ wsX7_grounds := by decide +kernel
set_option maxHeartbeats 4000000 in
set_option maxRecDepth 100000 in
/-- grounds(a, x) -/
theorem c_X7_grounds (l : Launch) (D : va_G) (cI cB cO : ClassId) (o q1 : Nat) (fs : List Value) (n : Nat) (mm : Nat → Int32) (rg bl : Int32) (G M : Nat → Int32) (a : Nat) (x : Int32) (hm : MOK n mm rg bl G M) (ha : a < n) : Met l yX7_grounds wsX7_grounds (rmD 3) (rdPc D (tyL cI cB cO) [.ref o, .int (nI a), .int x] [(o, .inr (7, .ref q1 :: fs)), (q1, .inl (cI, 43, .inl mm))]) (rdQi (fun r => r = nI (bs (gsB G bl a x) n))) 0 0 noA := by
  refine Met.ofW (cc := cX7_grounds) (maxL := 5) (ret := (some .int)) (by decide) rfl ?_
  intro p e s m args below meth c s₁ B hml hv
  obtain ⟨rfl, hP, hK, hN⟩ := hv
  have hx := B.exec
  have hb := B.bytes
  have hr := B.returns
  have hts := atoms_spec (ws := wsX7_grounds) B.pre
  have hown : s.vm.findClass RX7 = some m.cls := findClass_of_methodNamed B.named
  have hlocks := B.notSynchronized
  have hS : va_S noA s.heap s.heap [] := va_S.rf
  have hl := lv_entry ([.ref o, .int (nI a), .int x]) (n := 5) (Nat.le_of_ble_eq_true rfl)
  rw [lg_entry_eq]
  generalize (lg_sl ([.ref o, .int (nI a), .int x]) ++ List.replicate (5 - (lg_sl ([.ref o, .int (nI a), .int x])).length) Slot.unset).toArray = ls at hl ⊢
  have hl : lv_has ls 5 [(0, .ref o), (1, .int (nI a)), (2, .int x)] := hl
  obtain ⟨hn, hn1, hm0, hm1, hm2, hG, hM⟩ := id hm
  refine lv_iconst (v := 0) hx hb dX7_grounds_0 (by decide) ?_
  refine lv_istore_n (lv' := [(3, .int 0), (0, .ref o), (1, .int (nI a)), (2, .int x)]) hx hb dX7_grounds_1 rfl hl (by decide) rfl (fun ls hl => ?_)
  refine lv_iconst (v := 0) hx hb dX7_grounds_2 (by decide) ?_
  refine lv_istore (lv' := [(4, .int 0), (3, .int 0), (0, .ref o), (1, .int (nI a)), (2, .int x)]) hx hb dX7_grounds_3 hl (by decide) rfl (fun ls hl => ?_)
  have L_5 : ∀ (k_5 : Nat) (i : Nat) (v : Int32), n - i < k_5 → (i ≤ n) → (v = nI (bs (gsB G bl a x) i)) → ∀ (H : Heap) (locs : List Loc), va_P D vwCl [(o, .inr (7, .ref q1 :: fs)), (q1, .inl (cI, 43, .inl mm))] H → va_S noA s.heap H locs → ∀ (ls : Array Slot), lv_has ls 5 [(0, .ref o), (1, .int (nI a)), (2, .int x), (3, .int v), (4, .int (nI i))] → W p l e (rmD 3) s m ([.ref o, .int (nI a), .int x] : List Value).toArray below meth c H locs 0 0 (MQ below (rdQi (fun r => r = nI (bs (gsB G bl a x) n))) ([.ref o, .int (nI a), .int x] : List Value).toArray s 0 0 noA) (F0 m 5 ls []) := by
    intro k_5
    induction k_5 with
    | zero => intro i v h9; exact absurd h9 (Nat.not_lt_zero _)
    | succ k_5 ih_5 =>
      intro i v hm_5 hi hv H locs hP hS ls hl
      refine lv_iload hx hb dX7_grounds_5 (lv_at hl 4 rfl) ?_
      refine lv_aload_n hx hb dX7_grounds_7 rfl (lv_at hl 0 rfl) ?_
      refine va_get (D := D) (ci := 7) (v := .ref q1) (C := RX7) (T := TX7) (N := 15) hx hb hts kX7_grounds_0 hown hK hP 0 rfl rfl 0 (by decide) (hts (.fieldLink RX7 7 "SightRidgeModel" "m" "[I") kX7_grounds_1) (fun _ h9 => h9) rfl dX7_grounds_8 ?_
      refine lv_iconst (v := 0) hx hb dX7_grounds_11 (by decide) ?_
      refine va_iald hx hb hK hP 1 0 rfl rfl (i := nI 0) (vp_in_nI (N := 43) (by decide) (by decide)) dX7_grounds_12 ?_
      rw [nI_clamp (n := 0) (by decide)]
      refine lv_topi (fun y_1 e_2 => ?_)
      have e_2 : nI n = y_1 := (e_2.trans (hm0)).symm
      subst e_2
      refine lv_icmp_ge (tgt := 59) hx hb dX7_grounds_13 (by decide) (fun c_13 => ?_) (fun c_13 => ?_)
      · skip
        have c0 : n ≤ i := ge_t (by omega) c_13
        refine lv_iload_n hx hb dX7_grounds_59 rfl (lv_at hl 3 rfl) ?_
        exact W.iret (v := v) hx hb hr (fun tS htS hWS => ⟨⟨v, (), rfl, (by rw [show n = i by omega]; exact hv), trivial⟩, hS.F htS⟩) hS.2.2 dX7_grounds_60
      · skip
        have c0 : i < n := ge_f (by omega) c_13
        refine lv_iload_n hx hb dX7_grounds_16 rfl (lv_at hl 3 rfl) ?_
        refine lv_iload_n hx hb dX7_grounds_17 rfl (lv_at hl 1 rfl) ?_
        refine lv_iload hx hb dX7_grounds_18 (lv_at hl 4 rfl) ?_
        refine lv_icmp_eq (tgt := 43) hx hb dX7_grounds_20 (by decide) (fun c_20 => ?_) (fun c_20 => ?_)
        · skip
          have c2 : a = i := (nI_eq (by omega) (by omega)).mp c_20
          have c1 : gsB G bl a x i = true := by unfold gsB; rw [← c2]; exact sees_self _ _ _ _ _
          refine lv_iconst (v := 1) hx hb dX7_grounds_43 (by decide) ?_
          refine lv_iload hx hb dX7_grounds_44 (lv_at hl 4 rfl) ?_
          refine lv_ishl hx hb dX7_grounds_46 ?_
          refine lv_goto (tgt := 51) hx hb dX7_grounds_47 (by decide) ?_
          refine lv_ior hx hb dX7_grounds_51 ?_
          refine lv_istore_n (lv' := [(3, .int (v ||| (1 <<< ((nI i) &&& 31)))), (0, .ref o), (1, .int (nI a)), (2, .int x), (4, .int (nI i))]) hx hb dX7_grounds_52 rfl hl (by decide) rfl (fun ls hl => ?_)
          refine lv_iinc (v := nI (i + 1)) (lv' := [(4, .int (nI (i + 1))), (3, .int (v ||| (1 <<< ((nI i) &&& 31)))), (0, .ref o), (1, .int (nI a)), (2, .int x)]) hx hb dX7_grounds_53 hl (k := 4) rfl (inc1 _) (by decide) rfl (fun ls hl => ?_)
          refine lv_goto (tgt := 5) hx hb dX7_grounds_56 (by decide) ?_
          exact ih_5 (i + 1) (v ||| (1 <<< ((nI i) &&& 31))) (by omega) (by omega) (by subst hv; first | exact bs_orT (by omega) c1 | exact (or0 _).trans (bs_orF c1)) _ _ hP hS ls (lv_sub hl [2, 3, 4, 1, 0] rfl)
        · skip
          refine lv_aload_n hx hb dX7_grounds_23 rfl (lv_at hl 0 rfl) ?_
          refine lv_iload_n hx hb dX7_grounds_24 rfl (lv_at hl 1 rfl) ?_
          refine lv_iload_n hx hb dX7_grounds_25 rfl (lv_at hl 2 rfl) ?_
          refine lv_iload hx hb dX7_grounds_26 (lv_at hl 4 rfl) ?_
          refine lv_aload_n hx hb dX7_grounds_28 rfl (lv_at hl 0 rfl) ?_
          refine va_get (D := D) (ci := 7) (v := .ref q1) (C := RX7) (T := TX7) (N := 15) hx hb hts kX7_grounds_0 hown hK hP 0 rfl rfl 0 (by decide) (hts (.fieldLink RX7 7 "SightRidgeModel" "m" "[I") kX7_grounds_1) (fun _ h9 => h9) rfl dX7_grounds_29 ?_
          refine lv_iconst (v := 3) hx hb dX7_grounds_32 (by decide) ?_
          refine lv_iload hx hb dX7_grounds_33 (lv_at hl 4 rfl) ?_
          refine lv_iadd hx hb dX7_grounds_35 ?_
          refine lv_topi (fun y_3 e_4 => ?_)
          have e_4 : nI (3 + i) = y_3 := (e_4.trans (nI_add 3 i)).symm
          subst e_4
          refine va_iald hx hb hK hP 1 0 rfl rfl (i := nI (3 + i)) (vp_in_nI (N := 43) (by omega) (by decide)) dX7_grounds_36 ?_
          rw [nI_clamp (n := 3 + i) (by omega)]
          refine lv_topi (fun y_5 e_6 => ?_)
          have e_6 : G i = y_5 := (e_6.trans (hG i c0)).symm
          subst e_6
          refine rd_calli hP hS (va_runV (As := [.int (nI a), .int x, .int (nI i), .int (G i)]) (rest := [.int v]) ⟨hx, hb, hml, hown, hts⟩ (c_X7_meet l D cI cB cO o q1 fs n mm rg bl G M a x i (G i) hm ha c0) (cwV 4 hts gX7_grounds_X7_meet rfl rfl rfl (by decide +kernel) ⟨Nat.le_of_ble_eq_true rfl, Nat.le_of_ble_eq_true rfl⟩) (rd_preV (r := (RX7, TX7, 15)) (ci := 7) hK (hP.pick [0, 1] rfl) hN (q0 := 0) rfl rfl) rfl rfl hl.1 rfl (lv_room (Nat.le_of_ble_eq_true rfl)) dX7_grounds_37 ⟨Nat.le_refl _, Nat.le_refl _⟩) (fun r_37 H locs h_37 hP hS => ?_)
          refine lv_if_eq (tgt := 50) hx hb dX7_grounds_40 (by decide) (fun c_40 => ?_) (fun c_40 => ?_)
          · skip
            have c1 := bI_e0 (h_37.symm.trans c_40)
            refine lv_iconst (v := 0) hx hb dX7_grounds_50 (by decide) ?_
            refine lv_ior hx hb dX7_grounds_51 ?_
            refine lv_istore_n (lv' := [(3, .int (v ||| 0)), (0, .ref o), (1, .int (nI a)), (2, .int x), (4, .int (nI i))]) hx hb dX7_grounds_52 rfl hl (by decide) rfl (fun ls hl => ?_)
            refine lv_iinc (v := nI (i + 1)) (lv' := [(4, .int (nI (i + 1))), (3, .int (v ||| 0)), (0, .ref o), (1, .int (nI a)), (2, .int x)]) hx hb dX7_grounds_53 hl (k := 4) rfl (inc1 _) (by decide) rfl (fun ls hl => ?_)
            refine lv_goto (tgt := 5) hx hb dX7_grounds_56 (by decide) ?_
            exact ih_5 (i + 1) (v ||| 0) (by omega) (by omega) (by subst hv; first | exact bs_orT (by omega) c1 | exact (or0 _).trans (bs_orF c1)) _ _ hP hS ls (lv_sub hl [2, 3, 4, 1, 0] rfl)
          · skip
            have c1 := bI_n0 (fun q => c_40 (h_37.trans q))
            refine lv_iconst (v := 1) hx hb dX7_grounds_43 (by decide) ?_
            refine lv_iload hx hb dX7_grounds_44 (lv_at hl 4 rfl) ?_
            refine lv_ishl hx hb dX7_grounds_46 ?_
            refine lv_goto (tgt := 51) hx hb dX7_grounds_47 (by decide) ?_
            refine lv_ior hx hb dX7_grounds_51 ?_
            refine lv_istore_n (lv' := [(3, .int (v ||| (1 <<< ((nI i) &&& 31)))), (0, .ref o), (1, .int (nI a)), (2, .int x), (4, .int (nI i))]) hx hb dX7_grounds_52 rfl hl (by decide) rfl (fun ls hl => ?_)
            refine lv_iinc (v := nI (i + 1)) (lv' := [(4, .int (nI (i + 1))), (3, .int (v ||| (1 <<< ((nI i) &&& 31)))), (0, .ref o), (1, .int (nI a)), (2, .int x)]) hx hb dX7_grounds_53 hl (k := 4) rfl (inc1 _) (by decide) rfl (fun ls hl => ?_)
            refine lv_goto (tgt := 5) hx hb dX7_grounds_56 (by decide) ?_
            exact ih_5 (i + 1) (v ||| (1 <<< ((nI i) &&& 31))) (by omega) (by omega) (by subst hv; first | exact bs_orT (by omega) c1 | exact (or0 _).trans (bs_orF c1)) _ _ hP hS ls (lv_sub hl [2, 3, 4, 1, 0] rfl)
  exact L_5 _ 0 0 (Nat.lt_succ_self _) (by omega) (rfl) _ _ hP hS ls (lv_sub hl [2, 3, 4, 1, 0] rfl)
