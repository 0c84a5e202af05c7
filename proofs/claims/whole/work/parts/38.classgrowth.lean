/-! growth, of the class: the walk -/
theorem gr_mono {n a b u v f s s2 : Nat} {bl : Int32} {G M : Nat → Int32} (hn : n ≤ 20) (ha : a < n) (hb : b < n) (hG : ∀ k, k < n → ∃ q, q ≤ 999 ∧ G k = nI q) (hbl : ∃ q, q ≤ 9 ∧ bl = nI q) (hu : M a = nI u) (hv : M b = nI v) (hu2 : u ≤ 200) (hv2 : v ≤ 200) (hf : f ≤ 200) (h2 : s ≤ s2) (h3 : s2 ≤ 200) (h : seesB G bl a (tp G M a + nI f) b (tp G M b + nI s) = true) : seesB G bl a (tp G M a + nI f) b (tp G M b + nI s2) = true := by
  obtain ⟨ga, hga, ea⟩ := hG a ha
  obtain ⟨gb, hgb, eb⟩ := hG b hb
  have e1 : ∀ k, tp G M a + nI k = nI (ga + u + k) := fun k => by unfold tp; rw [ea, hu, nI_add, nI_add]
  have e2 : ∀ k, tp G M b + nI k = nI (gb + v + k) := fun k => by unfold tp; rw [eb, hv, nI_add, nI_add]
  rw [e1, e2] at h ⊢
  exact sees_mono hn ha hb hG hbl (Nat.le_refl _) (by omega) (by omega) (by omega) h
theorem grI_T {S : Nat → Nat → Bool} {V f p T F : Nat} {c : Prop} (h : grI S V f p T F c) (hf : f ≤ 201) (hV : V ≤ 200) : T ≤ 402 := by
  obtain ⟨-, -, -, h4⟩ := h
  rcases h4 with ⟨e, -⟩ | ⟨t, x, e1, -, e3, e4, e5, -, -⟩
  · omega
  · have : x ≤ f := by rcases e3 with q | q <;> omega
    omega
theorem grI_T30 {S : Nat → Nat → Bool} {V f p T F : Nat} {c : Prop} (h : grI S V f p T F c) (hf : f ≤ 201) (hV : V ≤ 200) : T < 2 ^ 30 := Nat.lt_of_le_of_lt (grI_T h hf hV) (by decide)
theorem kX6_growth_0 : ∀ w ∈ wsX60, w ∈ wsX6_growth := by decide +kernel
theorem kX6_growth_1 : (.fieldLink RX6 10 "SightRidge" "ridge" "LSightRidge$Profile;" : Cond) ∈ wsX6_growth := by decide +kernel
theorem kX6_growth_2 : ∀ w ∈ wsX30, w ∈ wsX6_growth := by decide +kernel
theorem kX6_growth_3 : (.fieldLink RX6 81 "SightRidge$Profile" "masts" "[I" : Cond) ∈ wsX6_growth := by decide +kernel
set_option maxHeartbeats 4000000 in
set_option maxRecDepth 100000 in
/-- growth(x, y, which) -/
theorem c_X6_growth (l : Launch) (D : va_G) (cI cB cO : ClassId) (z : Nat) (fs : List Value) (o ga ma : Nat) (n : Nat) (rg bl : Int32) (fg fm : Nat → Int32) (G M : Nat → Int32) (x y w : Int32) (hn : n ≤ 20) (hG : ∀ k, k < n → fg k = G k) (hM : ∀ k, k < n → fm k = M k) (hGv : ∀ k, k < n → ∃ q, q ≤ 999 ∧ G k = nI q) (hMv : ∀ k, k < n → ∃ q, q ≤ 200 ∧ M k = nI q) (hbv : ∃ q, q ≤ 9 ∧ bl = nI q) : Met l yX6_growth wsX6_growth (rmD 6) (rdPc D (tyL cI cB cO) [.ref z, .int x, .int y, .int w] [(z, .inr (6, .ref o :: fs)), (o, .inr (3, [.ref ga, .ref ma, .int (nI n), .int rg, .int bl])), (ga, .inl (cI, 20, .inl fg)), (ma, .inl (cI, 20, .inl fm))]) (rdQi (fun r => r = A_growth n bl G M x y w)) 0 0 noA := by
  refine Met.ofW (cc := cX6_growth) (maxL := 8) (ret := (some .int)) (by decide) rfl ?_
  intro p e s m args below meth c s₁ B hml hv
  obtain ⟨rfl, hP, hK, hN⟩ := hv
  have hx := B.exec
  have hb := B.bytes
  have hr := B.returns
  have hts := atoms_spec (ws := wsX6_growth) B.pre
  have hown : s.vm.findClass RX6 = some m.cls := findClass_of_methodNamed B.named
  have hlocks := B.notSynchronized
  have hS : va_S noA s.heap s.heap [] := va_S.rf
  have hl := lv_entry ([.ref z, .int x, .int y, .int w]) (n := 8) (Nat.le_of_ble_eq_true rfl)
  rw [lg_entry_eq]
  generalize (lg_sl ([.ref z, .int x, .int y, .int w]) ++ List.replicate (8 - (lg_sl ([.ref z, .int x, .int y, .int w])).length) Slot.unset).toArray = ls at hl ⊢
  have hl : lv_has ls 8 [(0, .ref z), (1, .int x), (2, .int y), (3, .int w)] := hl
  refine lv_aload_n hx hb dX6_growth_0 rfl (lv_at hl 0 rfl) ?_
  refine va_get (D := D) (ci := 6) (v := .ref o) (C := RX6) (T := TX6) (N := 7) hx hb hts kX6_growth_0 hown hK hP 0 rfl rfl 0 (by decide) (hts (.fieldLink RX6 10 "SightRidge" "ridge" "LSightRidge$Profile;") kX6_growth_1) (fun _ h9 => h9) rfl dX6_growth_1 ?_
  refine lv_iload_n hx hb dX6_growth_4 rfl (lv_at hl 1 rfl) ?_
  refine lv_iload_n hx hb dX6_growth_5 rfl (lv_at hl 2 rfl) ?_
  refine rd_calli hP hS (va_runV (As := [.int x, .int y]) (rest := []) ⟨hx, hb, hml, hown, hts⟩ (c_X3_hasPair l D cI cB cO o ga ma n rg bl fg fm x y ) (cwV 2 hts gX6_growth_X3_hasPair rfl rfl rfl (by decide +kernel) ⟨Nat.le_of_ble_eq_true rfl, Nat.le_of_ble_eq_true rfl⟩) (rd_preV (r := (RX3, TX3, 5)) (ci := 3) hK (hP.pick [1, 2, 3] rfl) hN (q0 := 0) rfl rfl) rfl rfl hl.1 rfl (lv_room (Nat.le_of_ble_eq_true rfl)) dX6_growth_6 ⟨Nat.le_refl _, Nat.le_refl _⟩) (fun r_6 H locs h_6 hP hS => ?_)
  refine lv_if_eq (tgt := 21) hx hb dX6_growth_9 (by decide) (fun c_9 => ?_) (fun c_9 => ?_)
  · skip
    have d1 : pairB n x y = false := bI_e0 (h_6.symm.trans c_9)
    refine lv_bipush (v := (-2)) hx hb dX6_growth_21 (by decide) ?_
    exact W.iret (v := -2) hx hb hr (fun tS htS hWS => ⟨⟨-2, (), rfl, (by unfold A_growth; rw [if_neg]; intro q; first | exact Bool.false_ne_true (d1.symm.trans q.1) | exact Bool.false_ne_true (d2.symm.trans q.2) | fail), trivial⟩, hS.F htS⟩) hS.2.2 dX6_growth_23
  · skip
    have d1 : pairB n x y = true := bI_n0 (fun q => c_9 (h_6.trans q))
    refine lv_iload_n hx hb dX6_growth_12 rfl (lv_at hl 3 rfl) ?_
    refine lv_iconst (v := 0) hx hb dX6_growth_13 (by decide) ?_
    refine lv_iconst (v := 2) hx hb dX6_growth_14 (by decide) ?_
    refine rd_calli hP hS (va_runS (As := [.int w, .int 0, .int 2]) (rest := []) ⟨hx, hb, hml, hown, hts⟩ (c_X6_within l D cI cB cO w 0 2 ) (va_cwS 3 hts gX6_growth_X6_within rfl rfl rfl (by decide +kernel) ⟨Nat.le_of_ble_eq_true rfl, Nat.le_of_ble_eq_true rfl⟩) (rd_preS hK (hP.pick [] rfl) hN) rfl rfl hl.1 rfl (lv_room (Nat.le_of_ble_eq_true rfl)) dX6_growth_15 ⟨Nat.le_refl _, Nat.le_refl _⟩) (fun r_15 H locs h_15 hP hS => ?_)
    refine lv_if_ne (tgt := 24) hx hb dX6_growth_18 (by decide) (fun c_18 => ?_) (fun c_18 => ?_)
    · skip
      have d2 := bI_n0 (fun q => c_18 (h_15.trans q))
      obtain ⟨a, b, ha, hb0, hab, rfl, rfl⟩ := pairB_T d1 hn
      have ea : A_growth n bl G M (nI a) (nI b) w = if gT bl G M a b < 401 then (if w = 0 then nI (gT bl G M a b) else if w = 1 then nI (gF bl G M a b) else nI (gT bl G M a b - gF bl G M a b)) else -1 := by unfold A_growth; rw [if_pos ⟨d1, d2⟩, cN_nI (by omega), cN_nI (by omega)]
      obtain ⟨u, hu2, eu⟩ := hMv a ha
      obtain ⟨v, hv2, ev⟩ := hMv b hb0
      refine lv_iconst (v := (-1)) hx hb dX6_growth_24 (by decide) ?_
      refine lv_istore (lv' := [(4, .int (-1)), (0, .ref z), (1, .int (nI a)), (2, .int (nI b)), (3, .int w)]) hx hb dX6_growth_25 hl (by decide) rfl (fun ls hl => ?_)
      refine lv_iconst (v := (-1)) hx hb dX6_growth_27 (by decide) ?_
      refine lv_istore (lv' := [(5, .int (-1)), (4, .int (-1)), (0, .ref z), (1, .int (nI a)), (2, .int (nI b)), (3, .int w)]) hx hb dX6_growth_28 hl (by decide) rfl (fun ls hl => ?_)
      refine lv_sipush (v := 200) hx hb dX6_growth_30 (by decide) ?_
      refine lv_aload_n hx hb dX6_growth_33 rfl (lv_at hl 2 rfl) ?_
      refine va_get (D := D) (ci := 6) (v := .ref o) (C := RX6) (T := TX6) (N := 7) hx hb hts kX6_growth_0 hown hK hP 0 rfl rfl 0 (by decide) (hts (.fieldLink RX6 10 "SightRidge" "ridge" "LSightRidge$Profile;") kX6_growth_1) (fun _ h9 => h9) rfl dX6_growth_34 ?_
      refine va_get (D := D) (ci := 3) (v := .ref ma) (C := RX3) (T := TX3) (N := 5) hx hb hts kX6_growth_2 hown hK hP 1 rfl rfl 1 (by decide) (hts (.fieldLink RX6 81 "SightRidge$Profile" "masts" "[I") kX6_growth_3) (fun _ h9 => h9) rfl dX6_growth_37 ?_
      refine lv_iload_n hx hb dX6_growth_40 rfl (lv_at hl 4 rfl) ?_
      refine va_iald hx hb hK hP 3 0 rfl rfl (i := nI b) (vp_in_nI (N := 20) (by omega) (by decide)) dX6_growth_41 ?_
      rw [nI_clamp (n := b) (by omega)]
      refine lv_topi (fun y_1 e_2 => ?_)
      have e_2 : nI v = y_1 := (e_2.trans ((hM b hb0).trans ev)).symm
      subst e_2
      refine lv_isub hx hb dX6_growth_42 ?_
      refine lv_istore (lv' := [(6, .int (200 - (nI v))), (5, .int (-1)), (4, .int (-1)), (0, .ref z), (1, .int (nI a)), (2, .int (nI b)), (3, .int w)]) hx hb dX6_growth_43 hl (by decide) rfl (fun ls hl => ?_)
      refine lv_iconst (v := 0) hx hb dX6_growth_45 (by decide) ?_
      refine lv_istore (lv' := [(7, .int 0), (6, .int (200 - (nI v))), (5, .int (-1)), (4, .int (-1)), (0, .ref z), (1, .int (nI a)), (2, .int (nI b)), (3, .int w)]) hx hb dX6_growth_46 hl (by decide) rfl (fun ls hl => ?_)
      have L_48 : ∀ (k_48 : Nat) (f : Nat) (b4 : Int32) (f5 : Int32) (pt : Int32) (p0 : Nat) (tt : Nat) (ff : Nat), 201 - f < k_48 → (f ≤ 200 - u + 1) → (b4 = FZ tt) → (f5 = FZ ff) → (pt = FZ p0) → (grI (fun g s => seesB G bl a (tp G M a + nI g) b (tp G M b + nI s)) (200 - v) f p0 tt ff False) → ∀ (H : Heap) (locs : List Loc), va_P D vwCl [(z, .inr (6, .ref o :: fs)), (o, .inr (3, [.ref ga, .ref ma, .int (nI n), .int rg, .int bl])), (ga, .inl (cI, 20, .inl fg)), (ma, .inl (cI, 20, .inl fm))] H → va_S noA s.heap H locs → ∀ (ls : Array Slot), lv_has ls 8 [(0, .ref z), (1, .int (nI a)), (2, .int (nI b)), (3, .int w), (4, .int b4), (5, .int f5), (6, .int pt), (7, .int (nI f))] → W p l e (rmD 6) s m ([.ref z, .int (nI a), .int (nI b), .int w] : List Value).toArray below meth c H locs 0 0 (MQ below (rdQi (fun r => r = A_growth n bl G M (nI a) (nI b) w)) ([.ref z, .int (nI a), .int (nI b), .int w] : List Value).toArray s 0 0 noA) (F0 m 48 ls []) := by
        intro k_48
        induction k_48 with
        | zero => intro f b4 f5 pt p0 tt ff h9; exact absurd h9 (Nat.not_lt_zero _)
        | succ k_48 ih_48 =>
          intro f b4 f5 pt p0 tt ff hm_48 hf hb4 hf5 hpt hI H locs hP hS ls hl
          refine lv_iload hx hb dX6_growth_48 (lv_at hl 7 rfl) ?_
          refine lv_sipush (v := 200) hx hb dX6_growth_50 (by decide) ?_
          refine lv_aload_n hx hb dX6_growth_53 rfl (lv_at hl 0 rfl) ?_
          refine va_get (D := D) (ci := 6) (v := .ref o) (C := RX6) (T := TX6) (N := 7) hx hb hts kX6_growth_0 hown hK hP 0 rfl rfl 0 (by decide) (hts (.fieldLink RX6 10 "SightRidge" "ridge" "LSightRidge$Profile;") kX6_growth_1) (fun _ h9 => h9) rfl dX6_growth_54 ?_
          refine va_get (D := D) (ci := 3) (v := .ref ma) (C := RX3) (T := TX3) (N := 5) hx hb hts kX6_growth_2 hown hK hP 1 rfl rfl 1 (by decide) (hts (.fieldLink RX6 81 "SightRidge$Profile" "masts" "[I") kX6_growth_3) (fun _ h9 => h9) rfl dX6_growth_57 ?_
          refine lv_iload_n hx hb dX6_growth_60 rfl (lv_at hl 1 rfl) ?_
          refine va_iald hx hb hK hP 3 0 rfl rfl (i := nI a) (vp_in_nI (N := 20) (by omega) (by decide)) dX6_growth_61 ?_
          rw [nI_clamp (n := a) (by omega)]
          refine lv_topi (fun y_3 e_4 => ?_)
          have e_4 : nI u = y_3 := (e_4.trans ((hM a ha).trans eu)).symm
          subst e_4
          refine lv_isub hx hb dX6_growth_62 ?_
          refine lv_topi (fun y_5 e_6 => ?_)
          have e_6 : nI (200 - u) = y_5 := (e_6.trans (pk_sub (a := 200) (by omega))).symm
          subst e_6
          refine lv_icmp_gt (tgt := 126) hx hb dX6_growth_63 (by decide) (fun c_63 => ?_) (fun c_63 => ?_)
          · skip
            have c0 : 200 - u < f := gt_t (by omega) c_63
            have hE := gr_end eu ev hu2 hv2 (show f = 200 - u + 1 by omega) hI
            refine lv_iload hx hb dX6_growth_126 (lv_at hl 4 rfl) ?_
            refine lv_iconst (v := (-1)) hx hb dX6_growth_128 (by decide) ?_
            refine lv_icmp_eq (tgt := 136) hx hb dX6_growth_129 (by decide) (fun c_129 => ?_) (fun c_129 => ?_)
            · skip
              have z1 : tt = 0 := (FZ_eq (grI_T30 hI (by omega) (by omega))).mp (hb4.symm.trans c_129)
              have z2 : ¬ gT bl G M a b < 401 := hE.elim (fun q => q.2) (fun q => by obtain ⟨t, x, e1, -⟩ := q; omega)
              refine lv_iload hx hb dX6_growth_136 (lv_at hl 4 rfl) ?_
              exact W.iret (v := b4) hx hb hr (fun tS htS hWS => ⟨⟨b4, (), rfl, (by rw [ea, if_neg z2, hb4, z1]; rfl), trivial⟩, hS.F htS⟩) hS.2.2 dX6_growth_138
            · skip
              have z1 : ¬ tt = 0 := fun q => c_129 (by rw [hb4, q]; rfl)
              obtain ⟨t, x, e1, e2, e3, e4, e5, e6⟩ := hE.elim (fun q => absurd q.1 z1) (fun q => q)
              rw [e5, e6, if_pos (show t < 401 by omega)] at ea
              have eb : b4 = nI t := by rw [hb4, e1, FZ_s]
              have ef : f5 = nI x := by rw [hf5, e2, FZ_s]
              refine lv_iload_n hx hb dX6_growth_132 rfl (lv_at hl 3 rfl) ?_
              refine lv_if_ne (tgt := 139) hx hb dX6_growth_133 (by decide) (fun c_133 => ?_) (fun c_133 => ?_)
              · skip
                refine lv_iload_n hx hb dX6_growth_139 rfl (lv_at hl 3 rfl) ?_
                refine lv_iconst (v := 1) hx hb dX6_growth_140 (by decide) ?_
                refine lv_icmp_ne (tgt := 149) hx hb dX6_growth_141 (by decide) (fun c_141 => ?_) (fun c_141 => ?_)
                · skip
                  refine lv_iload hx hb dX6_growth_149 (lv_at hl 4 rfl) ?_
                  refine lv_iload hx hb dX6_growth_151 (lv_at hl 5 rfl) ?_
                  refine lv_isub hx hb dX6_growth_153 ?_
                  exact W.iret (v := b4 - f5) hx hb hr (fun tS htS hWS => ⟨⟨b4 - f5, (), rfl, (by rw [ea, eb, ef, if_neg c_133, if_neg c_141]; exact pk_sub e3), trivial⟩, hS.F htS⟩) hS.2.2 dX6_growth_154
                · skip
                  refine lv_iload hx hb dX6_growth_144 (lv_at hl 5 rfl) ?_
                  refine lv_goto (tgt := 154) hx hb dX6_growth_146 (by decide) ?_
                  exact W.iret (v := f5) hx hb hr (fun tS htS hWS => ⟨⟨f5, (), rfl, (by rw [ea, ef, if_neg c_133, if_pos (by first | exact c_141 | exact Decidable.not_not.mp c_141)]), trivial⟩, hS.F htS⟩) hS.2.2 dX6_growth_154
              · skip
                refine lv_iload hx hb dX6_growth_136 (lv_at hl 4 rfl) ?_
                exact W.iret (v := b4) hx hb hr (fun tS htS hWS => ⟨⟨b4, (), rfl, (by rw [ea, eb, if_pos (by first | exact c_133 | exact Decidable.not_not.mp c_133)]), trivial⟩, hS.F htS⟩) hS.2.2 dX6_growth_138
          · skip
            have c0 : f ≤ 200 - u := by rcases Nat.lt_or_ge (200 - u) f with q | q; exact absurd (nI_lt q (by omega)) c_63; exact q
            have L_66 : ∀ (k_66 : Nat) (b41 : Int32) (f51 : Int32) (pt1 : Int32) (p1 : Nat) (tt1 : Nat) (ff1 : Nat), p1 < k_66 → (b41 = FZ tt1) → (f51 = FZ ff1) → (pt1 = FZ p1) → (grI (fun g s => seesB G bl a (tp G M a + nI g) b (tp G M b + nI s)) (200 - v) f p1 tt1 ff1 True) → ∀ (H : Heap) (locs : List Loc), va_P D vwCl [(z, .inr (6, .ref o :: fs)), (o, .inr (3, [.ref ga, .ref ma, .int (nI n), .int rg, .int bl])), (ga, .inl (cI, 20, .inl fg)), (ma, .inl (cI, 20, .inl fm))] H → va_S noA s.heap H locs → ∀ (ls : Array Slot), lv_has ls 8 [(0, .ref z), (1, .int (nI a)), (2, .int (nI b)), (3, .int w), (4, .int b41), (5, .int f51), (6, .int pt1), (7, .int (nI f))] → W p l e (rmD 6) s m ([.ref z, .int (nI a), .int (nI b), .int w] : List Value).toArray below meth c H locs 0 0 (MQ below (rdQi (fun r => r = A_growth n bl G M (nI a) (nI b) w)) ([.ref z, .int (nI a), .int (nI b), .int w] : List Value).toArray s 0 0 noA) (F0 m 66 ls []) := by
              intro k_66
              induction k_66 with
              | zero => intro b41 f51 pt1 p1 tt1 ff1 h9; exact absurd h9 (Nat.not_lt_zero _)
              | succ k_66 ih_66 =>
                intro b41 f51 pt1 p1 tt1 ff1 hm_66 hb41 hf51 hpt1 hI1 H locs hP hS ls hl
                refine lv_iload hx hb dX6_growth_66 (lv_at hl 6 rfl) ?_
                have hp1 := hI1.1
                refine lv_if_lt (tgt := 120) hx hb dX6_growth_68 (by decide) (fun c_68 => ?_) (fun c_68 => ?_)
                · skip
                  have z0 : p1 = 0 := (fz_neg (by omega)).mp (by rw [← hpt1]; exact c_68)
                  refine lv_iinc (v := nI (f + 1)) (lv' := [(7, .int (nI (f + 1))), (0, .ref z), (1, .int (nI a)), (2, .int (nI b)), (3, .int w), (4, .int b41), (5, .int f51), (6, .int pt1)]) hx hb dX6_growth_120 hl (k := 7) rfl (inc1 _) (by decide) rfl (fun ls hl => ?_)
                  refine lv_goto (tgt := 48) hx hb dX6_growth_123 (by decide) ?_
                  exact ih_48 (f + 1) b41 f51 pt1 p1 tt1 ff1 (by omega) (by omega) (hb41) (hf51) (hpt1) (grI_out hI1 (fun s9 h9 => absurd h9 (by omega))) _ _ hP hS ls (lv_sub hl [1, 2, 3, 4, 5, 6, 7, 0] rfl)
                · skip
                  have z0 : ¬ p1 = 0 := fun q => c_68 (by rw [hpt1]; exact (fz_neg (by omega)).mpr q)
                  obtain ⟨p2, rfl⟩ : ∃ p2, p1 = p2 + 1 := ⟨p1 - 1, by omega⟩
                  have ept : pt1 = nI p2 := hpt1.trans (FZ_s _)
                  subst ept
                  refine lv_aload_n hx hb dX6_growth_71 rfl (lv_at hl 0 rfl) ?_
                  refine va_get (D := D) (ci := 6) (v := .ref o) (C := RX6) (T := TX6) (N := 7) hx hb hts kX6_growth_0 hown hK hP 0 rfl rfl 0 (by decide) (hts (.fieldLink RX6 10 "SightRidge" "ridge" "LSightRidge$Profile;") kX6_growth_1) (fun _ h9 => h9) rfl dX6_growth_72 ?_
                  refine lv_iload_n hx hb dX6_growth_75 rfl (lv_at hl 1 rfl) ?_
                  refine lv_iload hx hb dX6_growth_76 (lv_at hl 7 rfl) ?_
                  refine lv_iload_n hx hb dX6_growth_78 rfl (lv_at hl 2 rfl) ?_
                  refine lv_iload hx hb dX6_growth_79 (lv_at hl 6 rfl) ?_
                  refine rd_calli hP hS (va_runV (As := [.int (nI a), .int (nI f), .int (nI b), .int (nI p2)]) (rest := []) ⟨hx, hb, hml, hown, hts⟩ (c_X3_grownSee l D cI cB cO o ga ma n rg bl fg fm G M a (nI f) b (nI p2) hn hG hM ha hb0) (cwV 4 hts gX6_growth_X3_grownSee rfl rfl rfl (by decide +kernel) ⟨Nat.le_of_ble_eq_true rfl, Nat.le_of_ble_eq_true rfl⟩) (rd_preV (r := (RX3, TX3, 5)) (ci := 3) hK (hP.pick [1, 2, 3] rfl) hN (q0 := 0) rfl rfl) rfl rfl hl.1 rfl (lv_room (Nat.le_of_ble_eq_true rfl)) dX6_growth_81 ⟨Nat.le_refl _, Nat.le_refl _⟩) (fun r_81 H locs h_81 hP hS => ?_)
                  refine lv_if_eq (tgt := 120) hx hb dX6_growth_84 (by decide) (fun c_84 => ?_) (fun c_84 => ?_)
                  · skip
                    have c3 := bI_e0 (h_81.symm.trans c_84)
                    refine lv_iinc (v := nI (f + 1)) (lv' := [(7, .int (nI (f + 1))), (0, .ref z), (1, .int (nI a)), (2, .int (nI b)), (3, .int w), (4, .int b41), (5, .int f51), (6, .int (nI p2))]) hx hb dX6_growth_120 hl (k := 7) rfl (inc1 _) (by decide) rfl (fun ls hl => ?_)
                    refine lv_goto (tgt := 48) hx hb dX6_growth_123 (by decide) ?_
                    exact ih_48 (f + 1) b41 f51 (nI p2) (p2 + 1) tt1 ff1 (by omega) (by omega) (hb41) (hf51) (hpt1) (grI_out hI1 (fun s9 hs9 => Bool.eq_false_iff.mpr (fun q9 => by have hm9 := gr_mono hn ha hb0 hGv hbv eu ev hu2 hv2 (f := f) (s := s9) (s2 := p2) (by omega) (by omega) (by omega) q9; rw [c3] at hm9; cases hm9))) _ _ hP hS ls (lv_sub hl [1, 2, 3, 4, 5, 6, 7, 0] rfl)
                  · skip
                    have c3 := bI_n0 (fun q => c_84 (h_81.trans q))
                    refine lv_iload hx hb dX6_growth_87 (lv_at hl 4 rfl) ?_
                    refine lv_iconst (v := (-1)) hx hb dX6_growth_89 (by decide) ?_
                    refine lv_icmp_eq (tgt := 103) hx hb dX6_growth_90 (by decide) (fun c_90 => ?_) (fun c_90 => ?_)
                    · skip
                      have t0 : tt1 = 0 ∨ f + p2 + 1 < tt1 := Or.inl ((FZ_eq (grI_T30 hI1 (by omega) (by omega))).mp (hb41.symm.trans c_90))
                      refine lv_iload hx hb dX6_growth_103 (lv_at hl 7 rfl) ?_
                      refine lv_iload hx hb dX6_growth_105 (lv_at hl 6 rfl) ?_
                      refine lv_iadd hx hb dX6_growth_107 ?_
                      refine lv_topi (fun y_7 e_8 => ?_)
                      have e_8 : nI (f + p2) = y_7 := (e_8.trans (nI_add f p2)).symm
                      subst e_8
                      refine lv_istore (lv' := [(4, .int (nI (f + p2))), (0, .ref z), (1, .int (nI a)), (2, .int (nI b)), (3, .int w), (5, .int f51), (6, .int (nI p2)), (7, .int (nI f))]) hx hb dX6_growth_108 hl (by decide) rfl (fun ls hl => ?_)
                      refine lv_iload hx hb dX6_growth_110 (lv_at hl 7 rfl) ?_
                      refine lv_istore (lv' := [(5, .int (nI f)), (4, .int (nI (f + p2))), (0, .ref z), (1, .int (nI a)), (2, .int (nI b)), (3, .int w), (6, .int (nI p2)), (7, .int (nI f))]) hx hb dX6_growth_112 hl (by decide) rfl (fun ls hl => ?_)
                      refine lv_iinc (v := (nI p2) + (-1)) (lv' := [(6, .int ((nI p2) + (-1))), (5, .int (nI f)), (4, .int (nI (f + p2))), (0, .ref z), (1, .int (nI a)), (2, .int (nI b)), (3, .int w), (7, .int (nI f))]) hx hb dX6_growth_114 hl (k := 6) rfl (rfl) (by decide) rfl (fun ls hl => ?_)
                      refine lv_goto (tgt := 66) hx hb dX6_growth_117 (by decide) ?_
                      exact ih_66 (nI (f + p2)) (nI f) ((nI p2) + (-1)) p2 (f + p2 + 1) (f + 1) (by omega) ((FZ_s _).symm) ((FZ_s _).symm) (fz_dec _) (grI_yes hI1 c3 t0) _ _ hP hS ls (lv_sub hl [3, 4, 5, 6, 2, 1, 0, 7] rfl)
                    · skip
                      have t0 : ¬ tt1 = 0 := fun q => c_90 (by rw [hb41, q]; rfl)
                      refine lv_iload hx hb dX6_growth_93 (lv_at hl 7 rfl) ?_
                      refine lv_iload hx hb dX6_growth_95 (lv_at hl 6 rfl) ?_
                      refine lv_iadd hx hb dX6_growth_97 ?_
                      refine lv_topi (fun y_9 e_10 => ?_)
                      have e_10 : nI (f + p2) = y_9 := (e_10.trans (nI_add f p2)).symm
                      subst e_10
                      refine lv_iload hx hb dX6_growth_98 (lv_at hl 4 rfl) ?_
                      refine lv_icmp_ge (tgt := 114) hx hb dX6_growth_100 (by decide) (fun c_100 => ?_) (fun c_100 => ?_)
                      · skip
                        have tb := grI_T hI1 (by omega) (by omega)
                        have t1 : tt1 ≤ f + p2 + 1 := by
                          obtain ⟨q, rfl⟩ : ∃ q, tt1 = q + 1 := ⟨tt1 - 1, by omega⟩
                          rw [hb41, FZ_s] at c_100
                          have := (nI_leI (by omega) (by omega)).mp c_100
                          omega
                        refine lv_iinc (v := (nI p2) + (-1)) (lv' := [(6, .int ((nI p2) + (-1))), (0, .ref z), (1, .int (nI a)), (2, .int (nI b)), (3, .int w), (4, .int b41), (5, .int f51), (7, .int (nI f))]) hx hb dX6_growth_114 hl (k := 6) rfl (rfl) (by decide) rfl (fun ls hl => ?_)
                        refine lv_goto (tgt := 66) hx hb dX6_growth_117 (by decide) ?_
                        exact ih_66 b41 f51 ((nI p2) + (-1)) p2 tt1 ff1 (by omega) (hb41) (hf51) (fz_dec _) (grI_no hI1 c3 t0 t1) _ _ hP hS ls (lv_sub hl [1, 2, 3, 4, 5, 6, 0, 7] rfl)
                      · skip
                        have tb := grI_T hI1 (by omega) (by omega)
                        have t0 : tt1 = 0 ∨ f + p2 + 1 < tt1 := by
                          obtain ⟨q, rfl⟩ : ∃ q, tt1 = q + 1 := ⟨tt1 - 1, by omega⟩
                          rw [hb41, FZ_s] at c_100
                          have := mt (nI_leI (by omega) (by omega)).mpr c_100
                          omega
                        refine lv_iload hx hb dX6_growth_103 (lv_at hl 7 rfl) ?_
                        refine lv_iload hx hb dX6_growth_105 (lv_at hl 6 rfl) ?_
                        refine lv_iadd hx hb dX6_growth_107 ?_
                        refine lv_topi (fun y_11 e_12 => ?_)
                        have e_12 : nI (f + p2) = y_11 := (e_12.trans (nI_add f p2)).symm
                        subst e_12
                        refine lv_istore (lv' := [(4, .int (nI (f + p2))), (0, .ref z), (1, .int (nI a)), (2, .int (nI b)), (3, .int w), (5, .int f51), (6, .int (nI p2)), (7, .int (nI f))]) hx hb dX6_growth_108 hl (by decide) rfl (fun ls hl => ?_)
                        refine lv_iload hx hb dX6_growth_110 (lv_at hl 7 rfl) ?_
                        refine lv_istore (lv' := [(5, .int (nI f)), (4, .int (nI (f + p2))), (0, .ref z), (1, .int (nI a)), (2, .int (nI b)), (3, .int w), (6, .int (nI p2)), (7, .int (nI f))]) hx hb dX6_growth_112 hl (by decide) rfl (fun ls hl => ?_)
                        refine lv_iinc (v := (nI p2) + (-1)) (lv' := [(6, .int ((nI p2) + (-1))), (5, .int (nI f)), (4, .int (nI (f + p2))), (0, .ref z), (1, .int (nI a)), (2, .int (nI b)), (3, .int w), (7, .int (nI f))]) hx hb dX6_growth_114 hl (k := 6) rfl (rfl) (by decide) rfl (fun ls hl => ?_)
                        refine lv_goto (tgt := 66) hx hb dX6_growth_117 (by decide) ?_
                        exact ih_66 (nI (f + p2)) (nI f) ((nI p2) + (-1)) p2 (f + p2 + 1) (f + 1) (by omega) ((FZ_s _).symm) ((FZ_s _).symm) (fz_dec _) (grI_yes hI1 c3 t0) _ _ hP hS ls (lv_sub hl [3, 4, 5, 6, 2, 1, 0, 7] rfl)
            exact L_66 _ b4 f5 pt p0 tt ff (Nat.lt_succ_self _) (hb4) (hf5) (hpt) (grI_in hI) _ _ hP hS ls (lv_sub hl [0, 1, 2, 3, 4, 5, 6, 7] rfl)
      exact L_48 _ 0 (-1) (-1) (200 - (nI v)) (200 - v + 1) 0 0 (Nat.lt_succ_self _) (by omega) (FZ_0.symm) (FZ_0.symm) ((pk_sub (a := 200) (by omega)).trans (FZ_s _).symm) (grI_0 _ _) _ _ hP hS ls (lv_sub hl [4, 5, 6, 7, 3, 2, 1, 0] rfl)
    · skip
      have d2 := bI_e0 (h_15.symm.trans c_18)
      refine lv_bipush (v := (-2)) hx hb dX6_growth_21 (by decide) ?_
      exact W.iret (v := -2) hx hb hr (fun tS htS hWS => ⟨⟨-2, (), rfl, (by unfold A_growth; rw [if_neg]; intro q; first | exact Bool.false_ne_true (d1.symm.trans q.1) | exact Bool.false_ne_true (d2.symm.trans q.2) | fail), trivial⟩, hS.F htS⟩) hS.2.2 dX6_growth_23
