/-! shadow, of the reference -/
theorem sh_seen {n a i : Nat} {bl : Int32} {G M : Nat → Int32} (hi : i < n) (h : (bs (gsB G bl a (tp G M a)) n).testBit i = true) : hidB bl G M a i = false := by
  rw [bs_bit, decide_eq_true hi, Bool.true_and] at h
  unfold hidB; rw [h]; rfl
theorem sh_hid {n a i : Nat} {bl : Int32} {G M : Nat → Int32} (hi : i < n) (h : (bs (gsB G bl a (tp G M a)) n).testBit i = false) : hidB bl G M a i = true := by
  rw [bs_bit, decide_eq_true hi, Bool.true_and] at h
  unfold hidB; rw [h]; rfl
theorem sh_none {P : Nat → Bool} {n Y : Nat} (h : fb_ct (runS P) n ≤ Y) (w : Int32) : (if w = 0 then kthF (runS P) n Y else kthF (runE n P) n Y) = -1 := by
  rw [kth_few h, kth_few (P := runE n P) (by rw [← run_n]; exact h)]
  by_cases q : w = 0
  · rw [if_pos q]
  · rw [if_neg q]
theorem tb_n0 {x k : Nat} (h : ¬ nI (x / 2 ^ k % 2) = 0) : x.testBit k = true := by
  rcases Nat.mod_two_eq_zero_or_one (x / 2 ^ k) with q | q
  · exact absurd (by rw [q]; rfl) h
  · exact tb_1 (by rw [q]; rfl)
theorem tb_e0 {x k : Nat} (h : nI (x / 2 ^ k % 2) = 0) : x.testBit k = false := by
  rcases Nat.mod_two_eq_zero_or_one (x / 2 ^ k) with q | q
  · exact tb_0 (by rw [q]; decide)
  · rw [q] at h; exact absurd h (by decide)
theorem kX7_shadow_0 : ∀ w ∈ wsX70, w ∈ wsX7_shadow := by decide +kernel
theorem kX7_shadow_1 : (.fieldLink RX7 7 "SightRidgeModel" "m" "[I" : Cond) ∈ wsX7_shadow := by decide +kernel
set_option maxHeartbeats 4000000 in
set_option maxRecDepth 100000 in
/-- shadow(x, which, end) -/
theorem c_X7_shadow (l : Launch) (D : va_G) (cI cB cO : ClassId) (o q1 : Nat) (fs : List Value) (n : Nat) (mm : Nat → Int32) (rg bl : Int32) (G M : Nat → Int32) (x y w : Int32) (hm : MOK n mm rg bl G M) : Met l yX7_shadow wsX7_shadow (rmD 5) (rdPc D (tyL cI cB cO) [.ref o, .int x, .int y, .int w] [(o, .inr (7, .ref q1 :: fs)), (q1, .inl (cI, 43, .inl mm))]) (rdQi (fun r => r = A_shadow n bl G M x y w)) 0 0 noA := by
  refine Met.ofW (cc := cX7_shadow) (maxL := 10) (ret := (some .int)) (by decide) rfl ?_
  intro p e s m args below meth c s₁ B hml hv
  obtain ⟨rfl, hP, hK, hN⟩ := hv
  have hx := B.exec
  have hb := B.bytes
  have hr := B.returns
  have hts := atoms_spec (ws := wsX7_shadow) B.pre
  have hown : s.vm.findClass RX7 = some m.cls := findClass_of_methodNamed B.named
  have hlocks := B.notSynchronized
  have hS : va_S noA s.heap s.heap [] := va_S.rf
  have hl := lv_entry ([.ref o, .int x, .int y, .int w]) (n := 10) (Nat.le_of_ble_eq_true rfl)
  rw [lg_entry_eq]
  generalize (lg_sl ([.ref o, .int x, .int y, .int w]) ++ List.replicate (10 - (lg_sl ([.ref o, .int x, .int y, .int w])).length) Slot.unset).toArray = ls at hl ⊢
  have hl : lv_has ls 10 [(0, .ref o), (1, .int x), (2, .int y), (3, .int w)] := hl
  obtain ⟨hn, hn1, hm0, hm1, hm2, hG, hM⟩ := id hm
  refine lv_aload_n hx hb dX7_shadow_0 rfl (lv_at hl 0 rfl) ?_
  refine lv_iload_n hx hb dX7_shadow_1 rfl (lv_at hl 1 rfl) ?_
  refine rd_calli hP hS (va_runV (As := [.int x]) (rest := []) ⟨hx, hb, hml, hown, hts⟩ (c_X7_isStation l D cI cB cO o q1 fs n mm rg bl G M x hm) (cwV 1 hts gX7_shadow_X7_isStation rfl rfl rfl (by decide +kernel) ⟨Nat.le_of_ble_eq_true rfl, Nat.le_of_ble_eq_true rfl⟩) (rd_preV (r := (RX7, TX7, 15)) (ci := 7) hK (hP.pick [0, 1] rfl) hN (q0 := 0) rfl rfl) rfl rfl hl.1 rfl (lv_room (Nat.le_of_ble_eq_true rfl)) dX7_shadow_2 ⟨Nat.le_refl _, Nat.le_refl _⟩) (fun r_2 H locs h_2 hP hS => ?_)
  refine lv_if_eq (tgt := 21) hx hb dX7_shadow_5 (by decide) (fun c_5 => ?_) (fun c_5 => ?_)
  · skip
    have d1 := bI_e0 (h_2.symm.trans c_5)
    refine lv_bipush (v := (-2)) hx hb dX7_shadow_21 (by decide) ?_
    exact W.iret (v := -2) hx hb hr (fun tS htS hWS => ⟨⟨-2, (), rfl, (by unfold A_shadow; rw [if_neg]; intro q; first | exact Bool.false_ne_true (d1.symm.trans q.1) | exact d2 q.2.1 | exact Bool.false_ne_true (d3.symm.trans q.2.2) | fail), trivial⟩, hS.F htS⟩) hS.2.2 dX7_shadow_23
  · skip
    have d1 := bI_n0 (fun q => c_5 (h_2.trans q))
    refine lv_iload_n hx hb dX7_shadow_8 rfl (lv_at hl 2 rfl) ?_
    refine lv_if_lt (tgt := 21) hx hb dX7_shadow_9 (by decide) (fun c_9 => ?_) (fun c_9 => ?_)
    · skip
      have d2 : ¬ 0 ≤ y := Int32.not_le.mpr c_9
      refine lv_bipush (v := (-2)) hx hb dX7_shadow_21 (by decide) ?_
      exact W.iret (v := -2) hx hb hr (fun tS htS hWS => ⟨⟨-2, (), rfl, (by unfold A_shadow; rw [if_neg]; intro q; first | exact Bool.false_ne_true (d1.symm.trans q.1) | exact d2 q.2.1 | exact Bool.false_ne_true (d3.symm.trans q.2.2) | fail), trivial⟩, hS.F htS⟩) hS.2.2 dX7_shadow_23
    · skip
      have d2 : 0 ≤ y := Int32.not_lt.mp c_9
      refine lv_iload_n hx hb dX7_shadow_12 rfl (lv_at hl 3 rfl) ?_
      refine lv_iconst (v := 0) hx hb dX7_shadow_13 (by decide) ?_
      refine lv_iconst (v := 1) hx hb dX7_shadow_14 (by decide) ?_
      refine rd_calli hP hS (va_runS (As := [.int w, .int 0, .int 1]) (rest := []) ⟨hx, hb, hml, hown, hts⟩ (c_X7_in l D cI cB cO w 0 1 ) (va_cwS 3 hts gX7_shadow_X7_in rfl rfl rfl (by decide +kernel) ⟨Nat.le_of_ble_eq_true rfl, Nat.le_of_ble_eq_true rfl⟩) (rd_preS hK (hP.pick [] rfl) hN) rfl rfl hl.1 rfl (lv_room (Nat.le_of_ble_eq_true rfl)) dX7_shadow_15 ⟨Nat.le_refl _, Nat.le_refl _⟩) (fun r_15 H locs h_15 hP hS => ?_)
      refine lv_if_ne (tgt := 24) hx hb dX7_shadow_18 (by decide) (fun c_18 => ?_) (fun c_18 => ?_)
      · skip
        have d3 := bI_n0 (fun q => c_18 (h_15.trans q))
        have ea : A_shadow n bl G M x y w = if w = 0 then kthF (runS (hidB bl G M (cN x))) n (cN y) else kthF (runE n (hidB bl G M (cN x))) n (cN y) := if_pos ⟨d1, d2, d3⟩
        obtain ⟨a, ha, rfl⟩ := hasB_T d1 hn
        obtain ⟨Y, hY, rfl⟩ := nI_of c_9
        rw [cN_nI (by omega), cN_nI hY] at ea
        refine lv_aload_n hx hb dX7_shadow_24 rfl (lv_at hl 0 rfl) ?_
        refine lv_iload_n hx hb dX7_shadow_25 rfl (lv_at hl 1 rfl) ?_
        refine lv_aload_n hx hb dX7_shadow_26 rfl (lv_at hl 0 rfl) ?_
        refine lv_iload_n hx hb dX7_shadow_27 rfl (lv_at hl 1 rfl) ?_
        refine rd_calli hP hS (va_runV (As := [.int (nI a)]) (rest := [.int (nI a), .ref o]) ⟨hx, hb, hml, hown, hts⟩ (c_X7_top l D cI cB cO o q1 fs n mm rg bl G M a hm ha) (cwV 1 hts gX7_shadow_X7_top rfl rfl rfl (by decide +kernel) ⟨Nat.le_of_ble_eq_true rfl, Nat.le_of_ble_eq_true rfl⟩) (rd_preV (r := (RX7, TX7, 15)) (ci := 7) hK (hP.pick [0, 1] rfl) hN (q0 := 0) rfl rfl) rfl rfl hl.1 rfl (lv_room (Nat.le_of_ble_eq_true rfl)) dX7_shadow_28 ⟨Nat.le_refl _, Nat.le_refl _⟩) (fun r_28 H locs h_28 hP hS => ?_)
        subst h_28
        refine rd_calli hP hS (va_runV (As := [.int (nI a), .int (tp G M a)]) (rest := []) ⟨hx, hb, hml, hown, hts⟩ (c_X7_grounds l D cI cB cO o q1 fs n mm rg bl G M a (tp G M a) hm ha) (cwV 2 hts gX7_shadow_X7_grounds rfl rfl rfl (by decide +kernel) ⟨Nat.le_of_ble_eq_true rfl, Nat.le_of_ble_eq_true rfl⟩) (rd_preV (r := (RX7, TX7, 15)) (ci := 7) hK (hP.pick [0, 1] rfl) hN (q0 := 0) rfl rfl) rfl rfl hl.1 rfl (lv_room (Nat.le_of_ble_eq_true rfl)) dX7_shadow_31 ⟨Nat.le_refl _, Nat.le_refl _⟩) (fun r_31 H locs h_31 hP hS => ?_)
        subst h_31
        refine lv_istore (lv' := [(4, .int (nI (bs (gsB G bl a (tp G M a)) n))), (0, .ref o), (1, .int (nI a)), (2, .int (nI Y)), (3, .int w)]) hx hb dX7_shadow_34 hl (by decide) rfl (fun ls hl => ?_)
        have hbS := bs_lt (gsB G bl a (tp G M a)) n
        have hp : (2 : Nat) ^ n ≤ 2 ^ 20 := Nat.pow_le_pow_right (by decide) hn
        refine lv_iload_n hx hb dX7_shadow_36 rfl (lv_at hl 3 rfl) ?_
        refine lv_istore (lv' := [(5, .int (nI Y)), (4, .int (nI (bs (gsB G bl a (tp G M a)) n))), (0, .ref o), (1, .int (nI a)), (2, .int (nI Y)), (3, .int w)]) hx hb dX7_shadow_37 hl (by decide) rfl (fun ls hl => ?_)
        refine lv_iconst (v := 0) hx hb dX7_shadow_39 (by decide) ?_
        refine lv_istore (lv' := [(6, .int 0), (5, .int (nI Y)), (4, .int (nI (bs (gsB G bl a (tp G M a)) n))), (0, .ref o), (1, .int (nI a)), (2, .int (nI Y)), (3, .int w)]) hx hb dX7_shadow_40 hl (by decide) rfl (fun ls hl => ?_)
        have L_42 : ∀ (k_42 : Nat) (i : Nat) (c9 : Nat), n - i < k_42 → (i ≤ n) → (c9 + fb_ct (runS (hidB bl G M a)) i = Y) → ∀ (H : Heap) (locs : List Loc), va_P D vwCl [(o, .inr (7, .ref q1 :: fs)), (q1, .inl (cI, 43, .inl mm))] H → va_S noA s.heap H locs → ∀ (ls : Array Slot), lv_has ls 10 [(0, .ref o), (1, .int (nI a)), (2, .int (nI Y)), (3, .int w), (4, .int (nI (bs (gsB G bl a (tp G M a)) n))), (5, .int (nI c9)), (6, .int (nI i))] → W p l e (rmD 5) s m ([.ref o, .int (nI a), .int (nI Y), .int w] : List Value).toArray below meth c H locs 0 0 (MQ below (rdQi (fun r => r = A_shadow n bl G M (nI a) (nI Y) w)) ([.ref o, .int (nI a), .int (nI Y), .int w] : List Value).toArray s 0 0 noA) (F0 m 42 ls []) := by
          intro k_42
          induction k_42 with
          | zero => intro i c9 h9; exact absurd h9 (Nat.not_lt_zero _)
          | succ k_42 ih_42 =>
            intro i c9 hm_42 hi hc H locs hP hS ls hl
            refine lv_iload hx hb dX7_shadow_42 (lv_at hl 6 rfl) ?_
            refine lv_aload_n hx hb dX7_shadow_44 rfl (lv_at hl 0 rfl) ?_
            refine va_get (D := D) (ci := 7) (v := .ref q1) (C := RX7) (T := TX7) (N := 15) hx hb hts kX7_shadow_0 hown hK hP 0 rfl rfl 0 (by decide) (hts (.fieldLink RX7 7 "SightRidgeModel" "m" "[I") kX7_shadow_1) (fun _ h9 => h9) rfl dX7_shadow_45 ?_
            refine lv_iconst (v := 0) hx hb dX7_shadow_48 (by decide) ?_
            refine va_iald hx hb hK hP 1 0 rfl rfl (i := nI 0) (vp_in_nI (N := 43) (by decide) (by decide)) dX7_shadow_49 ?_
            rw [nI_clamp (n := 0) (by decide)]
            refine lv_topi (fun y_1 e_2 => ?_)
            have e_2 : nI n = y_1 := (e_2.trans (hm0)).symm
            subst e_2
            refine lv_icmp_ge (tgt := 178) hx hb dX7_shadow_50 (by decide) (fun c_50 => ?_) (fun c_50 => ?_)
            · skip
              have c0 : n ≤ i := ge_t (by omega) c_50
              refine lv_iconst (v := (-1)) hx hb dX7_shadow_178 (by decide) ?_
              exact W.iret (v := -1) hx hb hr (fun tS htS hWS => ⟨⟨-1, (), rfl, (by rw [ea]; exact (sh_none (by have e9 : i = n := (by omega); rw [← e9]; omega) w).symm), trivial⟩, hS.F htS⟩) hS.2.2 dX7_shadow_179
            · skip
              have c0 : i < n := ge_f (by omega) c_50
              refine lv_iload hx hb dX7_shadow_53 (lv_at hl 4 rfl) ?_
              refine lv_iload hx hb dX7_shadow_55 (lv_at hl 6 rfl) ?_
              refine lv_ishr hx hb dX7_shadow_57 ?_
              refine lv_topi (fun y_3 e_4 => ?_)
              have e_4 : nI ((bs (gsB G bl a (tp G M a)) n) / 2 ^ i) = y_3 := (e_4.trans (pk_shrN (by omega) (nI i &&& 31) i (s_l i (by omega)))).symm
              subst e_4
              refine lv_iconst (v := 1) hx hb dX7_shadow_58 (by decide) ?_
              refine lv_iand hx hb dX7_shadow_59 ?_
              refine lv_topi (fun y_5 e_6 => ?_)
              have e_6 : nI ((bs (gsB G bl a (tp G M a)) n) / 2 ^ i % 2) = y_5 := (e_6.trans (pk_andN (by have := Nat.div_le_self (bs (gsB G bl a (tp G M a)) n) (2 ^ i); omega) 1 (by decide))).symm
              subst e_6
              refine lv_if_ne (tgt := 67) hx hb dX7_shadow_60 (by decide) (fun c_60 => ?_) (fun c_60 => ?_)
              · skip
                have e1 : (hidB bl G M a) i = false := sh_seen c0 (tb_n0 c_60)
                refine lv_iconst (v := 0) hx hb dX7_shadow_67 (by decide) ?_
                refine lv_istore (lv' := [(7, .int 0), (0, .ref o), (1, .int (nI a)), (2, .int (nI Y)), (3, .int w), (4, .int (nI (bs (gsB G bl a (tp G M a)) n))), (5, .int (nI c9)), (6, .int (nI i))]) hx hb dX7_shadow_68 hl (by decide) rfl (fun ls hl => ?_)
                refine lv_iload hx hb dX7_shadow_70 (lv_at hl 0 rfl) ?_
                refine lv_if_eq (tgt := 97) hx hb dX7_shadow_72 (by decide) (fun c_72 => ?_) (fun c_72 => ?_)
                · skip
                  have e2 : runS (hidB bl G M a) i = false := by unfold runS; rw [e1]; rfl
                  refine lv_iconst (v := 0) hx hb dX7_shadow_97 (by decide) ?_
                  refine lv_istore (lv' := [(8, .int 0), (7, .int 0), (0, .ref o), (1, .int (nI a)), (2, .int (nI Y)), (3, .int w), (4, .int (nI (bs (gsB G bl a (tp G M a)) n))), (5, .int (nI c9)), (6, .int (nI i))]) hx hb dX7_shadow_98 hl (by decide) rfl (fun ls hl => ?_)
                  refine lv_iload hx hb dX7_shadow_100 (lv_at hl 0 rfl) ?_
                  refine lv_if_eq (tgt := 157) hx hb dX7_shadow_102 (by decide) (fun c_102 => ?_) (fun c_102 => ?_)
                  · skip
                    refine lv_iload hx hb dX7_shadow_157 (lv_at hl 7 rfl) ?_
                    refine lv_iload hx hb dX7_shadow_159 (lv_at hl 0 rfl) ?_
                    refine lv_if_eq (tgt := 168) hx hb dX7_shadow_161 (by decide) (fun c_161 => ?_) (fun c_161 => ?_)
                    · skip
                      refine lv_iconst (v := 0) hx hb dX7_shadow_168 (by decide) ?_
                      refine lv_isub hx hb dX7_shadow_169 ?_
                      refine lv_topi (fun y_7 e_8 => ?_)
                      have e_8 : nI (c9 - 0) = y_7 := (e_8.trans (pk_sub (a := c9) (b := 0) (Nat.zero_le _))).symm
                      subst e_8
                      refine lv_istore (lv' := [(5, .int (nI (c9 - 0))), (8, .int 0), (7, .int 0), (0, .ref o), (1, .int (nI a)), (2, .int (nI Y)), (3, .int w), (4, .int (nI (bs (gsB G bl a (tp G M a)) n))), (6, .int (nI i))]) hx hb dX7_shadow_170 hl (by decide) rfl (fun ls hl => ?_)
                      refine lv_iinc (v := nI (i + 1)) (lv' := [(6, .int (nI (i + 1))), (5, .int (nI (c9 - 0))), (8, .int 0), (7, .int 0), (0, .ref o), (1, .int (nI a)), (2, .int (nI Y)), (3, .int w), (4, .int (nI (bs (gsB G bl a (tp G M a)) n)))]) hx hb dX7_shadow_172 hl (k := 8) rfl (inc1 _) (by decide) rfl (fun ls hl => ?_)
                      refine lv_goto (tgt := 42) hx hb dX7_shadow_175 (by decide) ?_
                      exact ih_42 (i + 1) (c9 - 0) (by omega) (by omega) (by first | (rw [fb_ct_T e2]; omega) | (rw [fb_ct_F e2]; omega) | fail) _ _ hP hS ls (lv_sub hl [4, 5, 6, 7, 8, 1, 0] rfl)
                    · skip
                      exact absurd (by decide) c_161
                  · skip
                    exact absurd (by decide) c_102
                · skip
                  exact absurd (by decide) c_72
              · skip
                have e1 : (hidB bl G M a) i = true := sh_hid c0 (tb_e0 c_60)
                refine lv_iconst (v := 1) hx hb dX7_shadow_63 (by decide) ?_
                refine lv_goto (tgt := 68) hx hb dX7_shadow_64 (by decide) ?_
                refine lv_istore (lv' := [(7, .int 1), (0, .ref o), (1, .int (nI a)), (2, .int (nI Y)), (3, .int w), (4, .int (nI (bs (gsB G bl a (tp G M a)) n))), (5, .int (nI c9)), (6, .int (nI i))]) hx hb dX7_shadow_68 hl (by decide) rfl (fun ls hl => ?_)
                refine lv_iload hx hb dX7_shadow_70 (lv_at hl 0 rfl) ?_
                refine lv_if_eq (tgt := 97) hx hb dX7_shadow_72 (by decide) (fun c_72 => ?_) (fun c_72 => ?_)
                · skip
                  exact absurd c_72 (by decide)
                · skip
                  refine lv_iload hx hb dX7_shadow_75 (lv_at hl 7 rfl) ?_
                  refine lv_if_eq (tgt := 93) hx hb dX7_shadow_77 (by decide) (fun c_77 => ?_) (fun c_77 => ?_)
                  · skip
                    have i0 : i = 0 := (nI_eq (a := i) (b := 0) (by omega) (by decide)).mp c_77
                    have e2 : runS (hidB bl G M a) i = true := by unfold runS; rw [e1, decide_eq_false (show ¬ 0 < i by omega)]; rfl
                    refine lv_iconst (v := 1) hx hb dX7_shadow_93 (by decide) ?_
                    refine lv_goto (tgt := 98) hx hb dX7_shadow_94 (by decide) ?_
                    refine lv_istore (lv' := [(8, .int 1), (7, .int 1), (0, .ref o), (1, .int (nI a)), (2, .int (nI Y)), (3, .int w), (4, .int (nI (bs (gsB G bl a (tp G M a)) n))), (5, .int (nI c9)), (6, .int (nI i))]) hx hb dX7_shadow_98 hl (by decide) rfl (fun ls hl => ?_)
                    refine lv_iload hx hb dX7_shadow_100 (lv_at hl 0 rfl) ?_
                    refine lv_if_eq (tgt := 157) hx hb dX7_shadow_102 (by decide) (fun c_102 => ?_) (fun c_102 => ?_)
                    · skip
                      exact absurd c_102 (by decide)
                    · skip
                      refine lv_iload hx hb dX7_shadow_105 (lv_at hl 7 rfl) ?_
                      refine lv_if_ne (tgt := 157) hx hb dX7_shadow_107 (by decide) (fun c_107 => ?_) (fun c_107 => ?_)
                      · skip
                        have f1 : ¬ c9 = 0 := fun q => c_107 (by rw [q]; rfl)
                        refine lv_iload hx hb dX7_shadow_157 (lv_at hl 7 rfl) ?_
                        refine lv_iload hx hb dX7_shadow_159 (lv_at hl 0 rfl) ?_
                        refine lv_if_eq (tgt := 168) hx hb dX7_shadow_161 (by decide) (fun c_161 => ?_) (fun c_161 => ?_)
                        · skip
                          exact absurd c_161 (by decide)
                        · skip
                          refine lv_iconst (v := 1) hx hb dX7_shadow_164 (by decide) ?_
                          refine lv_goto (tgt := 169) hx hb dX7_shadow_165 (by decide) ?_
                          refine lv_isub hx hb dX7_shadow_169 ?_
                          refine lv_topi (fun y_9 e_10 => ?_)
                          have e_10 : nI (c9 - 1) = y_9 := (e_10.trans (pk_sub (a := c9) (b := 1) (by omega))).symm
                          subst e_10
                          refine lv_istore (lv' := [(5, .int (nI (c9 - 1))), (8, .int 1), (7, .int 1), (0, .ref o), (1, .int (nI a)), (2, .int (nI Y)), (3, .int w), (4, .int (nI (bs (gsB G bl a (tp G M a)) n))), (6, .int (nI i))]) hx hb dX7_shadow_170 hl (by decide) rfl (fun ls hl => ?_)
                          refine lv_iinc (v := nI (i + 1)) (lv' := [(6, .int (nI (i + 1))), (5, .int (nI (c9 - 1))), (8, .int 1), (7, .int 1), (0, .ref o), (1, .int (nI a)), (2, .int (nI Y)), (3, .int w), (4, .int (nI (bs (gsB G bl a (tp G M a)) n)))]) hx hb dX7_shadow_172 hl (k := 8) rfl (inc1 _) (by decide) rfl (fun ls hl => ?_)
                          refine lv_goto (tgt := 42) hx hb dX7_shadow_175 (by decide) ?_
                          exact ih_42 (i + 1) (c9 - 1) (by omega) (by omega) (by first | (rw [fb_ct_T e2]; omega) | (rw [fb_ct_F e2]; omega) | fail) _ _ hP hS ls (lv_sub hl [4, 5, 6, 7, 8, 1, 0] rfl)
                      · skip
                        have f1 : c9 = 0 := (nI_eq (a := c9) (b := 0) (by omega) (by decide)).mp c_107
                        have hcY : fb_ct (runS (hidB bl G M a)) i = Y := by omega
                        refine lv_iload hx hb dX7_shadow_110 (lv_at hl 8 rfl) ?_
                        refine lv_istore (lv' := [(9, .int (nI i)), (8, .int 1), (7, .int 1), (0, .ref o), (1, .int (nI a)), (2, .int (nI Y)), (3, .int w), (4, .int (nI (bs (gsB G bl a (tp G M a)) n))), (5, .int (nI c9)), (6, .int (nI i))]) hx hb dX7_shadow_112 hl (by decide) rfl (fun ls hl => ?_)
                        have L_114 : ∀ (k_114 : Nat) (j : Nat), n - j < k_114 → (i ≤ j) → (j < n) → (∀ t, i ≤ t → t ≤ j → (hidB bl G M a) t = true) → ∀ (H : Heap) (locs : List Loc), va_P D vwCl [(o, .inr (7, .ref q1 :: fs)), (q1, .inl (cI, 43, .inl mm))] H → va_S noA s.heap H locs → ∀ (ls : Array Slot), lv_has ls 10 [(0, .ref o), (1, .int (nI a)), (2, .int (nI Y)), (3, .int w), (4, .int (nI (bs (gsB G bl a (tp G M a)) n))), (5, .int (nI c9)), (6, .int (nI i)), (9, .int (nI j))] → W p l e (rmD 5) s m ([.ref o, .int (nI a), .int (nI Y), .int w] : List Value).toArray below meth c H locs 0 0 (MQ below (rdQi (fun r => r = A_shadow n bl G M (nI a) (nI Y) w)) ([.ref o, .int (nI a), .int (nI Y), .int w] : List Value).toArray s 0 0 noA) (F0 m 114 ls []) := by
                          intro k_114
                          induction k_114 with
                          | zero => intro j h9; exact absurd h9 (Nat.not_lt_zero _)
                          | succ k_114 ih_114 =>
                            intro j hm_114 hij hj hr9 H locs hP hS ls hl
                            refine lv_iload hx hb dX7_shadow_114 (lv_at hl 7 rfl) ?_
                            refine lv_iconst (v := 1) hx hb dX7_shadow_116 (by decide) ?_
                            refine lv_iadd hx hb dX7_shadow_117 ?_
                            refine lv_topi (fun y_11 e_12 => ?_)
                            have e_12 : nI (j + 1) = y_11 := (e_12.trans (nI_add j 1)).symm
                            subst e_12
                            refine lv_aload_n hx hb dX7_shadow_118 rfl (lv_at hl 0 rfl) ?_
                            refine va_get (D := D) (ci := 7) (v := .ref q1) (C := RX7) (T := TX7) (N := 15) hx hb hts kX7_shadow_0 hown hK hP 0 rfl rfl 0 (by decide) (hts (.fieldLink RX7 7 "SightRidgeModel" "m" "[I") kX7_shadow_1) (fun _ h9 => h9) rfl dX7_shadow_119 ?_
                            refine lv_iconst (v := 0) hx hb dX7_shadow_122 (by decide) ?_
                            refine va_iald hx hb hK hP 1 0 rfl rfl (i := nI 0) (vp_in_nI (N := 43) (by decide) (by decide)) dX7_shadow_123 ?_
                            rw [nI_clamp (n := 0) (by decide)]
                            refine lv_topi (fun y_13 e_14 => ?_)
                            have e_14 : nI n = y_13 := (e_14.trans (hm0)).symm
                            subst e_14
                            refine lv_icmp_ge (tgt := 145) hx hb dX7_shadow_124 (by decide) (fun c_124 => ?_) (fun c_124 => ?_)
                            · skip
                              have c4 : n ≤ j + 1 := ge_t (by omega) c_124
                              have he : (decide (j + 1 < n) && (hidB bl G M a) (j + 1)) = false := by rw [decide_eq_false (show ¬ j + 1 < n by omega)]; rfl
                              refine lv_iload_n hx hb dX7_shadow_145 rfl (lv_at hl 3 rfl) ?_
                              refine lv_if_ne (tgt := 154) hx hb dX7_shadow_146 (by decide) (fun c_146 => ?_) (fun c_146 => ?_)
                              · skip
                                refine lv_iload hx hb dX7_shadow_154 (lv_at hl 7 rfl) ?_
                                exact W.iret (v := nI j) hx hb hr (fun tS htS hWS => ⟨⟨nI j, (), rfl, (by rw [ea, if_neg c_146]; exact (run_end e2 hcY hij hj hr9 he).symm), trivial⟩, hS.F htS⟩) hS.2.2 dX7_shadow_156
                              · skip
                                refine lv_iload hx hb dX7_shadow_149 (lv_at hl 6 rfl) ?_
                                refine lv_goto (tgt := 156) hx hb dX7_shadow_151 (by decide) ?_
                                exact W.iret (v := nI i) hx hb hr (fun tS htS hWS => ⟨⟨nI i, (), rfl, (by rw [ea, if_pos (by first | exact c_146 | exact Decidable.not_not.mp c_146)]; exact (kth_at e2 hcY c0).symm), trivial⟩, hS.F htS⟩) hS.2.2 dX7_shadow_156
                            · skip
                              have c4 : j + 1 < n := ge_f (by omega) c_124
                              refine lv_iload hx hb dX7_shadow_127 (lv_at hl 4 rfl) ?_
                              refine lv_iload hx hb dX7_shadow_129 (lv_at hl 7 rfl) ?_
                              refine lv_iconst (v := 1) hx hb dX7_shadow_131 (by decide) ?_
                              refine lv_iadd hx hb dX7_shadow_132 ?_
                              refine lv_topi (fun y_15 e_16 => ?_)
                              have e_16 : nI (j + 1) = y_15 := (e_16.trans (nI_add j 1)).symm
                              subst e_16
                              refine lv_ishr hx hb dX7_shadow_133 ?_
                              refine lv_topi (fun y_17 e_18 => ?_)
                              have e_18 : nI ((bs (gsB G bl a (tp G M a)) n) / 2 ^ (j + 1)) = y_17 := (e_18.trans (pk_shrN (by omega) (nI (j + 1) &&& 31) (j + 1) (s_l (j + 1) (by omega)))).symm
                              subst e_18
                              refine lv_iconst (v := 1) hx hb dX7_shadow_134 (by decide) ?_
                              refine lv_iand hx hb dX7_shadow_135 ?_
                              refine lv_topi (fun y_19 e_20 => ?_)
                              have e_20 : nI ((bs (gsB G bl a (tp G M a)) n) / 2 ^ (j + 1) % 2) = y_19 := (e_20.trans (pk_andN (by have := Nat.div_le_self (bs (gsB G bl a (tp G M a)) n) (2 ^ (j + 1)); omega) 1 (by decide))).symm
                              subst e_20
                              refine lv_if_ne (tgt := 145) hx hb dX7_shadow_136 (by decide) (fun c_136 => ?_) (fun c_136 => ?_)
                              · skip
                                have e5 : (hidB bl G M a) (j + 1) = false := sh_seen c4 (tb_n0 c_136)
                                have he : (decide (j + 1 < n) && (hidB bl G M a) (j + 1)) = false := by rw [e5, Bool.and_false]
                                refine lv_iload_n hx hb dX7_shadow_145 rfl (lv_at hl 3 rfl) ?_
                                refine lv_if_ne (tgt := 154) hx hb dX7_shadow_146 (by decide) (fun c_146 => ?_) (fun c_146 => ?_)
                                · skip
                                  refine lv_iload hx hb dX7_shadow_154 (lv_at hl 7 rfl) ?_
                                  exact W.iret (v := nI j) hx hb hr (fun tS htS hWS => ⟨⟨nI j, (), rfl, (by rw [ea, if_neg c_146]; exact (run_end e2 hcY hij hj hr9 he).symm), trivial⟩, hS.F htS⟩) hS.2.2 dX7_shadow_156
                                · skip
                                  refine lv_iload hx hb dX7_shadow_149 (lv_at hl 6 rfl) ?_
                                  refine lv_goto (tgt := 156) hx hb dX7_shadow_151 (by decide) ?_
                                  exact W.iret (v := nI i) hx hb hr (fun tS htS hWS => ⟨⟨nI i, (), rfl, (by rw [ea, if_pos (by first | exact c_146 | exact Decidable.not_not.mp c_146)]; exact (kth_at e2 hcY c0).symm), trivial⟩, hS.F htS⟩) hS.2.2 dX7_shadow_156
                              · skip
                                have e5 : (hidB bl G M a) (j + 1) = true := sh_hid c4 (tb_e0 c_136)
                                refine lv_iinc (v := nI (j + 1)) (lv' := [(9, .int (nI (j + 1))), (0, .ref o), (1, .int (nI a)), (2, .int (nI Y)), (3, .int w), (4, .int (nI (bs (gsB G bl a (tp G M a)) n))), (5, .int (nI c9)), (6, .int (nI i))]) hx hb dX7_shadow_139 hl (k := 7) rfl (inc1 _) (by decide) rfl (fun ls hl => ?_)
                                refine lv_goto (tgt := 114) hx hb dX7_shadow_142 (by decide) ?_
                                exact ih_114 (j + 1) (by omega) (by omega) (c4) (fun t h1 h2 => by rcases Nat.lt_or_ge j t with z | z; (rw [show t = j + 1 by omega]; exact e5); exact hr9 t h1 z) _ _ hP hS ls (lv_sub hl [1, 2, 3, 4, 5, 6, 7, 0] rfl)
                        exact L_114 _ i (Nat.lt_succ_self _) (Nat.le_refl _) (c0) (fun t h1 h2 => by rw [show t = i by omega]; exact e1) _ _ hP hS ls (lv_sub hl [3, 4, 5, 6, 7, 8, 9, 0] rfl)
                  · skip
                    have i0 : ¬ i = 0 := fun q => c_77 (by rw [q]; rfl)
                    refine lv_iload hx hb dX7_shadow_80 (lv_at hl 5 rfl) ?_
                    refine lv_iload hx hb dX7_shadow_82 (lv_at hl 7 rfl) ?_
                    refine lv_iconst (v := 1) hx hb dX7_shadow_84 (by decide) ?_
                    refine lv_isub hx hb dX7_shadow_85 ?_
                    refine lv_topi (fun y_21 e_22 => ?_)
                    have e_22 : nI (i - 1) = y_21 := (e_22.trans (pk_sub (a := i) (b := 1) (by omega))).symm
                    subst e_22
                    refine lv_ishr hx hb dX7_shadow_86 ?_
                    refine lv_topi (fun y_23 e_24 => ?_)
                    have e_24 : nI ((bs (gsB G bl a (tp G M a)) n) / 2 ^ (i - 1)) = y_23 := (e_24.trans (pk_shrN (by omega) (nI (i - 1) &&& 31) (i - 1) (s_l (i - 1) (by omega)))).symm
                    subst e_24
                    refine lv_iconst (v := 1) hx hb dX7_shadow_87 (by decide) ?_
                    refine lv_iand hx hb dX7_shadow_88 ?_
                    refine lv_topi (fun y_25 e_26 => ?_)
                    have e_26 : nI ((bs (gsB G bl a (tp G M a)) n) / 2 ^ (i - 1) % 2) = y_25 := (e_26.trans (pk_andN (by have := Nat.div_le_self (bs (gsB G bl a (tp G M a)) n) (2 ^ (i - 1)); omega) 1 (by decide))).symm
                    subst e_26
                    refine lv_iconst (v := 1) hx hb dX7_shadow_89 (by decide) ?_
                    refine lv_icmp_ne (tgt := 97) hx hb dX7_shadow_90 (by decide) (fun c_90 => ?_) (fun c_90 => ?_)
                    · skip
                      have e3 : (hidB bl G M a) (i - 1) = true := sh_hid (by omega) (Bool.eq_false_iff.mpr (fun q => c_90 (tb_is.mpr q)))
                      have e2 : runS (hidB bl G M a) i = false := by unfold runS; rw [e1, e3, decide_eq_true (show 0 < i by omega)]; rfl
                      refine lv_iconst (v := 0) hx hb dX7_shadow_97 (by decide) ?_
                      refine lv_istore (lv' := [(8, .int 0), (7, .int 1), (0, .ref o), (1, .int (nI a)), (2, .int (nI Y)), (3, .int w), (4, .int (nI (bs (gsB G bl a (tp G M a)) n))), (5, .int (nI c9)), (6, .int (nI i))]) hx hb dX7_shadow_98 hl (by decide) rfl (fun ls hl => ?_)
                      refine lv_iload hx hb dX7_shadow_100 (lv_at hl 0 rfl) ?_
                      refine lv_if_eq (tgt := 157) hx hb dX7_shadow_102 (by decide) (fun c_102 => ?_) (fun c_102 => ?_)
                      · skip
                        refine lv_iload hx hb dX7_shadow_157 (lv_at hl 7 rfl) ?_
                        refine lv_iload hx hb dX7_shadow_159 (lv_at hl 0 rfl) ?_
                        refine lv_if_eq (tgt := 168) hx hb dX7_shadow_161 (by decide) (fun c_161 => ?_) (fun c_161 => ?_)
                        · skip
                          refine lv_iconst (v := 0) hx hb dX7_shadow_168 (by decide) ?_
                          refine lv_isub hx hb dX7_shadow_169 ?_
                          refine lv_topi (fun y_27 e_28 => ?_)
                          have e_28 : nI (c9 - 0) = y_27 := (e_28.trans (pk_sub (a := c9) (b := 0) (Nat.zero_le _))).symm
                          subst e_28
                          refine lv_istore (lv' := [(5, .int (nI (c9 - 0))), (8, .int 0), (7, .int 1), (0, .ref o), (1, .int (nI a)), (2, .int (nI Y)), (3, .int w), (4, .int (nI (bs (gsB G bl a (tp G M a)) n))), (6, .int (nI i))]) hx hb dX7_shadow_170 hl (by decide) rfl (fun ls hl => ?_)
                          refine lv_iinc (v := nI (i + 1)) (lv' := [(6, .int (nI (i + 1))), (5, .int (nI (c9 - 0))), (8, .int 0), (7, .int 1), (0, .ref o), (1, .int (nI a)), (2, .int (nI Y)), (3, .int w), (4, .int (nI (bs (gsB G bl a (tp G M a)) n)))]) hx hb dX7_shadow_172 hl (k := 8) rfl (inc1 _) (by decide) rfl (fun ls hl => ?_)
                          refine lv_goto (tgt := 42) hx hb dX7_shadow_175 (by decide) ?_
                          exact ih_42 (i + 1) (c9 - 0) (by omega) (by omega) (by first | (rw [fb_ct_T e2]; omega) | (rw [fb_ct_F e2]; omega) | fail) _ _ hP hS ls (lv_sub hl [4, 5, 6, 7, 8, 1, 0] rfl)
                        · skip
                          exact absurd (by decide) c_161
                      · skip
                        exact absurd (by decide) c_102
                    · skip
                      have e3 : (hidB bl G M a) (i - 1) = false := sh_seen (by omega) (tb_is.mp c_90)
                      have e2 : runS (hidB bl G M a) i = true := by unfold runS; rw [e1, e3, Bool.and_false]; rfl
                      refine lv_iconst (v := 1) hx hb dX7_shadow_93 (by decide) ?_
                      refine lv_goto (tgt := 98) hx hb dX7_shadow_94 (by decide) ?_
                      refine lv_istore (lv' := [(8, .int 1), (7, .int 1), (0, .ref o), (1, .int (nI a)), (2, .int (nI Y)), (3, .int w), (4, .int (nI (bs (gsB G bl a (tp G M a)) n))), (5, .int (nI c9)), (6, .int (nI i))]) hx hb dX7_shadow_98 hl (by decide) rfl (fun ls hl => ?_)
                      refine lv_iload hx hb dX7_shadow_100 (lv_at hl 0 rfl) ?_
                      refine lv_if_eq (tgt := 157) hx hb dX7_shadow_102 (by decide) (fun c_102 => ?_) (fun c_102 => ?_)
                      · skip
                        exact absurd c_102 (by decide)
                      · skip
                        refine lv_iload hx hb dX7_shadow_105 (lv_at hl 7 rfl) ?_
                        refine lv_if_ne (tgt := 157) hx hb dX7_shadow_107 (by decide) (fun c_107 => ?_) (fun c_107 => ?_)
                        · skip
                          have f1 : ¬ c9 = 0 := fun q => c_107 (by rw [q]; rfl)
                          refine lv_iload hx hb dX7_shadow_157 (lv_at hl 7 rfl) ?_
                          refine lv_iload hx hb dX7_shadow_159 (lv_at hl 0 rfl) ?_
                          refine lv_if_eq (tgt := 168) hx hb dX7_shadow_161 (by decide) (fun c_161 => ?_) (fun c_161 => ?_)
                          · skip
                            exact absurd c_161 (by decide)
                          · skip
                            refine lv_iconst (v := 1) hx hb dX7_shadow_164 (by decide) ?_
                            refine lv_goto (tgt := 169) hx hb dX7_shadow_165 (by decide) ?_
                            refine lv_isub hx hb dX7_shadow_169 ?_
                            refine lv_topi (fun y_29 e_30 => ?_)
                            have e_30 : nI (c9 - 1) = y_29 := (e_30.trans (pk_sub (a := c9) (b := 1) (by omega))).symm
                            subst e_30
                            refine lv_istore (lv' := [(5, .int (nI (c9 - 1))), (8, .int 1), (7, .int 1), (0, .ref o), (1, .int (nI a)), (2, .int (nI Y)), (3, .int w), (4, .int (nI (bs (gsB G bl a (tp G M a)) n))), (6, .int (nI i))]) hx hb dX7_shadow_170 hl (by decide) rfl (fun ls hl => ?_)
                            refine lv_iinc (v := nI (i + 1)) (lv' := [(6, .int (nI (i + 1))), (5, .int (nI (c9 - 1))), (8, .int 1), (7, .int 1), (0, .ref o), (1, .int (nI a)), (2, .int (nI Y)), (3, .int w), (4, .int (nI (bs (gsB G bl a (tp G M a)) n)))]) hx hb dX7_shadow_172 hl (k := 8) rfl (inc1 _) (by decide) rfl (fun ls hl => ?_)
                            refine lv_goto (tgt := 42) hx hb dX7_shadow_175 (by decide) ?_
                            exact ih_42 (i + 1) (c9 - 1) (by omega) (by omega) (by first | (rw [fb_ct_T e2]; omega) | (rw [fb_ct_F e2]; omega) | fail) _ _ hP hS ls (lv_sub hl [4, 5, 6, 7, 8, 1, 0] rfl)
                        · skip
                          have f1 : c9 = 0 := (nI_eq (a := c9) (b := 0) (by omega) (by decide)).mp c_107
                          have hcY : fb_ct (runS (hidB bl G M a)) i = Y := by omega
                          refine lv_iload hx hb dX7_shadow_110 (lv_at hl 8 rfl) ?_
                          refine lv_istore (lv' := [(9, .int (nI i)), (8, .int 1), (7, .int 1), (0, .ref o), (1, .int (nI a)), (2, .int (nI Y)), (3, .int w), (4, .int (nI (bs (gsB G bl a (tp G M a)) n))), (5, .int (nI c9)), (6, .int (nI i))]) hx hb dX7_shadow_112 hl (by decide) rfl (fun ls hl => ?_)
                          have L_114 : ∀ (k_114 : Nat) (j : Nat), n - j < k_114 → (i ≤ j) → (j < n) → (∀ t, i ≤ t → t ≤ j → (hidB bl G M a) t = true) → ∀ (H : Heap) (locs : List Loc), va_P D vwCl [(o, .inr (7, .ref q1 :: fs)), (q1, .inl (cI, 43, .inl mm))] H → va_S noA s.heap H locs → ∀ (ls : Array Slot), lv_has ls 10 [(0, .ref o), (1, .int (nI a)), (2, .int (nI Y)), (3, .int w), (4, .int (nI (bs (gsB G bl a (tp G M a)) n))), (5, .int (nI c9)), (6, .int (nI i)), (9, .int (nI j))] → W p l e (rmD 5) s m ([.ref o, .int (nI a), .int (nI Y), .int w] : List Value).toArray below meth c H locs 0 0 (MQ below (rdQi (fun r => r = A_shadow n bl G M (nI a) (nI Y) w)) ([.ref o, .int (nI a), .int (nI Y), .int w] : List Value).toArray s 0 0 noA) (F0 m 114 ls []) := by
                            intro k_114
                            induction k_114 with
                            | zero => intro j h9; exact absurd h9 (Nat.not_lt_zero _)
                            | succ k_114 ih_114 =>
                              intro j hm_114 hij hj hr9 H locs hP hS ls hl
                              refine lv_iload hx hb dX7_shadow_114 (lv_at hl 7 rfl) ?_
                              refine lv_iconst (v := 1) hx hb dX7_shadow_116 (by decide) ?_
                              refine lv_iadd hx hb dX7_shadow_117 ?_
                              refine lv_topi (fun y_31 e_32 => ?_)
                              have e_32 : nI (j + 1) = y_31 := (e_32.trans (nI_add j 1)).symm
                              subst e_32
                              refine lv_aload_n hx hb dX7_shadow_118 rfl (lv_at hl 0 rfl) ?_
                              refine va_get (D := D) (ci := 7) (v := .ref q1) (C := RX7) (T := TX7) (N := 15) hx hb hts kX7_shadow_0 hown hK hP 0 rfl rfl 0 (by decide) (hts (.fieldLink RX7 7 "SightRidgeModel" "m" "[I") kX7_shadow_1) (fun _ h9 => h9) rfl dX7_shadow_119 ?_
                              refine lv_iconst (v := 0) hx hb dX7_shadow_122 (by decide) ?_
                              refine va_iald hx hb hK hP 1 0 rfl rfl (i := nI 0) (vp_in_nI (N := 43) (by decide) (by decide)) dX7_shadow_123 ?_
                              rw [nI_clamp (n := 0) (by decide)]
                              refine lv_topi (fun y_33 e_34 => ?_)
                              have e_34 : nI n = y_33 := (e_34.trans (hm0)).symm
                              subst e_34
                              refine lv_icmp_ge (tgt := 145) hx hb dX7_shadow_124 (by decide) (fun c_124 => ?_) (fun c_124 => ?_)
                              · skip
                                have c4 : n ≤ j + 1 := ge_t (by omega) c_124
                                have he : (decide (j + 1 < n) && (hidB bl G M a) (j + 1)) = false := by rw [decide_eq_false (show ¬ j + 1 < n by omega)]; rfl
                                refine lv_iload_n hx hb dX7_shadow_145 rfl (lv_at hl 3 rfl) ?_
                                refine lv_if_ne (tgt := 154) hx hb dX7_shadow_146 (by decide) (fun c_146 => ?_) (fun c_146 => ?_)
                                · skip
                                  refine lv_iload hx hb dX7_shadow_154 (lv_at hl 7 rfl) ?_
                                  exact W.iret (v := nI j) hx hb hr (fun tS htS hWS => ⟨⟨nI j, (), rfl, (by rw [ea, if_neg c_146]; exact (run_end e2 hcY hij hj hr9 he).symm), trivial⟩, hS.F htS⟩) hS.2.2 dX7_shadow_156
                                · skip
                                  refine lv_iload hx hb dX7_shadow_149 (lv_at hl 6 rfl) ?_
                                  refine lv_goto (tgt := 156) hx hb dX7_shadow_151 (by decide) ?_
                                  exact W.iret (v := nI i) hx hb hr (fun tS htS hWS => ⟨⟨nI i, (), rfl, (by rw [ea, if_pos (by first | exact c_146 | exact Decidable.not_not.mp c_146)]; exact (kth_at e2 hcY c0).symm), trivial⟩, hS.F htS⟩) hS.2.2 dX7_shadow_156
                              · skip
                                have c4 : j + 1 < n := ge_f (by omega) c_124
                                refine lv_iload hx hb dX7_shadow_127 (lv_at hl 4 rfl) ?_
                                refine lv_iload hx hb dX7_shadow_129 (lv_at hl 7 rfl) ?_
                                refine lv_iconst (v := 1) hx hb dX7_shadow_131 (by decide) ?_
                                refine lv_iadd hx hb dX7_shadow_132 ?_
                                refine lv_topi (fun y_35 e_36 => ?_)
                                have e_36 : nI (j + 1) = y_35 := (e_36.trans (nI_add j 1)).symm
                                subst e_36
                                refine lv_ishr hx hb dX7_shadow_133 ?_
                                refine lv_topi (fun y_37 e_38 => ?_)
                                have e_38 : nI ((bs (gsB G bl a (tp G M a)) n) / 2 ^ (j + 1)) = y_37 := (e_38.trans (pk_shrN (by omega) (nI (j + 1) &&& 31) (j + 1) (s_l (j + 1) (by omega)))).symm
                                subst e_38
                                refine lv_iconst (v := 1) hx hb dX7_shadow_134 (by decide) ?_
                                refine lv_iand hx hb dX7_shadow_135 ?_
                                refine lv_topi (fun y_39 e_40 => ?_)
                                have e_40 : nI ((bs (gsB G bl a (tp G M a)) n) / 2 ^ (j + 1) % 2) = y_39 := (e_40.trans (pk_andN (by have := Nat.div_le_self (bs (gsB G bl a (tp G M a)) n) (2 ^ (j + 1)); omega) 1 (by decide))).symm
                                subst e_40
                                refine lv_if_ne (tgt := 145) hx hb dX7_shadow_136 (by decide) (fun c_136 => ?_) (fun c_136 => ?_)
                                · skip
                                  have e5 : (hidB bl G M a) (j + 1) = false := sh_seen c4 (tb_n0 c_136)
                                  have he : (decide (j + 1 < n) && (hidB bl G M a) (j + 1)) = false := by rw [e5, Bool.and_false]
                                  refine lv_iload_n hx hb dX7_shadow_145 rfl (lv_at hl 3 rfl) ?_
                                  refine lv_if_ne (tgt := 154) hx hb dX7_shadow_146 (by decide) (fun c_146 => ?_) (fun c_146 => ?_)
                                  · skip
                                    refine lv_iload hx hb dX7_shadow_154 (lv_at hl 7 rfl) ?_
                                    exact W.iret (v := nI j) hx hb hr (fun tS htS hWS => ⟨⟨nI j, (), rfl, (by rw [ea, if_neg c_146]; exact (run_end e2 hcY hij hj hr9 he).symm), trivial⟩, hS.F htS⟩) hS.2.2 dX7_shadow_156
                                  · skip
                                    refine lv_iload hx hb dX7_shadow_149 (lv_at hl 6 rfl) ?_
                                    refine lv_goto (tgt := 156) hx hb dX7_shadow_151 (by decide) ?_
                                    exact W.iret (v := nI i) hx hb hr (fun tS htS hWS => ⟨⟨nI i, (), rfl, (by rw [ea, if_pos (by first | exact c_146 | exact Decidable.not_not.mp c_146)]; exact (kth_at e2 hcY c0).symm), trivial⟩, hS.F htS⟩) hS.2.2 dX7_shadow_156
                                · skip
                                  have e5 : (hidB bl G M a) (j + 1) = true := sh_hid c4 (tb_e0 c_136)
                                  refine lv_iinc (v := nI (j + 1)) (lv' := [(9, .int (nI (j + 1))), (0, .ref o), (1, .int (nI a)), (2, .int (nI Y)), (3, .int w), (4, .int (nI (bs (gsB G bl a (tp G M a)) n))), (5, .int (nI c9)), (6, .int (nI i))]) hx hb dX7_shadow_139 hl (k := 7) rfl (inc1 _) (by decide) rfl (fun ls hl => ?_)
                                  refine lv_goto (tgt := 114) hx hb dX7_shadow_142 (by decide) ?_
                                  exact ih_114 (j + 1) (by omega) (by omega) (c4) (fun t h1 h2 => by rcases Nat.lt_or_ge j t with z | z; (rw [show t = j + 1 by omega]; exact e5); exact hr9 t h1 z) _ _ hP hS ls (lv_sub hl [1, 2, 3, 4, 5, 6, 7, 0] rfl)
                          exact L_114 _ i (Nat.lt_succ_self _) (Nat.le_refl _) (c0) (fun t h1 h2 => by rw [show t = i by omega]; exact e1) _ _ hP hS ls (lv_sub hl [3, 4, 5, 6, 7, 8, 9, 0] rfl)
        exact L_42 _ 0 Y (Nat.lt_succ_self _) (by omega) (rfl) _ _ hP hS ls (lv_sub hl [3, 4, 5, 6, 2, 1, 0] rfl)
      · skip
        have d3 := bI_e0 (h_15.symm.trans c_18)
        refine lv_bipush (v := (-2)) hx hb dX7_shadow_21 (by decide) ?_
        exact W.iret (v := -2) hx hb hr (fun tS htS hWS => ⟨⟨-2, (), rfl, (by unfold A_shadow; rw [if_neg]; intro q; first | exact Bool.false_ne_true (d1.symm.trans q.1) | exact d2 q.2.1 | exact Bool.false_ne_true (d3.symm.trans q.2.2) | fail), trivial⟩, hS.F htS⟩) hS.2.2 dX7_shadow_23
