/-! the law's methods that read its row of ints alone -/
theorem kL_low_0 : (.constant RL 8 (2147483647) : Cond) ∈ wsL_low := by decide +kernel
set_option maxHeartbeats 4000000 in
set_option maxRecDepth 100000 in
/-- low(v, n) -/
theorem c_L_low (l : Launch) (D : va_G) (cI cB cO : ClassId) (v : Int32) (n : Nat) (h0 : 0 < n) (hn : n < 2 ^ 31) : Met l yL_low wsL_low (rmD 1) (rdPc D (tyL cI cB cO) [.int v, .int (nI n)] []) (rdQi (fun r => ∃ j, j < n ∧ r = nI j)) 0 0 noA := by
  refine Met.ofW (cc := cL_low) (maxL := 2) (ret := (some .int)) (by decide) rfl ?_
  intro p e s m args below meth c s₁ B hml hv
  obtain ⟨rfl, hP, hK, hN⟩ := hv
  have hx := B.exec
  have hb := B.bytes
  have hr := B.returns
  have hts := atoms_spec (ws := wsL_low) B.pre
  have hown : s.vm.findClass RL = some m.cls := findClass_of_methodNamed B.named
  have hlocks := B.notSynchronized
  have hS : va_S noA s.heap s.heap [] := va_S.rf
  have hl := lv_entry ([.int v, .int (nI n)]) (n := 2) (Nat.le_of_ble_eq_true rfl)
  rw [lg_entry_eq]
  generalize (lg_sl ([.int v, .int (nI n)]) ++ List.replicate (2 - (lg_sl ([.int v, .int (nI n)])).length) Slot.unset).toArray = ls at hl ⊢
  have hl : lv_has ls 2 [(0, .int v), (1, .int (nI n))] := hl
  refine lv_iload_n hx hb dL_low_0 rfl (lv_at hl 0 rfl) ?_
  refine lv_ldc (v := 2147483647) hx hb hown (hts (.constant RL 8 (2147483647)) kL_low_0) dL_low_1 ?_
  refine lv_iand hx hb dL_low_3 ?_
  refine lv_iload_n hx hb dL_low_4 rfl (lv_at hl 1 rfl) ?_
  refine lv_irem hx hb dL_low_5 (lw_ne0 h0 hn) ?_
  exact W.iret (v := (v &&& 2147483647) - (v &&& 2147483647) / (nI n) * (nI n)) hx hb hr (fun tS htS hWS => ⟨⟨(v &&& 2147483647) - (v &&& 2147483647) / (nI n) * (nI n), (), rfl, (lw_low h0 hn), trivial⟩, hS.F htS⟩) hS.2.2 dL_low_6
set_option maxHeartbeats 4000000 in
set_option maxRecDepth 100000 in
/-- top(a, k) -/
theorem c_L_top (l : Launch) (D : va_G) (cI cB cO : ClassId) (qa : Nat) (f : Nat → Int32) (k : Nat) (hk : k < 8) : Met l yL_top wsL_top (rmD 1) (rdPc D (tyL cI cB cO) [.ref qa, .int (nI k)] [(qa, .inl (cI, 20, .inl f))]) (rdQi (fun r => r = tp f (M8 f) k)) 0 0 noA := by
  refine Met.ofW (cc := cL_top) (maxL := 2) (ret := (some .int)) (by decide) rfl ?_
  intro p e s m args below meth c s₁ B hml hv
  obtain ⟨rfl, hP, hK, hN⟩ := hv
  have hx := B.exec
  have hb := B.bytes
  have hr := B.returns
  have hts := atoms_spec (ws := wsL_top) B.pre
  have hown : s.vm.findClass RL = some m.cls := findClass_of_methodNamed B.named
  have hlocks := B.notSynchronized
  have hS : va_S noA s.heap s.heap [] := va_S.rf
  have hl := lv_entry ([.ref qa, .int (nI k)]) (n := 2) (Nat.le_of_ble_eq_true rfl)
  rw [lg_entry_eq]
  generalize (lg_sl ([.ref qa, .int (nI k)]) ++ List.replicate (2 - (lg_sl ([.ref qa, .int (nI k)])).length) Slot.unset).toArray = ls at hl ⊢
  have hl : lv_has ls 2 [(0, .ref qa), (1, .int (nI k))] := hl
  refine lv_aload_n hx hb dL_top_0 rfl (lv_at hl 0 rfl) ?_
  refine lv_iload_n hx hb dL_top_1 rfl (lv_at hl 1 rfl) ?_
  refine va_iald hx hb hK hP 0 0 rfl rfl (i := nI k) (vp_in_nI (N := 20) (by omega) (by decide)) dL_top_2 ?_
  rw [nI_clamp (n := k) (by omega)]
  refine lv_aload_n hx hb dL_top_3 rfl (lv_at hl 0 rfl) ?_
  refine lv_bipush (v := 8) hx hb dL_top_4 (by decide) ?_
  refine lv_iload_n hx hb dL_top_6 rfl (lv_at hl 1 rfl) ?_
  refine lv_iadd hx hb dL_top_7 ?_
  refine lv_topi (fun y_1 e_2 => ?_)
  have e_2 : nI (8 + k) = y_1 := (e_2.trans (nI_add 8 k)).symm
  subst e_2
  refine va_iald hx hb hK hP 0 0 rfl rfl (i := nI (8 + k)) (vp_in_nI (N := 20) (by omega) (by decide)) dL_top_8 ?_
  rw [nI_clamp (n := 8 + k) (by omega)]
  refine lv_iadd hx hb dL_top_9 ?_
  exact W.iret (v := (f k) + (f (8 + k))) hx hb hr (fun tS htS hWS => ⟨⟨(f k) + (f (8 + k)), (), rfl, rfl, trivial⟩, hS.F htS⟩) hS.2.2 dL_top_10
set_option maxHeartbeats 4000000 in
set_option maxRecDepth 100000 in
/-- meet(a, s, p, t, q) -/
theorem c_L_meet (l : Launch) (D : va_G) (cI cB cO : ClassId) (qa : Nat) (f : Nat → Int32) (n : Nat) (s0 : Nat) (p0 : Int32) (t0 : Nat) (q0 : Int32) (hR : RF f n) (hs : s0 < n) (ht : t0 < n) (hp : ∃ z, z ≤ 1199 ∧ p0 = nI z) (hq : ∃ z, z ≤ 1199 ∧ q0 = nI z) : Met l yL_meet wsL_meet (rmD 1) (rdPc D (tyL cI cB cO) [.ref qa, .int (nI s0), .int p0, .int (nI t0), .int q0] [(qa, .inl (cI, 20, .inl f))]) (rdQi (fun r => r = bI (seesB f (f 18) s0 p0 t0 q0))) 0 0 noA := by
  refine Met.ofW (cc := cL_meet) (maxL := 10) (ret := (some .boolean)) (by decide) rfl ?_
  intro p e s m args below meth c s₁ B hml hv
  obtain ⟨rfl, hP, hK, hN⟩ := hv
  have hx := B.exec
  have hb := B.bytes
  have hr := B.returns
  have hts := atoms_spec (ws := wsL_meet) B.pre
  have hown : s.vm.findClass RL = some m.cls := findClass_of_methodNamed B.named
  have hlocks := B.notSynchronized
  have hS : va_S noA s.heap s.heap [] := va_S.rf
  have hl := lv_entry ([.ref qa, .int (nI s0), .int p0, .int (nI t0), .int q0]) (n := 10) (Nat.le_of_ble_eq_true rfl)
  rw [lg_entry_eq]
  generalize (lg_sl ([.ref qa, .int (nI s0), .int p0, .int (nI t0), .int q0]) ++ List.replicate (10 - (lg_sl ([.ref qa, .int (nI s0), .int p0, .int (nI t0), .int q0])).length) Slot.unset).toArray = ls at hl ⊢
  have hl : lv_has ls 10 [(0, .ref qa), (1, .int (nI s0)), (2, .int p0), (3, .int (nI t0)), (4, .int q0)] := hl
  have h8 : n ≤ 8 := hR.2.1
  have h2n : 2 ≤ n := hR.n2
  have h16 : f 16 = nI n := hR.1
  have hd8 : dd s0 t0 ≤ 8 := by unfold dd; split <;> omega
  refine lv_iconst (v := 1) hx hb dL_meet_0 (by decide) ?_
  refine lv_istore (lv' := [(5, .int 1), (0, .ref qa), (1, .int (nI s0)), (2, .int p0), (3, .int (nI t0)), (4, .int q0)]) hx hb dL_meet_1 hl (by decide) rfl (fun ls hl => ?_)
  refine lv_iload_n hx hb dL_meet_3 rfl (lv_at hl 2 rfl) ?_
  refine lv_iload_n hx hb dL_meet_4 rfl (lv_at hl 4 rfl) ?_
  refine lv_icmp_ge (tgt := 14) hx hb dL_meet_5 (by decide) (fun c_5 => ?_) (fun c_5 => ?_)
  · skip
    have g5 : t0 ≤ s0 := ge_t (by omega) c_5
    refine lv_iload_n hx hb dL_meet_14 rfl (lv_at hl 2 rfl) ?_
    refine lv_iload_n hx hb dL_meet_15 rfl (lv_at hl 4 rfl) ?_
    refine lv_isub hx hb dL_meet_16 ?_
    refine lv_topi (fun y_1 e_2 => ?_)
    have e_2 : nI (dd s0 t0) = y_1 := (e_2.trans (pk_sub3 g5)).symm
    subst e_2
    refine lv_istore (lv' := [(6, .int (nI (dd s0 t0))), (5, .int 1), (0, .ref qa), (1, .int (nI s0)), (2, .int p0), (3, .int (nI t0)), (4, .int q0)]) hx hb dL_meet_17 hl (by decide) rfl (fun ls hl => ?_)
    refine lv_iconst (v := 1) hx hb dL_meet_19 (by decide) ?_
    refine lv_istore (lv' := [(7, .int 1), (6, .int (nI (dd s0 t0))), (5, .int 1), (0, .ref qa), (1, .int (nI s0)), (2, .int p0), (3, .int (nI t0)), (4, .int q0)]) hx hb dL_meet_20 hl (by decide) rfl (fun ls hl => ?_)
    have L_22 : ∀ (k_22 : Nat) (j : Nat) (v : Int32), dd s0 t0 + 1 - j < k_22 → (1 ≤ j) → (j ≤ max 1 (dd s0 t0)) → (v = bI (mB f s0 p0 t0 q0 j)) → ∀ (H : Heap) (locs : List Loc), va_P D vwCl [(qa, .inl (cI, 20, .inl f))] H → va_S noA s.heap H locs → ∀ (ls : Array Slot), lv_has ls 10 [(0, .ref qa), (1, .int (nI s0)), (2, .int p0), (3, .int (nI t0)), (4, .int q0), (5, .int v), (6, .int (nI (dd s0 t0))), (7, .int (nI j))] → W p l e (rmD 1) s m ([.ref qa, .int (nI s0), .int p0, .int (nI t0), .int q0] : List Value).toArray below meth c H locs 0 0 (MQ below (rdQi (fun r => r = bI (seesB f (f 18) s0 p0 t0 q0))) ([.ref qa, .int (nI s0), .int p0, .int (nI t0), .int q0] : List Value).toArray s 0 0 noA) (F0 m 22 ls []) := by
      intro k_22
      induction k_22 with
      | zero => intro j v h9; exact absurd h9 (Nat.not_lt_zero _)
      | succ k_22 ih_22 =>
        intro j v hm_22 hj1 hj2 hv H locs hP hS ls hl
        refine lv_iload hx hb dL_meet_22 (lv_at hl 7 rfl) ?_
        refine lv_iload hx hb dL_meet_24 (lv_at hl 6 rfl) ?_
        refine lv_icmp_ge (tgt := 103) hx hb dL_meet_26 (by decide) (fun c_26 => ?_) (fun c_26 => ?_)
        · skip
          have g26 : dd s0 t0 ≤ j := ge_t (by omega) c_26
          refine lv_iload hx hb dL_meet_103 (lv_at hl 5 rfl) ?_
          exact W.zret (v := v) hx hb hr ((by rw [hv]; exact bI_nar _)) (fun tS htS hWS => ⟨⟨v, (), rfl, (by rw [hv, mB_end g26 hj2]), trivial⟩, hS.F htS⟩) hS.2.2 dL_meet_105
        · skip
          have g26 : j < dd s0 t0 := ge_f (by omega) c_26
          obtain ⟨-, hm⟩ := lw_meet hR hs ht hp hq g26
          refine lv_iload_n hx hb dL_meet_29 rfl (lv_at hl 1 rfl) ?_
          refine lv_iload_n hx hb dL_meet_30 rfl (lv_at hl 3 rfl) ?_
          refine lv_icmp_ge (tgt := 41) hx hb dL_meet_31 (by decide) (fun c_31 => ?_) (fun c_31 => ?_)
          · skip
            have g31 : t0 ≤ s0 := ge_t (by omega) c_31
            rw [mkS_ge g31] at hm
            have hjs : j ≤ s0 := by unfold dd at g26; split at g26 <;> omega
            refine lv_iload_n hx hb dL_meet_41 rfl (lv_at hl 1 rfl) ?_
            refine lv_iload hx hb dL_meet_42 (lv_at hl 7 rfl) ?_
            refine lv_isub hx hb dL_meet_44 ?_
            refine lv_topi (fun y_3 e_4 => ?_)
            have e_4 : nI (s0 - j) = y_3 := (e_4.trans (pk_sub hjs)).symm
            subst e_4
            refine lv_istore (lv' := [(8, .int (nI (s0 - j))), (0, .ref qa), (1, .int (nI s0)), (2, .int p0), (3, .int (nI t0)), (4, .int q0), (5, .int v), (6, .int (nI (dd s0 t0))), (7, .int (nI j))]) hx hb dL_meet_45 hl (by decide) rfl (fun ls hl => ?_)
            refine lv_iload hx hb dL_meet_47 (lv_at hl 7 rfl) ?_
            refine lv_iload_n hx hb dL_meet_49 rfl (lv_at hl 3 rfl) ?_
            refine lv_imul hx hb dL_meet_50 ?_
            refine lv_iload hx hb dL_meet_51 (lv_at hl 5 rfl) ?_
            refine lv_iload_n hx hb dL_meet_53 rfl (lv_at hl 3 rfl) ?_
            refine lv_isub hx hb dL_meet_54 ?_
            refine lv_iload hx hb dL_meet_55 (lv_at hl 8 rfl) ?_
            refine lv_imul hx hb dL_meet_57 ?_
            refine lv_iadd hx hb dL_meet_58 ?_
            refine lv_istore (lv' := [(9, .int (((nI (dd s0 t0)) * p0) + ((q0 - p0) * (nI j)))), (8, .int (nI (s0 - j))), (0, .ref qa), (1, .int (nI s0)), (2, .int p0), (3, .int (nI t0)), (4, .int q0), (5, .int v), (6, .int (nI (dd s0 t0))), (7, .int (nI j))]) hx hb dL_meet_59 hl (by decide) rfl (fun ls hl => ?_)
            refine lv_iload hx hb dL_meet_61 (lv_at hl 7 rfl) ?_
            refine lv_iload hx hb dL_meet_63 (lv_at hl 0 rfl) ?_
            refine lv_iload hx hb dL_meet_65 (lv_at hl 8 rfl) ?_
            refine lv_aload_n hx hb dL_meet_67 rfl (lv_at hl 2 rfl) ?_
            refine lv_iload hx hb dL_meet_68 (lv_at hl 1 rfl) ?_
            refine va_iald hx hb hK hP 0 0 rfl rfl (i := nI (s0 - j)) (vp_in_nI (N := 20) (by omega) (by decide)) dL_meet_70 ?_
            rw [nI_clamp (n := s0 - j) (by omega)]
            refine lv_aload_n hx hb dL_meet_71 rfl (lv_at hl 2 rfl) ?_
            refine lv_bipush (v := 18) hx hb dL_meet_72 (by decide) ?_
            refine va_iald hx hb hK hP 0 0 rfl rfl (i := nI 18) (vp_in_nI (N := 20) (by decide) (by decide)) dL_meet_74 ?_
            rw [nI_clamp (n := 18) (by decide)]
            refine lv_iload hx hb dL_meet_75 (lv_at hl 9 rfl) ?_
            refine lv_imul hx hb dL_meet_77 ?_
            refine lv_iload hx hb dL_meet_78 (lv_at hl 8 rfl) ?_
            refine lv_iload hx hb dL_meet_80 (lv_at hl 9 rfl) ?_
            refine lv_isub hx hb dL_meet_82 ?_
            refine lv_imul hx hb dL_meet_83 ?_
            refine lv_iadd hx hb dL_meet_84 ?_
            refine lv_imul hx hb dL_meet_85 ?_
            refine lv_icmp_lt (tgt := 93) hx hb dL_meet_86 (by decide) (fun c_86 => ?_) (fun c_86 => ?_)
            · skip
              have hk9 := hm.mp c_86
              refine lv_iconst (v := 0) hx hb dL_meet_93 (by decide) ?_
              refine lv_iand hx hb dL_meet_94 ?_
              refine lv_istore (lv' := [(5, .int (v &&& 0)), (9, .int (((nI (dd s0 t0)) * p0) + ((q0 - p0) * (nI j)))), (8, .int (nI (s0 - j))), (0, .ref qa), (1, .int (nI s0)), (2, .int p0), (3, .int (nI t0)), (4, .int q0), (6, .int (nI (dd s0 t0))), (7, .int (nI j))]) hx hb dL_meet_95 hl (by decide) rfl (fun ls hl => ?_)
              refine lv_iinc (v := nI (j + 1)) (lv' := [(7, .int (nI (j + 1))), (5, .int (v &&& 0)), (9, .int (((nI (dd s0 t0)) * p0) + ((q0 - p0) * (nI j)))), (8, .int (nI (s0 - j))), (0, .ref qa), (1, .int (nI s0)), (2, .int p0), (3, .int (nI t0)), (4, .int q0), (6, .int (nI (dd s0 t0)))]) hx hb dL_meet_97 hl (k := 9) rfl (inc1 _) (by decide) rfl (fun ls hl => ?_)
              refine lv_goto (tgt := 22) hx hb dL_meet_100 (by decide) ?_
              exact ih_22 (j + 1) (v &&& 0) (by omega) (by omega) (by omega) (by rw [hv]; exact mB_F hj1 (by rw [mkS_ge g31]; exact hk9)) _ _ hP hS ls (lv_sub hl [4, 5, 6, 7, 8, 1, 9, 0] rfl)
            · skip
              have hk9 := fun z => c_86 (hm.mpr z)
              refine lv_iconst (v := 1) hx hb dL_meet_89 (by decide) ?_
              refine lv_goto (tgt := 94) hx hb dL_meet_90 (by decide) ?_
              refine lv_iand hx hb dL_meet_94 ?_
              refine lv_istore (lv' := [(5, .int (v &&& 1)), (9, .int (((nI (dd s0 t0)) * p0) + ((q0 - p0) * (nI j)))), (8, .int (nI (s0 - j))), (0, .ref qa), (1, .int (nI s0)), (2, .int p0), (3, .int (nI t0)), (4, .int q0), (6, .int (nI (dd s0 t0))), (7, .int (nI j))]) hx hb dL_meet_95 hl (by decide) rfl (fun ls hl => ?_)
              refine lv_iinc (v := nI (j + 1)) (lv' := [(7, .int (nI (j + 1))), (5, .int (v &&& 1)), (9, .int (((nI (dd s0 t0)) * p0) + ((q0 - p0) * (nI j)))), (8, .int (nI (s0 - j))), (0, .ref qa), (1, .int (nI s0)), (2, .int p0), (3, .int (nI t0)), (4, .int q0), (6, .int (nI (dd s0 t0)))]) hx hb dL_meet_97 hl (k := 9) rfl (inc1 _) (by decide) rfl (fun ls hl => ?_)
              refine lv_goto (tgt := 22) hx hb dL_meet_100 (by decide) ?_
              exact ih_22 (j + 1) (v &&& 1) (by omega) (by omega) (by omega) (by rw [hv]; exact mB_T (by rw [mkS_ge g31]; exact hk9)) _ _ hP hS ls (lv_sub hl [4, 5, 6, 7, 8, 1, 9, 0] rfl)
          · skip
            have g31 : s0 < t0 := ge_f (by omega) c_31
            rw [mkS_lt g31] at hm
            have hjs : s0 + j < t0 := by unfold dd at g26; split at g26 <;> omega
            refine lv_iload_n hx hb dL_meet_34 rfl (lv_at hl 1 rfl) ?_
            refine lv_iload hx hb dL_meet_35 (lv_at hl 7 rfl) ?_
            refine lv_iadd hx hb dL_meet_37 ?_
            refine lv_topi (fun y_5 e_6 => ?_)
            have e_6 : nI (s0 + j) = y_5 := (e_6.trans (nI_add s0 j)).symm
            subst e_6
            refine lv_goto (tgt := 45) hx hb dL_meet_38 (by decide) ?_
            refine lv_istore (lv' := [(8, .int (nI (s0 + j))), (0, .ref qa), (1, .int (nI s0)), (2, .int p0), (3, .int (nI t0)), (4, .int q0), (5, .int v), (6, .int (nI (dd s0 t0))), (7, .int (nI j))]) hx hb dL_meet_45 hl (by decide) rfl (fun ls hl => ?_)
            refine lv_iload hx hb dL_meet_47 (lv_at hl 7 rfl) ?_
            refine lv_iload_n hx hb dL_meet_49 rfl (lv_at hl 3 rfl) ?_
            refine lv_imul hx hb dL_meet_50 ?_
            refine lv_iload hx hb dL_meet_51 (lv_at hl 5 rfl) ?_
            refine lv_iload_n hx hb dL_meet_53 rfl (lv_at hl 3 rfl) ?_
            refine lv_isub hx hb dL_meet_54 ?_
            refine lv_iload hx hb dL_meet_55 (lv_at hl 8 rfl) ?_
            refine lv_imul hx hb dL_meet_57 ?_
            refine lv_iadd hx hb dL_meet_58 ?_
            refine lv_istore (lv' := [(9, .int (((nI (dd s0 t0)) * p0) + ((q0 - p0) * (nI j)))), (8, .int (nI (s0 + j))), (0, .ref qa), (1, .int (nI s0)), (2, .int p0), (3, .int (nI t0)), (4, .int q0), (5, .int v), (6, .int (nI (dd s0 t0))), (7, .int (nI j))]) hx hb dL_meet_59 hl (by decide) rfl (fun ls hl => ?_)
            refine lv_iload hx hb dL_meet_61 (lv_at hl 7 rfl) ?_
            refine lv_iload hx hb dL_meet_63 (lv_at hl 0 rfl) ?_
            refine lv_iload hx hb dL_meet_65 (lv_at hl 8 rfl) ?_
            refine lv_aload_n hx hb dL_meet_67 rfl (lv_at hl 2 rfl) ?_
            refine lv_iload hx hb dL_meet_68 (lv_at hl 1 rfl) ?_
            refine va_iald hx hb hK hP 0 0 rfl rfl (i := nI (s0 + j)) (vp_in_nI (N := 20) (by omega) (by decide)) dL_meet_70 ?_
            rw [nI_clamp (n := s0 + j) (by omega)]
            refine lv_aload_n hx hb dL_meet_71 rfl (lv_at hl 2 rfl) ?_
            refine lv_bipush (v := 18) hx hb dL_meet_72 (by decide) ?_
            refine va_iald hx hb hK hP 0 0 rfl rfl (i := nI 18) (vp_in_nI (N := 20) (by decide) (by decide)) dL_meet_74 ?_
            rw [nI_clamp (n := 18) (by decide)]
            refine lv_iload hx hb dL_meet_75 (lv_at hl 9 rfl) ?_
            refine lv_imul hx hb dL_meet_77 ?_
            refine lv_iload hx hb dL_meet_78 (lv_at hl 8 rfl) ?_
            refine lv_iload hx hb dL_meet_80 (lv_at hl 9 rfl) ?_
            refine lv_isub hx hb dL_meet_82 ?_
            refine lv_imul hx hb dL_meet_83 ?_
            refine lv_iadd hx hb dL_meet_84 ?_
            refine lv_imul hx hb dL_meet_85 ?_
            refine lv_icmp_lt (tgt := 93) hx hb dL_meet_86 (by decide) (fun c_86 => ?_) (fun c_86 => ?_)
            · skip
              have hk9 := hm.mp c_86
              refine lv_iconst (v := 0) hx hb dL_meet_93 (by decide) ?_
              refine lv_iand hx hb dL_meet_94 ?_
              refine lv_istore (lv' := [(5, .int (v &&& 0)), (9, .int (((nI (dd s0 t0)) * p0) + ((q0 - p0) * (nI j)))), (8, .int (nI (s0 + j))), (0, .ref qa), (1, .int (nI s0)), (2, .int p0), (3, .int (nI t0)), (4, .int q0), (6, .int (nI (dd s0 t0))), (7, .int (nI j))]) hx hb dL_meet_95 hl (by decide) rfl (fun ls hl => ?_)
              refine lv_iinc (v := nI (j + 1)) (lv' := [(7, .int (nI (j + 1))), (5, .int (v &&& 0)), (9, .int (((nI (dd s0 t0)) * p0) + ((q0 - p0) * (nI j)))), (8, .int (nI (s0 + j))), (0, .ref qa), (1, .int (nI s0)), (2, .int p0), (3, .int (nI t0)), (4, .int q0), (6, .int (nI (dd s0 t0)))]) hx hb dL_meet_97 hl (k := 9) rfl (inc1 _) (by decide) rfl (fun ls hl => ?_)
              refine lv_goto (tgt := 22) hx hb dL_meet_100 (by decide) ?_
              exact ih_22 (j + 1) (v &&& 0) (by omega) (by omega) (by omega) (by rw [hv]; exact mB_F hj1 (by rw [mkS_lt g31]; exact hk9)) _ _ hP hS ls (lv_sub hl [4, 5, 6, 7, 8, 1, 9, 0] rfl)
            · skip
              have hk9 := fun z => c_86 (hm.mpr z)
              refine lv_iconst (v := 1) hx hb dL_meet_89 (by decide) ?_
              refine lv_goto (tgt := 94) hx hb dL_meet_90 (by decide) ?_
              refine lv_iand hx hb dL_meet_94 ?_
              refine lv_istore (lv' := [(5, .int (v &&& 1)), (9, .int (((nI (dd s0 t0)) * p0) + ((q0 - p0) * (nI j)))), (8, .int (nI (s0 + j))), (0, .ref qa), (1, .int (nI s0)), (2, .int p0), (3, .int (nI t0)), (4, .int q0), (6, .int (nI (dd s0 t0))), (7, .int (nI j))]) hx hb dL_meet_95 hl (by decide) rfl (fun ls hl => ?_)
              refine lv_iinc (v := nI (j + 1)) (lv' := [(7, .int (nI (j + 1))), (5, .int (v &&& 1)), (9, .int (((nI (dd s0 t0)) * p0) + ((q0 - p0) * (nI j)))), (8, .int (nI (s0 + j))), (0, .ref qa), (1, .int (nI s0)), (2, .int p0), (3, .int (nI t0)), (4, .int q0), (6, .int (nI (dd s0 t0)))]) hx hb dL_meet_97 hl (k := 9) rfl (inc1 _) (by decide) rfl (fun ls hl => ?_)
              refine lv_goto (tgt := 22) hx hb dL_meet_100 (by decide) ?_
              exact ih_22 (j + 1) (v &&& 1) (by omega) (by omega) (by omega) (by rw [hv]; exact mB_T (by rw [mkS_lt g31]; exact hk9)) _ _ hP hS ls (lv_sub hl [4, 5, 6, 7, 8, 1, 9, 0] rfl)
    exact L_22 _ 1 1 (Nat.lt_succ_self _) (by omega) (by omega) ((mB_1 f s0 p0 t0 q0).symm) _ _ hP hS ls (lv_sub hl [3, 4, 5, 6, 7, 2, 1, 0] rfl)
  · skip
    have g5 : s0 < t0 := ge_f (by omega) c_5
    refine lv_iload_n hx hb dL_meet_8 rfl (lv_at hl 4 rfl) ?_
    refine lv_iload_n hx hb dL_meet_9 rfl (lv_at hl 2 rfl) ?_
    refine lv_isub hx hb dL_meet_10 ?_
    refine lv_topi (fun y_7 e_8 => ?_)
    have e_8 : nI (dd s0 t0) = y_7 := (e_8.trans (pk_sub2 g5)).symm
    subst e_8
    refine lv_goto (tgt := 17) hx hb dL_meet_11 (by decide) ?_
    refine lv_istore (lv' := [(6, .int (nI (dd s0 t0))), (5, .int 1), (0, .ref qa), (1, .int (nI s0)), (2, .int p0), (3, .int (nI t0)), (4, .int q0)]) hx hb dL_meet_17 hl (by decide) rfl (fun ls hl => ?_)
    refine lv_iconst (v := 1) hx hb dL_meet_19 (by decide) ?_
    refine lv_istore (lv' := [(7, .int 1), (6, .int (nI (dd s0 t0))), (5, .int 1), (0, .ref qa), (1, .int (nI s0)), (2, .int p0), (3, .int (nI t0)), (4, .int q0)]) hx hb dL_meet_20 hl (by decide) rfl (fun ls hl => ?_)
    have L_22 : ∀ (k_22 : Nat) (j : Nat) (v : Int32), dd s0 t0 + 1 - j < k_22 → (1 ≤ j) → (j ≤ max 1 (dd s0 t0)) → (v = bI (mB f s0 p0 t0 q0 j)) → ∀ (H : Heap) (locs : List Loc), va_P D vwCl [(qa, .inl (cI, 20, .inl f))] H → va_S noA s.heap H locs → ∀ (ls : Array Slot), lv_has ls 10 [(0, .ref qa), (1, .int (nI s0)), (2, .int p0), (3, .int (nI t0)), (4, .int q0), (5, .int v), (6, .int (nI (dd s0 t0))), (7, .int (nI j))] → W p l e (rmD 1) s m ([.ref qa, .int (nI s0), .int p0, .int (nI t0), .int q0] : List Value).toArray below meth c H locs 0 0 (MQ below (rdQi (fun r => r = bI (seesB f (f 18) s0 p0 t0 q0))) ([.ref qa, .int (nI s0), .int p0, .int (nI t0), .int q0] : List Value).toArray s 0 0 noA) (F0 m 22 ls []) := by
      intro k_22
      induction k_22 with
      | zero => intro j v h9; exact absurd h9 (Nat.not_lt_zero _)
      | succ k_22 ih_22 =>
        intro j v hm_22 hj1 hj2 hv H locs hP hS ls hl
        refine lv_iload hx hb dL_meet_22 (lv_at hl 7 rfl) ?_
        refine lv_iload hx hb dL_meet_24 (lv_at hl 6 rfl) ?_
        refine lv_icmp_ge (tgt := 103) hx hb dL_meet_26 (by decide) (fun c_26 => ?_) (fun c_26 => ?_)
        · skip
          have g26 : dd s0 t0 ≤ j := ge_t (by omega) c_26
          refine lv_iload hx hb dL_meet_103 (lv_at hl 5 rfl) ?_
          exact W.zret (v := v) hx hb hr ((by rw [hv]; exact bI_nar _)) (fun tS htS hWS => ⟨⟨v, (), rfl, (by rw [hv, mB_end g26 hj2]), trivial⟩, hS.F htS⟩) hS.2.2 dL_meet_105
        · skip
          have g26 : j < dd s0 t0 := ge_f (by omega) c_26
          obtain ⟨-, hm⟩ := lw_meet hR hs ht hp hq g26
          refine lv_iload_n hx hb dL_meet_29 rfl (lv_at hl 1 rfl) ?_
          refine lv_iload_n hx hb dL_meet_30 rfl (lv_at hl 3 rfl) ?_
          refine lv_icmp_ge (tgt := 41) hx hb dL_meet_31 (by decide) (fun c_31 => ?_) (fun c_31 => ?_)
          · skip
            have g31 : t0 ≤ s0 := ge_t (by omega) c_31
            rw [mkS_ge g31] at hm
            have hjs : j ≤ s0 := by unfold dd at g26; split at g26 <;> omega
            refine lv_iload_n hx hb dL_meet_41 rfl (lv_at hl 1 rfl) ?_
            refine lv_iload hx hb dL_meet_42 (lv_at hl 7 rfl) ?_
            refine lv_isub hx hb dL_meet_44 ?_
            refine lv_topi (fun y_9 e_10 => ?_)
            have e_10 : nI (s0 - j) = y_9 := (e_10.trans (pk_sub hjs)).symm
            subst e_10
            refine lv_istore (lv' := [(8, .int (nI (s0 - j))), (0, .ref qa), (1, .int (nI s0)), (2, .int p0), (3, .int (nI t0)), (4, .int q0), (5, .int v), (6, .int (nI (dd s0 t0))), (7, .int (nI j))]) hx hb dL_meet_45 hl (by decide) rfl (fun ls hl => ?_)
            refine lv_iload hx hb dL_meet_47 (lv_at hl 7 rfl) ?_
            refine lv_iload_n hx hb dL_meet_49 rfl (lv_at hl 3 rfl) ?_
            refine lv_imul hx hb dL_meet_50 ?_
            refine lv_iload hx hb dL_meet_51 (lv_at hl 5 rfl) ?_
            refine lv_iload_n hx hb dL_meet_53 rfl (lv_at hl 3 rfl) ?_
            refine lv_isub hx hb dL_meet_54 ?_
            refine lv_iload hx hb dL_meet_55 (lv_at hl 8 rfl) ?_
            refine lv_imul hx hb dL_meet_57 ?_
            refine lv_iadd hx hb dL_meet_58 ?_
            refine lv_istore (lv' := [(9, .int (((nI (dd s0 t0)) * p0) + ((q0 - p0) * (nI j)))), (8, .int (nI (s0 - j))), (0, .ref qa), (1, .int (nI s0)), (2, .int p0), (3, .int (nI t0)), (4, .int q0), (5, .int v), (6, .int (nI (dd s0 t0))), (7, .int (nI j))]) hx hb dL_meet_59 hl (by decide) rfl (fun ls hl => ?_)
            refine lv_iload hx hb dL_meet_61 (lv_at hl 7 rfl) ?_
            refine lv_iload hx hb dL_meet_63 (lv_at hl 0 rfl) ?_
            refine lv_iload hx hb dL_meet_65 (lv_at hl 8 rfl) ?_
            refine lv_aload_n hx hb dL_meet_67 rfl (lv_at hl 2 rfl) ?_
            refine lv_iload hx hb dL_meet_68 (lv_at hl 1 rfl) ?_
            refine va_iald hx hb hK hP 0 0 rfl rfl (i := nI (s0 - j)) (vp_in_nI (N := 20) (by omega) (by decide)) dL_meet_70 ?_
            rw [nI_clamp (n := s0 - j) (by omega)]
            refine lv_aload_n hx hb dL_meet_71 rfl (lv_at hl 2 rfl) ?_
            refine lv_bipush (v := 18) hx hb dL_meet_72 (by decide) ?_
            refine va_iald hx hb hK hP 0 0 rfl rfl (i := nI 18) (vp_in_nI (N := 20) (by decide) (by decide)) dL_meet_74 ?_
            rw [nI_clamp (n := 18) (by decide)]
            refine lv_iload hx hb dL_meet_75 (lv_at hl 9 rfl) ?_
            refine lv_imul hx hb dL_meet_77 ?_
            refine lv_iload hx hb dL_meet_78 (lv_at hl 8 rfl) ?_
            refine lv_iload hx hb dL_meet_80 (lv_at hl 9 rfl) ?_
            refine lv_isub hx hb dL_meet_82 ?_
            refine lv_imul hx hb dL_meet_83 ?_
            refine lv_iadd hx hb dL_meet_84 ?_
            refine lv_imul hx hb dL_meet_85 ?_
            refine lv_icmp_lt (tgt := 93) hx hb dL_meet_86 (by decide) (fun c_86 => ?_) (fun c_86 => ?_)
            · skip
              have hk9 := hm.mp c_86
              refine lv_iconst (v := 0) hx hb dL_meet_93 (by decide) ?_
              refine lv_iand hx hb dL_meet_94 ?_
              refine lv_istore (lv' := [(5, .int (v &&& 0)), (9, .int (((nI (dd s0 t0)) * p0) + ((q0 - p0) * (nI j)))), (8, .int (nI (s0 - j))), (0, .ref qa), (1, .int (nI s0)), (2, .int p0), (3, .int (nI t0)), (4, .int q0), (6, .int (nI (dd s0 t0))), (7, .int (nI j))]) hx hb dL_meet_95 hl (by decide) rfl (fun ls hl => ?_)
              refine lv_iinc (v := nI (j + 1)) (lv' := [(7, .int (nI (j + 1))), (5, .int (v &&& 0)), (9, .int (((nI (dd s0 t0)) * p0) + ((q0 - p0) * (nI j)))), (8, .int (nI (s0 - j))), (0, .ref qa), (1, .int (nI s0)), (2, .int p0), (3, .int (nI t0)), (4, .int q0), (6, .int (nI (dd s0 t0)))]) hx hb dL_meet_97 hl (k := 9) rfl (inc1 _) (by decide) rfl (fun ls hl => ?_)
              refine lv_goto (tgt := 22) hx hb dL_meet_100 (by decide) ?_
              exact ih_22 (j + 1) (v &&& 0) (by omega) (by omega) (by omega) (by rw [hv]; exact mB_F hj1 (by rw [mkS_ge g31]; exact hk9)) _ _ hP hS ls (lv_sub hl [4, 5, 6, 7, 8, 1, 9, 0] rfl)
            · skip
              have hk9 := fun z => c_86 (hm.mpr z)
              refine lv_iconst (v := 1) hx hb dL_meet_89 (by decide) ?_
              refine lv_goto (tgt := 94) hx hb dL_meet_90 (by decide) ?_
              refine lv_iand hx hb dL_meet_94 ?_
              refine lv_istore (lv' := [(5, .int (v &&& 1)), (9, .int (((nI (dd s0 t0)) * p0) + ((q0 - p0) * (nI j)))), (8, .int (nI (s0 - j))), (0, .ref qa), (1, .int (nI s0)), (2, .int p0), (3, .int (nI t0)), (4, .int q0), (6, .int (nI (dd s0 t0))), (7, .int (nI j))]) hx hb dL_meet_95 hl (by decide) rfl (fun ls hl => ?_)
              refine lv_iinc (v := nI (j + 1)) (lv' := [(7, .int (nI (j + 1))), (5, .int (v &&& 1)), (9, .int (((nI (dd s0 t0)) * p0) + ((q0 - p0) * (nI j)))), (8, .int (nI (s0 - j))), (0, .ref qa), (1, .int (nI s0)), (2, .int p0), (3, .int (nI t0)), (4, .int q0), (6, .int (nI (dd s0 t0)))]) hx hb dL_meet_97 hl (k := 9) rfl (inc1 _) (by decide) rfl (fun ls hl => ?_)
              refine lv_goto (tgt := 22) hx hb dL_meet_100 (by decide) ?_
              exact ih_22 (j + 1) (v &&& 1) (by omega) (by omega) (by omega) (by rw [hv]; exact mB_T (by rw [mkS_ge g31]; exact hk9)) _ _ hP hS ls (lv_sub hl [4, 5, 6, 7, 8, 1, 9, 0] rfl)
          · skip
            have g31 : s0 < t0 := ge_f (by omega) c_31
            rw [mkS_lt g31] at hm
            have hjs : s0 + j < t0 := by unfold dd at g26; split at g26 <;> omega
            refine lv_iload_n hx hb dL_meet_34 rfl (lv_at hl 1 rfl) ?_
            refine lv_iload hx hb dL_meet_35 (lv_at hl 7 rfl) ?_
            refine lv_iadd hx hb dL_meet_37 ?_
            refine lv_topi (fun y_11 e_12 => ?_)
            have e_12 : nI (s0 + j) = y_11 := (e_12.trans (nI_add s0 j)).symm
            subst e_12
            refine lv_goto (tgt := 45) hx hb dL_meet_38 (by decide) ?_
            refine lv_istore (lv' := [(8, .int (nI (s0 + j))), (0, .ref qa), (1, .int (nI s0)), (2, .int p0), (3, .int (nI t0)), (4, .int q0), (5, .int v), (6, .int (nI (dd s0 t0))), (7, .int (nI j))]) hx hb dL_meet_45 hl (by decide) rfl (fun ls hl => ?_)
            refine lv_iload hx hb dL_meet_47 (lv_at hl 7 rfl) ?_
            refine lv_iload_n hx hb dL_meet_49 rfl (lv_at hl 3 rfl) ?_
            refine lv_imul hx hb dL_meet_50 ?_
            refine lv_iload hx hb dL_meet_51 (lv_at hl 5 rfl) ?_
            refine lv_iload_n hx hb dL_meet_53 rfl (lv_at hl 3 rfl) ?_
            refine lv_isub hx hb dL_meet_54 ?_
            refine lv_iload hx hb dL_meet_55 (lv_at hl 8 rfl) ?_
            refine lv_imul hx hb dL_meet_57 ?_
            refine lv_iadd hx hb dL_meet_58 ?_
            refine lv_istore (lv' := [(9, .int (((nI (dd s0 t0)) * p0) + ((q0 - p0) * (nI j)))), (8, .int (nI (s0 + j))), (0, .ref qa), (1, .int (nI s0)), (2, .int p0), (3, .int (nI t0)), (4, .int q0), (5, .int v), (6, .int (nI (dd s0 t0))), (7, .int (nI j))]) hx hb dL_meet_59 hl (by decide) rfl (fun ls hl => ?_)
            refine lv_iload hx hb dL_meet_61 (lv_at hl 7 rfl) ?_
            refine lv_iload hx hb dL_meet_63 (lv_at hl 0 rfl) ?_
            refine lv_iload hx hb dL_meet_65 (lv_at hl 8 rfl) ?_
            refine lv_aload_n hx hb dL_meet_67 rfl (lv_at hl 2 rfl) ?_
            refine lv_iload hx hb dL_meet_68 (lv_at hl 1 rfl) ?_
            refine va_iald hx hb hK hP 0 0 rfl rfl (i := nI (s0 + j)) (vp_in_nI (N := 20) (by omega) (by decide)) dL_meet_70 ?_
            rw [nI_clamp (n := s0 + j) (by omega)]
            refine lv_aload_n hx hb dL_meet_71 rfl (lv_at hl 2 rfl) ?_
            refine lv_bipush (v := 18) hx hb dL_meet_72 (by decide) ?_
            refine va_iald hx hb hK hP 0 0 rfl rfl (i := nI 18) (vp_in_nI (N := 20) (by decide) (by decide)) dL_meet_74 ?_
            rw [nI_clamp (n := 18) (by decide)]
            refine lv_iload hx hb dL_meet_75 (lv_at hl 9 rfl) ?_
            refine lv_imul hx hb dL_meet_77 ?_
            refine lv_iload hx hb dL_meet_78 (lv_at hl 8 rfl) ?_
            refine lv_iload hx hb dL_meet_80 (lv_at hl 9 rfl) ?_
            refine lv_isub hx hb dL_meet_82 ?_
            refine lv_imul hx hb dL_meet_83 ?_
            refine lv_iadd hx hb dL_meet_84 ?_
            refine lv_imul hx hb dL_meet_85 ?_
            refine lv_icmp_lt (tgt := 93) hx hb dL_meet_86 (by decide) (fun c_86 => ?_) (fun c_86 => ?_)
            · skip
              have hk9 := hm.mp c_86
              refine lv_iconst (v := 0) hx hb dL_meet_93 (by decide) ?_
              refine lv_iand hx hb dL_meet_94 ?_
              refine lv_istore (lv' := [(5, .int (v &&& 0)), (9, .int (((nI (dd s0 t0)) * p0) + ((q0 - p0) * (nI j)))), (8, .int (nI (s0 + j))), (0, .ref qa), (1, .int (nI s0)), (2, .int p0), (3, .int (nI t0)), (4, .int q0), (6, .int (nI (dd s0 t0))), (7, .int (nI j))]) hx hb dL_meet_95 hl (by decide) rfl (fun ls hl => ?_)
              refine lv_iinc (v := nI (j + 1)) (lv' := [(7, .int (nI (j + 1))), (5, .int (v &&& 0)), (9, .int (((nI (dd s0 t0)) * p0) + ((q0 - p0) * (nI j)))), (8, .int (nI (s0 + j))), (0, .ref qa), (1, .int (nI s0)), (2, .int p0), (3, .int (nI t0)), (4, .int q0), (6, .int (nI (dd s0 t0)))]) hx hb dL_meet_97 hl (k := 9) rfl (inc1 _) (by decide) rfl (fun ls hl => ?_)
              refine lv_goto (tgt := 22) hx hb dL_meet_100 (by decide) ?_
              exact ih_22 (j + 1) (v &&& 0) (by omega) (by omega) (by omega) (by rw [hv]; exact mB_F hj1 (by rw [mkS_lt g31]; exact hk9)) _ _ hP hS ls (lv_sub hl [4, 5, 6, 7, 8, 1, 9, 0] rfl)
            · skip
              have hk9 := fun z => c_86 (hm.mpr z)
              refine lv_iconst (v := 1) hx hb dL_meet_89 (by decide) ?_
              refine lv_goto (tgt := 94) hx hb dL_meet_90 (by decide) ?_
              refine lv_iand hx hb dL_meet_94 ?_
              refine lv_istore (lv' := [(5, .int (v &&& 1)), (9, .int (((nI (dd s0 t0)) * p0) + ((q0 - p0) * (nI j)))), (8, .int (nI (s0 + j))), (0, .ref qa), (1, .int (nI s0)), (2, .int p0), (3, .int (nI t0)), (4, .int q0), (6, .int (nI (dd s0 t0))), (7, .int (nI j))]) hx hb dL_meet_95 hl (by decide) rfl (fun ls hl => ?_)
              refine lv_iinc (v := nI (j + 1)) (lv' := [(7, .int (nI (j + 1))), (5, .int (v &&& 1)), (9, .int (((nI (dd s0 t0)) * p0) + ((q0 - p0) * (nI j)))), (8, .int (nI (s0 + j))), (0, .ref qa), (1, .int (nI s0)), (2, .int p0), (3, .int (nI t0)), (4, .int q0), (6, .int (nI (dd s0 t0)))]) hx hb dL_meet_97 hl (k := 9) rfl (inc1 _) (by decide) rfl (fun ls hl => ?_)
              refine lv_goto (tgt := 22) hx hb dL_meet_100 (by decide) ?_
              exact ih_22 (j + 1) (v &&& 1) (by omega) (by omega) (by omega) (by rw [hv]; exact mB_T (by rw [mkS_lt g31]; exact hk9)) _ _ hP hS ls (lv_sub hl [4, 5, 6, 7, 8, 1, 9, 0] rfl)
    exact L_22 _ 1 1 (Nat.lt_succ_self _) (by omega) (by omega) ((mB_1 f s0 p0 t0 q0).symm) _ _ hP hS ls (lv_sub hl [3, 4, 5, 6, 7, 2, 1, 0] rfl)
set_option maxHeartbeats 4000000 in
set_option maxRecDepth 100000 in
/-- sees(a, s, t) -/
theorem c_L_sees (l : Launch) (D : va_G) (cI cB cO : ClassId) (qa : Nat) (f : Nat → Int32) (n : Nat) (s0 t0 : Nat) (hR : RF f n) (hs : s0 < n) (ht : t0 < n) : Met l yL_sees wsL_sees (rmD 2) (rdPc D (tyL cI cB cO) [.ref qa, .int (nI s0), .int (nI t0)] [(qa, .inl (cI, 20, .inl f))]) (rdQi (fun r => r = bI (seesB f (f 18) s0 (tp f (M8 f) s0) t0 (tp f (M8 f) t0)))) 0 0 noA := by
  refine Met.ofW (cc := cL_sees) (maxL := 3) (ret := (some .boolean)) (by decide) rfl ?_
  intro p e s m args below meth c s₁ B hml hv
  obtain ⟨rfl, hP, hK, hN⟩ := hv
  have hx := B.exec
  have hb := B.bytes
  have hr := B.returns
  have hts := atoms_spec (ws := wsL_sees) B.pre
  have hown : s.vm.findClass RL = some m.cls := findClass_of_methodNamed B.named
  have hlocks := B.notSynchronized
  have hS : va_S noA s.heap s.heap [] := va_S.rf
  have hl := lv_entry ([.ref qa, .int (nI s0), .int (nI t0)]) (n := 3) (Nat.le_of_ble_eq_true rfl)
  rw [lg_entry_eq]
  generalize (lg_sl ([.ref qa, .int (nI s0), .int (nI t0)]) ++ List.replicate (3 - (lg_sl ([.ref qa, .int (nI s0), .int (nI t0)])).length) Slot.unset).toArray = ls at hl ⊢
  have hl : lv_has ls 3 [(0, .ref qa), (1, .int (nI s0)), (2, .int (nI t0))] := hl
  have h8 : n ≤ 8 := hR.2.1
  have h2n : 2 ≤ n := hR.n2
  have h16 : f 16 = nI n := hR.1
  refine lv_aload_n hx hb dL_sees_0 rfl (lv_at hl 0 rfl) ?_
  refine lv_iload_n hx hb dL_sees_1 rfl (lv_at hl 1 rfl) ?_
  refine lv_aload_n hx hb dL_sees_2 rfl (lv_at hl 0 rfl) ?_
  refine lv_iload_n hx hb dL_sees_3 rfl (lv_at hl 1 rfl) ?_
  refine rd_calli hP hS (va_runS (As := [.ref qa, .int (nI s0)]) (rest := [.int (nI s0), .ref qa]) ⟨hx, hb, hml, hown, hts⟩ (c_L_top l D cI cB cO qa f s0 (by omega)) (va_cwS 2 hts gL_sees_L_top rfl rfl rfl (by decide +kernel) ⟨Nat.le_of_ble_eq_true rfl, Nat.le_of_ble_eq_true rfl⟩) (rd_preS hK (hP.pick [0] rfl) hN) rfl rfl hl.1 rfl (lv_room (Nat.le_of_ble_eq_true rfl)) dL_sees_4 ⟨Nat.le_refl _, Nat.le_refl _⟩) (fun r_4 H locs h_4 hP hS => ?_)
  subst h_4
  refine lv_iload_n hx hb dL_sees_7 rfl (lv_at hl 2 rfl) ?_
  refine lv_aload_n hx hb dL_sees_8 rfl (lv_at hl 0 rfl) ?_
  refine lv_iload_n hx hb dL_sees_9 rfl (lv_at hl 2 rfl) ?_
  refine rd_calli hP hS (va_runS (As := [.ref qa, .int (nI t0)]) (rest := [.int (nI t0), .int (tp f (M8 f) s0), .int (nI s0), .ref qa]) ⟨hx, hb, hml, hown, hts⟩ (c_L_top l D cI cB cO qa f t0 (by omega)) (va_cwS 2 hts gL_sees_L_top rfl rfl rfl (by decide +kernel) ⟨Nat.le_of_ble_eq_true rfl, Nat.le_of_ble_eq_true rfl⟩) (rd_preS hK (hP.pick [0] rfl) hN) rfl rfl hl.1 rfl (lv_room (Nat.le_of_ble_eq_true rfl)) dL_sees_10 ⟨Nat.le_refl _, Nat.le_refl _⟩) (fun r_10 H locs h_10 hP hS => ?_)
  subst h_10
  refine rd_calli hP hS (va_runS (As := [.ref qa, .int (nI s0), .int (tp f (M8 f) s0), .int (nI t0), .int (tp f (M8 f) t0)]) (rest := []) ⟨hx, hb, hml, hown, hts⟩ (c_L_meet l D cI cB cO qa f n s0 (tp f (M8 f) s0) t0 (tp f (M8 f) t0) hR hs ht (hR.top hs) (hR.top ht)) (va_cwS 5 hts gL_sees_L_meet rfl rfl rfl (by decide +kernel) ⟨Nat.le_of_ble_eq_true rfl, Nat.le_of_ble_eq_true rfl⟩) (rd_preS hK (hP.pick [0] rfl) hN) rfl rfl hl.1 rfl (lv_room (Nat.le_of_ble_eq_true rfl)) dL_sees_13 ⟨Nat.le_refl _, Nat.le_refl _⟩) (fun r_13 H locs h_13 hP hS => ?_)
  exact W.zret (v := r_13) hx hb hr ((by rw [h_13]; exact bI_nar _)) (fun tS htS hWS => ⟨⟨r_13, (), rfl, h_13, trivial⟩, hS.F htS⟩) hS.2.2 dL_sees_16
set_option maxHeartbeats 4000000 in
set_option maxRecDepth 100000 in
/-- contact(a, s, t) -/
theorem c_L_contact (l : Launch) (D : va_G) (cI cB cO : ClassId) (qa : Nat) (f : Nat → Int32) (n : Nat) (s0 t0 : Nat) (hR : RF f n) (hs : s0 < n) (ht : t0 < n) : Met l yL_contact wsL_contact (rmD 3) (rdPc D (tyL cI cB cO) [.ref qa, .int (nI s0), .int (nI t0)] [(qa, .inl (cI, 20, .inl f))]) (rdQi (fun r => r = bI (conB f (M8 f) (f 17) (f 18) s0 t0))) 0 0 noA := by
  refine Met.ofW (cc := cL_contact) (maxL := 4) (ret := (some .boolean)) (by decide) rfl ?_
  intro p e s m args below meth c s₁ B hml hv
  obtain ⟨rfl, hP, hK, hN⟩ := hv
  have hx := B.exec
  have hb := B.bytes
  have hr := B.returns
  have hts := atoms_spec (ws := wsL_contact) B.pre
  have hown : s.vm.findClass RL = some m.cls := findClass_of_methodNamed B.named
  have hlocks := B.notSynchronized
  have hS : va_S noA s.heap s.heap [] := va_S.rf
  have hl := lv_entry ([.ref qa, .int (nI s0), .int (nI t0)]) (n := 4) (Nat.le_of_ble_eq_true rfl)
  rw [lg_entry_eq]
  generalize (lg_sl ([.ref qa, .int (nI s0), .int (nI t0)]) ++ List.replicate (4 - (lg_sl ([.ref qa, .int (nI s0), .int (nI t0)])).length) Slot.unset).toArray = ls at hl ⊢
  have hl : lv_has ls 4 [(0, .ref qa), (1, .int (nI s0)), (2, .int (nI t0))] := hl
  have h8 : n ≤ 8 := hR.2.1
  have h2n : 2 ≤ n := hR.n2
  have h16 : f 16 = nI n := hR.1
  have hd8 : dd s0 t0 ≤ 8 := by unfold dd; split <;> omega
  refine lv_iload_n hx hb dL_contact_0 rfl (lv_at hl 1 rfl) ?_
  refine lv_iload_n hx hb dL_contact_1 rfl (lv_at hl 2 rfl) ?_
  refine lv_icmp_ge (tgt := 11) hx hb dL_contact_2 (by decide) (fun c_2 => ?_) (fun c_2 => ?_)
  · skip
    have g2 : t0 ≤ s0 := ge_t (by omega) c_2
    refine lv_iload_n hx hb dL_contact_11 rfl (lv_at hl 1 rfl) ?_
    refine lv_iload_n hx hb dL_contact_12 rfl (lv_at hl 2 rfl) ?_
    refine lv_isub hx hb dL_contact_13 ?_
    refine lv_topi (fun y_1 e_2 => ?_)
    have e_2 : nI (dd s0 t0) = y_1 := (e_2.trans (pk_sub3 g2)).symm
    subst e_2
    refine lv_istore_n (lv' := [(3, .int (nI (dd s0 t0))), (0, .ref qa), (1, .int (nI s0)), (2, .int (nI t0))]) hx hb dL_contact_14 rfl hl (by decide) rfl (fun ls hl => ?_)
    refine lv_iload_n hx hb dL_contact_15 rfl (lv_at hl 0 rfl) ?_
    refine lv_if_le (tgt := 40) hx hb dL_contact_16 (by decide) (fun c_16 => ?_) (fun c_16 => ?_)
    · skip
      have c1 : s0 = t0 := dd_eq0 (le_n0 c_16 (by omega))
      refine lv_iconst (v := 0) hx hb dL_contact_40 (by decide) ?_
      exact W.zret (v := 0) hx hb hr (rfl) (fun tS htS hWS => ⟨⟨0, (), rfl, (by unfold conB; first | exact bI_t (decide_eq_true ⟨c1, Int32.not_lt.mp c_24, c3⟩) | exact bI_f (decide_eq_false (fun q => q.1 c1)) | exact bI_f (decide_eq_false (fun q => absurd q.2.1 (Int32.not_le.mpr c_24))) | exact bI_f (decide_eq_false (fun q => by simp [c3] at q))), trivial⟩, hS.F htS⟩) hS.2.2 dL_contact_41
    · skip
      have c1 : s0 ≠ t0 := fun q => c_16 (by rw [q, dd_gt (Nat.le_refl t0), Nat.sub_self]; decide)
      refine lv_iload_n hx hb dL_contact_19 rfl (lv_at hl 0 rfl) ?_
      refine lv_aload_n hx hb dL_contact_20 rfl (lv_at hl 1 rfl) ?_
      refine lv_bipush (v := 17) hx hb dL_contact_21 (by decide) ?_
      refine va_iald hx hb hK hP 0 0 rfl rfl (i := nI 17) (vp_in_nI (N := 20) (by decide) (by decide)) dL_contact_23 ?_
      rw [nI_clamp (n := 17) (by decide)]
      refine lv_icmp_gt (tgt := 40) hx hb dL_contact_24 (by decide) (fun c_24 => ?_) (fun c_24 => ?_)
      · skip
        refine lv_iconst (v := 0) hx hb dL_contact_40 (by decide) ?_
        exact W.zret (v := 0) hx hb hr (rfl) (fun tS htS hWS => ⟨⟨0, (), rfl, (by unfold conB; first | exact bI_t (decide_eq_true ⟨c1, Int32.not_lt.mp c_24, c3⟩) | exact bI_f (decide_eq_false (fun q => q.1 c1)) | exact bI_f (decide_eq_false (fun q => absurd q.2.1 (Int32.not_le.mpr c_24))) | exact bI_f (decide_eq_false (fun q => by simp [c3] at q))), trivial⟩, hS.F htS⟩) hS.2.2 dL_contact_41
      · skip
        refine lv_aload_n hx hb dL_contact_27 rfl (lv_at hl 1 rfl) ?_
        refine lv_iload_n hx hb dL_contact_28 rfl (lv_at hl 2 rfl) ?_
        refine lv_iload_n hx hb dL_contact_29 rfl (lv_at hl 3 rfl) ?_
        refine rd_calli hP hS (va_runS (As := [.ref qa, .int (nI s0), .int (nI t0)]) (rest := []) ⟨hx, hb, hml, hown, hts⟩ (c_L_sees l D cI cB cO qa f n s0 t0 hR hs ht) (va_cwS 3 hts gL_contact_L_sees rfl rfl rfl (by decide +kernel) ⟨Nat.le_of_ble_eq_true rfl, Nat.le_of_ble_eq_true rfl⟩) (rd_preS hK (hP.pick [0] rfl) hN) rfl rfl hl.1 rfl (lv_room (Nat.le_of_ble_eq_true rfl)) dL_contact_30 ⟨Nat.le_refl _, Nat.le_refl _⟩) (fun r_30 H locs h_30 hP hS => ?_)
        refine lv_if_eq (tgt := 40) hx hb dL_contact_33 (by decide) (fun c_33 => ?_) (fun c_33 => ?_)
        · skip
          have c3 := bI_e0 (h_30 ▸ c_33)
          refine lv_iconst (v := 0) hx hb dL_contact_40 (by decide) ?_
          exact W.zret (v := 0) hx hb hr (rfl) (fun tS htS hWS => ⟨⟨0, (), rfl, (by unfold conB; first | exact bI_t (decide_eq_true ⟨c1, Int32.not_lt.mp c_24, c3⟩) | exact bI_f (decide_eq_false (fun q => q.1 c1)) | exact bI_f (decide_eq_false (fun q => absurd q.2.1 (Int32.not_le.mpr c_24))) | exact bI_f (decide_eq_false (fun q => by simp [c3] at q))), trivial⟩, hS.F htS⟩) hS.2.2 dL_contact_41
        · skip
          have c3 := bI_n0 (fun q => c_33 (h_30.trans q))
          refine lv_iconst (v := 1) hx hb dL_contact_36 (by decide) ?_
          refine lv_goto (tgt := 41) hx hb dL_contact_37 (by decide) ?_
          exact W.zret (v := 1) hx hb hr (rfl) (fun tS htS hWS => ⟨⟨1, (), rfl, (by unfold conB; first | exact bI_t (decide_eq_true ⟨c1, Int32.not_lt.mp c_24, c3⟩) | exact bI_f (decide_eq_false (fun q => q.1 c1)) | exact bI_f (decide_eq_false (fun q => absurd q.2.1 (Int32.not_le.mpr c_24))) | exact bI_f (decide_eq_false (fun q => by simp [c3] at q))), trivial⟩, hS.F htS⟩) hS.2.2 dL_contact_41
  · skip
    have g2 : s0 < t0 := ge_f (by omega) c_2
    refine lv_iload_n hx hb dL_contact_5 rfl (lv_at hl 2 rfl) ?_
    refine lv_iload_n hx hb dL_contact_6 rfl (lv_at hl 1 rfl) ?_
    refine lv_isub hx hb dL_contact_7 ?_
    refine lv_topi (fun y_3 e_4 => ?_)
    have e_4 : nI (dd s0 t0) = y_3 := (e_4.trans (pk_sub2 g2)).symm
    subst e_4
    refine lv_goto (tgt := 14) hx hb dL_contact_8 (by decide) ?_
    refine lv_istore_n (lv' := [(3, .int (nI (dd s0 t0))), (0, .ref qa), (1, .int (nI s0)), (2, .int (nI t0))]) hx hb dL_contact_14 rfl hl (by decide) rfl (fun ls hl => ?_)
    refine lv_iload_n hx hb dL_contact_15 rfl (lv_at hl 0 rfl) ?_
    refine lv_if_le (tgt := 40) hx hb dL_contact_16 (by decide) (fun c_16 => ?_) (fun c_16 => ?_)
    · skip
      have c1 : s0 = t0 := dd_eq0 (le_n0 c_16 (by omega))
      refine lv_iconst (v := 0) hx hb dL_contact_40 (by decide) ?_
      exact W.zret (v := 0) hx hb hr (rfl) (fun tS htS hWS => ⟨⟨0, (), rfl, (by unfold conB; first | exact bI_t (decide_eq_true ⟨c1, Int32.not_lt.mp c_24, c3⟩) | exact bI_f (decide_eq_false (fun q => q.1 c1)) | exact bI_f (decide_eq_false (fun q => absurd q.2.1 (Int32.not_le.mpr c_24))) | exact bI_f (decide_eq_false (fun q => by simp [c3] at q))), trivial⟩, hS.F htS⟩) hS.2.2 dL_contact_41
    · skip
      have c1 : s0 ≠ t0 := fun q => c_16 (by rw [q, dd_gt (Nat.le_refl t0), Nat.sub_self]; decide)
      refine lv_iload_n hx hb dL_contact_19 rfl (lv_at hl 0 rfl) ?_
      refine lv_aload_n hx hb dL_contact_20 rfl (lv_at hl 1 rfl) ?_
      refine lv_bipush (v := 17) hx hb dL_contact_21 (by decide) ?_
      refine va_iald hx hb hK hP 0 0 rfl rfl (i := nI 17) (vp_in_nI (N := 20) (by decide) (by decide)) dL_contact_23 ?_
      rw [nI_clamp (n := 17) (by decide)]
      refine lv_icmp_gt (tgt := 40) hx hb dL_contact_24 (by decide) (fun c_24 => ?_) (fun c_24 => ?_)
      · skip
        refine lv_iconst (v := 0) hx hb dL_contact_40 (by decide) ?_
        exact W.zret (v := 0) hx hb hr (rfl) (fun tS htS hWS => ⟨⟨0, (), rfl, (by unfold conB; first | exact bI_t (decide_eq_true ⟨c1, Int32.not_lt.mp c_24, c3⟩) | exact bI_f (decide_eq_false (fun q => q.1 c1)) | exact bI_f (decide_eq_false (fun q => absurd q.2.1 (Int32.not_le.mpr c_24))) | exact bI_f (decide_eq_false (fun q => by simp [c3] at q))), trivial⟩, hS.F htS⟩) hS.2.2 dL_contact_41
      · skip
        refine lv_aload_n hx hb dL_contact_27 rfl (lv_at hl 1 rfl) ?_
        refine lv_iload_n hx hb dL_contact_28 rfl (lv_at hl 2 rfl) ?_
        refine lv_iload_n hx hb dL_contact_29 rfl (lv_at hl 3 rfl) ?_
        refine rd_calli hP hS (va_runS (As := [.ref qa, .int (nI s0), .int (nI t0)]) (rest := []) ⟨hx, hb, hml, hown, hts⟩ (c_L_sees l D cI cB cO qa f n s0 t0 hR hs ht) (va_cwS 3 hts gL_contact_L_sees rfl rfl rfl (by decide +kernel) ⟨Nat.le_of_ble_eq_true rfl, Nat.le_of_ble_eq_true rfl⟩) (rd_preS hK (hP.pick [0] rfl) hN) rfl rfl hl.1 rfl (lv_room (Nat.le_of_ble_eq_true rfl)) dL_contact_30 ⟨Nat.le_refl _, Nat.le_refl _⟩) (fun r_30 H locs h_30 hP hS => ?_)
        refine lv_if_eq (tgt := 40) hx hb dL_contact_33 (by decide) (fun c_33 => ?_) (fun c_33 => ?_)
        · skip
          have c3 := bI_e0 (h_30 ▸ c_33)
          refine lv_iconst (v := 0) hx hb dL_contact_40 (by decide) ?_
          exact W.zret (v := 0) hx hb hr (rfl) (fun tS htS hWS => ⟨⟨0, (), rfl, (by unfold conB; first | exact bI_t (decide_eq_true ⟨c1, Int32.not_lt.mp c_24, c3⟩) | exact bI_f (decide_eq_false (fun q => q.1 c1)) | exact bI_f (decide_eq_false (fun q => absurd q.2.1 (Int32.not_le.mpr c_24))) | exact bI_f (decide_eq_false (fun q => by simp [c3] at q))), trivial⟩, hS.F htS⟩) hS.2.2 dL_contact_41
        · skip
          have c3 := bI_n0 (fun q => c_33 (h_30.trans q))
          refine lv_iconst (v := 1) hx hb dL_contact_36 (by decide) ?_
          refine lv_goto (tgt := 41) hx hb dL_contact_37 (by decide) ?_
          exact W.zret (v := 1) hx hb hr (rfl) (fun tS htS hWS => ⟨⟨1, (), rfl, (by unfold conB; first | exact bI_t (decide_eq_true ⟨c1, Int32.not_lt.mp c_24, c3⟩) | exact bI_f (decide_eq_false (fun q => q.1 c1)) | exact bI_f (decide_eq_false (fun q => absurd q.2.1 (Int32.not_le.mpr c_24))) | exact bI_f (decide_eq_false (fun q => by simp [c3] at q))), trivial⟩, hS.F htS⟩) hS.2.2 dL_contact_41
set_option maxHeartbeats 4000000 in
set_option maxRecDepth 100000 in
/-- grounds(a, s) -/
theorem c_L_grounds (l : Launch) (D : va_G) (cI cB cO : ClassId) (qa : Nat) (f : Nat → Int32) (n : Nat) (s0 : Nat) (hR : RF f n) (hs : s0 < n) : Met l yL_grounds wsL_grounds (rmD 2) (rdPc D (tyL cI cB cO) [.ref qa, .int (nI s0)] [(qa, .inl (cI, 20, .inl f))]) (rdQi (fun r => r = nI (bs (gsB f (f 18) s0 (tp f (M8 f) s0)) n))) 0 0 noA := by
  refine Met.ofW (cc := cL_grounds) (maxL := 4) (ret := (some .int)) (by decide) rfl ?_
  intro p e s m args below meth c s₁ B hml hv
  obtain ⟨rfl, hP, hK, hN⟩ := hv
  have hx := B.exec
  have hb := B.bytes
  have hr := B.returns
  have hts := atoms_spec (ws := wsL_grounds) B.pre
  have hown : s.vm.findClass RL = some m.cls := findClass_of_methodNamed B.named
  have hlocks := B.notSynchronized
  have hS : va_S noA s.heap s.heap [] := va_S.rf
  have hl := lv_entry ([.ref qa, .int (nI s0)]) (n := 4) (Nat.le_of_ble_eq_true rfl)
  rw [lg_entry_eq]
  generalize (lg_sl ([.ref qa, .int (nI s0)]) ++ List.replicate (4 - (lg_sl ([.ref qa, .int (nI s0)])).length) Slot.unset).toArray = ls at hl ⊢
  have hl : lv_has ls 4 [(0, .ref qa), (1, .int (nI s0))] := hl
  have h8 : n ≤ 8 := hR.2.1
  have h2n : 2 ≤ n := hR.n2
  have h16 : f 16 = nI n := hR.1
  refine lv_iconst (v := 0) hx hb dL_grounds_0 (by decide) ?_
  refine lv_istore_n (lv' := [(2, .int 0), (0, .ref qa), (1, .int (nI s0))]) hx hb dL_grounds_1 rfl hl (by decide) rfl (fun ls hl => ?_)
  refine lv_iconst (v := 0) hx hb dL_grounds_2 (by decide) ?_
  refine lv_istore_n (lv' := [(3, .int 0), (2, .int 0), (0, .ref qa), (1, .int (nI s0))]) hx hb dL_grounds_3 rfl hl (by decide) rfl (fun ls hl => ?_)
  have L_4 : ∀ (k_4 : Nat) (t0 : Nat) (v : Int32), n - t0 < k_4 → (t0 ≤ n) → (v = nI (bs (gsB f (f 18) s0 (tp f (M8 f) s0)) t0)) → ∀ (H : Heap) (locs : List Loc), va_P D vwCl [(qa, .inl (cI, 20, .inl f))] H → va_S noA s.heap H locs → ∀ (ls : Array Slot), lv_has ls 4 [(0, .ref qa), (1, .int (nI s0)), (2, .int v), (3, .int (nI t0))] → W p l e (rmD 2) s m ([.ref qa, .int (nI s0)] : List Value).toArray below meth c H locs 0 0 (MQ below (rdQi (fun r => r = nI (bs (gsB f (f 18) s0 (tp f (M8 f) s0)) n))) ([.ref qa, .int (nI s0)] : List Value).toArray s 0 0 noA) (F0 m 4 ls []) := by
    intro k_4
    induction k_4 with
    | zero => intro t0 v h9; exact absurd h9 (Nat.not_lt_zero _)
    | succ k_4 ih_4 =>
      intro t0 v hm_4 hi hv H locs hP hS ls hl
      refine lv_iload_n hx hb dL_grounds_4 rfl (lv_at hl 3 rfl) ?_
      refine lv_aload_n hx hb dL_grounds_5 rfl (lv_at hl 0 rfl) ?_
      refine lv_bipush (v := 16) hx hb dL_grounds_6 (by decide) ?_
      refine va_iald hx hb hK hP 0 0 rfl rfl (i := nI 16) (vp_in_nI (N := 20) (by decide) (by decide)) dL_grounds_8 ?_
      rw [nI_clamp (n := 16) (by decide)]
      refine lv_topi (fun y_1 e_2 => ?_)
      have e_2 : nI n = y_1 := (e_2.trans (h16)).symm
      subst e_2
      refine lv_icmp_ge (tgt := 50) hx hb dL_grounds_9 (by decide) (fun c_9 => ?_) (fun c_9 => ?_)
      · skip
        have g9 : n ≤ t0 := ge_t (by omega) c_9
        refine lv_iload_n hx hb dL_grounds_50 rfl (lv_at hl 2 rfl) ?_
        exact W.iret (v := v) hx hb hr (fun tS htS hWS => ⟨⟨v, (), rfl, (by rw [show n = t0 by omega]; exact hv), trivial⟩, hS.F htS⟩) hS.2.2 dL_grounds_51
      · skip
        have g9 : t0 < n := ge_f (by omega) c_9
        refine lv_iload_n hx hb dL_grounds_12 rfl (lv_at hl 2 rfl) ?_
        refine lv_iload_n hx hb dL_grounds_13 rfl (lv_at hl 1 rfl) ?_
        refine lv_iload_n hx hb dL_grounds_14 rfl (lv_at hl 3 rfl) ?_
        refine lv_icmp_eq (tgt := 35) hx hb dL_grounds_15 (by decide) (fun c_15 => ?_) (fun c_15 => ?_)
        · skip
          have e15 : s0 = t0 := (nI_eq (by omega) (by omega)).mp c_15
          have hg : (gsB f (f 18) s0 (tp f (M8 f) s0)) t0 = true := by rw [← e15]; exact gs_self f (f 18) _ s0
          refine lv_iconst (v := 1) hx hb dL_grounds_35 (by decide) ?_
          refine lv_iload_n hx hb dL_grounds_36 rfl (lv_at hl 3 rfl) ?_
          refine lv_ishl hx hb dL_grounds_37 ?_
          refine lv_goto (tgt := 42) hx hb dL_grounds_38 (by decide) ?_
          refine lv_ior hx hb dL_grounds_42 ?_
          refine lv_istore_n (lv' := [(2, .int (v ||| (1 <<< ((nI t0) &&& 31)))), (0, .ref qa), (1, .int (nI s0)), (3, .int (nI t0))]) hx hb dL_grounds_43 rfl hl (by decide) rfl (fun ls hl => ?_)
          refine lv_iinc (v := nI (t0 + 1)) (lv' := [(3, .int (nI (t0 + 1))), (2, .int (v ||| (1 <<< ((nI t0) &&& 31)))), (0, .ref qa), (1, .int (nI s0))]) hx hb dL_grounds_44 hl (k := 3) rfl (inc1 _) (by decide) rfl (fun ls hl => ?_)
          refine lv_goto (tgt := 4) hx hb dL_grounds_47 (by decide) ?_
          exact ih_4 (t0 + 1) (v ||| (1 <<< ((nI t0) &&& 31))) (by omega) (by omega) (by rw [hv]; exact bs_orT (by omega) hg) _ _ hP hS ls (lv_sub hl [2, 3, 1, 0] rfl)
        · skip
          refine lv_aload_n hx hb dL_grounds_18 rfl (lv_at hl 0 rfl) ?_
          refine lv_iload_n hx hb dL_grounds_19 rfl (lv_at hl 1 rfl) ?_
          refine lv_aload_n hx hb dL_grounds_20 rfl (lv_at hl 0 rfl) ?_
          refine lv_iload_n hx hb dL_grounds_21 rfl (lv_at hl 1 rfl) ?_
          refine rd_calli hP hS (va_runS (As := [.ref qa, .int (nI s0)]) (rest := [.int (nI s0), .ref qa, .int v]) ⟨hx, hb, hml, hown, hts⟩ (c_L_top l D cI cB cO qa f s0 (by omega)) (va_cwS 2 hts gL_grounds_L_top rfl rfl rfl (by decide +kernel) ⟨Nat.le_of_ble_eq_true rfl, Nat.le_of_ble_eq_true rfl⟩) (rd_preS hK (hP.pick [0] rfl) hN) rfl rfl hl.1 rfl (lv_room (Nat.le_of_ble_eq_true rfl)) dL_grounds_22 ⟨Nat.le_refl _, Nat.le_refl _⟩) (fun r_22 H locs h_22 hP hS => ?_)
          subst h_22
          refine lv_iload_n hx hb dL_grounds_25 rfl (lv_at hl 3 rfl) ?_
          refine lv_aload_n hx hb dL_grounds_26 rfl (lv_at hl 0 rfl) ?_
          refine lv_iload_n hx hb dL_grounds_27 rfl (lv_at hl 3 rfl) ?_
          refine va_iald hx hb hK hP 0 0 rfl rfl (i := nI t0) (vp_in_nI (N := 20) (by omega) (by decide)) dL_grounds_28 ?_
          rw [nI_clamp (n := t0) (by omega)]
          refine rd_calli hP hS (va_runS (As := [.ref qa, .int (nI s0), .int (tp f (M8 f) s0), .int (nI t0), .int (f t0)]) (rest := [.int v]) ⟨hx, hb, hml, hown, hts⟩ (c_L_meet l D cI cB cO qa f n s0 (tp f (M8 f) s0) t0 (f t0) hR hs g9 (hR.top hs) (hR.g2 g9)) (va_cwS 5 hts gL_grounds_L_meet rfl rfl rfl (by decide +kernel) ⟨Nat.le_of_ble_eq_true rfl, Nat.le_of_ble_eq_true rfl⟩) (rd_preS hK (hP.pick [0] rfl) hN) rfl rfl hl.1 rfl (lv_room (Nat.le_of_ble_eq_true rfl)) dL_grounds_29 ⟨Nat.le_refl _, Nat.le_refl _⟩) (fun r_29 H locs h_29 hP hS => ?_)
          refine lv_if_eq (tgt := 41) hx hb dL_grounds_32 (by decide) (fun c_32 => ?_) (fun c_32 => ?_)
          · skip
            have hg : (gsB f (f 18) s0 (tp f (M8 f) s0)) t0 = false := bI_e0 (h_29.symm.trans c_32)
            refine lv_iconst (v := 0) hx hb dL_grounds_41 (by decide) ?_
            refine lv_ior hx hb dL_grounds_42 ?_
            refine lv_istore_n (lv' := [(2, .int (v ||| 0)), (0, .ref qa), (1, .int (nI s0)), (3, .int (nI t0))]) hx hb dL_grounds_43 rfl hl (by decide) rfl (fun ls hl => ?_)
            refine lv_iinc (v := nI (t0 + 1)) (lv' := [(3, .int (nI (t0 + 1))), (2, .int (v ||| 0)), (0, .ref qa), (1, .int (nI s0))]) hx hb dL_grounds_44 hl (k := 3) rfl (inc1 _) (by decide) rfl (fun ls hl => ?_)
            refine lv_goto (tgt := 4) hx hb dL_grounds_47 (by decide) ?_
            exact ih_4 (t0 + 1) (v ||| 0) (by omega) (by omega) (by rw [hv]; exact bs_or0 hg) _ _ hP hS ls (lv_sub hl [2, 3, 1, 0] rfl)
          · skip
            have hg : (gsB f (f 18) s0 (tp f (M8 f) s0)) t0 = true := bI_n0 (fun q => c_32 (h_29.trans q))
            refine lv_iconst (v := 1) hx hb dL_grounds_35 (by decide) ?_
            refine lv_iload_n hx hb dL_grounds_36 rfl (lv_at hl 3 rfl) ?_
            refine lv_ishl hx hb dL_grounds_37 ?_
            refine lv_goto (tgt := 42) hx hb dL_grounds_38 (by decide) ?_
            refine lv_ior hx hb dL_grounds_42 ?_
            refine lv_istore_n (lv' := [(2, .int (v ||| (1 <<< ((nI t0) &&& 31)))), (0, .ref qa), (1, .int (nI s0)), (3, .int (nI t0))]) hx hb dL_grounds_43 rfl hl (by decide) rfl (fun ls hl => ?_)
            refine lv_iinc (v := nI (t0 + 1)) (lv' := [(3, .int (nI (t0 + 1))), (2, .int (v ||| (1 <<< ((nI t0) &&& 31)))), (0, .ref qa), (1, .int (nI s0))]) hx hb dL_grounds_44 hl (k := 3) rfl (inc1 _) (by decide) rfl (fun ls hl => ?_)
            refine lv_goto (tgt := 4) hx hb dL_grounds_47 (by decide) ?_
            exact ih_4 (t0 + 1) (v ||| (1 <<< ((nI t0) &&& 31))) (by omega) (by omega) (by rw [hv]; exact bs_orT (by omega) hg) _ _ hP hS ls (lv_sub hl [2, 3, 1, 0] rfl)
  exact L_4 _ 0 0 (Nat.lt_succ_self _) (by omega) (rfl) _ _ hP hS ls (lv_sub hl [2, 3, 1, 0] rfl)
