/-! growth(x, y, which), of the reference -/
def grB (bl : Int32) (G M : Nat → Int32) (a b f v : Nat) : Bool := (decide (M a + nI f ≤ 200) && decide (M b + nI v ≤ 200)) && seesB G bl a (tp G M a + nI f) b (tp G M b + nI v)
def gT (bl : Int32) (G M : Nat → Int32) (a b : Nat) : Nat := fa_first (fun t => decide (∃ f, f ≤ t ∧ grB bl G M a b f (t - f) = true)) 401
def gF (bl : Int32) (G M : Nat → Int32) (a b : Nat) : Nat := fa_first (fun f => grB bl G M a b f (gT bl G M a b - f)) (gT bl G M a b + 1)
def A_growth (n : Nat) (bl : Int32) (G M : Nat → Int32) (x y w : Int32) : Int32 := if pairB n x y = true ∧ inB w 0 2 = true then (if gT bl G M (cN x) (cN y) < 401 then (if w = 0 then nI (gT bl G M (cN x) (cN y)) else if w = 1 then nI (gF bl G M (cN x) (cN y)) else nI (gT bl G M (cN x) (cN y) - gF bl G M (cN x) (cN y))) else -1) else -2
theorem gr_ans {bl : Int32} {G M : Nat → Int32} {a b t f : Nat} (h1 : ∀ u, u < t → ∀ g, g ≤ u → grB bl G M a b g (u - g) = false) (h2 : ∀ g, g < f → grB bl G M a b g (t - g) = false) (e : grB bl G M a b f (t - f) = true) (hf : f ≤ t) (ht : t ≤ 400) : gT bl G M a b = t ∧ gF bl G M a b = f := by
  have e1 : gT bl G M a b = t := fa_first_eq (fun u hu => decide_eq_false (fun q => by obtain ⟨g, hg, q2⟩ := q; rw [h1 u hu g hg] at q2; cases q2)) (decide_eq_true ⟨f, hf, e⟩) (by omega)
  refine ⟨e1, ?_⟩
  unfold gF
  rw [e1]
  exact fa_first_eq (p := fun g => grB bl G M a b g (t - g)) h2 e (by omega)
theorem gr_none {bl : Int32} {G M : Nat → Int32} {a b : Nat} (h1 : ∀ u, u < 401 → ∀ g, g ≤ u → grB bl G M a b g (u - g) = false) : ¬ gT bl G M a b < 401 := fa_first_none (fun u hu => decide_eq_false (fun q => by obtain ⟨g, hg, q2⟩ := q; rw [h1 u hu g hg] at q2; cases q2))
theorem gr_lt {bl : Int32} {G M : Nat → Int32} {a b t f : Nat} (h : ∀ g, g < f → grB bl G M a b g (t - g) = false) (e : grB bl G M a b f (t - f) = false) : ∀ g, g < f + 1 → grB bl G M a b g (t - g) = false := fun g hg => by
  rcases Nat.lt_or_ge g f with z | z
  · exact h g z
  · rw [show g = f by omega]; exact e
theorem gr_up {bl : Int32} {G M : Nat → Int32} {a b t f : Nat} (h1 : ∀ u, u < t → ∀ g, g ≤ u → grB bl G M a b g (u - g) = false) (h2 : ∀ g, g < f → grB bl G M a b g (t - g) = false) (hf : t < f) : ∀ u, u < t + 1 → ∀ g, g ≤ u → grB bl G M a b g (u - g) = false := fun u hu g hg => by
  rcases Nat.lt_or_ge u t with z | z
  · exact h1 u z g hg
  · have e : u = t := by omega
    subst e
    exact h2 g (by omega)
theorem kX7_growth_0 : ∀ w ∈ wsX70, w ∈ wsX7_growth := by decide +kernel
theorem kX7_growth_1 : (.fieldLink RX7 7 "SightRidgeModel" "m" "[I" : Cond) ∈ wsX7_growth := by decide +kernel
set_option maxHeartbeats 4000000 in
set_option maxRecDepth 100000 in
/-- growth(x, y, which) -/
theorem c_X7_growth (l : Launch) (D : va_G) (cI cB cO : ClassId) (o q1 : Nat) (fs : List Value) (n : Nat) (mm : Nat → Int32) (rg bl : Int32) (G M : Nat → Int32) (x y w : Int32) (hm : MOK n mm rg bl G M) : Met l yX7_growth wsX7_growth (rmD 6) (rdPc D (tyL cI cB cO) [.ref o, .int x, .int y, .int w] [(o, .inr (7, .ref q1 :: fs)), (q1, .inl (cI, 43, .inl mm))]) (rdQi (fun r => r = A_growth n bl G M x y w)) 0 0 noA := by
  refine Met.ofW (cc := cX7_growth) (maxL := 8) (ret := (some .int)) (by decide) rfl ?_
  intro p e s m args below meth c s₁ B hml hv
  obtain ⟨rfl, hP, hK, hN⟩ := hv
  have hx := B.exec
  have hb := B.bytes
  have hr := B.returns
  have hts := atoms_spec (ws := wsX7_growth) B.pre
  have hown : s.vm.findClass RX7 = some m.cls := findClass_of_methodNamed B.named
  have hlocks := B.notSynchronized
  have hS : va_S noA s.heap s.heap [] := va_S.rf
  have hl := lv_entry ([.ref o, .int x, .int y, .int w]) (n := 8) (Nat.le_of_ble_eq_true rfl)
  rw [lg_entry_eq]
  generalize (lg_sl ([.ref o, .int x, .int y, .int w]) ++ List.replicate (8 - (lg_sl ([.ref o, .int x, .int y, .int w])).length) Slot.unset).toArray = ls at hl ⊢
  have hl : lv_has ls 8 [(0, .ref o), (1, .int x), (2, .int y), (3, .int w)] := hl
  obtain ⟨hn, hn1, hm0, hm1, hm2, hG, hM⟩ := id hm
  refine lv_aload_n hx hb dX7_growth_0 rfl (lv_at hl 0 rfl) ?_
  refine lv_iload_n hx hb dX7_growth_1 rfl (lv_at hl 1 rfl) ?_
  refine lv_iload_n hx hb dX7_growth_2 rfl (lv_at hl 2 rfl) ?_
  refine rd_calli hP hS (va_runV (As := [.int x, .int y]) (rest := []) ⟨hx, hb, hml, hown, hts⟩ (c_X7_areTwo l D cI cB cO o q1 fs n mm rg bl G M x y hm) (cwV 2 hts gX7_growth_X7_areTwo rfl rfl rfl (by decide +kernel) ⟨Nat.le_of_ble_eq_true rfl, Nat.le_of_ble_eq_true rfl⟩) (rd_preV (r := (RX7, TX7, 15)) (ci := 7) hK (hP.pick [0, 1] rfl) hN (q0 := 0) rfl rfl) rfl rfl hl.1 rfl (lv_room (Nat.le_of_ble_eq_true rfl)) dX7_growth_3 ⟨Nat.le_refl _, Nat.le_refl _⟩) (fun r_3 H locs h_3 hP hS => ?_)
  refine lv_if_eq (tgt := 18) hx hb dX7_growth_6 (by decide) (fun c_6 => ?_) (fun c_6 => ?_)
  · skip
    have d1 : pairB n x y = false := bI_e0 (h_3.symm.trans c_6)
    refine lv_bipush (v := (-2)) hx hb dX7_growth_18 (by decide) ?_
    exact W.iret (v := -2) hx hb hr (fun tS htS hWS => ⟨⟨-2, (), rfl, (by unfold A_growth; rw [if_neg]; intro q; first | exact Bool.false_ne_true (d1.symm.trans q.1) | exact Bool.false_ne_true (d2.symm.trans q.2) | fail), trivial⟩, hS.F htS⟩) hS.2.2 dX7_growth_20
  · skip
    have d1 : pairB n x y = true := bI_n0 (fun q => c_6 (h_3.trans q))
    refine lv_iload_n hx hb dX7_growth_9 rfl (lv_at hl 3 rfl) ?_
    refine lv_iconst (v := 0) hx hb dX7_growth_10 (by decide) ?_
    refine lv_iconst (v := 2) hx hb dX7_growth_11 (by decide) ?_
    refine rd_calli hP hS (va_runS (As := [.int w, .int 0, .int 2]) (rest := []) ⟨hx, hb, hml, hown, hts⟩ (c_X7_in l D cI cB cO w 0 2 ) (va_cwS 3 hts gX7_growth_X7_in rfl rfl rfl (by decide +kernel) ⟨Nat.le_of_ble_eq_true rfl, Nat.le_of_ble_eq_true rfl⟩) (rd_preS hK (hP.pick [] rfl) hN) rfl rfl hl.1 rfl (lv_room (Nat.le_of_ble_eq_true rfl)) dX7_growth_12 ⟨Nat.le_refl _, Nat.le_refl _⟩) (fun r_12 H locs h_12 hP hS => ?_)
    refine lv_if_ne (tgt := 21) hx hb dX7_growth_15 (by decide) (fun c_15 => ?_) (fun c_15 => ?_)
    · skip
      have d2 := bI_n0 (fun q => c_15 (h_12.trans q))
      obtain ⟨a, b, ha, hb0, hab, rfl, rfl⟩ := pairB_T d1 hn
      have ea : A_growth n bl G M (nI a) (nI b) w = if gT bl G M a b < 401 then (if w = 0 then nI (gT bl G M a b) else if w = 1 then nI (gF bl G M a b) else nI (gT bl G M a b - gF bl G M a b)) else -1 := by unfold A_growth; rw [if_pos ⟨d1, d2⟩, cN_nI (by omega), cN_nI (by omega)]
      refine lv_iconst (v := 0) hx hb dX7_growth_21 (by decide) ?_
      refine lv_istore (lv' := [(4, .int 0), (0, .ref o), (1, .int (nI a)), (2, .int (nI b)), (3, .int w)]) hx hb dX7_growth_22 hl (by decide) rfl (fun ls hl => ?_)
      have L_24 : ∀ (k_24 : Nat) (t : Nat), 401 - t < k_24 → (t ≤ 401) → (∀ u, u < t → ∀ g, g ≤ u → grB bl G M a b g (u - g) = false) → ∀ (H : Heap) (locs : List Loc), va_P D vwCl [(o, .inr (7, .ref q1 :: fs)), (q1, .inl (cI, 43, .inl mm))] H → va_S noA s.heap H locs → ∀ (ls : Array Slot), lv_has ls 8 [(0, .ref o), (1, .int (nI a)), (2, .int (nI b)), (3, .int w), (4, .int (nI t))] → W p l e (rmD 6) s m ([.ref o, .int (nI a), .int (nI b), .int w] : List Value).toArray below meth c H locs 0 0 (MQ below (rdQi (fun r => r = A_growth n bl G M (nI a) (nI b) w)) ([.ref o, .int (nI a), .int (nI b), .int w] : List Value).toArray s 0 0 noA) (F0 m 24 ls []) := by
        intro k_24
        induction k_24 with
        | zero => intro t h9; exact absurd h9 (Nat.not_lt_zero _)
        | succ k_24 ih_24 =>
          intro t hm_24 ht hn0 H locs hP hS ls hl
          refine lv_iload hx hb dX7_growth_24 (lv_at hl 4 rfl) ?_
          refine lv_sipush (v := 400) hx hb dX7_growth_26 (by decide) ?_
          refine lv_icmp_gt (tgt := 156) hx hb dX7_growth_29 (by decide) (fun c_29 => ?_) (fun c_29 => ?_)
          · skip
            have c0 : 400 < t := gt_t (n := 400) (by omega) c_29
            refine lv_iconst (v := (-1)) hx hb dX7_growth_156 (by decide) ?_
            exact W.iret (v := -1) hx hb hr (fun tS htS hWS => ⟨⟨-1, (), rfl, (by rw [ea, if_neg (gr_none (by have e9 : t = 401 := (by omega); rw [← e9]; exact hn0))]), trivial⟩, hS.F htS⟩) hS.2.2 dX7_growth_157
          · skip
            have c0 : t ≤ 400 := by rcases Nat.lt_or_ge 400 t with q | q; exact absurd (nI_lt q (by omega)) c_29; exact q
            refine lv_iconst (v := 0) hx hb dX7_growth_32 (by decide) ?_
            refine lv_istore (lv' := [(5, .int 0), (0, .ref o), (1, .int (nI a)), (2, .int (nI b)), (3, .int w), (4, .int (nI t))]) hx hb dX7_growth_33 hl (by decide) rfl (fun ls hl => ?_)
            have L_35 : ∀ (k_35 : Nat) (f : Nat), t + 1 - f < k_35 → (f ≤ t + 1) → (∀ g, g < f → grB bl G M a b g (t - g) = false) → ∀ (H : Heap) (locs : List Loc), va_P D vwCl [(o, .inr (7, .ref q1 :: fs)), (q1, .inl (cI, 43, .inl mm))] H → va_S noA s.heap H locs → ∀ (ls : Array Slot), lv_has ls 8 [(0, .ref o), (1, .int (nI a)), (2, .int (nI b)), (3, .int w), (4, .int (nI t)), (5, .int (nI f))] → W p l e (rmD 6) s m ([.ref o, .int (nI a), .int (nI b), .int w] : List Value).toArray below meth c H locs 0 0 (MQ below (rdQi (fun r => r = A_growth n bl G M (nI a) (nI b) w)) ([.ref o, .int (nI a), .int (nI b), .int w] : List Value).toArray s 0 0 noA) (F0 m 35 ls []) := by
              intro k_35
              induction k_35 with
              | zero => intro f h9; exact absurd h9 (Nat.not_lt_zero _)
              | succ k_35 ih_35 =>
                intro f hm_35 hf hi0 H locs hP hS ls hl
                refine lv_iload hx hb dX7_growth_35 (lv_at hl 5 rfl) ?_
                refine lv_iload hx hb dX7_growth_37 (lv_at hl 4 rfl) ?_
                refine lv_icmp_gt (tgt := 150) hx hb dX7_growth_39 (by decide) (fun c_39 => ?_) (fun c_39 => ?_)
                · skip
                  have c1 : t < f := gt_t (by omega) c_39
                  refine lv_iinc (v := nI (t + 1)) (lv' := [(4, .int (nI (t + 1))), (0, .ref o), (1, .int (nI a)), (2, .int (nI b)), (3, .int w), (5, .int (nI f))]) hx hb dX7_growth_150 hl (k := 4) rfl (inc1 _) (by decide) rfl (fun ls hl => ?_)
                  refine lv_goto (tgt := 24) hx hb dX7_growth_153 (by decide) ?_
                  exact ih_24 (t + 1) (by omega) (by omega) (gr_up hn0 hi0 c1) _ _ hP hS ls (lv_sub hl [1, 2, 3, 4, 0] rfl)
                · skip
                  have c1 : f ≤ t := by rcases Nat.lt_or_ge t f with q | q; exact absurd (nI_lt q (by omega)) c_39; exact q
                  refine lv_iload hx hb dX7_growth_42 (lv_at hl 4 rfl) ?_
                  refine lv_iload hx hb dX7_growth_44 (lv_at hl 5 rfl) ?_
                  refine lv_isub hx hb dX7_growth_46 ?_
                  refine lv_topi (fun y_1 e_2 => ?_)
                  have e_2 : nI (t - f) = y_1 := (e_2.trans (pk_sub (by omega))).symm
                  subst e_2
                  refine lv_istore (lv' := [(6, .int (nI (t - f))), (0, .ref o), (1, .int (nI a)), (2, .int (nI b)), (3, .int w), (4, .int (nI t)), (5, .int (nI f))]) hx hb dX7_growth_47 hl (by decide) rfl (fun ls hl => ?_)
                  refine lv_aload_n hx hb dX7_growth_49 rfl (lv_at hl 1 rfl) ?_
                  refine va_get (D := D) (ci := 7) (v := .ref q1) (C := RX7) (T := TX7) (N := 15) hx hb hts kX7_growth_0 hown hK hP 0 rfl rfl 0 (by decide) (hts (.fieldLink RX7 7 "SightRidgeModel" "m" "[I") kX7_growth_1) (fun _ h9 => h9) rfl dX7_growth_50 ?_
                  refine lv_bipush (v := 23) hx hb dX7_growth_53 (by decide) ?_
                  refine lv_iload_n hx hb dX7_growth_55 rfl (lv_at hl 2 rfl) ?_
                  refine lv_iadd hx hb dX7_growth_56 ?_
                  refine lv_topi (fun y_3 e_4 => ?_)
                  have e_4 : nI (23 + a) = y_3 := (e_4.trans (nI_add 23 a)).symm
                  subst e_4
                  refine va_iald hx hb hK hP 1 0 rfl rfl (i := nI (23 + a)) (vp_in_nI (N := 43) (by omega) (by decide)) dX7_growth_57 ?_
                  rw [nI_clamp (n := 23 + a) (by omega)]
                  refine lv_topi (fun y_5 e_6 => ?_)
                  have e_6 : M a = y_5 := (e_6.trans (hM a ha)).symm
                  subst e_6
                  refine lv_iload hx hb dX7_growth_58 (lv_at hl 6 rfl) ?_
                  refine lv_iadd hx hb dX7_growth_60 ?_
                  refine lv_sipush (v := 200) hx hb dX7_growth_61 (by decide) ?_
                  refine lv_icmp_gt (tgt := 89) hx hb dX7_growth_64 (by decide) (fun c_64 => ?_) (fun c_64 => ?_)
                  · skip
                    have g1 := decide_eq_false (Int32.not_le.mpr c_64)
                    refine lv_iconst (v := 0) hx hb dX7_growth_89 (by decide) ?_
                    refine lv_istore (lv' := [(7, .int 0), (6, .int (nI (t - f))), (0, .ref o), (1, .int (nI a)), (2, .int (nI b)), (3, .int w), (4, .int (nI t)), (5, .int (nI f))]) hx hb dX7_growth_90 hl (by decide) rfl (fun ls hl => ?_)
                    refine lv_iload hx hb dX7_growth_92 (lv_at hl 0 rfl) ?_
                    refine lv_if_eq (tgt := 144) hx hb dX7_growth_94 (by decide) (fun c_94 => ?_) (fun c_94 => ?_)
                    · skip
                      refine lv_iinc (v := nI (f + 1)) (lv' := [(5, .int (nI (f + 1))), (7, .int 0), (6, .int (nI (t - f))), (0, .ref o), (1, .int (nI a)), (2, .int (nI b)), (3, .int w), (4, .int (nI t))]) hx hb dX7_growth_144 hl (k := 7) rfl (inc1 _) (by decide) rfl (fun ls hl => ?_)
                      refine lv_goto (tgt := 35) hx hb dX7_growth_147 (by decide) ?_
                      exact ih_35 (f + 1) (by omega) (by omega) (gr_lt hi0 (by unfold grB; first | (rw [g1]; rfl) | (rw [g2, Bool.and_false]; rfl) | (rw [g3, Bool.and_false]) | fail)) _ _ hP hS ls (lv_sub hl [3, 4, 5, 6, 7, 0] rfl)
                    · skip
                      exact absurd (by decide) c_94
                  · skip
                    have g1 := decide_eq_true (Int32.not_lt.mp c_64)
                    refine lv_aload_n hx hb dX7_growth_67 rfl (lv_at hl 1 rfl) ?_
                    refine va_get (D := D) (ci := 7) (v := .ref q1) (C := RX7) (T := TX7) (N := 15) hx hb hts kX7_growth_0 hown hK hP 0 rfl rfl 0 (by decide) (hts (.fieldLink RX7 7 "SightRidgeModel" "m" "[I") kX7_growth_1) (fun _ h9 => h9) rfl dX7_growth_68 ?_
                    refine lv_bipush (v := 23) hx hb dX7_growth_71 (by decide) ?_
                    refine lv_iload_n hx hb dX7_growth_73 rfl (lv_at hl 3 rfl) ?_
                    refine lv_iadd hx hb dX7_growth_74 ?_
                    refine lv_topi (fun y_7 e_8 => ?_)
                    have e_8 : nI (23 + b) = y_7 := (e_8.trans (nI_add 23 b)).symm
                    subst e_8
                    refine va_iald hx hb hK hP 1 0 rfl rfl (i := nI (23 + b)) (vp_in_nI (N := 43) (by omega) (by decide)) dX7_growth_75 ?_
                    rw [nI_clamp (n := 23 + b) (by omega)]
                    refine lv_topi (fun y_9 e_10 => ?_)
                    have e_10 : M b = y_9 := (e_10.trans (hM b hb0)).symm
                    subst e_10
                    refine lv_iload hx hb dX7_growth_76 (lv_at hl 0 rfl) ?_
                    refine lv_iadd hx hb dX7_growth_78 ?_
                    refine lv_sipush (v := 200) hx hb dX7_growth_79 (by decide) ?_
                    refine lv_icmp_gt (tgt := 89) hx hb dX7_growth_82 (by decide) (fun c_82 => ?_) (fun c_82 => ?_)
                    · skip
                      have g2 := decide_eq_false (Int32.not_le.mpr c_82)
                      refine lv_iconst (v := 0) hx hb dX7_growth_89 (by decide) ?_
                      refine lv_istore (lv' := [(7, .int 0), (6, .int (nI (t - f))), (0, .ref o), (1, .int (nI a)), (2, .int (nI b)), (3, .int w), (4, .int (nI t)), (5, .int (nI f))]) hx hb dX7_growth_90 hl (by decide) rfl (fun ls hl => ?_)
                      refine lv_iload hx hb dX7_growth_92 (lv_at hl 0 rfl) ?_
                      refine lv_if_eq (tgt := 144) hx hb dX7_growth_94 (by decide) (fun c_94 => ?_) (fun c_94 => ?_)
                      · skip
                        refine lv_iinc (v := nI (f + 1)) (lv' := [(5, .int (nI (f + 1))), (7, .int 0), (6, .int (nI (t - f))), (0, .ref o), (1, .int (nI a)), (2, .int (nI b)), (3, .int w), (4, .int (nI t))]) hx hb dX7_growth_144 hl (k := 7) rfl (inc1 _) (by decide) rfl (fun ls hl => ?_)
                        refine lv_goto (tgt := 35) hx hb dX7_growth_147 (by decide) ?_
                        exact ih_35 (f + 1) (by omega) (by omega) (gr_lt hi0 (by unfold grB; first | (rw [g1]; rfl) | (rw [g2, Bool.and_false]; rfl) | (rw [g3, Bool.and_false]) | fail)) _ _ hP hS ls (lv_sub hl [3, 4, 5, 6, 7, 0] rfl)
                      · skip
                        exact absurd (by decide) c_94
                    · skip
                      have g2 := decide_eq_true (Int32.not_lt.mp c_82)
                      refine lv_iconst (v := 1) hx hb dX7_growth_85 (by decide) ?_
                      refine lv_goto (tgt := 90) hx hb dX7_growth_86 (by decide) ?_
                      refine lv_istore (lv' := [(7, .int 1), (6, .int (nI (t - f))), (0, .ref o), (1, .int (nI a)), (2, .int (nI b)), (3, .int w), (4, .int (nI t)), (5, .int (nI f))]) hx hb dX7_growth_90 hl (by decide) rfl (fun ls hl => ?_)
                      refine lv_iload hx hb dX7_growth_92 (lv_at hl 0 rfl) ?_
                      refine lv_if_eq (tgt := 144) hx hb dX7_growth_94 (by decide) (fun c_94 => ?_) (fun c_94 => ?_)
                      · skip
                        exact absurd c_94 (by decide)
                      · skip
                        refine lv_aload_n hx hb dX7_growth_97 rfl (lv_at hl 2 rfl) ?_
                        refine lv_iload_n hx hb dX7_growth_98 rfl (lv_at hl 3 rfl) ?_
                        refine lv_aload_n hx hb dX7_growth_99 rfl (lv_at hl 2 rfl) ?_
                        refine lv_iload_n hx hb dX7_growth_100 rfl (lv_at hl 3 rfl) ?_
                        refine rd_calli hP hS (va_runV (As := [.int (nI a)]) (rest := [.int (nI a), .ref o]) ⟨hx, hb, hml, hown, hts⟩ (c_X7_top l D cI cB cO o q1 fs n mm rg bl G M a hm ha) (cwV 1 hts gX7_growth_X7_top rfl rfl rfl (by decide +kernel) ⟨Nat.le_of_ble_eq_true rfl, Nat.le_of_ble_eq_true rfl⟩) (rd_preV (r := (RX7, TX7, 15)) (ci := 7) hK (hP.pick [0, 1] rfl) hN (q0 := 0) rfl rfl) rfl rfl hl.1 rfl (lv_room (Nat.le_of_ble_eq_true rfl)) dX7_growth_101 ⟨Nat.le_refl _, Nat.le_refl _⟩) (fun r_101 H locs h_101 hP hS => ?_)
                        subst h_101
                        refine lv_iload hx hb dX7_growth_104 (lv_at hl 7 rfl) ?_
                        refine lv_iadd hx hb dX7_growth_106 ?_
                        refine lv_iload_n hx hb dX7_growth_107 rfl (lv_at hl 4 rfl) ?_
                        refine lv_aload_n hx hb dX7_growth_108 rfl (lv_at hl 2 rfl) ?_
                        refine lv_iload_n hx hb dX7_growth_109 rfl (lv_at hl 4 rfl) ?_
                        refine rd_calli hP hS (va_runV (As := [.int (nI b)]) (rest := [.int (nI b), .int ((tp G M a) + (nI f)), .int (nI a), .ref o]) ⟨hx, hb, hml, hown, hts⟩ (c_X7_top l D cI cB cO o q1 fs n mm rg bl G M b hm hb0) (cwV 1 hts gX7_growth_X7_top rfl rfl rfl (by decide +kernel) ⟨Nat.le_of_ble_eq_true rfl, Nat.le_of_ble_eq_true rfl⟩) (rd_preV (r := (RX7, TX7, 15)) (ci := 7) hK (hP.pick [0, 1] rfl) hN (q0 := 0) rfl rfl) rfl rfl hl.1 rfl (lv_room (Nat.le_of_ble_eq_true rfl)) dX7_growth_110 ⟨Nat.le_refl _, Nat.le_refl _⟩) (fun r_110 H locs h_110 hP hS => ?_)
                        subst h_110
                        refine lv_iload hx hb dX7_growth_113 (lv_at hl 1 rfl) ?_
                        refine lv_iadd hx hb dX7_growth_115 ?_
                        refine rd_calli hP hS (va_runV (As := [.int (nI a), .int ((tp G M a) + (nI f)), .int (nI b), .int ((tp G M b) + (nI (t - f)))]) (rest := []) ⟨hx, hb, hml, hown, hts⟩ (c_X7_meet l D cI cB cO o q1 fs n mm rg bl G M a (tp G M a + nI f) b (tp G M b + nI (t - f)) hm ha hb0) (cwV 4 hts gX7_growth_X7_meet rfl rfl rfl (by decide +kernel) ⟨Nat.le_of_ble_eq_true rfl, Nat.le_of_ble_eq_true rfl⟩) (rd_preV (r := (RX7, TX7, 15)) (ci := 7) hK (hP.pick [0, 1] rfl) hN (q0 := 0) rfl rfl) rfl rfl hl.1 rfl (lv_room (Nat.le_of_ble_eq_true rfl)) dX7_growth_116 ⟨Nat.le_refl _, Nat.le_refl _⟩) (fun r_116 H locs h_116 hP hS => ?_)
                        refine lv_if_eq (tgt := 144) hx hb dX7_growth_119 (by decide) (fun c_119 => ?_) (fun c_119 => ?_)
                        · skip
                          have g3 := bI_e0 (h_116.symm.trans c_119)
                          refine lv_iinc (v := nI (f + 1)) (lv' := [(5, .int (nI (f + 1))), (7, .int 1), (6, .int (nI (t - f))), (0, .ref o), (1, .int (nI a)), (2, .int (nI b)), (3, .int w), (4, .int (nI t))]) hx hb dX7_growth_144 hl (k := 7) rfl (inc1 _) (by decide) rfl (fun ls hl => ?_)
                          refine lv_goto (tgt := 35) hx hb dX7_growth_147 (by decide) ?_
                          exact ih_35 (f + 1) (by omega) (by omega) (gr_lt hi0 (by unfold grB; first | (rw [g1]; rfl) | (rw [g2, Bool.and_false]; rfl) | (rw [g3, Bool.and_false]) | fail)) _ _ hP hS ls (lv_sub hl [3, 4, 5, 6, 7, 0] rfl)
                        · skip
                          have g3 := bI_n0 (fun q => c_119 (h_116.trans q))
                          have ge9 : grB bl G M a b f (t - f) = true := by unfold grB; rw [g1, g2, g3]; rfl
                          obtain ⟨ga, gb⟩ := gr_ans hn0 hi0 ge9 c1 c0
                          rw [ga, gb, if_pos (show t < 401 by omega)] at ea
                          refine lv_iload_n hx hb dX7_growth_122 rfl (lv_at hl 5 rfl) ?_
                          refine lv_if_ne (tgt := 131) hx hb dX7_growth_123 (by decide) (fun c_123 => ?_) (fun c_123 => ?_)
                          · skip
                            refine lv_iload_n hx hb dX7_growth_131 rfl (lv_at hl 5 rfl) ?_
                            refine lv_iconst (v := 1) hx hb dX7_growth_132 (by decide) ?_
                            refine lv_icmp_ne (tgt := 141) hx hb dX7_growth_133 (by decide) (fun c_133 => ?_) (fun c_133 => ?_)
                            · skip
                              refine lv_iload hx hb dX7_growth_141 (lv_at hl 1 rfl) ?_
                              exact W.iret (v := nI (t - f)) hx hb hr (fun tS htS hWS => ⟨⟨nI (t - f), (), rfl, (by rw [ea, if_neg c_123, if_neg c_133]), trivial⟩, hS.F htS⟩) hS.2.2 dX7_growth_143
                            · skip
                              refine lv_iload hx hb dX7_growth_136 (lv_at hl 7 rfl) ?_
                              refine lv_goto (tgt := 143) hx hb dX7_growth_138 (by decide) ?_
                              exact W.iret (v := nI f) hx hb hr (fun tS htS hWS => ⟨⟨nI f, (), rfl, (by rw [ea, if_neg c_123, if_pos (by first | exact c_133 | exact Decidable.not_not.mp c_133)]), trivial⟩, hS.F htS⟩) hS.2.2 dX7_growth_143
                          · skip
                            refine lv_iload hx hb dX7_growth_126 (lv_at hl 6 rfl) ?_
                            refine lv_goto (tgt := 143) hx hb dX7_growth_128 (by decide) ?_
                            exact W.iret (v := nI t) hx hb hr (fun tS htS hWS => ⟨⟨nI t, (), rfl, (by rw [ea, if_pos (by first | exact c_123 | exact Decidable.not_not.mp c_123)]), trivial⟩, hS.F htS⟩) hS.2.2 dX7_growth_143
            exact L_35 _ 0 (Nat.lt_succ_self _) (by omega) (fun u hu => absurd hu (Nat.not_lt_zero u)) _ _ hP hS ls (lv_sub hl [1, 2, 3, 4, 5, 0] rfl)
      exact L_24 _ 0 (Nat.lt_succ_self _) (by omega) (fun u hu => absurd hu (Nat.not_lt_zero u)) _ _ hP hS ls (lv_sub hl [1, 2, 3, 4, 0] rfl)
    · skip
      have d2 := bI_e0 (h_12.symm.trans c_15)
      refine lv_bipush (v := (-2)) hx hb dX7_growth_18 (by decide) ?_
      exact W.iret (v := -2) hx hb hr (fun tS htS hWS => ⟨⟨-2, (), rfl, (by unfold A_growth; rw [if_neg]; intro q; first | exact Bool.false_ne_true (d1.symm.trans q.1) | exact Bool.false_ne_true (d2.symm.trans q.2) | fail), trivial⟩, hS.F htS⟩) hS.2.2 dX7_growth_20
