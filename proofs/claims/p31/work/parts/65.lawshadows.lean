/-! the law's walk over the shadows of one station -/
def shI (n : Nat) (P : Nat → Bool) (t y : Nat) (w : Int32) : Prop := (w = -1 ∧ y = fb_ct (runS P) (min t n) ∧ (t = 0 ∨ n < t ∨ P (t - 1) = false)) ∨ (∃ i, w = nI i ∧ i < t ∧ t ≤ n ∧ (∀ u, i ≤ u → u < t → P u = true) ∧ runS P i = true ∧ fb_ct (runS P) i = y)
theorem shI_0 (n : Nat) (P : Nat → Bool) : shI n P 0 0 (-1) := Or.inl ⟨rfl, by rw [Nat.min_eq_left (Nat.zero_le n)]; rfl, Or.inl rfl⟩
theorem runS_F {P : Nat → Bool} {t : Nat} (h : P t = false) : runS P t = false := by unfold runS; rw [h]; rfl
theorem shA_T {n t y : Nat} {P : Nat → Bool} (ht : t < n) (ey : y = fb_ct (runS P) (min t n)) (hA : t = 0 ∨ n < t ∨ P (t - 1) = false) (h : P t = true) : shI n P (t + 1) y (nI t) := by
  refine Or.inr ⟨t, rfl, Nat.lt_succ_self t, ht, fun u h1 h2 => by rw [show u = t by omega]; exact h, ?_, ?_⟩
  · unfold runS
    rw [h]
    rcases hA with q | q | q
    · rw [q]; rfl
    · omega
    · rw [q, Bool.and_false]; rfl
  · rw [ey, Nat.min_eq_left (Nat.le_of_lt ht)]
theorem shA_F {n t y : Nat} {P : Nat → Bool} (ht : t ≤ n) (ey : y = fb_ct (runS P) (min t n)) (h : n ≤ t ∨ P t = false) : shI n P (t + 1) y (-1) := by
  refine Or.inl ⟨rfl, ?_, ?_⟩
  · rcases Nat.lt_or_ge t n with q | q
    · have h2 : P t = false := h.resolve_left (by omega)
      rw [ey, Nat.min_eq_left ht, Nat.min_eq_left q, fb_ct_F (runS_F h2)]
    · rw [ey, show min t n = n by omega, show min (t + 1) n = n by omega]
  · rcases h with q | q
    · exact Or.inr (Or.inl (by omega))
    · exact Or.inr (Or.inr q)
theorem shB_T {n t y i : Nat} {P : Nat → Bool} (ht : t < n) (hit : i < t) (hrun : ∀ u, i ≤ u → u < t → P u = true) (hst : runS P i = true) (hct : fb_ct (runS P) i = y) (h : P t = true) : shI n P (t + 1) y (nI i) := by
  refine Or.inr ⟨i, rfl, by omega, ht, fun u h1 h2 => ?_, hst, hct⟩
  rcases Nat.eq_or_lt_of_le (Nat.le_of_lt_succ h2) with q | q
  · rw [q]; exact h
  · exact hrun u h1 q
theorem sh_open {t y i : Nat} {P : Nat → Bool} (hit : i < t) (hrun : ∀ u, i ≤ u → u < t → P u = true) (hst : runS P i = true) (hct : fb_ct (runS P) i = y) : fb_ct (runS P) t = y + 1 := by
  rw [fb_ct_stop (P := runS P) (k := i + 1) (by omega) (fun u h1 h2 => ?_), fb_ct_T hst, hct]
  unfold runS
  rw [hrun (u - 1) (by omega) (by omega), decide_eq_true (show 0 < u by omega)]
  cases P u <;> rfl
theorem shB_F {n t y i : Nat} {P : Nat → Bool} (ht : t ≤ n) (hit : i < t) (hrun : ∀ u, i ≤ u → u < t → P u = true) (hst : runS P i = true) (hct : fb_ct (runS P) i = y) (h : n ≤ t ∨ P t = false) : shI n P (t + 1) (y + 1) (-1) := by
  have ho := sh_open hit hrun hst hct
  refine Or.inl ⟨rfl, ?_, ?_⟩
  · rcases Nat.lt_or_ge t n with q | q
    · have h2 : P t = false := h.resolve_left (by omega)
      rw [Nat.min_eq_left q, fb_ct_F (runS_F h2), ho]
    · rw [show min (t + 1) n = t by omega, ho]
  · rcases h with q | q
    · exact Or.inr (Or.inl (by omega))
    · exact Or.inr (Or.inr q)
theorem sh_q0 {n s y i : Nat} {bl : Int32} {G M : Nat → Int32} (hn : n ≤ 20) (hs : s < n) (hi : i < n) (hst : runS (hidB bl G M s) i = true) (hct : fb_ct (runS (hidB bl G M s)) i = y) : A_shadow n bl G M (nI s) (nI y) 0 = nI i := by
  have hy : y ≤ 20 := by have := fb_ct_le (runS (hidB bl G M s)) i; omega
  unfold A_shadow
  rw [if_pos ⟨hasB_in hs hn, nI_le (a := 0) (Nat.zero_le y) (by omega), by decide⟩, if_pos rfl, cN_nI (by omega), cN_nI (by omega)]
  exact kth_at hst hct hi
theorem sh_q1 {n s y i t : Nat} {bl : Int32} {G M : Nat → Int32} (hn : n ≤ 20) (hs : s < n) (hit : i < t) (ht : t ≤ n) (hrun : ∀ u, i ≤ u → u < t → hidB bl G M s u = true) (hst : runS (hidB bl G M s) i = true) (hct : fb_ct (runS (hidB bl G M s)) i = y) (h : n ≤ t ∨ hidB bl G M s t = false) : A_shadow n bl G M (nI s) (nI y) 1 = nI (t - 1) := by
  have hy : y ≤ 20 := by have := fb_ct_le (runS (hidB bl G M s)) i; omega
  unfold A_shadow
  rw [if_pos ⟨hasB_in hs hn, nI_le (a := 0) (Nat.zero_le y) (by omega), by decide⟩, if_neg (by decide), cN_nI (by omega), cN_nI (by omega)]
  refine run_end hst hct (by omega) (by omega) (fun u h1 h2 => hrun u h1 (by omega)) ?_
  rw [show t - 1 + 1 = t by omega]
  rcases h with q | q
  · rw [decide_eq_false (by omega)]; rfl
  · rw [q, Bool.and_false]
theorem sh_few {n s y : Nat} {bl : Int32} {G M : Nat → Int32} (hn : n ≤ 20) (hs : s < n) (hct : y = fb_ct (runS (hidB bl G M s)) n) : A_shadow n bl G M (nI s) (nI y) 0 = -1 := by
  have hy : y ≤ 20 := by have := fb_ct_le (runS (hidB bl G M s)) n; omega
  unfold A_shadow
  rw [if_pos ⟨hasB_in hs hn, nI_le (a := 0) (Nat.zero_le y) (by omega), by decide⟩, if_pos rfl, cN_nI (by omega), cN_nI (by omega)]
  exact kth_few (Nat.le_of_eq hct.symm)
theorem sh_neg {n : Nat} {bl x w : Int32} {G M : Nat → Int32} : A_shadow n bl G M x (-1) w = -2 := by
  unfold A_shadow
  rw [if_neg (fun q => absurd q.2.1 (by decide))]
theorem sh_two {n : Nat} {bl x y : Int32} {G M : Nat → Int32} : A_shadow n bl G M x y 2 = -2 := by
  unfold A_shadow
  rw [if_neg (fun q => absurd q.2.2 (by decide))]
theorem hid_F {bl : Int32} {f M : Nat → Int32} {n s t : Nat} (hn : n ≤ 20) (ht : t < n) (h : ¬ nI (bs (gsB f bl s (tp f M s)) n / 2 ^ t % 2) = 0) : hidB bl f M s t = false := by
  unfold hidB
  have h2 : (bs (gsB f bl s (tp f M s)) n).testBit t = true := by
    rw [Nat.testBit_eq_decide_div_mod_eq]
    refine decide_eq_true ?_
    rcases Nat.mod_two_eq_zero_or_one (bs (gsB f bl s (tp f M s)) n / 2 ^ t) with q | q
    · exact absurd (by rw [q]; rfl) h
    · exact q
  rw [bs_bit, decide_eq_true ht, Bool.true_and] at h2
  rw [h2]; rfl
theorem hid_T {bl : Int32} {f M : Nat → Int32} {n s t : Nat} (hn : n ≤ 20) (ht : t < n) (h : nI (bs (gsB f bl s (tp f M s)) n / 2 ^ t % 2) = 0) : hidB bl f M s t = true := by
  unfold hidB
  have h2 : (bs (gsB f bl s (tp f M s)) n).testBit t = false := by
    rw [Nat.testBit_eq_decide_div_mod_eq]
    refine decide_eq_false (fun q => ?_)
    rw [q] at h
    exact absurd h (by decide)
  rw [bs_bit, decide_eq_true ht, Bool.true_and] at h2
  rw [h2]; rfl
theorem bs_30 {P : Nat → Bool} {n : Nat} (hn : n ≤ 20) : bs P n < 2 ^ 31 := Nat.lt_of_lt_of_le (bs_lt P n) (Nat.pow_le_pow_right (by decide) (by omega))
set_option maxHeartbeats 4000000 in
set_option maxRecDepth 100000 in
/-- areShadows(o, a, s) -/
theorem c_L_areShadows (l : Launch) (D : va_G) (cI cB cO : ClassId) (A : Nat → Nat) (qa : Nat) (f : Nat → Int32) (n : Nat) (X0 : va_W) (s0 : Nat) (hR : RF f n) (hX0 : SRX cI cB cO A X0 n (f 17) (f 18) f (M8 f)) (hs : s0 < n) : Met l yL_areShadows wsL_areShadows (rmD 7) (wrPc D (tyL cI cB cO) [.ref (A 0), .ref qa, .int (nI s0)] ((qa, .inl (cI, 20, .inl f)) :: X0)) (wrQi D ((qa, .inl (cI, 20, .inl f)) :: X0) (fun (r : Int32) (u : va_W) => r = 1 ∧ SRX cI cB cO A u n (f 17) (f 18) f (M8 f)) (fun (u : va_W) => ((qa, .inl (cI, 20, .inl f)) :: u))) 0 0 (inW ((qa, .inl (cI, 20, .inl f)) :: X0)) := by
  refine Met.ofW (cc := cL_areShadows) (maxL := 8) (ret := (some .boolean)) (by decide) rfl ?_
  intro p e s m args below meth c s₁ B hml hv
  obtain ⟨rfl, hP, hK, hN, hD⟩ := hv
  have hx := B.exec
  have hb := B.bytes
  have hr := B.returns
  have hts := atoms_spec (ws := wsL_areShadows) B.pre
  have hown : s.vm.findClass RL = some m.cls := findClass_of_methodNamed B.named
  have hlocks := B.notSynchronized
  have hS : va_S (inW ((qa, .inl (cI, 20, .inl f)) :: X0)) s.heap s.heap [] := va_S.rf
  have hD : va_D (inW ((qa, .inl (cI, 20, .inl f)) :: X0)) ((qa, .inl (cI, 20, .inl f)) :: X0) := inW_self hD
  have hl := lv_entry ([.ref (A 0), .ref qa, .int (nI s0)]) (n := 8) (Nat.le_of_ble_eq_true rfl)
  rw [lg_entry_eq]
  generalize (lg_sl ([.ref (A 0), .ref qa, .int (nI s0)]) ++ List.replicate (8 - (lg_sl ([.ref (A 0), .ref qa, .int (nI s0)])).length) Slot.unset).toArray = ls at hl ⊢
  have hl : lv_has ls 8 [(0, .ref (A 0)), (1, .ref qa), (2, .int (nI s0))] := hl
  have h8 : n ≤ 8 := hR.2.1
  have h2n : 2 ≤ n := hR.n2
  have hn : n ≤ 20 := by omega
  have h16 : f 16 = nI n := hR.1
  obtain ⟨X, hX, hP, hD⟩ : ∃ X : va_W, SRX cI cB cO A X n (f 17) (f 18) f (M8 f) ∧ va_P D vwCl ((qa, .inl (cI, 20, .inl f)) :: X) s.heap ∧ va_D (inW ((qa, .inl (cI, 20, .inl f)) :: X0)) ((qa, .inl (cI, 20, .inl f)) :: X) := ⟨X0, hX0, hP, hD⟩
  refine lv_aload_n hx hb dL_areShadows_0 rfl (lv_at hl 1 rfl) ?_
  refine lv_iload_n hx hb dL_areShadows_1 rfl (lv_at hl 2 rfl) ?_
  refine rd_calli hP hS (va_runS (As := [.ref qa, .int (nI s0)]) (rest := []) ⟨hx, hb, hml, hown, hts⟩ (c_L_grounds l D cI cB cO qa f n s0 hR hs) (va_cwS 2 hts gL_areShadows_L_grounds rfl rfl rfl (by decide +kernel) ⟨Nat.le_of_ble_eq_true rfl, Nat.le_of_ble_eq_true rfl⟩) (rd_preS hK (hP.pick [0] rfl) hN) rfl rfl hl.1 rfl (lv_room (Nat.le_of_ble_eq_true rfl)) dL_areShadows_2 ⟨Nat.le_refl _, Nat.le_refl _⟩) (fun r_2 H locs h_2 hP hS => ?_)
  subst h_2
  refine lv_istore_n (lv' := [(3, .int (nI (bs (gsB f (f 18) s0 (tp f (M8 f) s0)) n))), (0, .ref (A 0)), (1, .ref qa), (2, .int (nI s0))]) hx hb dL_areShadows_5 rfl hl (by decide) rfl (fun ls hl => ?_)
  refine lv_iconst (v := 0) hx hb dL_areShadows_6 (by decide) ?_
  refine lv_istore (lv' := [(4, .int 0), (3, .int (nI (bs (gsB f (f 18) s0 (tp f (M8 f) s0)) n))), (0, .ref (A 0)), (1, .ref qa), (2, .int (nI s0))]) hx hb dL_areShadows_7 hl (by decide) rfl (fun ls hl => ?_)
  refine lv_iconst (v := (-1)) hx hb dL_areShadows_9 (by decide) ?_
  refine lv_istore (lv' := [(5, .int (-1)), (4, .int 0), (3, .int (nI (bs (gsB f (f 18) s0 (tp f (M8 f) s0)) n))), (0, .ref (A 0)), (1, .ref qa), (2, .int (nI s0))]) hx hb dL_areShadows_10 hl (by decide) rfl (fun ls hl => ?_)
  refine lv_iconst (v := 0) hx hb dL_areShadows_12 (by decide) ?_
  refine lv_istore (lv' := [(6, .int 0), (5, .int (-1)), (4, .int 0), (3, .int (nI (bs (gsB f (f 18) s0 (tp f (M8 f) s0)) n))), (0, .ref (A 0)), (1, .ref qa), (2, .int (nI s0))]) hx hb dL_areShadows_13 hl (by decide) rfl (fun ls hl => ?_)
  have L_15 : ∀ (k_15 : Nat) (t : Nat) (y : Nat) (w : Int32) (X : va_W), n + 2 - t < k_15 → (t ≤ n + 1) → (SRX cI cB cO A X n (f 17) (f 18) f (M8 f)) → (shI n (hidB (f 18) f (M8 f) s0) t y w) → ∀ (H : Heap) (locs : List Loc), va_P D vwCl ((qa, .inl (cI, 20, .inl f)) :: X) H → va_D (inW ((qa, .inl (cI, 20, .inl f)) :: X0)) ((qa, .inl (cI, 20, .inl f)) :: X) → va_S (inW ((qa, .inl (cI, 20, .inl f)) :: X0)) s.heap H locs → ∀ (ls : Array Slot), lv_has ls 8 [(0, .ref (A 0)), (1, .ref qa), (2, .int (nI s0)), (3, .int (nI (bs (gsB f (f 18) s0 (tp f (M8 f) s0)) n))), (4, .int (nI y)), (5, .int w), (6, .int (nI t))] → W p l e (rmD 7) s m ([.ref (A 0), .ref qa, .int (nI s0)] : List Value).toArray below meth c H locs 0 0 (MQ below (wrQi D ((qa, .inl (cI, 20, .inl f)) :: X0) (fun (r : Int32) (u : va_W) => r = 1 ∧ SRX cI cB cO A u n (f 17) (f 18) f (M8 f)) (fun (u : va_W) => ((qa, .inl (cI, 20, .inl f)) :: u))) ([.ref (A 0), .ref qa, .int (nI s0)] : List Value).toArray s 0 0 (inW ((qa, .inl (cI, 20, .inl f)) :: X0))) (F0 m 15 ls []) := by
    intro k_15
    induction k_15 with
    | zero => intro t y w X h9; exact absurd h9 (Nat.not_lt_zero _)
    | succ k_15 ih_15 =>
      intro t y w X hm_15 ht hX hI H locs hP hD hS ls hl
      refine lv_iload hx hb dL_areShadows_15 (lv_at hl 6 rfl) ?_
      refine lv_aload_n hx hb dL_areShadows_17 rfl (lv_at hl 1 rfl) ?_
      refine lv_bipush (v := 16) hx hb dL_areShadows_18 (by decide) ?_
      refine va_iald hx hb hK hP 0 0 rfl rfl (i := nI 16) (vp_in_nI (N := 20) (by decide) (by decide)) dL_areShadows_20 ?_
      rw [nI_clamp (n := 16) (by decide)]
      refine lv_topi (fun y_1 e_2 => ?_)
      have e_2 : nI n = y_1 := (e_2.trans (h16)).symm
      subst e_2
      refine lv_icmp_gt (tgt := 120) hx hb dL_areShadows_21 (by decide) (fun c_21 => ?_) (fun c_21 => ?_)
      · skip
        have g21 : n < t := gt_t (by omega) c_21
        refine lv_aload_n hx hb dL_areShadows_120 rfl (lv_at hl 0 rfl) ?_
        refine lv_iload_n hx hb dL_areShadows_121 rfl (lv_at hl 2 rfl) ?_
        refine lv_iload hx hb dL_areShadows_122 (lv_at hl 4 rfl) ?_
        refine lv_iconst (v := 0) hx hb dL_areShadows_124 (by decide) ?_
        have hct : y = fb_ct (runS (hidB (f 18) f (M8 f) s0)) n := by
          rcases hI with ⟨-, ey, -⟩ | ⟨i, -, -, htn, -⟩
          · rw [ey, show min t n = n by omega]
          · omega
        have hPb : va_P D vwCl ([(qa, .inl (cI, 20, .inl f))] ++ X) _ := hP
        have hDb : va_D (inW ((qa, .inl (cI, 20, .inl f)) :: X0)) ([(qa, .inl (cI, 20, .inl f))] ++ X) := hD
        refine ox_calli hPb hDb hX hS (va_runV (As := [.int (nI s0), .int (nI y), .int 0]) (rest := []) ⟨hx, hb, hml, hown, hts⟩ (y_shadow l D cI cB cO A n (f 17) (f 18) f (M8 f) (nI s0) (nI y) 0) (cwV 3 hts gL_areShadows_X6_shadow rfl rfl rfl (by decide +kernel) ⟨Nat.le_of_ble_eq_true rfl, Nat.le_of_ble_eq_true rfl⟩) (ox_pre hK hPb hDb hX hN) rfl rfl hl.1 rfl (lv_room (Nat.le_of_ble_eq_true rfl)) dL_areShadows_125 ⟨Nat.le_refl _, Nat.le_refl _⟩) (fun X H locs hX hP hD hS => ?_)
        have hP : va_P D vwCl ((qa, .inl (cI, 20, .inl f)) :: X) _ := hP
        have hD : va_D (inW ((qa, .inl (cI, 20, .inl f)) :: X0)) ((qa, .inl (cI, 20, .inl f)) :: X) := hD
        refine lv_topi (fun y_3 e_4 => ?_)
        have e_4 : -1 = y_3 := (e_4.trans (sh_few hn hs hct)).symm
        subst e_4
        refine lv_iconst (v := (-1)) hx hb dL_areShadows_128 (by decide) ?_
        refine lv_icmp_ne (tgt := 160) hx hb dL_areShadows_129 (by decide) (fun c_129 => ?_) (fun c_129 => ?_)
        · skip
          exact absurd (by decide) c_129
        · skip
          refine lv_aload_n hx hb dL_areShadows_132 rfl (lv_at hl 0 rfl) ?_
          refine lv_iload_n hx hb dL_areShadows_133 rfl (lv_at hl 2 rfl) ?_
          refine lv_iconst (v := (-1)) hx hb dL_areShadows_134 (by decide) ?_
          refine lv_iconst (v := 0) hx hb dL_areShadows_135 (by decide) ?_
          have hPb : va_P D vwCl ([(qa, .inl (cI, 20, .inl f))] ++ X) _ := hP
          have hDb : va_D (inW ((qa, .inl (cI, 20, .inl f)) :: X0)) ([(qa, .inl (cI, 20, .inl f))] ++ X) := hD
          refine ox_calli hPb hDb hX hS (va_runV (As := [.int (nI s0), .int (-1), .int 0]) (rest := []) ⟨hx, hb, hml, hown, hts⟩ (y_shadow l D cI cB cO A n (f 17) (f 18) f (M8 f) (nI s0) (-1) 0) (cwV 3 hts gL_areShadows_X6_shadow rfl rfl rfl (by decide +kernel) ⟨Nat.le_of_ble_eq_true rfl, Nat.le_of_ble_eq_true rfl⟩) (ox_pre hK hPb hDb hX hN) rfl rfl hl.1 rfl (lv_room (Nat.le_of_ble_eq_true rfl)) dL_areShadows_136 ⟨Nat.le_refl _, Nat.le_refl _⟩) (fun X H locs hX hP hD hS => ?_)
          have hP : va_P D vwCl ((qa, .inl (cI, 20, .inl f)) :: X) _ := hP
          have hD : va_D (inW ((qa, .inl (cI, 20, .inl f)) :: X0)) ((qa, .inl (cI, 20, .inl f)) :: X) := hD
          refine lv_topi (fun y_5 e_6 => ?_)
          have e_6 : -2 = y_5 := (e_6.trans (sh_neg)).symm
          subst e_6
          refine lv_bipush (v := (-2)) hx hb dL_areShadows_139 (by decide) ?_
          refine lv_icmp_ne (tgt := 160) hx hb dL_areShadows_141 (by decide) (fun c_141 => ?_) (fun c_141 => ?_)
          · skip
            exact absurd (by decide) c_141
          · skip
            refine lv_aload_n hx hb dL_areShadows_144 rfl (lv_at hl 0 rfl) ?_
            refine lv_iload_n hx hb dL_areShadows_145 rfl (lv_at hl 2 rfl) ?_
            refine lv_iconst (v := 0) hx hb dL_areShadows_146 (by decide) ?_
            refine lv_iconst (v := 2) hx hb dL_areShadows_147 (by decide) ?_
            have hPb : va_P D vwCl ([(qa, .inl (cI, 20, .inl f))] ++ X) _ := hP
            have hDb : va_D (inW ((qa, .inl (cI, 20, .inl f)) :: X0)) ([(qa, .inl (cI, 20, .inl f))] ++ X) := hD
            refine ox_calli hPb hDb hX hS (va_runV (As := [.int (nI s0), .int 0, .int 2]) (rest := []) ⟨hx, hb, hml, hown, hts⟩ (y_shadow l D cI cB cO A n (f 17) (f 18) f (M8 f) (nI s0) 0 2) (cwV 3 hts gL_areShadows_X6_shadow rfl rfl rfl (by decide +kernel) ⟨Nat.le_of_ble_eq_true rfl, Nat.le_of_ble_eq_true rfl⟩) (ox_pre hK hPb hDb hX hN) rfl rfl hl.1 rfl (lv_room (Nat.le_of_ble_eq_true rfl)) dL_areShadows_148 ⟨Nat.le_refl _, Nat.le_refl _⟩) (fun X H locs hX hP hD hS => ?_)
            have hP : va_P D vwCl ((qa, .inl (cI, 20, .inl f)) :: X) _ := hP
            have hD : va_D (inW ((qa, .inl (cI, 20, .inl f)) :: X0)) ((qa, .inl (cI, 20, .inl f)) :: X) := hD
            refine lv_topi (fun y_7 e_8 => ?_)
            have e_8 : -2 = y_7 := (e_8.trans (sh_two)).symm
            subst e_8
            refine lv_bipush (v := (-2)) hx hb dL_areShadows_151 (by decide) ?_
            refine lv_icmp_ne (tgt := 160) hx hb dL_areShadows_153 (by decide) (fun c_153 => ?_) (fun c_153 => ?_)
            · skip
              exact absurd (by decide) c_153
            · skip
              refine lv_iconst (v := 1) hx hb dL_areShadows_156 (by decide) ?_
              refine lv_goto (tgt := 161) hx hb dL_areShadows_157 (by decide) ?_
              exact W.zret (v := 1) hx hb hr (rfl) (fun tS htS hWS => ⟨⟨1, X, rfl, ⟨rfl, hX⟩, retP htS hP⟩, hS.F htS⟩) hS.2.2 dL_areShadows_161
      · skip
        have g21 : t ≤ n := Nat.le_of_not_lt (fun q => c_21 (nI_lt q (by omega)))
        rcases hI with ⟨ew, ey, hA⟩ | ⟨i, ew, hit, htn, hrun, hst, hct⟩
        · subst ew
          refine lv_iload hx hb dL_areShadows_24 (lv_at hl 6 rfl) ?_
          refine lv_aload_n hx hb dL_areShadows_26 rfl (lv_at hl 1 rfl) ?_
          refine lv_bipush (v := 16) hx hb dL_areShadows_27 (by decide) ?_
          refine va_iald hx hb hK hP 0 0 rfl rfl (i := nI 16) (vp_in_nI (N := 20) (by decide) (by decide)) dL_areShadows_29 ?_
          rw [nI_clamp (n := 16) (by decide)]
          refine lv_topi (fun y_9 e_10 => ?_)
          have e_10 : nI n = y_9 := (e_10.trans (h16)).symm
          subst e_10
          refine lv_icmp_ge (tgt := 46) hx hb dL_areShadows_30 (by decide) (fun c_30 => ?_) (fun c_30 => ?_)
          · skip
            have g30 : n ≤ t := ge_t (by omega) c_30
            have hk : n ≤ t ∨ (hidB (f 18) f (M8 f) s0) t = false := Or.inl g30
            refine lv_iconst (v := 0) hx hb dL_areShadows_46 (by decide) ?_
            refine lv_istore (lv' := [(7, .int 0), (0, .ref (A 0)), (1, .ref qa), (2, .int (nI s0)), (3, .int (nI (bs (gsB f (f 18) s0 (tp f (M8 f) s0)) n))), (4, .int (nI y)), (5, .int (-1)), (6, .int (nI t))]) hx hb dL_areShadows_47 hl (by decide) rfl (fun ls hl => ?_)
            refine lv_iload hx hb dL_areShadows_49 (lv_at hl 0 rfl) ?_
            refine lv_if_ne (tgt := 95) hx hb dL_areShadows_51 (by decide) (fun c_51 => ?_) (fun c_51 => ?_)
            · skip
              exact absurd (by decide) c_51
            · skip
              refine lv_iload hx hb dL_areShadows_54 (lv_at hl 6 rfl) ?_
              refine lv_if_lt (tgt := 95) hx hb dL_areShadows_56 (by decide) (fun c_56 => ?_) (fun c_56 => ?_)
              · skip
                refine lv_iload hx hb dL_areShadows_95 (lv_at hl 0 rfl) ?_
                refine lv_if_eq (tgt := 110) hx hb dL_areShadows_97 (by decide) (fun c_97 => ?_) (fun c_97 => ?_)
                · skip
                  refine lv_iload hx hb dL_areShadows_110 (lv_at hl 6 rfl) ?_
                  refine lv_istore (lv' := [(5, .int (-1)), (7, .int 0), (0, .ref (A 0)), (1, .ref qa), (2, .int (nI s0)), (3, .int (nI (bs (gsB f (f 18) s0 (tp f (M8 f) s0)) n))), (4, .int (nI y)), (6, .int (nI t))]) hx hb dL_areShadows_112 hl (by decide) rfl (fun ls hl => ?_)
                  refine lv_iinc (v := nI (t + 1)) (lv' := [(6, .int (nI (t + 1))), (5, .int (-1)), (7, .int 0), (0, .ref (A 0)), (1, .ref qa), (2, .int (nI s0)), (3, .int (nI (bs (gsB f (f 18) s0 (tp f (M8 f) s0)) n))), (4, .int (nI y))]) hx hb dL_areShadows_114 hl (k := 7) rfl (inc1 _) (by decide) rfl (fun ls hl => ?_)
                  refine lv_goto (tgt := 15) hx hb dL_areShadows_117 (by decide) ?_
                  exact ih_15 (t + 1) y (-1) X (by omega) (by omega) (hX) (shA_F g21 ey hk) _ _ hP hD hS ls (lv_sub hl [3, 4, 5, 6, 7, 1, 0] rfl)
                · skip
                  exact absurd (by decide) c_97
              · skip
                exact absurd (by decide) c_56
          · skip
            have g30 : t < n := ge_f (by omega) c_30
            refine lv_iload_n hx hb dL_areShadows_33 rfl (lv_at hl 3 rfl) ?_
            refine lv_iload hx hb dL_areShadows_34 (lv_at hl 6 rfl) ?_
            refine lv_ishr hx hb dL_areShadows_36 ?_
            refine lv_topi (fun y_11 e_12 => ?_)
            have e_12 : nI (bs (gsB f (f 18) s0 (tp f (M8 f) s0)) n / 2 ^ t) = y_11 := (e_12.trans (pk_shrN (bs_30 hn) (nI t &&& 31) t (s_l t (by omega)))).symm
            subst e_12
            refine lv_iconst (v := 1) hx hb dL_areShadows_37 (by decide) ?_
            refine lv_iand hx hb dL_areShadows_38 ?_
            refine lv_topi (fun y_13 e_14 => ?_)
            have e_14 : nI (bs (gsB f (f 18) s0 (tp f (M8 f) s0)) n / 2 ^ t % 2) = y_13 := (e_14.trans (pk_andN (by have := Nat.div_le_self (bs (gsB f (f 18) s0 (tp f (M8 f) s0)) n) (2 ^ t); have := bs_30 (P := (gsB f (f 18) s0 (tp f (M8 f) s0))) hn; omega) 1 (by decide))).symm
            subst e_14
            refine lv_if_ne (tgt := 46) hx hb dL_areShadows_39 (by decide) (fun c_39 => ?_) (fun c_39 => ?_)
            · skip
              have hk : n ≤ t ∨ (hidB (f 18) f (M8 f) s0) t = false := Or.inr (hid_F hn g30 c_39)
              refine lv_iconst (v := 0) hx hb dL_areShadows_46 (by decide) ?_
              refine lv_istore (lv' := [(7, .int 0), (0, .ref (A 0)), (1, .ref qa), (2, .int (nI s0)), (3, .int (nI (bs (gsB f (f 18) s0 (tp f (M8 f) s0)) n))), (4, .int (nI y)), (5, .int (-1)), (6, .int (nI t))]) hx hb dL_areShadows_47 hl (by decide) rfl (fun ls hl => ?_)
              refine lv_iload hx hb dL_areShadows_49 (lv_at hl 0 rfl) ?_
              refine lv_if_ne (tgt := 95) hx hb dL_areShadows_51 (by decide) (fun c_51 => ?_) (fun c_51 => ?_)
              · skip
                exact absurd (by decide) c_51
              · skip
                refine lv_iload hx hb dL_areShadows_54 (lv_at hl 6 rfl) ?_
                refine lv_if_lt (tgt := 95) hx hb dL_areShadows_56 (by decide) (fun c_56 => ?_) (fun c_56 => ?_)
                · skip
                  refine lv_iload hx hb dL_areShadows_95 (lv_at hl 0 rfl) ?_
                  refine lv_if_eq (tgt := 110) hx hb dL_areShadows_97 (by decide) (fun c_97 => ?_) (fun c_97 => ?_)
                  · skip
                    refine lv_iload hx hb dL_areShadows_110 (lv_at hl 6 rfl) ?_
                    refine lv_istore (lv' := [(5, .int (-1)), (7, .int 0), (0, .ref (A 0)), (1, .ref qa), (2, .int (nI s0)), (3, .int (nI (bs (gsB f (f 18) s0 (tp f (M8 f) s0)) n))), (4, .int (nI y)), (6, .int (nI t))]) hx hb dL_areShadows_112 hl (by decide) rfl (fun ls hl => ?_)
                    refine lv_iinc (v := nI (t + 1)) (lv' := [(6, .int (nI (t + 1))), (5, .int (-1)), (7, .int 0), (0, .ref (A 0)), (1, .ref qa), (2, .int (nI s0)), (3, .int (nI (bs (gsB f (f 18) s0 (tp f (M8 f) s0)) n))), (4, .int (nI y))]) hx hb dL_areShadows_114 hl (k := 7) rfl (inc1 _) (by decide) rfl (fun ls hl => ?_)
                    refine lv_goto (tgt := 15) hx hb dL_areShadows_117 (by decide) ?_
                    exact ih_15 (t + 1) y (-1) X (by omega) (by omega) (hX) (shA_F g21 ey hk) _ _ hP hD hS ls (lv_sub hl [3, 4, 5, 6, 7, 1, 0] rfl)
                  · skip
                    exact absurd (by decide) c_97
                · skip
                  exact absurd (by decide) c_56
            · skip
              have hk : (hidB (f 18) f (M8 f) s0) t = true := hid_T hn g30 c_39
              refine lv_iconst (v := 1) hx hb dL_areShadows_42 (by decide) ?_
              refine lv_goto (tgt := 47) hx hb dL_areShadows_43 (by decide) ?_
              refine lv_istore (lv' := [(7, .int 1), (0, .ref (A 0)), (1, .ref qa), (2, .int (nI s0)), (3, .int (nI (bs (gsB f (f 18) s0 (tp f (M8 f) s0)) n))), (4, .int (nI y)), (5, .int (-1)), (6, .int (nI t))]) hx hb dL_areShadows_47 hl (by decide) rfl (fun ls hl => ?_)
              refine lv_iload hx hb dL_areShadows_49 (lv_at hl 0 rfl) ?_
              refine lv_if_ne (tgt := 95) hx hb dL_areShadows_51 (by decide) (fun c_51 => ?_) (fun c_51 => ?_)
              · skip
                refine lv_iload hx hb dL_areShadows_95 (lv_at hl 0 rfl) ?_
                refine lv_if_eq (tgt := 110) hx hb dL_areShadows_97 (by decide) (fun c_97 => ?_) (fun c_97 => ?_)
                · skip
                  exact absurd c_97 (by decide)
                · skip
                  refine lv_iload hx hb dL_areShadows_100 (lv_at hl 6 rfl) ?_
                  refine lv_if_ge (tgt := 110) hx hb dL_areShadows_102 (by decide) (fun c_102 => ?_) (fun c_102 => ?_)
                  · skip
                    exact absurd c_102 (by decide)
                  · skip
                    refine lv_iload hx hb dL_areShadows_105 (lv_at hl 7 rfl) ?_
                    refine lv_goto (tgt := 112) hx hb dL_areShadows_107 (by decide) ?_
                    refine lv_istore (lv' := [(5, .int (nI t)), (7, .int 1), (0, .ref (A 0)), (1, .ref qa), (2, .int (nI s0)), (3, .int (nI (bs (gsB f (f 18) s0 (tp f (M8 f) s0)) n))), (4, .int (nI y)), (6, .int (nI t))]) hx hb dL_areShadows_112 hl (by decide) rfl (fun ls hl => ?_)
                    refine lv_iinc (v := nI (t + 1)) (lv' := [(6, .int (nI (t + 1))), (5, .int (nI t)), (7, .int 1), (0, .ref (A 0)), (1, .ref qa), (2, .int (nI s0)), (3, .int (nI (bs (gsB f (f 18) s0 (tp f (M8 f) s0)) n))), (4, .int (nI y))]) hx hb dL_areShadows_114 hl (k := 7) rfl (inc1 _) (by decide) rfl (fun ls hl => ?_)
                    refine lv_goto (tgt := 15) hx hb dL_areShadows_117 (by decide) ?_
                    exact ih_15 (t + 1) y (nI t) X (by omega) (by omega) (hX) (shA_T g30 ey hA hk) _ _ hP hD hS ls (lv_sub hl [3, 4, 5, 6, 7, 1, 0] rfl)
              · skip
                exact absurd c_51 (by decide)
        · subst ew
          refine lv_iload hx hb dL_areShadows_24 (lv_at hl 6 rfl) ?_
          refine lv_aload_n hx hb dL_areShadows_26 rfl (lv_at hl 1 rfl) ?_
          refine lv_bipush (v := 16) hx hb dL_areShadows_27 (by decide) ?_
          refine va_iald hx hb hK hP 0 0 rfl rfl (i := nI 16) (vp_in_nI (N := 20) (by decide) (by decide)) dL_areShadows_29 ?_
          rw [nI_clamp (n := 16) (by decide)]
          refine lv_topi (fun y_15 e_16 => ?_)
          have e_16 : nI n = y_15 := (e_16.trans (h16)).symm
          subst e_16
          refine lv_icmp_ge (tgt := 46) hx hb dL_areShadows_30 (by decide) (fun c_30 => ?_) (fun c_30 => ?_)
          · skip
            have g30 : n ≤ t := ge_t (by omega) c_30
            have hk : n ≤ t ∨ (hidB (f 18) f (M8 f) s0) t = false := Or.inl g30
            refine lv_iconst (v := 0) hx hb dL_areShadows_46 (by decide) ?_
            refine lv_istore (lv' := [(7, .int 0), (0, .ref (A 0)), (1, .ref qa), (2, .int (nI s0)), (3, .int (nI (bs (gsB f (f 18) s0 (tp f (M8 f) s0)) n))), (4, .int (nI y)), (5, .int (nI i)), (6, .int (nI t))]) hx hb dL_areShadows_47 hl (by decide) rfl (fun ls hl => ?_)
            refine lv_iload hx hb dL_areShadows_49 (lv_at hl 0 rfl) ?_
            refine lv_if_ne (tgt := 95) hx hb dL_areShadows_51 (by decide) (fun c_51 => ?_) (fun c_51 => ?_)
            · skip
              exact absurd (by decide) c_51
            · skip
              refine lv_iload hx hb dL_areShadows_54 (lv_at hl 6 rfl) ?_
              refine lv_if_lt (tgt := 95) hx hb dL_areShadows_56 (by decide) (fun c_56 => ?_) (fun c_56 => ?_)
              · skip
                exact absurd c_56 (nI_pos (by omega))
              · skip
                refine lv_aload_n hx hb dL_areShadows_59 rfl (lv_at hl 1 rfl) ?_
                refine lv_iload_n hx hb dL_areShadows_60 rfl (lv_at hl 3 rfl) ?_
                refine lv_iload hx hb dL_areShadows_61 (lv_at hl 5 rfl) ?_
                refine lv_iconst (v := 0) hx hb dL_areShadows_63 (by decide) ?_
                have hPb : va_P D vwCl ([(qa, .inl (cI, 20, .inl f))] ++ X) _ := hP
                have hDb : va_D (inW ((qa, .inl (cI, 20, .inl f)) :: X0)) ([(qa, .inl (cI, 20, .inl f))] ++ X) := hD
                refine ox_calli hPb hDb hX hS (va_runV (As := [.int (nI s0), .int (nI y), .int 0]) (rest := []) ⟨hx, hb, hml, hown, hts⟩ (y_shadow l D cI cB cO A n (f 17) (f 18) f (M8 f) (nI s0) (nI y) 0) (cwV 3 hts gL_areShadows_X6_shadow rfl rfl rfl (by decide +kernel) ⟨Nat.le_of_ble_eq_true rfl, Nat.le_of_ble_eq_true rfl⟩) (ox_pre hK hPb hDb hX hN) rfl rfl hl.1 rfl (lv_room (Nat.le_of_ble_eq_true rfl)) dL_areShadows_64 ⟨Nat.le_refl _, Nat.le_refl _⟩) (fun X H locs hX hP hD hS => ?_)
                have hP : va_P D vwCl ((qa, .inl (cI, 20, .inl f)) :: X) _ := hP
                have hD : va_D (inW ((qa, .inl (cI, 20, .inl f)) :: X0)) ((qa, .inl (cI, 20, .inl f)) :: X) := hD
                refine lv_topi (fun y_17 e_18 => ?_)
                have e_18 : nI i = y_17 := (e_18.trans (sh_q0 hn hs (by omega) hst hct)).symm
                subst e_18
                refine lv_iload hx hb dL_areShadows_67 (lv_at hl 6 rfl) ?_
                refine lv_icmp_ne (tgt := 87) hx hb dL_areShadows_69 (by decide) (fun c_69 => ?_) (fun c_69 => ?_)
                · skip
                  exact absurd (rfl) c_69
                · skip
                  refine lv_aload_n hx hb dL_areShadows_72 rfl (lv_at hl 1 rfl) ?_
                  refine lv_iload_n hx hb dL_areShadows_73 rfl (lv_at hl 3 rfl) ?_
                  refine lv_iload hx hb dL_areShadows_74 (lv_at hl 5 rfl) ?_
                  refine lv_iconst (v := 1) hx hb dL_areShadows_76 (by decide) ?_
                  have hPb : va_P D vwCl ([(qa, .inl (cI, 20, .inl f))] ++ X) _ := hP
                  have hDb : va_D (inW ((qa, .inl (cI, 20, .inl f)) :: X0)) ([(qa, .inl (cI, 20, .inl f))] ++ X) := hD
                  refine ox_calli hPb hDb hX hS (va_runV (As := [.int (nI s0), .int (nI y), .int 1]) (rest := []) ⟨hx, hb, hml, hown, hts⟩ (y_shadow l D cI cB cO A n (f 17) (f 18) f (M8 f) (nI s0) (nI y) 1) (cwV 3 hts gL_areShadows_X6_shadow rfl rfl rfl (by decide +kernel) ⟨Nat.le_of_ble_eq_true rfl, Nat.le_of_ble_eq_true rfl⟩) (ox_pre hK hPb hDb hX hN) rfl rfl hl.1 rfl (lv_room (Nat.le_of_ble_eq_true rfl)) dL_areShadows_77 ⟨Nat.le_refl _, Nat.le_refl _⟩) (fun X H locs hX hP hD hS => ?_)
                  have hP : va_P D vwCl ((qa, .inl (cI, 20, .inl f)) :: X) _ := hP
                  have hD : va_D (inW ((qa, .inl (cI, 20, .inl f)) :: X0)) ((qa, .inl (cI, 20, .inl f)) :: X) := hD
                  refine lv_topi (fun y_19 e_20 => ?_)
                  have e_20 : nI (t - 1) = y_19 := (e_20.trans (sh_q1 hn hs hit htn hrun hst hct hk)).symm
                  subst e_20
                  refine lv_iload hx hb dL_areShadows_80 (lv_at hl 7 rfl) ?_
                  refine lv_iconst (v := 1) hx hb dL_areShadows_82 (by decide) ?_
                  refine lv_isub hx hb dL_areShadows_83 ?_
                  refine lv_topi (fun y_21 e_22 => ?_)
                  have e_22 : nI (t - 1) = y_21 := (e_22.trans (pk_sub (b := 1) (by omega))).symm
                  subst e_22
                  refine lv_icmp_eq (tgt := 89) hx hb dL_areShadows_84 (by decide) (fun c_84 => ?_) (fun c_84 => ?_)
                  · skip
                    refine lv_iinc (v := nI (y + 1)) (lv' := [(4, .int (nI (y + 1))), (7, .int 0), (0, .ref (A 0)), (1, .ref qa), (2, .int (nI s0)), (3, .int (nI (bs (gsB f (f 18) s0 (tp f (M8 f) s0)) n))), (5, .int (nI i)), (6, .int (nI t))]) hx hb dL_areShadows_89 hl (k := 5) rfl (inc1 _) (by decide) rfl (fun ls hl => ?_)
                    refine lv_iconst (v := (-1)) hx hb dL_areShadows_92 (by decide) ?_
                    refine lv_istore (lv' := [(5, .int (-1)), (4, .int (nI (y + 1))), (7, .int 0), (0, .ref (A 0)), (1, .ref qa), (2, .int (nI s0)), (3, .int (nI (bs (gsB f (f 18) s0 (tp f (M8 f) s0)) n))), (6, .int (nI t))]) hx hb dL_areShadows_93 hl (by decide) rfl (fun ls hl => ?_)
                    refine lv_iload hx hb dL_areShadows_95 (lv_at hl 2 rfl) ?_
                    refine lv_if_eq (tgt := 110) hx hb dL_areShadows_97 (by decide) (fun c_97 => ?_) (fun c_97 => ?_)
                    · skip
                      refine lv_iload hx hb dL_areShadows_110 (lv_at hl 0 rfl) ?_
                      refine lv_istore (lv' := [(5, .int (-1)), (4, .int (nI (y + 1))), (7, .int 0), (0, .ref (A 0)), (1, .ref qa), (2, .int (nI s0)), (3, .int (nI (bs (gsB f (f 18) s0 (tp f (M8 f) s0)) n))), (6, .int (nI t))]) hx hb dL_areShadows_112 hl (by decide) rfl (fun ls hl => ?_)
                      refine lv_iinc (v := nI (t + 1)) (lv' := [(6, .int (nI (t + 1))), (5, .int (-1)), (4, .int (nI (y + 1))), (7, .int 0), (0, .ref (A 0)), (1, .ref qa), (2, .int (nI s0)), (3, .int (nI (bs (gsB f (f 18) s0 (tp f (M8 f) s0)) n)))]) hx hb dL_areShadows_114 hl (k := 7) rfl (inc1 _) (by decide) rfl (fun ls hl => ?_)
                      refine lv_goto (tgt := 15) hx hb dL_areShadows_117 (by decide) ?_
                      exact ih_15 (t + 1) (y + 1) (-1) X (by omega) (by omega) (hX) (shB_F g21 hit hrun hst hct hk) _ _ hP hD hS ls (lv_sub hl [4, 5, 6, 7, 2, 1, 0] rfl)
                    · skip
                      exact absurd (by decide) c_97
                  · skip
                    exact absurd (rfl) c_84
          · skip
            have g30 : t < n := ge_f (by omega) c_30
            refine lv_iload_n hx hb dL_areShadows_33 rfl (lv_at hl 3 rfl) ?_
            refine lv_iload hx hb dL_areShadows_34 (lv_at hl 6 rfl) ?_
            refine lv_ishr hx hb dL_areShadows_36 ?_
            refine lv_topi (fun y_23 e_24 => ?_)
            have e_24 : nI (bs (gsB f (f 18) s0 (tp f (M8 f) s0)) n / 2 ^ t) = y_23 := (e_24.trans (pk_shrN (bs_30 hn) (nI t &&& 31) t (s_l t (by omega)))).symm
            subst e_24
            refine lv_iconst (v := 1) hx hb dL_areShadows_37 (by decide) ?_
            refine lv_iand hx hb dL_areShadows_38 ?_
            refine lv_topi (fun y_25 e_26 => ?_)
            have e_26 : nI (bs (gsB f (f 18) s0 (tp f (M8 f) s0)) n / 2 ^ t % 2) = y_25 := (e_26.trans (pk_andN (by have := Nat.div_le_self (bs (gsB f (f 18) s0 (tp f (M8 f) s0)) n) (2 ^ t); have := bs_30 (P := (gsB f (f 18) s0 (tp f (M8 f) s0))) hn; omega) 1 (by decide))).symm
            subst e_26
            refine lv_if_ne (tgt := 46) hx hb dL_areShadows_39 (by decide) (fun c_39 => ?_) (fun c_39 => ?_)
            · skip
              have hk : n ≤ t ∨ (hidB (f 18) f (M8 f) s0) t = false := Or.inr (hid_F hn g30 c_39)
              refine lv_iconst (v := 0) hx hb dL_areShadows_46 (by decide) ?_
              refine lv_istore (lv' := [(7, .int 0), (0, .ref (A 0)), (1, .ref qa), (2, .int (nI s0)), (3, .int (nI (bs (gsB f (f 18) s0 (tp f (M8 f) s0)) n))), (4, .int (nI y)), (5, .int (nI i)), (6, .int (nI t))]) hx hb dL_areShadows_47 hl (by decide) rfl (fun ls hl => ?_)
              refine lv_iload hx hb dL_areShadows_49 (lv_at hl 0 rfl) ?_
              refine lv_if_ne (tgt := 95) hx hb dL_areShadows_51 (by decide) (fun c_51 => ?_) (fun c_51 => ?_)
              · skip
                exact absurd (by decide) c_51
              · skip
                refine lv_iload hx hb dL_areShadows_54 (lv_at hl 6 rfl) ?_
                refine lv_if_lt (tgt := 95) hx hb dL_areShadows_56 (by decide) (fun c_56 => ?_) (fun c_56 => ?_)
                · skip
                  exact absurd c_56 (nI_pos (by omega))
                · skip
                  refine lv_aload_n hx hb dL_areShadows_59 rfl (lv_at hl 1 rfl) ?_
                  refine lv_iload_n hx hb dL_areShadows_60 rfl (lv_at hl 3 rfl) ?_
                  refine lv_iload hx hb dL_areShadows_61 (lv_at hl 5 rfl) ?_
                  refine lv_iconst (v := 0) hx hb dL_areShadows_63 (by decide) ?_
                  have hPb : va_P D vwCl ([(qa, .inl (cI, 20, .inl f))] ++ X) _ := hP
                  have hDb : va_D (inW ((qa, .inl (cI, 20, .inl f)) :: X0)) ([(qa, .inl (cI, 20, .inl f))] ++ X) := hD
                  refine ox_calli hPb hDb hX hS (va_runV (As := [.int (nI s0), .int (nI y), .int 0]) (rest := []) ⟨hx, hb, hml, hown, hts⟩ (y_shadow l D cI cB cO A n (f 17) (f 18) f (M8 f) (nI s0) (nI y) 0) (cwV 3 hts gL_areShadows_X6_shadow rfl rfl rfl (by decide +kernel) ⟨Nat.le_of_ble_eq_true rfl, Nat.le_of_ble_eq_true rfl⟩) (ox_pre hK hPb hDb hX hN) rfl rfl hl.1 rfl (lv_room (Nat.le_of_ble_eq_true rfl)) dL_areShadows_64 ⟨Nat.le_refl _, Nat.le_refl _⟩) (fun X H locs hX hP hD hS => ?_)
                  have hP : va_P D vwCl ((qa, .inl (cI, 20, .inl f)) :: X) _ := hP
                  have hD : va_D (inW ((qa, .inl (cI, 20, .inl f)) :: X0)) ((qa, .inl (cI, 20, .inl f)) :: X) := hD
                  refine lv_topi (fun y_27 e_28 => ?_)
                  have e_28 : nI i = y_27 := (e_28.trans (sh_q0 hn hs (by omega) hst hct)).symm
                  subst e_28
                  refine lv_iload hx hb dL_areShadows_67 (lv_at hl 6 rfl) ?_
                  refine lv_icmp_ne (tgt := 87) hx hb dL_areShadows_69 (by decide) (fun c_69 => ?_) (fun c_69 => ?_)
                  · skip
                    exact absurd (rfl) c_69
                  · skip
                    refine lv_aload_n hx hb dL_areShadows_72 rfl (lv_at hl 1 rfl) ?_
                    refine lv_iload_n hx hb dL_areShadows_73 rfl (lv_at hl 3 rfl) ?_
                    refine lv_iload hx hb dL_areShadows_74 (lv_at hl 5 rfl) ?_
                    refine lv_iconst (v := 1) hx hb dL_areShadows_76 (by decide) ?_
                    have hPb : va_P D vwCl ([(qa, .inl (cI, 20, .inl f))] ++ X) _ := hP
                    have hDb : va_D (inW ((qa, .inl (cI, 20, .inl f)) :: X0)) ([(qa, .inl (cI, 20, .inl f))] ++ X) := hD
                    refine ox_calli hPb hDb hX hS (va_runV (As := [.int (nI s0), .int (nI y), .int 1]) (rest := []) ⟨hx, hb, hml, hown, hts⟩ (y_shadow l D cI cB cO A n (f 17) (f 18) f (M8 f) (nI s0) (nI y) 1) (cwV 3 hts gL_areShadows_X6_shadow rfl rfl rfl (by decide +kernel) ⟨Nat.le_of_ble_eq_true rfl, Nat.le_of_ble_eq_true rfl⟩) (ox_pre hK hPb hDb hX hN) rfl rfl hl.1 rfl (lv_room (Nat.le_of_ble_eq_true rfl)) dL_areShadows_77 ⟨Nat.le_refl _, Nat.le_refl _⟩) (fun X H locs hX hP hD hS => ?_)
                    have hP : va_P D vwCl ((qa, .inl (cI, 20, .inl f)) :: X) _ := hP
                    have hD : va_D (inW ((qa, .inl (cI, 20, .inl f)) :: X0)) ((qa, .inl (cI, 20, .inl f)) :: X) := hD
                    refine lv_topi (fun y_29 e_30 => ?_)
                    have e_30 : nI (t - 1) = y_29 := (e_30.trans (sh_q1 hn hs hit htn hrun hst hct hk)).symm
                    subst e_30
                    refine lv_iload hx hb dL_areShadows_80 (lv_at hl 7 rfl) ?_
                    refine lv_iconst (v := 1) hx hb dL_areShadows_82 (by decide) ?_
                    refine lv_isub hx hb dL_areShadows_83 ?_
                    refine lv_topi (fun y_31 e_32 => ?_)
                    have e_32 : nI (t - 1) = y_31 := (e_32.trans (pk_sub (b := 1) (by omega))).symm
                    subst e_32
                    refine lv_icmp_eq (tgt := 89) hx hb dL_areShadows_84 (by decide) (fun c_84 => ?_) (fun c_84 => ?_)
                    · skip
                      refine lv_iinc (v := nI (y + 1)) (lv' := [(4, .int (nI (y + 1))), (7, .int 0), (0, .ref (A 0)), (1, .ref qa), (2, .int (nI s0)), (3, .int (nI (bs (gsB f (f 18) s0 (tp f (M8 f) s0)) n))), (5, .int (nI i)), (6, .int (nI t))]) hx hb dL_areShadows_89 hl (k := 5) rfl (inc1 _) (by decide) rfl (fun ls hl => ?_)
                      refine lv_iconst (v := (-1)) hx hb dL_areShadows_92 (by decide) ?_
                      refine lv_istore (lv' := [(5, .int (-1)), (4, .int (nI (y + 1))), (7, .int 0), (0, .ref (A 0)), (1, .ref qa), (2, .int (nI s0)), (3, .int (nI (bs (gsB f (f 18) s0 (tp f (M8 f) s0)) n))), (6, .int (nI t))]) hx hb dL_areShadows_93 hl (by decide) rfl (fun ls hl => ?_)
                      refine lv_iload hx hb dL_areShadows_95 (lv_at hl 2 rfl) ?_
                      refine lv_if_eq (tgt := 110) hx hb dL_areShadows_97 (by decide) (fun c_97 => ?_) (fun c_97 => ?_)
                      · skip
                        refine lv_iload hx hb dL_areShadows_110 (lv_at hl 0 rfl) ?_
                        refine lv_istore (lv' := [(5, .int (-1)), (4, .int (nI (y + 1))), (7, .int 0), (0, .ref (A 0)), (1, .ref qa), (2, .int (nI s0)), (3, .int (nI (bs (gsB f (f 18) s0 (tp f (M8 f) s0)) n))), (6, .int (nI t))]) hx hb dL_areShadows_112 hl (by decide) rfl (fun ls hl => ?_)
                        refine lv_iinc (v := nI (t + 1)) (lv' := [(6, .int (nI (t + 1))), (5, .int (-1)), (4, .int (nI (y + 1))), (7, .int 0), (0, .ref (A 0)), (1, .ref qa), (2, .int (nI s0)), (3, .int (nI (bs (gsB f (f 18) s0 (tp f (M8 f) s0)) n)))]) hx hb dL_areShadows_114 hl (k := 7) rfl (inc1 _) (by decide) rfl (fun ls hl => ?_)
                        refine lv_goto (tgt := 15) hx hb dL_areShadows_117 (by decide) ?_
                        exact ih_15 (t + 1) (y + 1) (-1) X (by omega) (by omega) (hX) (shB_F g21 hit hrun hst hct hk) _ _ hP hD hS ls (lv_sub hl [4, 5, 6, 7, 2, 1, 0] rfl)
                      · skip
                        exact absurd (by decide) c_97
                    · skip
                      exact absurd (rfl) c_84
            · skip
              have hk : (hidB (f 18) f (M8 f) s0) t = true := hid_T hn g30 c_39
              refine lv_iconst (v := 1) hx hb dL_areShadows_42 (by decide) ?_
              refine lv_goto (tgt := 47) hx hb dL_areShadows_43 (by decide) ?_
              refine lv_istore (lv' := [(7, .int 1), (0, .ref (A 0)), (1, .ref qa), (2, .int (nI s0)), (3, .int (nI (bs (gsB f (f 18) s0 (tp f (M8 f) s0)) n))), (4, .int (nI y)), (5, .int (nI i)), (6, .int (nI t))]) hx hb dL_areShadows_47 hl (by decide) rfl (fun ls hl => ?_)
              refine lv_iload hx hb dL_areShadows_49 (lv_at hl 0 rfl) ?_
              refine lv_if_ne (tgt := 95) hx hb dL_areShadows_51 (by decide) (fun c_51 => ?_) (fun c_51 => ?_)
              · skip
                refine lv_iload hx hb dL_areShadows_95 (lv_at hl 0 rfl) ?_
                refine lv_if_eq (tgt := 110) hx hb dL_areShadows_97 (by decide) (fun c_97 => ?_) (fun c_97 => ?_)
                · skip
                  exact absurd c_97 (by decide)
                · skip
                  refine lv_iload hx hb dL_areShadows_100 (lv_at hl 6 rfl) ?_
                  refine lv_if_ge (tgt := 110) hx hb dL_areShadows_102 (by decide) (fun c_102 => ?_) (fun c_102 => ?_)
                  · skip
                    refine lv_iload hx hb dL_areShadows_110 (lv_at hl 6 rfl) ?_
                    refine lv_istore (lv' := [(5, .int (nI i)), (7, .int 1), (0, .ref (A 0)), (1, .ref qa), (2, .int (nI s0)), (3, .int (nI (bs (gsB f (f 18) s0 (tp f (M8 f) s0)) n))), (4, .int (nI y)), (6, .int (nI t))]) hx hb dL_areShadows_112 hl (by decide) rfl (fun ls hl => ?_)
                    refine lv_iinc (v := nI (t + 1)) (lv' := [(6, .int (nI (t + 1))), (5, .int (nI i)), (7, .int 1), (0, .ref (A 0)), (1, .ref qa), (2, .int (nI s0)), (3, .int (nI (bs (gsB f (f 18) s0 (tp f (M8 f) s0)) n))), (4, .int (nI y))]) hx hb dL_areShadows_114 hl (k := 7) rfl (inc1 _) (by decide) rfl (fun ls hl => ?_)
                    refine lv_goto (tgt := 15) hx hb dL_areShadows_117 (by decide) ?_
                    exact ih_15 (t + 1) y (nI i) X (by omega) (by omega) (hX) (shB_T g30 hit hrun hst hct hk) _ _ hP hD hS ls (lv_sub hl [3, 4, 5, 6, 7, 1, 0] rfl)
                  · skip
                    exact absurd (nI_le (a := 0) (Nat.zero_le i) (by omega)) c_102
              · skip
                exact absurd c_51 (by decide)
  exact L_15 _ 0 0 (-1) X (Nat.lt_succ_self _) (by omega) (hX) (shI_0 _ _) _ _ hP hD hS ls (lv_sub hl [4, 5, 6, 3, 2, 1, 0] rfl)
