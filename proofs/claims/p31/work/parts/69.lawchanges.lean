/-! the law's changes -/
theorem c8_in {n k a : Nat} {f : Nat → Int32} {y : Int32} (h8 : n ≤ 8) (hk : k < n) : upd f (8 + a) y k = f k := pk_un (by omega)
theorem SRX.g1 {cI cB cO : ClassId} {A : Nat → Nat} {X : va_W} {n a : Nat} {f : Nat → Int32} {y : Int32} (h8 : n ≤ 8) (ha : a < n) (h : SRX cI cB cO A X n (f 17) (f 18) (upd f a y) (M8 f)) : SRX cI cB cO A X n (upd f a y 17) (upd f a y 18) (upd f a y) (M8 (upd f a y)) :=
  h.cong (pk_un (by omega)).symm (pk_un (by omega)).symm (fun _ _ => rfl) (fun k _ => by show f (8 + k) = upd f a y (8 + k); rw [pk_un (by omega)])
theorem SRX.m1 {cI cB cO : ClassId} {A : Nat → Nat} {X : va_W} {n a : Nat} {f : Nat → Int32} {y : Int32} (h8 : n ≤ 8) (ha : a < n) (h : SRX cI cB cO A X n (f 17) (f 18) f (upd (M8 f) a y)) : SRX cI cB cO A X n (upd f (8 + a) y 17) (upd f (8 + a) y 18) (upd f (8 + a) y) (M8 (upd f (8 + a) y)) :=
  h.cong (pk_un (by omega)).symm (pk_un (by omega)).symm (fun k hk => (pk_un (by omega)).symm) (fun k hk => by
    show upd (M8 f) a y k = upd f (8 + a) y (8 + k)
    by_cases q : k = a
    · rw [q, pk_us, pk_us]
    · rw [pk_un q, pk_un (by omega)])
theorem SRX.r1 {cI cB cO : ClassId} {A : Nat → Nat} {X : va_W} {n : Nat} {f : Nat → Int32} {y : Int32} (h8 : n ≤ 8) (h : SRX cI cB cO A X n y (f 18) f (M8 f)) : SRX cI cB cO A X n (upd f 17 y 17) (upd f 17 y 18) (upd f 17 y) (M8 (upd f 17 y)) :=
  h.cong pk_us.symm (pk_un (by decide)).symm (fun k hk => (pk_un (by omega)).symm) (fun k hk => by show f (8 + k) = upd f 17 y (8 + k); rw [pk_un (by omega)])
theorem SRX.b1 {cI cB cO : ClassId} {A : Nat → Nat} {X : va_W} {n : Nat} {f : Nat → Int32} {y : Int32} (h8 : n ≤ 8) (h : SRX cI cB cO A X n (f 17) y f (M8 f)) : SRX cI cB cO A X n (upd f 18 y 17) (upd f 18 y 18) (upd f 18 y) (M8 (upd f 18 y)) :=
  h.cong (pk_un (by decide)).symm pk_us.symm (fun k hk => (pk_un (by omega)).symm) (fun k hk => by show f (8 + k) = upd f 18 y (8 + k); rw [pk_un (by omega)])
theorem SRX.s1 {cI cB cO : ClassId} {A : Nat → Nat} {X : va_W} {n a b : Nat} {f : Nat → Int32} (h8 : n ≤ 8) (hb : b < n) (h : SRX cI cB cO A X n (f 17) (f 18) (slG f a b) (M8 f)) : SRX cI cB cO A X n (slI f f a b b 17) (slI f f a b b 18) (slI f f a b b) (M8 (slI f f a b b)) :=
  h.cong (if_neg (by omega)).symm (if_neg (by omega)).symm (fun _ _ => rfl) (fun k hk => (if_neg (by omega)).symm)
/-- the row behind i swaps -/
def rvL (n : Nat) (f : Nat → Int32) (i : Nat) : Nat → Int32 := fun k => if k < n ∧ (k < i ∨ n - 1 - k < i) then f (n - 1 - k) else if 8 ≤ k ∧ k < 8 + n ∧ (k - 8 < i ∨ n - 1 - (k - 8) < i) then f (8 + (n - 1 - (k - 8))) else f k
theorem rvL_0 (n : Nat) (f : Nat → Int32) : rvL n f 0 = f := by
  funext k; unfold rvL; rw [if_neg (by omega), if_neg (by omega)]
theorem rvL_g {n i k : Nat} (h1 : i ≤ k) (h2 : i ≤ n - 1 - k) (hk : k < n) (hn : n ≤ 8) (f : Nat → Int32) : rvL n f i k = f k := by unfold rvL; rw [if_neg (by omega), if_neg (by omega)]
theorem rvL_m {n i k : Nat} (h1 : i ≤ k) (h2 : i ≤ n - 1 - k) (hk : k < n) (hn : n ≤ 8) (f : Nat → Int32) : rvL n f i (8 + k) = f (8 + k) := by unfold rvL; rw [if_neg (by omega), if_neg (by omega)]
theorem rvL_o {n i k : Nat} (hk : 16 ≤ k) (hn : n ≤ 8) (f : Nat → Int32) : rvL n f i k = f k := by unfold rvL; rw [if_neg (by omega), if_neg (by omega)]
theorem rvL_s {n i : Nat} (h : i < n / 2) (hn : n ≤ 8) (f : Nat → Int32) : upd (upd (upd (upd (rvL n f i) i (f (n - 1 - i))) (8 + i) (f (8 + (n - 1 - i)))) (n - 1 - i) (f i)) (8 + (n - 1 - i)) (f (8 + i)) = rvL n f (i + 1) := by
  funext k; unfold upd rvL
  by_cases h1 : k = 8 + (n - 1 - i)
  · rw [if_pos h1, if_neg (by omega), if_pos (by omega)]; congr 1; omega
  · rw [if_neg h1]
    by_cases h2 : k = n - 1 - i
    · rw [if_pos h2, if_pos (by omega)]; congr 1; omega
    · rw [if_neg h2]
      by_cases h3 : k = 8 + i
      · rw [if_pos h3, if_neg (by omega), if_pos (by omega)]; congr 1; omega
      · rw [if_neg h3]
        by_cases h4 : k = i
        · rw [if_pos h4, if_pos (by omega)]; congr 1; omega
        · rw [if_neg h4]
          by_cases h5 : k < n ∧ (k < i ∨ n - 1 - k < i)
          · rw [if_pos h5, if_pos (by omega)]
          · rw [if_neg h5, if_neg (show ¬ (k < n ∧ (k < i + 1 ∨ n - 1 - k < i + 1)) by omega)]
            by_cases h6 : 8 ≤ k ∧ k < 8 + n ∧ (k - 8 < i ∨ n - 1 - (k - 8) < i)
            · rw [if_pos h6, if_pos (by omega)]
            · rw [if_neg h6, if_neg (show ¬ (8 ≤ k ∧ k < 8 + n ∧ (k - 8 < i + 1 ∨ n - 1 - (k - 8) < i + 1)) by omega)]
theorem SRX.v1 {cI cB cO : ClassId} {A : Nat → Nat} {X : va_W} {n i : Nat} {f : Nat → Int32} (h8 : n ≤ 8) (hi : i = n / 2) (h : SRX cI cB cO A X n (f 17) (f 18) (fun k => f (n - 1 - k)) (fun k => M8 f (n - 1 - k))) : SRX cI cB cO A X n (rvL n f i 17) (rvL n f i 18) (rvL n f i) (M8 (rvL n f i)) := by
  refine h.cong (rvL_o (by decide) h8 f).symm (rvL_o (by decide) h8 f).symm (fun k hk => ?_) (fun k hk => ?_)
  · show f (n - 1 - k) = rvL n f i k
    unfold rvL
    by_cases q : k < n / 2 ∨ n - 1 - k < n / 2
    · rw [if_pos (by omega)]
    · rw [if_neg (by omega), if_neg (by omega)]; congr 1; omega
  · show f (8 + (n - 1 - k)) = rvL n f i (8 + k)
    unfold rvL
    by_cases q : k < n / 2 ∨ n - 1 - k < n / 2
    · rw [if_neg (by omega), if_pos (by omega), Nat.add_sub_cancel_left]
    · rw [if_neg (by omega), if_neg (by omega)]; congr 1; omega
/-- a count that is the same from both ends -/
theorem ct_half {P : Nat → Bool} : ∀ (h n : Nat), (n = 2 * h ∨ n = 2 * h + 1) → (∀ k, k < n → P (n - 1 - k) = P k) → (n = 2 * h + 1 → P h = false) → fb_ct P n = 2 * fb_ct P h := by
  intro h n hn hs hm
  have key : ∀ d, d ≤ h → fb_ct P (n - h) + fb_ct P h = fb_ct P (n - h + d) + fb_ct P (h - d) := by
    intro d
    induction d with
    | zero => intro _; rfl
    | succ d ih =>
      intro hd
      rw [ih (by omega)]
      have e1 : fb_ct P (n - h + (d + 1)) = fb_ct P (n - h + d) + (if P (n - h + d) = true then 1 else 0) := fb_ct_succ P (n - h + d)
      have e2 : fb_ct P (h - d) = fb_ct P (h - (d + 1)) + (if P (h - (d + 1)) = true then 1 else 0) := by
        have e3 := fb_ct_succ P (h - (d + 1))
        rw [show h - (d + 1) + 1 = h - d by omega] at e3
        exact e3
      have e4 : P (n - h + d) = P (h - (d + 1)) := by
        have := hs (h - (d + 1)) (by omega)
        rw [show n - 1 - (h - (d + 1)) = n - h + d by omega] at this
        exact this
      rw [e1, e2, e4]
      omega
  have k1 := key h (Nat.le_refl h)
  rw [Nat.sub_self, show n - h + h = n by omega] at k1
  have k0 : fb_ct P 0 = 0 := rfl
  rcases hn with e | e
  · rw [show n - h = h by omega] at k1; omega
  · rw [show n - h = h + 1 by omega, fb_ct_F (hm e)] at k1; omega
def rvP (n : Nat) (f : Nat → Int32) (k : Nat) : Bool := decide (f k ≠ f (n - 1 - k) ∨ M8 f k ≠ M8 f (n - 1 - k))
theorem rvP_half {n : Nat} {f : Nat → Int32} : fb_ct (rvP n f) n = 2 * fb_ct (rvP n f) (n / 2) := by
  refine ct_half (n / 2) n (by omega) (fun k hk => ?_) (fun e => ?_)
  · unfold rvP
    rw [decide_eq_decide, show n - 1 - (n - 1 - k) = k by omega]
    exact ⟨fun q => q.imp (fun h e => h e.symm) (fun h e => h e.symm), fun q => q.imp (fun h e => h e.symm) (fun h e => h e.symm)⟩
  · unfold rvP
    rw [show n - 1 - n / 2 = n / 2 by omega]
    exact decide_eq_false (fun q => q.elim (fun h => h rfl) (fun h => h rfl))
theorem rvP_T {n k : Nat} {f : Nat → Int32} (h : ¬ f k = f (n - 1 - k) ∨ ¬ f (8 + k) = f (8 + (n - 1 - k))) : fb_ct (rvP n f) (k + 1) = fb_ct (rvP n f) k + 1 := fb_ct_T (decide_eq_true h)
theorem rvP_F {n k : Nat} {f : Nat → Int32} (h1 : f k = f (n - 1 - k)) (h2 : f (8 + k) = f (8 + (n - 1 - k))) : fb_ct (rvP n f) (k + 1) = fb_ct (rvP n f) k := fb_ct_F (decide_eq_false (fun q => q.elim (fun h => h h1) (fun h => h h2)))
theorem slB_T {G : Nat → Int32} {a b k : Nat} (h : a < k) (q : ¬ slp G a b k = G k) : fb_ct (slB G a b) (k + 1) = fb_ct (slB G a b) k + 1 := fb_ct_T (by unfold slB; rw [decide_eq_true h, decide_eq_true (show G k ≠ slp G a b k from fun z => q z.symm)]; rfl)
theorem slB_F {G : Nat → Int32} {a b k : Nat} (q : slp G a b k = G k) : fb_ct (slB G a b) (k + 1) = fb_ct (slB G a b) k := fb_ct_F (by unfold slB; rw [decide_eq_false (show ¬ (G k ≠ slp G a b k) from fun z => z q.symm), Bool.and_false])
theorem has_n {n : Nat} (hn : n ≤ 20) : hasB n (nI n) = false := by rw [hasB_nI (by omega) (by omega)]; exact decide_eq_false (by omega)
set_option maxHeartbeats 4000000 in
set_option maxRecDepth 100000 in
/-- changes(o, a, v, w) -/
theorem c_L_changes (l : Launch) (D : va_G) (cI cB cO : ClassId) (A : Nat → Nat) (qa : Nat) (f : Nat → Int32) (n : Nat) (X0 : va_W) (v w : Int32) (hR : RF f n) (hX0 : SRX cI cB cO A X0 n (f 17) (f 18) f (M8 f)) : Met l yL_changes wsL_changes (rmD 8) (wrPc D (tyL cI cB cO) [.ref (A 0), .ref qa, .int v, .int w] ((qa, .inl (cI, 20, .inl f)) :: X0)) (wrQi D ((qa, .inl (cI, 20, .inl f)) :: X0) (fun (r : Int32) (u : (Nat → Int32) × va_W) => r = 1 ∧ u.1 16 = nI n ∧ SRX cI cB cO A u.2 n (u.1 17) (u.1 18) u.1 (M8 u.1)) (fun (u : (Nat → Int32) × va_W) => ((qa, .inl (cI, 20, .inl u.1)) :: u.2))) 0 0 (inW ((qa, .inl (cI, 20, .inl f)) :: X0)) := by
  refine Met.ofW (cc := cL_changes) (maxL := 12) (ret := (some .boolean)) (by decide) rfl ?_
  intro p e s m args below meth c s₁ B hml hv
  obtain ⟨rfl, hP, hK, hN, hD⟩ := hv
  have hx := B.exec
  have hb := B.bytes
  have hr := B.returns
  have hts := atoms_spec (ws := wsL_changes) B.pre
  have hown : s.vm.findClass RL = some m.cls := findClass_of_methodNamed B.named
  have hlocks := B.notSynchronized
  have hS : va_S (inW ((qa, .inl (cI, 20, .inl f)) :: X0)) s.heap s.heap [] := va_S.rf
  have hD : va_D (inW ((qa, .inl (cI, 20, .inl f)) :: X0)) ((qa, .inl (cI, 20, .inl f)) :: X0) := inW_self hD
  have hl := lv_entry ([.ref (A 0), .ref qa, .int v, .int w]) (n := 12) (Nat.le_of_ble_eq_true rfl)
  rw [lg_entry_eq]
  generalize (lg_sl ([.ref (A 0), .ref qa, .int v, .int w]) ++ List.replicate (12 - (lg_sl ([.ref (A 0), .ref qa, .int v, .int w])).length) Slot.unset).toArray = ls at hl ⊢
  have hl : lv_has ls 12 [(0, .ref (A 0)), (1, .ref qa), (2, .int v), (3, .int w)] := hl
  have h8 : n ≤ 8 := hR.2.1
  have h2n : 2 ≤ n := hR.n2
  have hn : n ≤ 20 := by omega
  have h16 : f 16 = nI n := hR.1
  obtain ⟨X, hX, hP, hD⟩ : ∃ X : va_W, SRX cI cB cO A X n (f 17) (f 18) f (M8 f) ∧ va_P D vwCl ((qa, .inl (cI, 20, .inl f)) :: X) s.heap ∧ va_D (inW ((qa, .inl (cI, 20, .inl f)) :: X0)) ((qa, .inl (cI, 20, .inl f)) :: X) := ⟨X0, hX0, hP, hD⟩
  refine lv_iload_n hx hb dL_changes_0 rfl (lv_at hl 2 rfl) ?_
  refine lv_aload_n hx hb dL_changes_1 rfl (lv_at hl 1 rfl) ?_
  refine lv_bipush (v := 16) hx hb dL_changes_2 (by decide) ?_
  refine va_iald hx hb hK hP 0 0 rfl rfl (i := nI 16) (vp_in_nI (N := 20) (by decide) (by decide)) dL_changes_4 ?_
  rw [nI_clamp (n := 16) (by decide)]
  refine lv_topi (fun y_1 e_2 => ?_)
  have e_2 : nI n = y_1 := (e_2.trans (h16)).symm
  subst e_2
  refine rd_calli hP hS (va_runS (As := [.int v, .int (nI n)]) (rest := []) ⟨hx, hb, hml, hown, hts⟩ (c_L_low l D cI cB cO v n (by omega) (by omega)) (va_cwS 2 hts gL_changes_L_low rfl rfl rfl (by decide +kernel) ⟨Nat.le_of_ble_eq_true rfl, Nat.le_of_ble_eq_true rfl⟩) (rd_preS hK (hP.pick [] rfl) hN) rfl rfl hl.1 rfl (lv_room (Nat.le_of_ble_eq_true rfl)) dL_changes_5 ⟨Nat.le_refl _, Nat.le_refl _⟩) (fun r_5 H locs h_5 hP hS => ?_)
  obtain ⟨s0, hs0, rfl⟩ := h_5
  refine lv_istore (lv' := [(4, .int (nI s0)), (0, .ref (A 0)), (1, .ref qa), (2, .int v), (3, .int w)]) hx hb dL_changes_8 hl (by decide) rfl (fun ls hl => ?_)
  refine lv_iload_n hx hb dL_changes_10 rfl (lv_at hl 3 rfl) ?_
  refine lv_iconst (v := 4) hx hb dL_changes_11 (by decide) ?_
  refine lv_ishr hx hb dL_changes_12 ?_
  refine lv_aload_n hx hb dL_changes_13 rfl (lv_at hl 2 rfl) ?_
  refine lv_bipush (v := 16) hx hb dL_changes_14 (by decide) ?_
  refine va_iald hx hb hK hP 0 0 rfl rfl (i := nI 16) (vp_in_nI (N := 20) (by decide) (by decide)) dL_changes_16 ?_
  rw [nI_clamp (n := 16) (by decide)]
  refine lv_topi (fun y_3 e_4 => ?_)
  have e_4 : nI n = y_3 := (e_4.trans (h16)).symm
  subst e_4
  refine rd_calli hP hS (va_runS (As := [.int (v >>> (4 &&& 31)), .int (nI n)]) (rest := []) ⟨hx, hb, hml, hown, hts⟩ (c_L_low l D cI cB cO (v >>> (4 &&& 31)) n (by omega) (by omega)) (va_cwS 2 hts gL_changes_L_low rfl rfl rfl (by decide +kernel) ⟨Nat.le_of_ble_eq_true rfl, Nat.le_of_ble_eq_true rfl⟩) (rd_preS hK (hP.pick [] rfl) hN) rfl rfl hl.1 rfl (lv_room (Nat.le_of_ble_eq_true rfl)) dL_changes_17 ⟨Nat.le_refl _, Nat.le_refl _⟩) (fun r_17 H locs h_17 hP hS => ?_)
  obtain ⟨t0, ht0, rfl⟩ := h_17
  refine lv_istore (lv' := [(5, .int (nI t0)), (4, .int (nI s0)), (0, .ref (A 0)), (1, .ref qa), (2, .int v), (3, .int w)]) hx hb dL_changes_20 hl (by decide) rfl (fun ls hl => ?_)
  refine lv_iload_n hx hb dL_changes_22 rfl (lv_at hl 5 rfl) ?_
  refine lv_bipush (v := 20) hx hb dL_changes_23 (by decide) ?_
  refine lv_ishr hx hb dL_changes_25 ?_
  refine lv_bipush (v := 6) hx hb dL_changes_26 (by decide) ?_
  refine lv_topi (fun y_5 e_6 => ?_)
  have e_6 : nI 6 = y_5 := (e_6.trans (rfl)).symm
  subst e_6
  refine rd_calli hP hS (va_runS (As := [.int (w >>> (20 &&& 31)), .int (nI 6)]) (rest := []) ⟨hx, hb, hml, hown, hts⟩ (c_L_low l D cI cB cO (w >>> (20 &&& 31)) 6 (by omega) (by omega)) (va_cwS 2 hts gL_changes_L_low rfl rfl rfl (by decide +kernel) ⟨Nat.le_of_ble_eq_true rfl, Nat.le_of_ble_eq_true rfl⟩) (rd_preS hK (hP.pick [] rfl) hN) rfl rfl hl.1 rfl (lv_room (Nat.le_of_ble_eq_true rfl)) dL_changes_28 ⟨Nat.le_refl _, Nat.le_refl _⟩) (fun r_28 H locs h_28 hP hS => ?_)
  obtain ⟨c6, hc6, rfl⟩ := h_28
  rcases (show c6 = 0 ∨ c6 = 1 ∨ c6 = 2 ∨ c6 = 3 ∨ c6 = 4 ∨ c6 = 5 by omega) with rfl | rfl | rfl | rfl | rfl | rfl
  · skip
    refine lv_tableIn (off := 33) (tgt := 64) hx hb dL_changes_31 (by decide) (by decide) rfl (by decide) ?_
    refine lv_aload_n hx hb dL_changes_64 rfl (lv_at hl 3 rfl) ?_
    refine lv_iload hx hb dL_changes_65 (lv_at hl 1 rfl) ?_
    refine va_iald hx hb hK hP 0 0 rfl rfl (i := nI s0) (vp_in_nI (N := 20) (by omega) (by decide)) dL_changes_67 ?_
    rw [nI_clamp (n := s0) (by omega)]
    refine lv_istore (lv' := [(6, .int (f s0)), (5, .int (nI t0)), (4, .int (nI s0)), (0, .ref (A 0)), (1, .ref qa), (2, .int v), (3, .int w)]) hx hb dL_changes_68 hl (by decide) rfl (fun ls hl => ?_)
    refine lv_aload_n hx hb dL_changes_70 rfl (lv_at hl 4 rfl) ?_
    refine lv_iload hx hb dL_changes_71 (lv_at hl 2 rfl) ?_
    refine lv_iload_n hx hb dL_changes_73 rfl (lv_at hl 6 rfl) ?_
    refine lv_bipush (v := 100) hx hb dL_changes_74 (by decide) ?_
    refine lv_topi (fun y_7 e_8 => ?_)
    have e_8 : nI 100 = y_7 := (e_8.trans (rfl)).symm
    subst e_8
    refine rd_calli hP hS (va_runS (As := [.int w, .int (nI 100)]) (rest := [.int (nI s0), .ref qa]) ⟨hx, hb, hml, hown, hts⟩ (c_L_low l D cI cB cO w 100 (by omega) (by omega)) (va_cwS 2 hts gL_changes_L_low rfl rfl rfl (by decide +kernel) ⟨Nat.le_of_ble_eq_true rfl, Nat.le_of_ble_eq_true rfl⟩) (rd_preS hK (hP.pick [] rfl) hN) rfl rfl hl.1 rfl (lv_room (Nat.le_of_ble_eq_true rfl)) dL_changes_76 ⟨Nat.le_refl _, Nat.le_refl _⟩) (fun r_76 H locs h_76 hP hS => ?_)
    obtain ⟨j1, hj1, rfl⟩ := h_76
    refine va_iast hx hb hK hP hD hS 0 0 rfl rfl (i := nI s0) (vp_in_nI (N := 20) (by omega) (by decide)) dL_changes_79 (fun H locs hP hD hS => ?_)
    rw [nI_clamp (n := s0) (by omega)] at hP hD
    have hP : va_P D vwCl ((qa, .inl (cI, 20, .inl (upd f s0 (nI j1)))) :: X) _ := hP
    have hD : va_D (inW ((qa, .inl (cI, 20, .inl f)) :: X0)) ((qa, .inl (cI, 20, .inl (upd f s0 (nI j1)))) :: X) := hD
    refine lv_aload_n hx hb dL_changes_80 rfl (lv_at hl 3 rfl) ?_
    refine lv_iload hx hb dL_changes_81 (lv_at hl 2 rfl) ?_
    refine lv_aload_n hx hb dL_changes_83 rfl (lv_at hl 4 rfl) ?_
    refine lv_iload hx hb dL_changes_84 (lv_at hl 2 rfl) ?_
    refine va_iald hx hb hK hP 0 0 rfl rfl (i := nI s0) (vp_in_nI (N := 20) (by omega) (by decide)) dL_changes_86 ?_
    rw [nI_clamp (n := s0) (by omega)]
    refine lv_topi (fun y_9 e_10 => ?_)
    have e_10 : nI j1 = y_9 := (e_10.trans (pk_us)).symm
    subst e_10
    have hPb : va_P D vwCl ([(qa, .inl (cI, 20, .inl (upd f s0 (nI j1))))] ++ X) _ := hP
    have hDb : va_D (inW ((qa, .inl (cI, 20, .inl f)) :: X0)) ([(qa, .inl (cI, 20, .inl (upd f s0 (nI j1))))] ++ X) := hD
    refine ox_calli hPb hDb hX hS (va_runV (As := [.int (nI s0), .int (nI j1)]) (rest := []) ⟨hx, hb, hml, hown, hts⟩ (y_setGround_ok l D cI cB cO A n (f 17) (f 18) f (M8 f) s0 (nI j1) hs0 (inB_nI (a := 0) (b := 999) (by omega) (by omega) (by decide)) ⟨j1, by omega, rfl⟩) (cwV 2 hts gL_changes_X6_setGround rfl rfl rfl (by decide +kernel) ⟨Nat.le_of_ble_eq_true rfl, Nat.le_of_ble_eq_true rfl⟩) (ox_pre hK hPb hDb hX hN) rfl rfl hl.1 rfl (lv_room (Nat.le_of_ble_eq_true rfl)) dL_changes_87 ⟨Nat.le_refl _, Nat.le_refl _⟩) (fun X H locs hX hP hD hS => ?_)
    have hP : va_P D vwCl ((qa, .inl (cI, 20, .inl (upd f s0 (nI j1)))) :: X) _ := hP
    have hD : va_D (inW ((qa, .inl (cI, 20, .inl f)) :: X0)) ((qa, .inl (cI, 20, .inl (upd f s0 (nI j1)))) :: X) := hD
    refine lv_iload hx hb dL_changes_90 (lv_at hl 0 rfl) ?_
    refine lv_icmp_ne (tgt := 127) hx hb dL_changes_92 (by decide) (fun c_92 => ?_) (fun c_92 => ?_)
    · skip
      exact absurd (rfl) c_92
    · skip
      refine lv_aload_n hx hb dL_changes_95 rfl (lv_at hl 3 rfl) ?_
      refine lv_iload hx hb dL_changes_96 (lv_at hl 2 rfl) ?_
      refine lv_sipush (v := 1000) hx hb dL_changes_98 (by decide) ?_
      have hPb : va_P D vwCl ([(qa, .inl (cI, 20, .inl (upd f s0 (nI j1))))] ++ X) _ := hP
      have hDb : va_D (inW ((qa, .inl (cI, 20, .inl f)) :: X0)) ([(qa, .inl (cI, 20, .inl (upd f s0 (nI j1))))] ++ X) := hD
      refine ox_calli hPb hDb hX hS (va_runV (As := [.int (nI s0), .int 1000]) (rest := []) ⟨hx, hb, hml, hown, hts⟩ (y_setGround_no l D cI cB cO A n (f 17) (f 18) (upd f s0 (nI j1)) (M8 f) (nI s0) 1000 (by rw [show inB 1000 0 999 = false from by decide, Bool.and_false])) (cwV 2 hts gL_changes_X6_setGround rfl rfl rfl (by decide +kernel) ⟨Nat.le_of_ble_eq_true rfl, Nat.le_of_ble_eq_true rfl⟩) (ox_pre hK hPb hDb hX hN) rfl rfl hl.1 rfl (lv_room (Nat.le_of_ble_eq_true rfl)) dL_changes_101 ⟨Nat.le_refl _, Nat.le_refl _⟩) (fun X H locs hX hP hD hS => ?_)
      have hP : va_P D vwCl ((qa, .inl (cI, 20, .inl (upd f s0 (nI j1)))) :: X) _ := hP
      have hD : va_D (inW ((qa, .inl (cI, 20, .inl f)) :: X0)) ((qa, .inl (cI, 20, .inl (upd f s0 (nI j1)))) :: X) := hD
      refine lv_bipush (v := (-2)) hx hb dL_changes_104 (by decide) ?_
      refine lv_icmp_ne (tgt := 127) hx hb dL_changes_106 (by decide) (fun c_106 => ?_) (fun c_106 => ?_)
      · skip
        exact absurd (by decide) c_106
      · skip
        refine lv_aload_n hx hb dL_changes_109 rfl (lv_at hl 3 rfl) ?_
        refine lv_aload_n hx hb dL_changes_110 rfl (lv_at hl 4 rfl) ?_
        refine lv_bipush (v := 16) hx hb dL_changes_111 (by decide) ?_
        refine va_iald hx hb hK hP 0 0 rfl rfl (i := nI 16) (vp_in_nI (N := 20) (by decide) (by decide)) dL_changes_113 ?_
        rw [nI_clamp (n := 16) (by decide)]
        refine lv_topi (fun y_11 e_12 => ?_)
        have e_12 : nI n = y_11 := (e_12.trans ((by rw [pk_un (by omega)]; exact h16))).symm
        subst e_12
        refine lv_iconst (v := 0) hx hb dL_changes_114 (by decide) ?_
        have hPb : va_P D vwCl ([(qa, .inl (cI, 20, .inl (upd f s0 (nI j1))))] ++ X) _ := hP
        have hDb : va_D (inW ((qa, .inl (cI, 20, .inl f)) :: X0)) ([(qa, .inl (cI, 20, .inl (upd f s0 (nI j1))))] ++ X) := hD
        refine ox_calli hPb hDb hX hS (va_runV (As := [.int (nI n), .int 0]) (rest := []) ⟨hx, hb, hml, hown, hts⟩ (y_setGround_no l D cI cB cO A n (f 17) (f 18) (upd f s0 (nI j1)) (M8 f) (nI n) 0 (by rw [has_n hn]; rfl)) (cwV 2 hts gL_changes_X6_setGround rfl rfl rfl (by decide +kernel) ⟨Nat.le_of_ble_eq_true rfl, Nat.le_of_ble_eq_true rfl⟩) (ox_pre hK hPb hDb hX hN) rfl rfl hl.1 rfl (lv_room (Nat.le_of_ble_eq_true rfl)) dL_changes_115 ⟨Nat.le_refl _, Nat.le_refl _⟩) (fun X H locs hX hP hD hS => ?_)
        have hP : va_P D vwCl ((qa, .inl (cI, 20, .inl (upd f s0 (nI j1)))) :: X) _ := hP
        have hD : va_D (inW ((qa, .inl (cI, 20, .inl f)) :: X0)) ((qa, .inl (cI, 20, .inl (upd f s0 (nI j1)))) :: X) := hD
        refine lv_bipush (v := (-2)) hx hb dL_changes_118 (by decide) ?_
        refine lv_icmp_ne (tgt := 127) hx hb dL_changes_120 (by decide) (fun c_120 => ?_) (fun c_120 => ?_)
        · skip
          exact absurd (by decide) c_120
        · skip
          refine lv_iconst (v := 1) hx hb dL_changes_123 (by decide) ?_
          refine lv_goto (tgt := 128) hx hb dL_changes_124 (by decide) ?_
          exact W.zret (v := 1) hx hb hr (rfl) (fun tS htS hWS => ⟨⟨1, (upd f s0 (nI j1), X), rfl, ⟨rfl, (by show (upd f s0 (nI j1)) 16 = nI n; rw [pk_un (by omega)]; exact h16), hX.g1 h8 hs0⟩, retP htS hP⟩, hS.F htS⟩) hS.2.2 dL_changes_128
  · skip
    refine lv_tableIn (off := 98) (tgt := 129) hx hb dL_changes_31 (by decide) (by decide) rfl (by decide) ?_
    refine lv_aload_n hx hb dL_changes_129 rfl (lv_at hl 3 rfl) ?_
    refine lv_bipush (v := 8) hx hb dL_changes_130 (by decide) ?_
    refine lv_iload hx hb dL_changes_132 (lv_at hl 1 rfl) ?_
    refine lv_iadd hx hb dL_changes_134 ?_
    refine lv_topi (fun y_13 e_14 => ?_)
    have e_14 : nI (8 + s0) = y_13 := (e_14.trans (nI_add 8 s0)).symm
    subst e_14
    refine va_iald hx hb hK hP 0 0 rfl rfl (i := nI (8 + s0)) (vp_in_nI (N := 20) (by omega) (by decide)) dL_changes_135 ?_
    rw [nI_clamp (n := 8 + s0) (by omega)]
    refine lv_istore (lv' := [(6, .int (f (8 + s0))), (5, .int (nI t0)), (4, .int (nI s0)), (0, .ref (A 0)), (1, .ref qa), (2, .int v), (3, .int w)]) hx hb dL_changes_136 hl (by decide) rfl (fun ls hl => ?_)
    refine lv_aload_n hx hb dL_changes_138 rfl (lv_at hl 4 rfl) ?_
    refine lv_bipush (v := 8) hx hb dL_changes_139 (by decide) ?_
    refine lv_iload hx hb dL_changes_141 (lv_at hl 2 rfl) ?_
    refine lv_iadd hx hb dL_changes_143 ?_
    refine lv_topi (fun y_15 e_16 => ?_)
    have e_16 : nI (8 + s0) = y_15 := (e_16.trans (nI_add 8 s0)).symm
    subst e_16
    refine lv_iload_n hx hb dL_changes_144 rfl (lv_at hl 6 rfl) ?_
    refine lv_iconst (v := 2) hx hb dL_changes_145 (by decide) ?_
    refine lv_topi (fun y_17 e_18 => ?_)
    have e_18 : nI 2 = y_17 := (e_18.trans (rfl)).symm
    subst e_18
    refine rd_calli hP hS (va_runS (As := [.int w, .int (nI 2)]) (rest := [.int (nI (8 + s0)), .ref qa]) ⟨hx, hb, hml, hown, hts⟩ (c_L_low l D cI cB cO w 2 (by omega) (by omega)) (va_cwS 2 hts gL_changes_L_low rfl rfl rfl (by decide +kernel) ⟨Nat.le_of_ble_eq_true rfl, Nat.le_of_ble_eq_true rfl⟩) (rd_preS hK (hP.pick [] rfl) hN) rfl rfl hl.1 rfl (lv_room (Nat.le_of_ble_eq_true rfl)) dL_changes_146 ⟨Nat.le_refl _, Nat.le_refl _⟩) (fun r_146 H locs h_146 hP hS => ?_)
    obtain ⟨j1, hj1, rfl⟩ := h_146
    refine lv_if_ne (tgt := 156) hx hb dL_changes_149 (by decide) (fun c_149 => ?_) (fun c_149 => ?_)
    · skip
      refine lv_iconst (v := 1) hx hb dL_changes_156 (by decide) ?_
      refine lv_iload_n hx hb dL_changes_157 rfl (lv_at hl 6 rfl) ?_
      refine lv_iconst (v := 2) hx hb dL_changes_158 (by decide) ?_
      refine lv_ishr hx hb dL_changes_159 ?_
      refine lv_sipush (v := 200) hx hb dL_changes_160 (by decide) ?_
      refine lv_topi (fun y_19 e_20 => ?_)
      have e_20 : nI 200 = y_19 := (e_20.trans (rfl)).symm
      subst e_20
      refine rd_calli hP hS (va_runS (As := [.int (w >>> (2 &&& 31)), .int (nI 200)]) (rest := [.int 1, .int (nI (8 + s0)), .ref qa]) ⟨hx, hb, hml, hown, hts⟩ (c_L_low l D cI cB cO (w >>> (2 &&& 31)) 200 (by omega) (by omega)) (va_cwS 2 hts gL_changes_L_low rfl rfl rfl (by decide +kernel) ⟨Nat.le_of_ble_eq_true rfl, Nat.le_of_ble_eq_true rfl⟩) (rd_preS hK (hP.pick [] rfl) hN) rfl rfl hl.1 rfl (lv_room (Nat.le_of_ble_eq_true rfl)) dL_changes_163 ⟨Nat.le_refl _, Nat.le_refl _⟩) (fun r_163 H locs h_163 hP hS => ?_)
      obtain ⟨j2, hj2, rfl⟩ := h_163
      refine lv_iadd hx hb dL_changes_166 ?_
      refine lv_topi (fun y_21 e_22 => ?_)
      have e_22 : nI (1 + j2) = y_21 := (e_22.trans (nI_add 1 j2)).symm
      subst e_22
      refine va_iast hx hb hK hP hD hS 0 0 rfl rfl (i := nI (8 + s0)) (vp_in_nI (N := 20) (by omega) (by decide)) dL_changes_167 (fun H locs hP hD hS => ?_)
      rw [nI_clamp (n := 8 + s0) (by omega)] at hP hD
      have hP : va_P D vwCl ((qa, .inl (cI, 20, .inl (upd f (8 + s0) (nI (1 + j2))))) :: X) _ := hP
      have hD : va_D (inW ((qa, .inl (cI, 20, .inl f)) :: X0)) ((qa, .inl (cI, 20, .inl (upd f (8 + s0) (nI (1 + j2))))) :: X) := hD
      refine lv_aload_n hx hb dL_changes_168 rfl (lv_at hl 3 rfl) ?_
      refine lv_iload hx hb dL_changes_169 (lv_at hl 2 rfl) ?_
      refine lv_aload_n hx hb dL_changes_171 rfl (lv_at hl 4 rfl) ?_
      refine lv_bipush (v := 8) hx hb dL_changes_172 (by decide) ?_
      refine lv_iload hx hb dL_changes_174 (lv_at hl 2 rfl) ?_
      refine lv_iadd hx hb dL_changes_176 ?_
      refine lv_topi (fun y_23 e_24 => ?_)
      have e_24 : nI (8 + s0) = y_23 := (e_24.trans (nI_add 8 s0)).symm
      subst e_24
      refine va_iald hx hb hK hP 0 0 rfl rfl (i := nI (8 + s0)) (vp_in_nI (N := 20) (by omega) (by decide)) dL_changes_177 ?_
      rw [nI_clamp (n := 8 + s0) (by omega)]
      refine lv_topi (fun y_25 e_26 => ?_)
      have e_26 : nI (1 + j2) = y_25 := (e_26.trans (pk_us)).symm
      subst e_26
      have hPb : va_P D vwCl ([(qa, .inl (cI, 20, .inl (upd f (8 + s0) (nI (1 + j2)))))] ++ X) _ := hP
      have hDb : va_D (inW ((qa, .inl (cI, 20, .inl f)) :: X0)) ([(qa, .inl (cI, 20, .inl (upd f (8 + s0) (nI (1 + j2)))))] ++ X) := hD
      refine ox_calli hPb hDb hX hS (va_runV (As := [.int (nI s0), .int (nI (1 + j2))]) (rest := []) ⟨hx, hb, hml, hown, hts⟩ (y_mast_ok l D cI cB cO A n (f 17) (f 18) f (M8 f) s0 (nI (1 + j2)) hs0 (inB_nI (a := 0) (b := 200) (by omega) (by omega) (by decide)) ⟨_, by omega, rfl⟩) (cwV 2 hts gL_changes_X6_mast rfl rfl rfl (by decide +kernel) ⟨Nat.le_of_ble_eq_true rfl, Nat.le_of_ble_eq_true rfl⟩) (ox_pre hK hPb hDb hX hN) rfl rfl hl.1 rfl (lv_room (Nat.le_of_ble_eq_true rfl)) dL_changes_178 ⟨Nat.le_refl _, Nat.le_refl _⟩) (fun X H locs hX hP hD hS => ?_)
      have hP : va_P D vwCl ((qa, .inl (cI, 20, .inl (upd f (8 + s0) (nI (1 + j2))))) :: X) _ := hP
      have hD : va_D (inW ((qa, .inl (cI, 20, .inl f)) :: X0)) ((qa, .inl (cI, 20, .inl (upd f (8 + s0) (nI (1 + j2))))) :: X) := hD
      refine lv_iload hx hb dL_changes_181 (lv_at hl 0 rfl) ?_
      refine lv_icmp_ne (tgt := 204) hx hb dL_changes_183 (by decide) (fun c_183 => ?_) (fun c_183 => ?_)
      · skip
        exact absurd (rfl) c_183
      · skip
        refine lv_aload_n hx hb dL_changes_186 rfl (lv_at hl 3 rfl) ?_
        refine lv_iload hx hb dL_changes_187 (lv_at hl 2 rfl) ?_
        refine lv_sipush (v := 201) hx hb dL_changes_189 (by decide) ?_
        have hPb : va_P D vwCl ([(qa, .inl (cI, 20, .inl (upd f (8 + s0) (nI (1 + j2)))))] ++ X) _ := hP
        have hDb : va_D (inW ((qa, .inl (cI, 20, .inl f)) :: X0)) ([(qa, .inl (cI, 20, .inl (upd f (8 + s0) (nI (1 + j2)))))] ++ X) := hD
        refine ox_calli hPb hDb hX hS (va_runV (As := [.int (nI s0), .int 201]) (rest := []) ⟨hx, hb, hml, hown, hts⟩ (y_mast_no l D cI cB cO A n (f 17) (f 18) f (upd (M8 f) s0 (nI (1 + j2))) (nI s0) 201 (by rw [show inB 201 0 200 = false from by decide, Bool.and_false])) (cwV 2 hts gL_changes_X6_mast rfl rfl rfl (by decide +kernel) ⟨Nat.le_of_ble_eq_true rfl, Nat.le_of_ble_eq_true rfl⟩) (ox_pre hK hPb hDb hX hN) rfl rfl hl.1 rfl (lv_room (Nat.le_of_ble_eq_true rfl)) dL_changes_192 ⟨Nat.le_refl _, Nat.le_refl _⟩) (fun X H locs hX hP hD hS => ?_)
        have hP : va_P D vwCl ((qa, .inl (cI, 20, .inl (upd f (8 + s0) (nI (1 + j2))))) :: X) _ := hP
        have hD : va_D (inW ((qa, .inl (cI, 20, .inl f)) :: X0)) ((qa, .inl (cI, 20, .inl (upd f (8 + s0) (nI (1 + j2))))) :: X) := hD
        refine lv_bipush (v := (-2)) hx hb dL_changes_195 (by decide) ?_
        refine lv_icmp_ne (tgt := 204) hx hb dL_changes_197 (by decide) (fun c_197 => ?_) (fun c_197 => ?_)
        · skip
          exact absurd (by decide) c_197
        · skip
          refine lv_iconst (v := 1) hx hb dL_changes_200 (by decide) ?_
          refine lv_goto (tgt := 205) hx hb dL_changes_201 (by decide) ?_
          exact W.zret (v := 1) hx hb hr (rfl) (fun tS htS hWS => ⟨⟨1, (upd f (8 + s0) (nI (1 + j2)), X), rfl, ⟨rfl, (by show (upd f (8 + s0) (nI (1 + j2))) 16 = nI n; rw [pk_un (by omega)]; exact h16), hX.m1 h8 hs0⟩, retP htS hP⟩, hS.F htS⟩) hS.2.2 dL_changes_205
    · skip
      refine lv_iconst (v := 0) hx hb dL_changes_152 (by decide) ?_
      refine lv_goto (tgt := 167) hx hb dL_changes_153 (by decide) ?_
      refine lv_topi (fun y_27 e_28 => ?_)
      have e_28 : nI 0 = y_27 := (e_28.trans (rfl)).symm
      subst e_28
      refine va_iast hx hb hK hP hD hS 0 0 rfl rfl (i := nI (8 + s0)) (vp_in_nI (N := 20) (by omega) (by decide)) dL_changes_167 (fun H locs hP hD hS => ?_)
      rw [nI_clamp (n := 8 + s0) (by omega)] at hP hD
      have hP : va_P D vwCl ((qa, .inl (cI, 20, .inl (upd f (8 + s0) (nI 0)))) :: X) _ := hP
      have hD : va_D (inW ((qa, .inl (cI, 20, .inl f)) :: X0)) ((qa, .inl (cI, 20, .inl (upd f (8 + s0) (nI 0)))) :: X) := hD
      refine lv_aload_n hx hb dL_changes_168 rfl (lv_at hl 3 rfl) ?_
      refine lv_iload hx hb dL_changes_169 (lv_at hl 2 rfl) ?_
      refine lv_aload_n hx hb dL_changes_171 rfl (lv_at hl 4 rfl) ?_
      refine lv_bipush (v := 8) hx hb dL_changes_172 (by decide) ?_
      refine lv_iload hx hb dL_changes_174 (lv_at hl 2 rfl) ?_
      refine lv_iadd hx hb dL_changes_176 ?_
      refine lv_topi (fun y_29 e_30 => ?_)
      have e_30 : nI (8 + s0) = y_29 := (e_30.trans (nI_add 8 s0)).symm
      subst e_30
      refine va_iald hx hb hK hP 0 0 rfl rfl (i := nI (8 + s0)) (vp_in_nI (N := 20) (by omega) (by decide)) dL_changes_177 ?_
      rw [nI_clamp (n := 8 + s0) (by omega)]
      refine lv_topi (fun y_31 e_32 => ?_)
      have e_32 : nI 0 = y_31 := (e_32.trans (pk_us)).symm
      subst e_32
      have hPb : va_P D vwCl ([(qa, .inl (cI, 20, .inl (upd f (8 + s0) (nI 0))))] ++ X) _ := hP
      have hDb : va_D (inW ((qa, .inl (cI, 20, .inl f)) :: X0)) ([(qa, .inl (cI, 20, .inl (upd f (8 + s0) (nI 0))))] ++ X) := hD
      refine ox_calli hPb hDb hX hS (va_runV (As := [.int (nI s0), .int (nI 0)]) (rest := []) ⟨hx, hb, hml, hown, hts⟩ (y_mast_ok l D cI cB cO A n (f 17) (f 18) f (M8 f) s0 (nI 0) hs0 (inB_nI (a := 0) (b := 200) (by omega) (by omega) (by decide)) ⟨_, by omega, rfl⟩) (cwV 2 hts gL_changes_X6_mast rfl rfl rfl (by decide +kernel) ⟨Nat.le_of_ble_eq_true rfl, Nat.le_of_ble_eq_true rfl⟩) (ox_pre hK hPb hDb hX hN) rfl rfl hl.1 rfl (lv_room (Nat.le_of_ble_eq_true rfl)) dL_changes_178 ⟨Nat.le_refl _, Nat.le_refl _⟩) (fun X H locs hX hP hD hS => ?_)
      have hP : va_P D vwCl ((qa, .inl (cI, 20, .inl (upd f (8 + s0) (nI 0)))) :: X) _ := hP
      have hD : va_D (inW ((qa, .inl (cI, 20, .inl f)) :: X0)) ((qa, .inl (cI, 20, .inl (upd f (8 + s0) (nI 0)))) :: X) := hD
      refine lv_iload hx hb dL_changes_181 (lv_at hl 0 rfl) ?_
      refine lv_icmp_ne (tgt := 204) hx hb dL_changes_183 (by decide) (fun c_183 => ?_) (fun c_183 => ?_)
      · skip
        exact absurd (rfl) c_183
      · skip
        refine lv_aload_n hx hb dL_changes_186 rfl (lv_at hl 3 rfl) ?_
        refine lv_iload hx hb dL_changes_187 (lv_at hl 2 rfl) ?_
        refine lv_sipush (v := 201) hx hb dL_changes_189 (by decide) ?_
        have hPb : va_P D vwCl ([(qa, .inl (cI, 20, .inl (upd f (8 + s0) (nI 0))))] ++ X) _ := hP
        have hDb : va_D (inW ((qa, .inl (cI, 20, .inl f)) :: X0)) ([(qa, .inl (cI, 20, .inl (upd f (8 + s0) (nI 0))))] ++ X) := hD
        refine ox_calli hPb hDb hX hS (va_runV (As := [.int (nI s0), .int 201]) (rest := []) ⟨hx, hb, hml, hown, hts⟩ (y_mast_no l D cI cB cO A n (f 17) (f 18) f (upd (M8 f) s0 (nI 0)) (nI s0) 201 (by rw [show inB 201 0 200 = false from by decide, Bool.and_false])) (cwV 2 hts gL_changes_X6_mast rfl rfl rfl (by decide +kernel) ⟨Nat.le_of_ble_eq_true rfl, Nat.le_of_ble_eq_true rfl⟩) (ox_pre hK hPb hDb hX hN) rfl rfl hl.1 rfl (lv_room (Nat.le_of_ble_eq_true rfl)) dL_changes_192 ⟨Nat.le_refl _, Nat.le_refl _⟩) (fun X H locs hX hP hD hS => ?_)
        have hP : va_P D vwCl ((qa, .inl (cI, 20, .inl (upd f (8 + s0) (nI 0)))) :: X) _ := hP
        have hD : va_D (inW ((qa, .inl (cI, 20, .inl f)) :: X0)) ((qa, .inl (cI, 20, .inl (upd f (8 + s0) (nI 0)))) :: X) := hD
        refine lv_bipush (v := (-2)) hx hb dL_changes_195 (by decide) ?_
        refine lv_icmp_ne (tgt := 204) hx hb dL_changes_197 (by decide) (fun c_197 => ?_) (fun c_197 => ?_)
        · skip
          exact absurd (by decide) c_197
        · skip
          refine lv_iconst (v := 1) hx hb dL_changes_200 (by decide) ?_
          refine lv_goto (tgt := 205) hx hb dL_changes_201 (by decide) ?_
          exact W.zret (v := 1) hx hb hr (rfl) (fun tS htS hWS => ⟨⟨1, (upd f (8 + s0) (nI 0), X), rfl, ⟨rfl, (by show (upd f (8 + s0) (nI 0)) 16 = nI n; rw [pk_un (by omega)]; exact h16), hX.m1 h8 hs0⟩, retP htS hP⟩, hS.F htS⟩) hS.2.2 dL_changes_205
  · skip
    refine lv_tableIn (off := 175) (tgt := 206) hx hb dL_changes_31 (by decide) (by decide) rfl (by decide) ?_
    refine lv_iload hx hb dL_changes_206 (lv_at hl 0 rfl) ?_
    refine lv_iload hx hb dL_changes_208 (lv_at hl 1 rfl) ?_
    refine lv_icmp_gt (tgt := 232) hx hb dL_changes_210 (by decide) (fun c_210 => ?_) (fun c_210 => ?_)
    · skip
      have g210 : s0 < t0 := (nI_ltI (by omega) (by omega)).mp c_210
      have hc0 : 0 = fb_ct (slB f s0 t0) (s0 + 1) := (fb_ct_zero.mpr (fun j hj => by unfold slB; rw [decide_eq_false (show ¬ s0 < j by omega)]; rfl)).symm
      refine lv_iconst (v := 0) hx hb dL_changes_232 (by decide) ?_
      refine lv_istore (lv' := [(7, .int 0), (5, .int (nI t0)), (4, .int (nI s0)), (0, .ref (A 0)), (1, .ref qa), (2, .int v), (3, .int w)]) hx hb dL_changes_233 hl (by decide) rfl (fun ls hl => ?_)
      refine lv_iload hx hb dL_changes_235 (lv_at hl 2 rfl) ?_
      refine lv_iconst (v := 1) hx hb dL_changes_237 (by decide) ?_
      refine lv_iadd hx hb dL_changes_238 ?_
      refine lv_topi (fun y_33 e_34 => ?_)
      have e_34 : nI (s0 + 1) = y_33 := (e_34.trans (nI_add s0 1)).symm
      subst e_34
      refine lv_istore (lv' := [(8, .int (nI (s0 + 1))), (7, .int 0), (5, .int (nI t0)), (4, .int (nI s0)), (0, .ref (A 0)), (1, .ref qa), (2, .int v), (3, .int w)]) hx hb dL_changes_239 hl (by decide) rfl (fun ls hl => ?_)
      have L_241 : ∀ (k_241 : Nat) (k : Nat) (cn : Nat) (g : Nat → Int32), t0 - k < k_241 → (s0 < k) → (k ≤ t0) → (g = slI f f s0 t0 k) → (cn = fb_ct (slB f s0 t0) k) → ∀ (H : Heap) (locs : List Loc), va_P D vwCl ((qa, .inl (cI, 20, .inl g)) :: X) H → va_D (inW ((qa, .inl (cI, 20, .inl f)) :: X0)) ((qa, .inl (cI, 20, .inl g)) :: X) → va_S (inW ((qa, .inl (cI, 20, .inl f)) :: X0)) s.heap H locs → ∀ (ls : Array Slot), lv_has ls 12 [(0, .ref (A 0)), (1, .ref qa), (2, .int v), (3, .int w), (4, .int (nI s0)), (5, .int (nI t0)), (7, .int (nI cn)), (8, .int (nI k))] → W p l e (rmD 8) s m ([.ref (A 0), .ref qa, .int v, .int w] : List Value).toArray below meth c H locs 0 0 (MQ below (wrQi D ((qa, .inl (cI, 20, .inl f)) :: X0) (fun (r : Int32) (u : (Nat → Int32) × va_W) => r = 1 ∧ u.1 16 = nI n ∧ SRX cI cB cO A u.2 n (u.1 17) (u.1 18) u.1 (M8 u.1)) (fun (u : (Nat → Int32) × va_W) => ((qa, .inl (cI, 20, .inl u.1)) :: u.2))) ([.ref (A 0), .ref qa, .int v, .int w] : List Value).toArray s 0 0 (inW ((qa, .inl (cI, 20, .inl f)) :: X0))) (F0 m 241 ls []) := by
        intro k_241
        induction k_241 with
        | zero => intro k cn g h9; exact absurd h9 (Nat.not_lt_zero _)
        | succ k_241 ih_241 =>
          intro k cn g hm_241 hk1 hk2 hg hcn H locs hP hD hS ls hl
          refine lv_iload hx hb dL_changes_241 (lv_at hl 7 rfl) ?_
          refine lv_iload hx hb dL_changes_243 (lv_at hl 5 rfl) ?_
          refine lv_icmp_ge (tgt := 307) hx hb dL_changes_245 (by decide) (fun c_245 => ?_) (fun c_245 => ?_)
          · skip
            have g245 : t0 ≤ k := ge_t (by omega) c_245
            have ek : k = t0 := by omega
            refine lv_aload_n hx hb dL_changes_307 rfl (lv_at hl 0 rfl) ?_
            refine lv_iload hx hb dL_changes_308 (lv_at hl 4 rfl) ?_
            refine lv_iload hx hb dL_changes_310 (lv_at hl 5 rfl) ?_
            have hg9 : g = slI f f s0 t0 t0 := by rw [hg, ek]
            subst hg9
            have hPb : va_P D vwCl ([(qa, .inl (cI, 20, .inl (slI f f s0 t0 t0)))] ++ X) _ := hP
            have hDb : va_D (inW ((qa, .inl (cI, 20, .inl f)) :: X0)) ([(qa, .inl (cI, 20, .inl (slI f f s0 t0 t0)))] ++ X) := hD
            refine ox_calli hPb hDb hX hS (va_runV (As := [.int (nI s0), .int (nI t0)]) (rest := []) ⟨hx, hb, hml, hown, hts⟩ (y_slope_ok l D cI cB cO A n (f 17) (f 18) f (M8 f) s0 t0 g210 ht0) (cwV 2 hts gL_changes_X6_slope rfl rfl rfl (by decide +kernel) ⟨Nat.le_of_ble_eq_true rfl, Nat.le_of_ble_eq_true rfl⟩) (ox_pre hK hPb hDb hX hN) rfl rfl hl.1 rfl (lv_room (Nat.le_of_ble_eq_true rfl)) dL_changes_312 ⟨Nat.le_refl _, Nat.le_refl _⟩) (fun X H locs hX hP hD hS => ?_)
            have hP : va_P D vwCl ((qa, .inl (cI, 20, .inl (slI f f s0 t0 t0))) :: X) _ := hP
            have hD : va_D (inW ((qa, .inl (cI, 20, .inl f)) :: X0)) ((qa, .inl (cI, 20, .inl (slI f f s0 t0 t0))) :: X) := hD
            refine lv_iload hx hb dL_changes_315 (lv_at hl 6 rfl) ?_
            refine lv_icmp_ne (tgt := 324) hx hb dL_changes_317 (by decide) (fun c_317 => ?_) (fun c_317 => ?_)
            · skip
              exact absurd (by rw [hcn, ek]) c_317
            · skip
              refine lv_iconst (v := 1) hx hb dL_changes_320 (by decide) ?_
              refine lv_goto (tgt := 325) hx hb dL_changes_321 (by decide) ?_
              exact W.zret (v := 1) hx hb hr (rfl) (fun tS htS hWS => ⟨⟨1, (slI f f s0 t0 t0, X), rfl, ⟨rfl, (if_neg (by omega)).trans h16, hX.s1 h8 ht0⟩, retP htS hP⟩, hS.F htS⟩) hS.2.2 dL_changes_325
          · skip
            have g245 : k < t0 := ge_f (by omega) c_245
            have gs : g s0 = f s0 := by rw [hg]; exact if_neg (by omega)
            have gt : g t0 = f t0 := by rw [hg]; exact if_neg (by omega)
            have gk : g k = f k := by rw [hg]; exact if_neg (by omega)
            refine lv_aload_n hx hb dL_changes_248 rfl (lv_at hl 1 rfl) ?_
            refine lv_iload hx hb dL_changes_249 (lv_at hl 4 rfl) ?_
            refine va_iald hx hb hK hP 0 0 rfl rfl (i := nI s0) (vp_in_nI (N := 20) (by omega) (by decide)) dL_changes_251 ?_
            rw [nI_clamp (n := s0) (by omega)]
            refine lv_topi (fun y_35 e_36 => ?_)
            have e_36 : f s0 = y_35 := (e_36.trans (gs)).symm
            subst e_36
            refine lv_aload_n hx hb dL_changes_252 rfl (lv_at hl 1 rfl) ?_
            refine lv_iload hx hb dL_changes_253 (lv_at hl 5 rfl) ?_
            refine va_iald hx hb hK hP 0 0 rfl rfl (i := nI t0) (vp_in_nI (N := 20) (by omega) (by decide)) dL_changes_255 ?_
            rw [nI_clamp (n := t0) (by omega)]
            refine lv_topi (fun y_37 e_38 => ?_)
            have e_38 : f t0 = y_37 := (e_38.trans (gt)).symm
            subst e_38
            refine lv_aload_n hx hb dL_changes_256 rfl (lv_at hl 1 rfl) ?_
            refine lv_iload hx hb dL_changes_257 (lv_at hl 4 rfl) ?_
            refine va_iald hx hb hK hP 0 0 rfl rfl (i := nI s0) (vp_in_nI (N := 20) (by omega) (by decide)) dL_changes_259 ?_
            rw [nI_clamp (n := s0) (by omega)]
            refine lv_topi (fun y_39 e_40 => ?_)
            have e_40 : f s0 = y_39 := (e_40.trans (gs)).symm
            subst e_40
            refine lv_isub hx hb dL_changes_260 ?_
            refine lv_iload hx hb dL_changes_261 (lv_at hl 7 rfl) ?_
            refine lv_iload hx hb dL_changes_263 (lv_at hl 4 rfl) ?_
            refine lv_isub hx hb dL_changes_265 ?_
            refine lv_topi (fun y_41 e_42 => ?_)
            have e_42 : nI (k - s0) = y_41 := (e_42.trans (pk_sub (by omega))).symm
            subst e_42
            refine lv_imul hx hb dL_changes_266 ?_
            refine lv_iload hx hb dL_changes_267 (lv_at hl 5 rfl) ?_
            refine lv_iload hx hb dL_changes_269 (lv_at hl 4 rfl) ?_
            refine lv_isub hx hb dL_changes_271 ?_
            refine lv_topi (fun y_43 e_44 => ?_)
            have e_44 : nI (t0 - s0) = y_43 := (e_44.trans (pk_sub (by omega))).symm
            subst e_44
            refine lv_idiv hx hb dL_changes_272 (lw_ne0 (by omega) (by omega)) ?_
            refine lv_iadd hx hb dL_changes_273 ?_
            refine lv_topi (fun y_45 e_46 => ?_)
            have e_46 : slp f s0 t0 k = y_45 := (e_46.trans (rfl)).symm
            subst e_46
            refine lv_istore (lv' := [(9, .int (slp f s0 t0 k)), (0, .ref (A 0)), (1, .ref qa), (2, .int v), (3, .int w), (4, .int (nI s0)), (5, .int (nI t0)), (7, .int (nI cn)), (8, .int (nI k))]) hx hb dL_changes_274 hl (by decide) rfl (fun ls hl => ?_)
            refine lv_iload hx hb dL_changes_276 (lv_at hl 7 rfl) ?_
            refine lv_iload hx hb dL_changes_278 (lv_at hl 0 rfl) ?_
            refine lv_aload_n hx hb dL_changes_280 rfl (lv_at hl 2 rfl) ?_
            refine lv_iload hx hb dL_changes_281 (lv_at hl 8 rfl) ?_
            refine va_iald hx hb hK hP 0 0 rfl rfl (i := nI k) (vp_in_nI (N := 20) (by omega) (by decide)) dL_changes_283 ?_
            rw [nI_clamp (n := k) (by omega)]
            refine lv_topi (fun y_47 e_48 => ?_)
            have e_48 : f k = y_47 := (e_48.trans (gk)).symm
            subst e_48
            refine lv_icmp_ne (tgt := 291) hx hb dL_changes_284 (by decide) (fun c_284 => ?_) (fun c_284 => ?_)
            · skip
              refine lv_iconst (v := 1) hx hb dL_changes_291 (by decide) ?_
              refine lv_iadd hx hb dL_changes_292 ?_
              refine lv_topi (fun y_49 e_50 => ?_)
              have e_50 : nI (cn + 1) = y_49 := (e_50.trans (nI_add cn 1)).symm
              subst e_50
              refine lv_istore (lv' := [(7, .int (nI (cn + 1))), (9, .int (slp f s0 t0 k)), (0, .ref (A 0)), (1, .ref qa), (2, .int v), (3, .int w), (4, .int (nI s0)), (5, .int (nI t0)), (8, .int (nI k))]) hx hb dL_changes_293 hl (by decide) rfl (fun ls hl => ?_)
              refine lv_aload_n hx hb dL_changes_295 rfl (lv_at hl 3 rfl) ?_
              refine lv_iload hx hb dL_changes_296 (lv_at hl 8 rfl) ?_
              refine lv_iload hx hb dL_changes_298 (lv_at hl 1 rfl) ?_
              refine va_iast hx hb hK hP hD hS 0 0 rfl rfl (i := nI k) (vp_in_nI (N := 20) (by omega) (by decide)) dL_changes_300 (fun H locs hP hD hS => ?_)
              rw [nI_clamp (n := k) (by omega)] at hP hD
              have hP : va_P D vwCl ((qa, .inl (cI, 20, .inl (upd g k (slp f s0 t0 k)))) :: X) _ := hP
              have hD : va_D (inW ((qa, .inl (cI, 20, .inl f)) :: X0)) ((qa, .inl (cI, 20, .inl (upd g k (slp f s0 t0 k)))) :: X) := hD
              refine lv_iinc (v := nI (k + 1)) (lv' := [(8, .int (nI (k + 1))), (7, .int (nI (cn + 1))), (9, .int (slp f s0 t0 k)), (0, .ref (A 0)), (1, .ref qa), (2, .int v), (3, .int w), (4, .int (nI s0)), (5, .int (nI t0))]) hx hb dL_changes_301 hl (k := 8) rfl (inc1 _) (by decide) rfl (fun ls hl => ?_)
              refine lv_goto (tgt := 241) hx hb dL_changes_304 (by decide) ?_
              exact ih_241 (k + 1) (cn + 1) (upd g k (slp f s0 t0 k)) (by omega) (by omega) (by omega) (by rw [hg]; exact slI_s f f hk1) ((by have e := slB_T hk1 c_284; omega)) _ _ hP hD hS ls (lv_sub hl [3, 4, 5, 6, 7, 8, 1, 0] rfl)
            · skip
              refine lv_iconst (v := 0) hx hb dL_changes_287 (by decide) ?_
              refine lv_goto (tgt := 292) hx hb dL_changes_288 (by decide) ?_
              refine lv_iadd hx hb dL_changes_292 ?_
              refine lv_topi (fun y_51 e_52 => ?_)
              have e_52 : nI (cn + 0) = y_51 := (e_52.trans (nI_add cn 0)).symm
              subst e_52
              refine lv_istore (lv' := [(7, .int (nI (cn + 0))), (9, .int (slp f s0 t0 k)), (0, .ref (A 0)), (1, .ref qa), (2, .int v), (3, .int w), (4, .int (nI s0)), (5, .int (nI t0)), (8, .int (nI k))]) hx hb dL_changes_293 hl (by decide) rfl (fun ls hl => ?_)
              refine lv_aload_n hx hb dL_changes_295 rfl (lv_at hl 3 rfl) ?_
              refine lv_iload hx hb dL_changes_296 (lv_at hl 8 rfl) ?_
              refine lv_iload hx hb dL_changes_298 (lv_at hl 1 rfl) ?_
              refine va_iast hx hb hK hP hD hS 0 0 rfl rfl (i := nI k) (vp_in_nI (N := 20) (by omega) (by decide)) dL_changes_300 (fun H locs hP hD hS => ?_)
              rw [nI_clamp (n := k) (by omega)] at hP hD
              have hP : va_P D vwCl ((qa, .inl (cI, 20, .inl (upd g k (slp f s0 t0 k)))) :: X) _ := hP
              have hD : va_D (inW ((qa, .inl (cI, 20, .inl f)) :: X0)) ((qa, .inl (cI, 20, .inl (upd g k (slp f s0 t0 k)))) :: X) := hD
              refine lv_iinc (v := nI (k + 1)) (lv' := [(8, .int (nI (k + 1))), (7, .int (nI (cn + 0))), (9, .int (slp f s0 t0 k)), (0, .ref (A 0)), (1, .ref qa), (2, .int v), (3, .int w), (4, .int (nI s0)), (5, .int (nI t0))]) hx hb dL_changes_301 hl (k := 8) rfl (inc1 _) (by decide) rfl (fun ls hl => ?_)
              refine lv_goto (tgt := 241) hx hb dL_changes_304 (by decide) ?_
              exact ih_241 (k + 1) (cn + 0) (upd g k (slp f s0 t0 k)) (by omega) (by omega) (by omega) (by rw [hg]; exact slI_s f f hk1) ((by have e := slB_F c_284; omega)) _ _ hP hD hS ls (lv_sub hl [3, 4, 5, 6, 7, 8, 1, 0] rfl)
      exact L_241 _ (s0 + 1) 0 f (Nat.lt_succ_self _) (Nat.lt_succ_self s0) (g210) ((slI_0 f f s0 t0).symm) (hc0) _ _ hP hD hS ls (lv_sub hl [4, 5, 6, 7, 3, 2, 1, 0] rfl)
    · skip
      refine lv_aload_n hx hb dL_changes_213 rfl (lv_at hl 2 rfl) ?_
      refine lv_iload hx hb dL_changes_214 (lv_at hl 1 rfl) ?_
      refine lv_iload hx hb dL_changes_216 (lv_at hl 0 rfl) ?_
      have hPb : va_P D vwCl ([(qa, .inl (cI, 20, .inl f))] ++ X) _ := hP
      have hDb : va_D (inW ((qa, .inl (cI, 20, .inl f)) :: X0)) ([(qa, .inl (cI, 20, .inl f))] ++ X) := hD
      refine ox_calli hPb hDb hX hS (va_runV (As := [.int (nI s0), .int (nI t0)]) (rest := []) ⟨hx, hb, hml, hown, hts⟩ (y_slope_no l D cI cB cO A n (f 17) (f 18) f (M8 f) (nI s0) (nI t0) (by rw [decide_eq_false c_210, Bool.and_false, Bool.and_false])) (cwV 2 hts gL_changes_X6_slope rfl rfl rfl (by decide +kernel) ⟨Nat.le_of_ble_eq_true rfl, Nat.le_of_ble_eq_true rfl⟩) (ox_pre hK hPb hDb hX hN) rfl rfl hl.1 rfl (lv_room (Nat.le_of_ble_eq_true rfl)) dL_changes_218 ⟨Nat.le_refl _, Nat.le_refl _⟩) (fun X H locs hX hP hD hS => ?_)
      have hP : va_P D vwCl ((qa, .inl (cI, 20, .inl f)) :: X) _ := hP
      have hD : va_D (inW ((qa, .inl (cI, 20, .inl f)) :: X0)) ((qa, .inl (cI, 20, .inl f)) :: X) := hD
      refine lv_bipush (v := (-2)) hx hb dL_changes_221 (by decide) ?_
      refine lv_icmp_ne (tgt := 230) hx hb dL_changes_223 (by decide) (fun c_223 => ?_) (fun c_223 => ?_)
      · skip
        exact absurd (by decide) c_223
      · skip
        refine lv_iconst (v := 1) hx hb dL_changes_226 (by decide) ?_
        refine lv_goto (tgt := 231) hx hb dL_changes_227 (by decide) ?_
        exact W.zret (v := 1) hx hb hr (rfl) (fun tS htS hWS => ⟨⟨1, (f, X), rfl, ⟨rfl, h16, hX⟩, retP htS hP⟩, hS.F htS⟩) hS.2.2 dL_changes_231
  · skip
    refine lv_tableIn (off := 295) (tgt := 326) hx hb dL_changes_31 (by decide) (by decide) rfl (by decide) ?_
    refine lv_iconst (v := 0) hx hb dL_changes_326 (by decide) ?_
    refine lv_istore (lv' := [(7, .int 0), (5, .int (nI t0)), (4, .int (nI s0)), (0, .ref (A 0)), (1, .ref qa), (2, .int v), (3, .int w)]) hx hb dL_changes_327 hl (by decide) rfl (fun ls hl => ?_)
    refine lv_iconst (v := 0) hx hb dL_changes_329 (by decide) ?_
    refine lv_istore (lv' := [(8, .int 0), (7, .int 0), (5, .int (nI t0)), (4, .int (nI s0)), (0, .ref (A 0)), (1, .ref qa), (2, .int v), (3, .int w)]) hx hb dL_changes_330 hl (by decide) rfl (fun ls hl => ?_)
    have L_332 : ∀ (k_332 : Nat) (k : Nat) (cn : Nat) (g : Nat → Int32), n / 2 - k < k_332 → (k ≤ n / 2) → (g = rvL n f k) → (cn = 2 * fb_ct (rvP n f) k) → ∀ (H : Heap) (locs : List Loc), va_P D vwCl ((qa, .inl (cI, 20, .inl g)) :: X) H → va_D (inW ((qa, .inl (cI, 20, .inl f)) :: X0)) ((qa, .inl (cI, 20, .inl g)) :: X) → va_S (inW ((qa, .inl (cI, 20, .inl f)) :: X0)) s.heap H locs → ∀ (ls : Array Slot), lv_has ls 12 [(0, .ref (A 0)), (1, .ref qa), (2, .int v), (3, .int w), (4, .int (nI s0)), (5, .int (nI t0)), (7, .int (nI cn)), (8, .int (nI k))] → W p l e (rmD 8) s m ([.ref (A 0), .ref qa, .int v, .int w] : List Value).toArray below meth c H locs 0 0 (MQ below (wrQi D ((qa, .inl (cI, 20, .inl f)) :: X0) (fun (r : Int32) (u : (Nat → Int32) × va_W) => r = 1 ∧ u.1 16 = nI n ∧ SRX cI cB cO A u.2 n (u.1 17) (u.1 18) u.1 (M8 u.1)) (fun (u : (Nat → Int32) × va_W) => ((qa, .inl (cI, 20, .inl u.1)) :: u.2))) ([.ref (A 0), .ref qa, .int v, .int w] : List Value).toArray s 0 0 (inW ((qa, .inl (cI, 20, .inl f)) :: X0))) (F0 m 332 ls []) := by
      intro k_332
      induction k_332 with
      | zero => intro k cn g h9; exact absurd h9 (Nat.not_lt_zero _)
      | succ k_332 ih_332 =>
        intro k cn g hm_332 hk2 hg hcn H locs hP hD hS ls hl
        refine lv_iload hx hb dL_changes_332 (lv_at hl 7 rfl) ?_
        have g16 : g 16 = nI n := by rw [hg, rvL_o (by decide) h8]; exact h16
        refine lv_aload_n hx hb dL_changes_334 rfl (lv_at hl 1 rfl) ?_
        refine lv_bipush (v := 16) hx hb dL_changes_335 (by decide) ?_
        refine va_iald hx hb hK hP 0 0 rfl rfl (i := nI 16) (vp_in_nI (N := 20) (by decide) (by decide)) dL_changes_337 ?_
        rw [nI_clamp (n := 16) (by decide)]
        refine lv_topi (fun y_53 e_54 => ?_)
        have e_54 : nI n = y_53 := (e_54.trans (g16)).symm
        subst e_54
        refine lv_iconst (v := 2) hx hb dL_changes_338 (by decide) ?_
        refine lv_idiv hx hb dL_changes_339 (by decide) ?_
        refine lv_topi (fun y_55 e_56 => ?_)
        have e_56 : nI (n / 2) = y_55 := (e_56.trans (pk_div (d := 2) (by omega) (by decide) (by decide))).symm
        subst e_56
        refine lv_icmp_ge (tgt := 450) hx hb dL_changes_340 (by decide) (fun c_340 => ?_) (fun c_340 => ?_)
        · skip
          have g340 : n / 2 ≤ k := ge_t (by omega) c_340
          have ek : k = n / 2 := by omega
          refine lv_aload_n hx hb dL_changes_450 rfl (lv_at hl 0 rfl) ?_
          have hg9 : g = rvL n f k := hg
          subst hg9
          have hPb : va_P D vwCl ([(qa, .inl (cI, 20, .inl (rvL n f k)))] ++ X) _ := hP
          have hDb : va_D (inW ((qa, .inl (cI, 20, .inl f)) :: X0)) ([(qa, .inl (cI, 20, .inl (rvL n f k)))] ++ X) := hD
          refine ox_calli hPb hDb hX hS (va_runV (As := []) (rest := []) ⟨hx, hb, hml, hown, hts⟩ (y_reverse l D cI cB cO A n (f 17) (f 18) f (M8 f)) (cwV 0 hts gL_changes_X6_reverse rfl rfl rfl (by decide +kernel) ⟨Nat.le_of_ble_eq_true rfl, Nat.le_of_ble_eq_true rfl⟩) (ox_pre hK hPb hDb hX hN) rfl rfl hl.1 rfl (lv_room (Nat.le_of_ble_eq_true rfl)) dL_changes_451 ⟨Nat.le_refl _, Nat.le_refl _⟩) (fun X H locs hX hP hD hS => ?_)
          have hP : va_P D vwCl ((qa, .inl (cI, 20, .inl (rvL n f k))) :: X) _ := hP
          have hD : va_D (inW ((qa, .inl (cI, 20, .inl f)) :: X0)) ((qa, .inl (cI, 20, .inl (rvL n f k))) :: X) := hD
          refine lv_iload hx hb dL_changes_454 (lv_at hl 6 rfl) ?_
          refine lv_icmp_ne (tgt := 463) hx hb dL_changes_456 (by decide) (fun c_456 => ?_) (fun c_456 => ?_)
          · skip
            exact absurd (by rw [hcn, ek, ← rvP_half]; rfl) c_456
          · skip
            refine lv_iconst (v := 1) hx hb dL_changes_459 (by decide) ?_
            refine lv_goto (tgt := 464) hx hb dL_changes_460 (by decide) ?_
            exact W.zret (v := 1) hx hb hr (rfl) (fun tS htS hWS => ⟨⟨1, (rvL n f k, X), rfl, ⟨rfl, (rvL_o (by decide) h8 f).trans h16, hX.v1 h8 ek⟩, retP htS hP⟩, hS.F htS⟩) hS.2.2 dL_changes_464
        · skip
          have g340 : k < n / 2 := ge_f (by omega) c_340
          have gk : g k = f k := by rw [hg]; exact rvL_g (by omega) (by omega) (by omega) h8 f
          have gj : g (n - 1 - k) = f (n - 1 - k) := by rw [hg]; exact rvL_g (by omega) (by omega) (by omega) h8 f
          have mk : g (8 + k) = f (8 + k) := by rw [hg]; exact rvL_m (by omega) (by omega) (by omega) h8 f
          have mj : g (8 + (n - 1 - k)) = f (8 + (n - 1 - k)) := by rw [hg]; exact rvL_m (by omega) (by omega) (by omega) h8 f
          refine lv_aload_n hx hb dL_changes_343 rfl (lv_at hl 1 rfl) ?_
          refine lv_bipush (v := 16) hx hb dL_changes_344 (by decide) ?_
          refine va_iald hx hb hK hP 0 0 rfl rfl (i := nI 16) (vp_in_nI (N := 20) (by decide) (by decide)) dL_changes_346 ?_
          rw [nI_clamp (n := 16) (by decide)]
          refine lv_topi (fun y_57 e_58 => ?_)
          have e_58 : nI n = y_57 := (e_58.trans (g16)).symm
          subst e_58
          refine lv_iconst (v := 1) hx hb dL_changes_347 (by decide) ?_
          refine lv_isub hx hb dL_changes_348 ?_
          refine lv_topi (fun y_59 e_60 => ?_)
          have e_60 : nI (n - 1) = y_59 := (e_60.trans (pk_sub (b := 1) (by omega))).symm
          subst e_60
          refine lv_iload hx hb dL_changes_349 (lv_at hl 7 rfl) ?_
          refine lv_isub hx hb dL_changes_351 ?_
          refine lv_topi (fun y_61 e_62 => ?_)
          have e_62 : nI (n - 1 - k) = y_61 := (e_62.trans (pk_sub (by omega))).symm
          subst e_62
          refine lv_istore (lv' := [(9, .int (nI (n - 1 - k))), (0, .ref (A 0)), (1, .ref qa), (2, .int v), (3, .int w), (4, .int (nI s0)), (5, .int (nI t0)), (7, .int (nI cn)), (8, .int (nI k))]) hx hb dL_changes_352 hl (by decide) rfl (fun ls hl => ?_)
          refine lv_iload hx hb dL_changes_354 (lv_at hl 7 rfl) ?_
          refine lv_aload_n hx hb dL_changes_356 rfl (lv_at hl 2 rfl) ?_
          refine lv_iload hx hb dL_changes_357 (lv_at hl 8 rfl) ?_
          refine va_iald hx hb hK hP 0 0 rfl rfl (i := nI k) (vp_in_nI (N := 20) (by omega) (by decide)) dL_changes_359 ?_
          rw [nI_clamp (n := k) (by omega)]
          refine lv_topi (fun y_63 e_64 => ?_)
          have e_64 : f k = y_63 := (e_64.trans (gk)).symm
          subst e_64
          refine lv_aload_n hx hb dL_changes_360 rfl (lv_at hl 2 rfl) ?_
          refine lv_iload hx hb dL_changes_361 (lv_at hl 0 rfl) ?_
          refine va_iald hx hb hK hP 0 0 rfl rfl (i := nI (n - 1 - k)) (vp_in_nI (N := 20) (by omega) (by decide)) dL_changes_363 ?_
          rw [nI_clamp (n := n - 1 - k) (by omega)]
          refine lv_topi (fun y_65 e_66 => ?_)
          have e_66 : f (n - 1 - k) = y_65 := (e_66.trans (gj)).symm
          subst e_66
          refine lv_icmp_ne (tgt := 388) hx hb dL_changes_364 (by decide) (fun c_364 => ?_) (fun c_364 => ?_)
          · skip
            refine lv_iconst (v := 2) hx hb dL_changes_388 (by decide) ?_
            refine lv_iadd hx hb dL_changes_389 ?_
            refine lv_topi (fun y_67 e_68 => ?_)
            have e_68 : nI (cn + 2) = y_67 := (e_68.trans (nI_add cn 2)).symm
            subst e_68
            refine lv_istore (lv' := [(7, .int (nI (cn + 2))), (9, .int (nI (n - 1 - k))), (0, .ref (A 0)), (1, .ref qa), (2, .int v), (3, .int w), (4, .int (nI s0)), (5, .int (nI t0)), (8, .int (nI k))]) hx hb dL_changes_390 hl (by decide) rfl (fun ls hl => ?_)
            refine lv_aload_n hx hb dL_changes_392 rfl (lv_at hl 3 rfl) ?_
            refine lv_iload hx hb dL_changes_393 (lv_at hl 8 rfl) ?_
            refine va_iald hx hb hK hP 0 0 rfl rfl (i := nI k) (vp_in_nI (N := 20) (by omega) (by decide)) dL_changes_395 ?_
            rw [nI_clamp (n := k) (by omega)]
            refine lv_topi (fun y_69 e_70 => ?_)
            have e_70 : f k = y_69 := (e_70.trans (gk)).symm
            subst e_70
            refine lv_istore (lv' := [(10, .int (f k)), (7, .int (nI (cn + 2))), (9, .int (nI (n - 1 - k))), (0, .ref (A 0)), (1, .ref qa), (2, .int v), (3, .int w), (4, .int (nI s0)), (5, .int (nI t0)), (8, .int (nI k))]) hx hb dL_changes_396 hl (by decide) rfl (fun ls hl => ?_)
            refine lv_aload_n hx hb dL_changes_398 rfl (lv_at hl 4 rfl) ?_
            refine lv_bipush (v := 8) hx hb dL_changes_399 (by decide) ?_
            refine lv_iload hx hb dL_changes_401 (lv_at hl 9 rfl) ?_
            refine lv_iadd hx hb dL_changes_403 ?_
            refine lv_topi (fun y_71 e_72 => ?_)
            have e_72 : nI (8 + k) = y_71 := (e_72.trans (nI_add 8 k)).symm
            subst e_72
            refine va_iald hx hb hK hP 0 0 rfl rfl (i := nI (8 + k)) (vp_in_nI (N := 20) (by omega) (by decide)) dL_changes_404 ?_
            rw [nI_clamp (n := 8 + k) (by omega)]
            refine lv_topi (fun y_73 e_74 => ?_)
            have e_74 : f (8 + k) = y_73 := (e_74.trans (mk)).symm
            subst e_74
            refine lv_istore (lv' := [(11, .int (f (8 + k))), (10, .int (f k)), (7, .int (nI (cn + 2))), (9, .int (nI (n - 1 - k))), (0, .ref (A 0)), (1, .ref qa), (2, .int v), (3, .int w), (4, .int (nI s0)), (5, .int (nI t0)), (8, .int (nI k))]) hx hb dL_changes_405 hl (by decide) rfl (fun ls hl => ?_)
            refine lv_aload_n hx hb dL_changes_407 rfl (lv_at hl 5 rfl) ?_
            refine lv_iload hx hb dL_changes_408 (lv_at hl 10 rfl) ?_
            refine lv_aload_n hx hb dL_changes_410 rfl (lv_at hl 5 rfl) ?_
            refine lv_iload hx hb dL_changes_411 (lv_at hl 3 rfl) ?_
            refine va_iald hx hb hK hP 0 0 rfl rfl (i := nI (n - 1 - k)) (vp_in_nI (N := 20) (by omega) (by decide)) dL_changes_413 ?_
            rw [nI_clamp (n := n - 1 - k) (by omega)]
            refine lv_topi (fun y_75 e_76 => ?_)
            have e_76 : f (n - 1 - k) = y_75 := (e_76.trans (gj)).symm
            subst e_76
            refine va_iast hx hb hK hP hD hS 0 0 rfl rfl (i := nI k) (vp_in_nI (N := 20) (by omega) (by decide)) dL_changes_414 (fun H locs hP hD hS => ?_)
            rw [nI_clamp (n := k) (by omega)] at hP hD
            have hP : va_P D vwCl ((qa, .inl (cI, 20, .inl (upd g k (f (n - 1 - k))))) :: X) _ := hP
            have hD : va_D (inW ((qa, .inl (cI, 20, .inl f)) :: X0)) ((qa, .inl (cI, 20, .inl (upd g k (f (n - 1 - k))))) :: X) := hD
            refine lv_aload_n hx hb dL_changes_415 rfl (lv_at hl 5 rfl) ?_
            refine lv_bipush (v := 8) hx hb dL_changes_416 (by decide) ?_
            refine lv_iload hx hb dL_changes_418 (lv_at hl 10 rfl) ?_
            refine lv_iadd hx hb dL_changes_420 ?_
            refine lv_topi (fun y_77 e_78 => ?_)
            have e_78 : nI (8 + k) = y_77 := (e_78.trans (nI_add 8 k)).symm
            subst e_78
            refine lv_aload_n hx hb dL_changes_421 rfl (lv_at hl 5 rfl) ?_
            refine lv_bipush (v := 8) hx hb dL_changes_422 (by decide) ?_
            refine lv_iload hx hb dL_changes_424 (lv_at hl 3 rfl) ?_
            refine lv_iadd hx hb dL_changes_426 ?_
            refine lv_topi (fun y_79 e_80 => ?_)
            have e_80 : nI (8 + (n - 1 - k)) = y_79 := (e_80.trans (nI_add 8 (n - 1 - k))).symm
            subst e_80
            refine va_iald hx hb hK hP 0 0 rfl rfl (i := nI (8 + (n - 1 - k))) (vp_in_nI (N := 20) (by omega) (by decide)) dL_changes_427 ?_
            rw [nI_clamp (n := 8 + (n - 1 - k)) (by omega)]
            refine lv_topi (fun y_81 e_82 => ?_)
            have e_82 : f (8 + (n - 1 - k)) = y_81 := (e_82.trans ((by rw [pk_un (by omega)]; exact mj))).symm
            subst e_82
            refine va_iast hx hb hK hP hD hS 0 0 rfl rfl (i := nI (8 + k)) (vp_in_nI (N := 20) (by omega) (by decide)) dL_changes_428 (fun H locs hP hD hS => ?_)
            rw [nI_clamp (n := 8 + k) (by omega)] at hP hD
            have hP : va_P D vwCl ((qa, .inl (cI, 20, .inl (upd (upd g k (f (n - 1 - k))) (8 + k) (f (8 + (n - 1 - k)))))) :: X) _ := hP
            have hD : va_D (inW ((qa, .inl (cI, 20, .inl f)) :: X0)) ((qa, .inl (cI, 20, .inl (upd (upd g k (f (n - 1 - k))) (8 + k) (f (8 + (n - 1 - k)))))) :: X) := hD
            refine lv_aload_n hx hb dL_changes_429 rfl (lv_at hl 5 rfl) ?_
            refine lv_iload hx hb dL_changes_430 (lv_at hl 3 rfl) ?_
            refine lv_iload hx hb dL_changes_432 (lv_at hl 1 rfl) ?_
            refine va_iast hx hb hK hP hD hS 0 0 rfl rfl (i := nI (n - 1 - k)) (vp_in_nI (N := 20) (by omega) (by decide)) dL_changes_434 (fun H locs hP hD hS => ?_)
            rw [nI_clamp (n := n - 1 - k) (by omega)] at hP hD
            have hP : va_P D vwCl ((qa, .inl (cI, 20, .inl (upd (upd (upd g k (f (n - 1 - k))) (8 + k) (f (8 + (n - 1 - k)))) (n - 1 - k) (f k)))) :: X) _ := hP
            have hD : va_D (inW ((qa, .inl (cI, 20, .inl f)) :: X0)) ((qa, .inl (cI, 20, .inl (upd (upd (upd g k (f (n - 1 - k))) (8 + k) (f (8 + (n - 1 - k)))) (n - 1 - k) (f k)))) :: X) := hD
            refine lv_aload_n hx hb dL_changes_435 rfl (lv_at hl 5 rfl) ?_
            refine lv_bipush (v := 8) hx hb dL_changes_436 (by decide) ?_
            refine lv_iload hx hb dL_changes_438 (lv_at hl 3 rfl) ?_
            refine lv_iadd hx hb dL_changes_440 ?_
            refine lv_topi (fun y_83 e_84 => ?_)
            have e_84 : nI (8 + (n - 1 - k)) = y_83 := (e_84.trans (nI_add 8 (n - 1 - k))).symm
            subst e_84
            refine lv_iload hx hb dL_changes_441 (lv_at hl 0 rfl) ?_
            refine va_iast hx hb hK hP hD hS 0 0 rfl rfl (i := nI (8 + (n - 1 - k))) (vp_in_nI (N := 20) (by omega) (by decide)) dL_changes_443 (fun H locs hP hD hS => ?_)
            rw [nI_clamp (n := 8 + (n - 1 - k)) (by omega)] at hP hD
            have hP : va_P D vwCl ((qa, .inl (cI, 20, .inl (upd (upd (upd (upd g k (f (n - 1 - k))) (8 + k) (f (8 + (n - 1 - k)))) (n - 1 - k) (f k)) (8 + (n - 1 - k)) (f (8 + k))))) :: X) _ := hP
            have hD : va_D (inW ((qa, .inl (cI, 20, .inl f)) :: X0)) ((qa, .inl (cI, 20, .inl (upd (upd (upd (upd g k (f (n - 1 - k))) (8 + k) (f (8 + (n - 1 - k)))) (n - 1 - k) (f k)) (8 + (n - 1 - k)) (f (8 + k))))) :: X) := hD
            refine lv_iinc (v := nI (k + 1)) (lv' := [(8, .int (nI (k + 1))), (11, .int (f (8 + k))), (10, .int (f k)), (7, .int (nI (cn + 2))), (9, .int (nI (n - 1 - k))), (0, .ref (A 0)), (1, .ref qa), (2, .int v), (3, .int w), (4, .int (nI s0)), (5, .int (nI t0))]) hx hb dL_changes_444 hl (k := 10) rfl (inc1 _) (by decide) rfl (fun ls hl => ?_)
            refine lv_goto (tgt := 332) hx hb dL_changes_447 (by decide) ?_
            exact ih_332 (k + 1) (cn + 2) (upd (upd (upd (upd g k (f (n - 1 - k))) (8 + k) (f (8 + (n - 1 - k)))) (n - 1 - k) (f k)) (8 + (n - 1 - k)) (f (8 + k))) (by omega) (by omega) (by rw [hg]; exact rvL_s g340 h8 f) ((by have e := rvP_T (n := n) (f := f) (k := k) (Or.inl c_364); omega)) _ _ hP hD hS ls (lv_sub hl [5, 6, 7, 8, 9, 10, 3, 0] rfl)
          · skip
            refine lv_aload_n hx hb dL_changes_367 rfl (lv_at hl 2 rfl) ?_
            refine lv_bipush (v := 8) hx hb dL_changes_368 (by decide) ?_
            refine lv_iload hx hb dL_changes_370 (lv_at hl 8 rfl) ?_
            refine lv_iadd hx hb dL_changes_372 ?_
            refine lv_topi (fun y_85 e_86 => ?_)
            have e_86 : nI (8 + k) = y_85 := (e_86.trans (nI_add 8 k)).symm
            subst e_86
            refine va_iald hx hb hK hP 0 0 rfl rfl (i := nI (8 + k)) (vp_in_nI (N := 20) (by omega) (by decide)) dL_changes_373 ?_
            rw [nI_clamp (n := 8 + k) (by omega)]
            refine lv_topi (fun y_87 e_88 => ?_)
            have e_88 : f (8 + k) = y_87 := (e_88.trans (mk)).symm
            subst e_88
            refine lv_aload_n hx hb dL_changes_374 rfl (lv_at hl 2 rfl) ?_
            refine lv_bipush (v := 8) hx hb dL_changes_375 (by decide) ?_
            refine lv_iload hx hb dL_changes_377 (lv_at hl 0 rfl) ?_
            refine lv_iadd hx hb dL_changes_379 ?_
            refine lv_topi (fun y_89 e_90 => ?_)
            have e_90 : nI (8 + (n - 1 - k)) = y_89 := (e_90.trans (nI_add 8 (n - 1 - k))).symm
            subst e_90
            refine va_iald hx hb hK hP 0 0 rfl rfl (i := nI (8 + (n - 1 - k))) (vp_in_nI (N := 20) (by omega) (by decide)) dL_changes_380 ?_
            rw [nI_clamp (n := 8 + (n - 1 - k)) (by omega)]
            refine lv_topi (fun y_91 e_92 => ?_)
            have e_92 : f (8 + (n - 1 - k)) = y_91 := (e_92.trans (mj)).symm
            subst e_92
            refine lv_icmp_ne (tgt := 388) hx hb dL_changes_381 (by decide) (fun c_381 => ?_) (fun c_381 => ?_)
            · skip
              refine lv_iconst (v := 2) hx hb dL_changes_388 (by decide) ?_
              refine lv_iadd hx hb dL_changes_389 ?_
              refine lv_topi (fun y_93 e_94 => ?_)
              have e_94 : nI (cn + 2) = y_93 := (e_94.trans (nI_add cn 2)).symm
              subst e_94
              refine lv_istore (lv' := [(7, .int (nI (cn + 2))), (9, .int (nI (n - 1 - k))), (0, .ref (A 0)), (1, .ref qa), (2, .int v), (3, .int w), (4, .int (nI s0)), (5, .int (nI t0)), (8, .int (nI k))]) hx hb dL_changes_390 hl (by decide) rfl (fun ls hl => ?_)
              refine lv_aload_n hx hb dL_changes_392 rfl (lv_at hl 3 rfl) ?_
              refine lv_iload hx hb dL_changes_393 (lv_at hl 8 rfl) ?_
              refine va_iald hx hb hK hP 0 0 rfl rfl (i := nI k) (vp_in_nI (N := 20) (by omega) (by decide)) dL_changes_395 ?_
              rw [nI_clamp (n := k) (by omega)]
              refine lv_topi (fun y_95 e_96 => ?_)
              have e_96 : f k = y_95 := (e_96.trans (gk)).symm
              subst e_96
              refine lv_istore (lv' := [(10, .int (f k)), (7, .int (nI (cn + 2))), (9, .int (nI (n - 1 - k))), (0, .ref (A 0)), (1, .ref qa), (2, .int v), (3, .int w), (4, .int (nI s0)), (5, .int (nI t0)), (8, .int (nI k))]) hx hb dL_changes_396 hl (by decide) rfl (fun ls hl => ?_)
              refine lv_aload_n hx hb dL_changes_398 rfl (lv_at hl 4 rfl) ?_
              refine lv_bipush (v := 8) hx hb dL_changes_399 (by decide) ?_
              refine lv_iload hx hb dL_changes_401 (lv_at hl 9 rfl) ?_
              refine lv_iadd hx hb dL_changes_403 ?_
              refine lv_topi (fun y_97 e_98 => ?_)
              have e_98 : nI (8 + k) = y_97 := (e_98.trans (nI_add 8 k)).symm
              subst e_98
              refine va_iald hx hb hK hP 0 0 rfl rfl (i := nI (8 + k)) (vp_in_nI (N := 20) (by omega) (by decide)) dL_changes_404 ?_
              rw [nI_clamp (n := 8 + k) (by omega)]
              refine lv_topi (fun y_99 e_100 => ?_)
              have e_100 : f (8 + k) = y_99 := (e_100.trans (mk)).symm
              subst e_100
              refine lv_istore (lv' := [(11, .int (f (8 + k))), (10, .int (f k)), (7, .int (nI (cn + 2))), (9, .int (nI (n - 1 - k))), (0, .ref (A 0)), (1, .ref qa), (2, .int v), (3, .int w), (4, .int (nI s0)), (5, .int (nI t0)), (8, .int (nI k))]) hx hb dL_changes_405 hl (by decide) rfl (fun ls hl => ?_)
              refine lv_aload_n hx hb dL_changes_407 rfl (lv_at hl 5 rfl) ?_
              refine lv_iload hx hb dL_changes_408 (lv_at hl 10 rfl) ?_
              refine lv_aload_n hx hb dL_changes_410 rfl (lv_at hl 5 rfl) ?_
              refine lv_iload hx hb dL_changes_411 (lv_at hl 3 rfl) ?_
              refine va_iald hx hb hK hP 0 0 rfl rfl (i := nI (n - 1 - k)) (vp_in_nI (N := 20) (by omega) (by decide)) dL_changes_413 ?_
              rw [nI_clamp (n := n - 1 - k) (by omega)]
              refine lv_topi (fun y_101 e_102 => ?_)
              have e_102 : f (n - 1 - k) = y_101 := (e_102.trans (gj)).symm
              subst e_102
              refine va_iast hx hb hK hP hD hS 0 0 rfl rfl (i := nI k) (vp_in_nI (N := 20) (by omega) (by decide)) dL_changes_414 (fun H locs hP hD hS => ?_)
              rw [nI_clamp (n := k) (by omega)] at hP hD
              have hP : va_P D vwCl ((qa, .inl (cI, 20, .inl (upd g k (f (n - 1 - k))))) :: X) _ := hP
              have hD : va_D (inW ((qa, .inl (cI, 20, .inl f)) :: X0)) ((qa, .inl (cI, 20, .inl (upd g k (f (n - 1 - k))))) :: X) := hD
              refine lv_aload_n hx hb dL_changes_415 rfl (lv_at hl 5 rfl) ?_
              refine lv_bipush (v := 8) hx hb dL_changes_416 (by decide) ?_
              refine lv_iload hx hb dL_changes_418 (lv_at hl 10 rfl) ?_
              refine lv_iadd hx hb dL_changes_420 ?_
              refine lv_topi (fun y_103 e_104 => ?_)
              have e_104 : nI (8 + k) = y_103 := (e_104.trans (nI_add 8 k)).symm
              subst e_104
              refine lv_aload_n hx hb dL_changes_421 rfl (lv_at hl 5 rfl) ?_
              refine lv_bipush (v := 8) hx hb dL_changes_422 (by decide) ?_
              refine lv_iload hx hb dL_changes_424 (lv_at hl 3 rfl) ?_
              refine lv_iadd hx hb dL_changes_426 ?_
              refine lv_topi (fun y_105 e_106 => ?_)
              have e_106 : nI (8 + (n - 1 - k)) = y_105 := (e_106.trans (nI_add 8 (n - 1 - k))).symm
              subst e_106
              refine va_iald hx hb hK hP 0 0 rfl rfl (i := nI (8 + (n - 1 - k))) (vp_in_nI (N := 20) (by omega) (by decide)) dL_changes_427 ?_
              rw [nI_clamp (n := 8 + (n - 1 - k)) (by omega)]
              refine lv_topi (fun y_107 e_108 => ?_)
              have e_108 : f (8 + (n - 1 - k)) = y_107 := (e_108.trans ((by rw [pk_un (by omega)]; exact mj))).symm
              subst e_108
              refine va_iast hx hb hK hP hD hS 0 0 rfl rfl (i := nI (8 + k)) (vp_in_nI (N := 20) (by omega) (by decide)) dL_changes_428 (fun H locs hP hD hS => ?_)
              rw [nI_clamp (n := 8 + k) (by omega)] at hP hD
              have hP : va_P D vwCl ((qa, .inl (cI, 20, .inl (upd (upd g k (f (n - 1 - k))) (8 + k) (f (8 + (n - 1 - k)))))) :: X) _ := hP
              have hD : va_D (inW ((qa, .inl (cI, 20, .inl f)) :: X0)) ((qa, .inl (cI, 20, .inl (upd (upd g k (f (n - 1 - k))) (8 + k) (f (8 + (n - 1 - k)))))) :: X) := hD
              refine lv_aload_n hx hb dL_changes_429 rfl (lv_at hl 5 rfl) ?_
              refine lv_iload hx hb dL_changes_430 (lv_at hl 3 rfl) ?_
              refine lv_iload hx hb dL_changes_432 (lv_at hl 1 rfl) ?_
              refine va_iast hx hb hK hP hD hS 0 0 rfl rfl (i := nI (n - 1 - k)) (vp_in_nI (N := 20) (by omega) (by decide)) dL_changes_434 (fun H locs hP hD hS => ?_)
              rw [nI_clamp (n := n - 1 - k) (by omega)] at hP hD
              have hP : va_P D vwCl ((qa, .inl (cI, 20, .inl (upd (upd (upd g k (f (n - 1 - k))) (8 + k) (f (8 + (n - 1 - k)))) (n - 1 - k) (f k)))) :: X) _ := hP
              have hD : va_D (inW ((qa, .inl (cI, 20, .inl f)) :: X0)) ((qa, .inl (cI, 20, .inl (upd (upd (upd g k (f (n - 1 - k))) (8 + k) (f (8 + (n - 1 - k)))) (n - 1 - k) (f k)))) :: X) := hD
              refine lv_aload_n hx hb dL_changes_435 rfl (lv_at hl 5 rfl) ?_
              refine lv_bipush (v := 8) hx hb dL_changes_436 (by decide) ?_
              refine lv_iload hx hb dL_changes_438 (lv_at hl 3 rfl) ?_
              refine lv_iadd hx hb dL_changes_440 ?_
              refine lv_topi (fun y_109 e_110 => ?_)
              have e_110 : nI (8 + (n - 1 - k)) = y_109 := (e_110.trans (nI_add 8 (n - 1 - k))).symm
              subst e_110
              refine lv_iload hx hb dL_changes_441 (lv_at hl 0 rfl) ?_
              refine va_iast hx hb hK hP hD hS 0 0 rfl rfl (i := nI (8 + (n - 1 - k))) (vp_in_nI (N := 20) (by omega) (by decide)) dL_changes_443 (fun H locs hP hD hS => ?_)
              rw [nI_clamp (n := 8 + (n - 1 - k)) (by omega)] at hP hD
              have hP : va_P D vwCl ((qa, .inl (cI, 20, .inl (upd (upd (upd (upd g k (f (n - 1 - k))) (8 + k) (f (8 + (n - 1 - k)))) (n - 1 - k) (f k)) (8 + (n - 1 - k)) (f (8 + k))))) :: X) _ := hP
              have hD : va_D (inW ((qa, .inl (cI, 20, .inl f)) :: X0)) ((qa, .inl (cI, 20, .inl (upd (upd (upd (upd g k (f (n - 1 - k))) (8 + k) (f (8 + (n - 1 - k)))) (n - 1 - k) (f k)) (8 + (n - 1 - k)) (f (8 + k))))) :: X) := hD
              refine lv_iinc (v := nI (k + 1)) (lv' := [(8, .int (nI (k + 1))), (11, .int (f (8 + k))), (10, .int (f k)), (7, .int (nI (cn + 2))), (9, .int (nI (n - 1 - k))), (0, .ref (A 0)), (1, .ref qa), (2, .int v), (3, .int w), (4, .int (nI s0)), (5, .int (nI t0))]) hx hb dL_changes_444 hl (k := 10) rfl (inc1 _) (by decide) rfl (fun ls hl => ?_)
              refine lv_goto (tgt := 332) hx hb dL_changes_447 (by decide) ?_
              exact ih_332 (k + 1) (cn + 2) (upd (upd (upd (upd g k (f (n - 1 - k))) (8 + k) (f (8 + (n - 1 - k)))) (n - 1 - k) (f k)) (8 + (n - 1 - k)) (f (8 + k))) (by omega) (by omega) (by rw [hg]; exact rvL_s g340 h8 f) ((by have e := rvP_T (n := n) (f := f) (k := k) (Or.inr c_381); omega)) _ _ hP hD hS ls (lv_sub hl [5, 6, 7, 8, 9, 10, 3, 0] rfl)
            · skip
              refine lv_iconst (v := 0) hx hb dL_changes_384 (by decide) ?_
              refine lv_goto (tgt := 389) hx hb dL_changes_385 (by decide) ?_
              refine lv_iadd hx hb dL_changes_389 ?_
              refine lv_topi (fun y_111 e_112 => ?_)
              have e_112 : nI (cn + 0) = y_111 := (e_112.trans (nI_add cn 0)).symm
              subst e_112
              refine lv_istore (lv' := [(7, .int (nI (cn + 0))), (9, .int (nI (n - 1 - k))), (0, .ref (A 0)), (1, .ref qa), (2, .int v), (3, .int w), (4, .int (nI s0)), (5, .int (nI t0)), (8, .int (nI k))]) hx hb dL_changes_390 hl (by decide) rfl (fun ls hl => ?_)
              refine lv_aload_n hx hb dL_changes_392 rfl (lv_at hl 3 rfl) ?_
              refine lv_iload hx hb dL_changes_393 (lv_at hl 8 rfl) ?_
              refine va_iald hx hb hK hP 0 0 rfl rfl (i := nI k) (vp_in_nI (N := 20) (by omega) (by decide)) dL_changes_395 ?_
              rw [nI_clamp (n := k) (by omega)]
              refine lv_topi (fun y_113 e_114 => ?_)
              have e_114 : f k = y_113 := (e_114.trans (gk)).symm
              subst e_114
              refine lv_istore (lv' := [(10, .int (f k)), (7, .int (nI (cn + 0))), (9, .int (nI (n - 1 - k))), (0, .ref (A 0)), (1, .ref qa), (2, .int v), (3, .int w), (4, .int (nI s0)), (5, .int (nI t0)), (8, .int (nI k))]) hx hb dL_changes_396 hl (by decide) rfl (fun ls hl => ?_)
              refine lv_aload_n hx hb dL_changes_398 rfl (lv_at hl 4 rfl) ?_
              refine lv_bipush (v := 8) hx hb dL_changes_399 (by decide) ?_
              refine lv_iload hx hb dL_changes_401 (lv_at hl 9 rfl) ?_
              refine lv_iadd hx hb dL_changes_403 ?_
              refine lv_topi (fun y_115 e_116 => ?_)
              have e_116 : nI (8 + k) = y_115 := (e_116.trans (nI_add 8 k)).symm
              subst e_116
              refine va_iald hx hb hK hP 0 0 rfl rfl (i := nI (8 + k)) (vp_in_nI (N := 20) (by omega) (by decide)) dL_changes_404 ?_
              rw [nI_clamp (n := 8 + k) (by omega)]
              refine lv_topi (fun y_117 e_118 => ?_)
              have e_118 : f (8 + k) = y_117 := (e_118.trans (mk)).symm
              subst e_118
              refine lv_istore (lv' := [(11, .int (f (8 + k))), (10, .int (f k)), (7, .int (nI (cn + 0))), (9, .int (nI (n - 1 - k))), (0, .ref (A 0)), (1, .ref qa), (2, .int v), (3, .int w), (4, .int (nI s0)), (5, .int (nI t0)), (8, .int (nI k))]) hx hb dL_changes_405 hl (by decide) rfl (fun ls hl => ?_)
              refine lv_aload_n hx hb dL_changes_407 rfl (lv_at hl 5 rfl) ?_
              refine lv_iload hx hb dL_changes_408 (lv_at hl 10 rfl) ?_
              refine lv_aload_n hx hb dL_changes_410 rfl (lv_at hl 5 rfl) ?_
              refine lv_iload hx hb dL_changes_411 (lv_at hl 3 rfl) ?_
              refine va_iald hx hb hK hP 0 0 rfl rfl (i := nI (n - 1 - k)) (vp_in_nI (N := 20) (by omega) (by decide)) dL_changes_413 ?_
              rw [nI_clamp (n := n - 1 - k) (by omega)]
              refine lv_topi (fun y_119 e_120 => ?_)
              have e_120 : f (n - 1 - k) = y_119 := (e_120.trans (gj)).symm
              subst e_120
              refine va_iast hx hb hK hP hD hS 0 0 rfl rfl (i := nI k) (vp_in_nI (N := 20) (by omega) (by decide)) dL_changes_414 (fun H locs hP hD hS => ?_)
              rw [nI_clamp (n := k) (by omega)] at hP hD
              have hP : va_P D vwCl ((qa, .inl (cI, 20, .inl (upd g k (f (n - 1 - k))))) :: X) _ := hP
              have hD : va_D (inW ((qa, .inl (cI, 20, .inl f)) :: X0)) ((qa, .inl (cI, 20, .inl (upd g k (f (n - 1 - k))))) :: X) := hD
              refine lv_aload_n hx hb dL_changes_415 rfl (lv_at hl 5 rfl) ?_
              refine lv_bipush (v := 8) hx hb dL_changes_416 (by decide) ?_
              refine lv_iload hx hb dL_changes_418 (lv_at hl 10 rfl) ?_
              refine lv_iadd hx hb dL_changes_420 ?_
              refine lv_topi (fun y_121 e_122 => ?_)
              have e_122 : nI (8 + k) = y_121 := (e_122.trans (nI_add 8 k)).symm
              subst e_122
              refine lv_aload_n hx hb dL_changes_421 rfl (lv_at hl 5 rfl) ?_
              refine lv_bipush (v := 8) hx hb dL_changes_422 (by decide) ?_
              refine lv_iload hx hb dL_changes_424 (lv_at hl 3 rfl) ?_
              refine lv_iadd hx hb dL_changes_426 ?_
              refine lv_topi (fun y_123 e_124 => ?_)
              have e_124 : nI (8 + (n - 1 - k)) = y_123 := (e_124.trans (nI_add 8 (n - 1 - k))).symm
              subst e_124
              refine va_iald hx hb hK hP 0 0 rfl rfl (i := nI (8 + (n - 1 - k))) (vp_in_nI (N := 20) (by omega) (by decide)) dL_changes_427 ?_
              rw [nI_clamp (n := 8 + (n - 1 - k)) (by omega)]
              refine lv_topi (fun y_125 e_126 => ?_)
              have e_126 : f (8 + (n - 1 - k)) = y_125 := (e_126.trans ((by rw [pk_un (by omega)]; exact mj))).symm
              subst e_126
              refine va_iast hx hb hK hP hD hS 0 0 rfl rfl (i := nI (8 + k)) (vp_in_nI (N := 20) (by omega) (by decide)) dL_changes_428 (fun H locs hP hD hS => ?_)
              rw [nI_clamp (n := 8 + k) (by omega)] at hP hD
              have hP : va_P D vwCl ((qa, .inl (cI, 20, .inl (upd (upd g k (f (n - 1 - k))) (8 + k) (f (8 + (n - 1 - k)))))) :: X) _ := hP
              have hD : va_D (inW ((qa, .inl (cI, 20, .inl f)) :: X0)) ((qa, .inl (cI, 20, .inl (upd (upd g k (f (n - 1 - k))) (8 + k) (f (8 + (n - 1 - k)))))) :: X) := hD
              refine lv_aload_n hx hb dL_changes_429 rfl (lv_at hl 5 rfl) ?_
              refine lv_iload hx hb dL_changes_430 (lv_at hl 3 rfl) ?_
              refine lv_iload hx hb dL_changes_432 (lv_at hl 1 rfl) ?_
              refine va_iast hx hb hK hP hD hS 0 0 rfl rfl (i := nI (n - 1 - k)) (vp_in_nI (N := 20) (by omega) (by decide)) dL_changes_434 (fun H locs hP hD hS => ?_)
              rw [nI_clamp (n := n - 1 - k) (by omega)] at hP hD
              have hP : va_P D vwCl ((qa, .inl (cI, 20, .inl (upd (upd (upd g k (f (n - 1 - k))) (8 + k) (f (8 + (n - 1 - k)))) (n - 1 - k) (f k)))) :: X) _ := hP
              have hD : va_D (inW ((qa, .inl (cI, 20, .inl f)) :: X0)) ((qa, .inl (cI, 20, .inl (upd (upd (upd g k (f (n - 1 - k))) (8 + k) (f (8 + (n - 1 - k)))) (n - 1 - k) (f k)))) :: X) := hD
              refine lv_aload_n hx hb dL_changes_435 rfl (lv_at hl 5 rfl) ?_
              refine lv_bipush (v := 8) hx hb dL_changes_436 (by decide) ?_
              refine lv_iload hx hb dL_changes_438 (lv_at hl 3 rfl) ?_
              refine lv_iadd hx hb dL_changes_440 ?_
              refine lv_topi (fun y_127 e_128 => ?_)
              have e_128 : nI (8 + (n - 1 - k)) = y_127 := (e_128.trans (nI_add 8 (n - 1 - k))).symm
              subst e_128
              refine lv_iload hx hb dL_changes_441 (lv_at hl 0 rfl) ?_
              refine va_iast hx hb hK hP hD hS 0 0 rfl rfl (i := nI (8 + (n - 1 - k))) (vp_in_nI (N := 20) (by omega) (by decide)) dL_changes_443 (fun H locs hP hD hS => ?_)
              rw [nI_clamp (n := 8 + (n - 1 - k)) (by omega)] at hP hD
              have hP : va_P D vwCl ((qa, .inl (cI, 20, .inl (upd (upd (upd (upd g k (f (n - 1 - k))) (8 + k) (f (8 + (n - 1 - k)))) (n - 1 - k) (f k)) (8 + (n - 1 - k)) (f (8 + k))))) :: X) _ := hP
              have hD : va_D (inW ((qa, .inl (cI, 20, .inl f)) :: X0)) ((qa, .inl (cI, 20, .inl (upd (upd (upd (upd g k (f (n - 1 - k))) (8 + k) (f (8 + (n - 1 - k)))) (n - 1 - k) (f k)) (8 + (n - 1 - k)) (f (8 + k))))) :: X) := hD
              refine lv_iinc (v := nI (k + 1)) (lv' := [(8, .int (nI (k + 1))), (11, .int (f (8 + k))), (10, .int (f k)), (7, .int (nI (cn + 0))), (9, .int (nI (n - 1 - k))), (0, .ref (A 0)), (1, .ref qa), (2, .int v), (3, .int w), (4, .int (nI s0)), (5, .int (nI t0))]) hx hb dL_changes_444 hl (k := 10) rfl (inc1 _) (by decide) rfl (fun ls hl => ?_)
              refine lv_goto (tgt := 332) hx hb dL_changes_447 (by decide) ?_
              exact ih_332 (k + 1) (cn + 0) (upd (upd (upd (upd g k (f (n - 1 - k))) (8 + k) (f (8 + (n - 1 - k)))) (n - 1 - k) (f k)) (8 + (n - 1 - k)) (f (8 + k))) (by omega) (by omega) (by rw [hg]; exact rvL_s g340 h8 f) ((by have e := rvP_F (n := n) (f := f) (k := k) c_364 c_381; omega)) _ _ hP hD hS ls (lv_sub hl [5, 6, 7, 8, 9, 10, 3, 0] rfl)
    exact L_332 _ 0 0 f (Nat.lt_succ_self _) (Nat.zero_le _) ((rvL_0 n f).symm) (rfl) _ _ hP hD hS ls (lv_sub hl [4, 5, 6, 7, 3, 2, 1, 0] rfl)
  · skip
    refine lv_tableIn (off := 434) (tgt := 465) hx hb dL_changes_31 (by decide) (by decide) rfl (by decide) ?_
    refine lv_aload_n hx hb dL_changes_465 rfl (lv_at hl 3 rfl) ?_
    refine lv_bipush (v := 17) hx hb dL_changes_466 (by decide) ?_
    refine va_iald hx hb hK hP 0 0 rfl rfl (i := nI 17) (vp_in_nI (N := 20) (by decide) (by decide)) dL_changes_468 ?_
    rw [nI_clamp (n := 17) (by decide)]
    refine lv_istore (lv' := [(6, .int (f 17)), (5, .int (nI t0)), (4, .int (nI s0)), (0, .ref (A 0)), (1, .ref qa), (2, .int v), (3, .int w)]) hx hb dL_changes_469 hl (by decide) rfl (fun ls hl => ?_)
    refine lv_aload_n hx hb dL_changes_471 rfl (lv_at hl 4 rfl) ?_
    refine lv_bipush (v := 17) hx hb dL_changes_472 (by decide) ?_
    refine lv_iconst (v := 1) hx hb dL_changes_474 (by decide) ?_
    refine lv_iload_n hx hb dL_changes_475 rfl (lv_at hl 6 rfl) ?_
    refine lv_bipush (v := 19) hx hb dL_changes_476 (by decide) ?_
    refine lv_topi (fun y_129 e_130 => ?_)
    have e_130 : nI 19 = y_129 := (e_130.trans (rfl)).symm
    subst e_130
    refine rd_calli hP hS (va_runS (As := [.int w, .int (nI 19)]) (rest := [.int 1, .int 17, .ref qa]) ⟨hx, hb, hml, hown, hts⟩ (c_L_low l D cI cB cO w 19 (by omega) (by omega)) (va_cwS 2 hts gL_changes_L_low rfl rfl rfl (by decide +kernel) ⟨Nat.le_of_ble_eq_true rfl, Nat.le_of_ble_eq_true rfl⟩) (rd_preS hK (hP.pick [] rfl) hN) rfl rfl hl.1 rfl (lv_room (Nat.le_of_ble_eq_true rfl)) dL_changes_478 ⟨Nat.le_refl _, Nat.le_refl _⟩) (fun r_478 H locs h_478 hP hS => ?_)
    obtain ⟨j1, hj1, rfl⟩ := h_478
    refine lv_iadd hx hb dL_changes_481 ?_
    refine lv_topi (fun y_131 e_132 => ?_)
    have e_132 : nI (1 + j1) = y_131 := (e_132.trans (nI_add 1 j1)).symm
    subst e_132
    refine va_iast hx hb hK hP hD hS 0 0 rfl rfl (i := nI 17) (vp_in_nI (N := 20) (by decide) (by decide)) dL_changes_482 (fun H locs hP hD hS => ?_)
    rw [nI_clamp (n := 17) (by decide)] at hP hD
    have hP : va_P D vwCl ((qa, .inl (cI, 20, .inl (upd f 17 (nI (1 + j1))))) :: X) _ := hP
    have hD : va_D (inW ((qa, .inl (cI, 20, .inl f)) :: X0)) ((qa, .inl (cI, 20, .inl (upd f 17 (nI (1 + j1))))) :: X) := hD
    refine lv_aload_n hx hb dL_changes_483 rfl (lv_at hl 3 rfl) ?_
    refine lv_aload_n hx hb dL_changes_484 rfl (lv_at hl 4 rfl) ?_
    refine lv_bipush (v := 17) hx hb dL_changes_485 (by decide) ?_
    refine va_iald hx hb hK hP 0 0 rfl rfl (i := nI 17) (vp_in_nI (N := 20) (by decide) (by decide)) dL_changes_487 ?_
    rw [nI_clamp (n := 17) (by decide)]
    refine lv_topi (fun y_133 e_134 => ?_)
    have e_134 : nI (1 + j1) = y_133 := (e_134.trans (pk_us)).symm
    subst e_134
    have hPb : va_P D vwCl ([(qa, .inl (cI, 20, .inl (upd f 17 (nI (1 + j1)))))] ++ X) _ := hP
    have hDb : va_D (inW ((qa, .inl (cI, 20, .inl f)) :: X0)) ([(qa, .inl (cI, 20, .inl (upd f 17 (nI (1 + j1)))))] ++ X) := hD
    refine ox_calli hPb hDb hX hS (va_runV (As := [.int (nI (1 + j1))]) (rest := []) ⟨hx, hb, hml, hown, hts⟩ (y_setRange_ok l D cI cB cO A n (f 17) (f 18) f (M8 f) (nI (1 + j1)) (inB_nI (a := 1) (b := 19) (by omega) (by omega) (by decide)) ⟨1 + j1, by omega, by omega, rfl⟩) (cwV 1 hts gL_changes_X6_setRange rfl rfl rfl (by decide +kernel) ⟨Nat.le_of_ble_eq_true rfl, Nat.le_of_ble_eq_true rfl⟩) (ox_pre hK hPb hDb hX hN) rfl rfl hl.1 rfl (lv_room (Nat.le_of_ble_eq_true rfl)) dL_changes_488 ⟨Nat.le_refl _, Nat.le_refl _⟩) (fun X H locs hX hP hD hS => ?_)
    have hP : va_P D vwCl ((qa, .inl (cI, 20, .inl (upd f 17 (nI (1 + j1))))) :: X) _ := hP
    have hD : va_D (inW ((qa, .inl (cI, 20, .inl f)) :: X0)) ((qa, .inl (cI, 20, .inl (upd f 17 (nI (1 + j1))))) :: X) := hD
    refine lv_iload hx hb dL_changes_491 (lv_at hl 0 rfl) ?_
    refine lv_icmp_ne (tgt := 511) hx hb dL_changes_493 (by decide) (fun c_493 => ?_) (fun c_493 => ?_)
    · skip
      exact absurd (rfl) c_493
    · skip
      refine lv_aload_n hx hb dL_changes_496 rfl (lv_at hl 3 rfl) ?_
      refine lv_bipush (v := 20) hx hb dL_changes_497 (by decide) ?_
      have hPb : va_P D vwCl ([(qa, .inl (cI, 20, .inl (upd f 17 (nI (1 + j1)))))] ++ X) _ := hP
      have hDb : va_D (inW ((qa, .inl (cI, 20, .inl f)) :: X0)) ([(qa, .inl (cI, 20, .inl (upd f 17 (nI (1 + j1)))))] ++ X) := hD
      refine ox_calli hPb hDb hX hS (va_runV (As := [.int 20]) (rest := []) ⟨hx, hb, hml, hown, hts⟩ (y_setRange_no l D cI cB cO A n (nI (1 + j1)) (f 18) f (M8 f) 20 (by decide)) (cwV 1 hts gL_changes_X6_setRange rfl rfl rfl (by decide +kernel) ⟨Nat.le_of_ble_eq_true rfl, Nat.le_of_ble_eq_true rfl⟩) (ox_pre hK hPb hDb hX hN) rfl rfl hl.1 rfl (lv_room (Nat.le_of_ble_eq_true rfl)) dL_changes_499 ⟨Nat.le_refl _, Nat.le_refl _⟩) (fun X H locs hX hP hD hS => ?_)
      have hP : va_P D vwCl ((qa, .inl (cI, 20, .inl (upd f 17 (nI (1 + j1))))) :: X) _ := hP
      have hD : va_D (inW ((qa, .inl (cI, 20, .inl f)) :: X0)) ((qa, .inl (cI, 20, .inl (upd f 17 (nI (1 + j1))))) :: X) := hD
      refine lv_bipush (v := (-2)) hx hb dL_changes_502 (by decide) ?_
      refine lv_icmp_ne (tgt := 511) hx hb dL_changes_504 (by decide) (fun c_504 => ?_) (fun c_504 => ?_)
      · skip
        exact absurd (by decide) c_504
      · skip
        refine lv_iconst (v := 1) hx hb dL_changes_507 (by decide) ?_
        refine lv_goto (tgt := 512) hx hb dL_changes_508 (by decide) ?_
        exact W.zret (v := 1) hx hb hr (rfl) (fun tS htS hWS => ⟨⟨1, (upd f 17 (nI (1 + j1)), X), rfl, ⟨rfl, (by show (upd f 17 (nI (1 + j1))) 16 = nI n; rw [pk_un (by omega)]; exact h16), hX.r1 h8⟩, retP htS hP⟩, hS.F htS⟩) hS.2.2 dL_changes_512
  · skip
    refine lv_tableOut (tgt := 513) hx hb dL_changes_31 (Or.inr (by decide)) (by decide) ?_
    refine lv_aload_n hx hb dL_changes_513 rfl (lv_at hl 3 rfl) ?_
    refine lv_bipush (v := 18) hx hb dL_changes_514 (by decide) ?_
    refine va_iald hx hb hK hP 0 0 rfl rfl (i := nI 18) (vp_in_nI (N := 20) (by decide) (by decide)) dL_changes_516 ?_
    rw [nI_clamp (n := 18) (by decide)]
    refine lv_istore (lv' := [(6, .int (f 18)), (5, .int (nI t0)), (4, .int (nI s0)), (0, .ref (A 0)), (1, .ref qa), (2, .int v), (3, .int w)]) hx hb dL_changes_517 hl (by decide) rfl (fun ls hl => ?_)
    refine lv_aload_n hx hb dL_changes_519 rfl (lv_at hl 4 rfl) ?_
    refine lv_bipush (v := 18) hx hb dL_changes_520 (by decide) ?_
    refine lv_iload_n hx hb dL_changes_522 rfl (lv_at hl 6 rfl) ?_
    refine lv_bipush (v := 10) hx hb dL_changes_523 (by decide) ?_
    refine lv_topi (fun y_135 e_136 => ?_)
    have e_136 : nI 10 = y_135 := (e_136.trans (rfl)).symm
    subst e_136
    refine rd_calli hP hS (va_runS (As := [.int w, .int (nI 10)]) (rest := [.int 18, .ref qa]) ⟨hx, hb, hml, hown, hts⟩ (c_L_low l D cI cB cO w 10 (by omega) (by omega)) (va_cwS 2 hts gL_changes_L_low rfl rfl rfl (by decide +kernel) ⟨Nat.le_of_ble_eq_true rfl, Nat.le_of_ble_eq_true rfl⟩) (rd_preS hK (hP.pick [] rfl) hN) rfl rfl hl.1 rfl (lv_room (Nat.le_of_ble_eq_true rfl)) dL_changes_525 ⟨Nat.le_refl _, Nat.le_refl _⟩) (fun r_525 H locs h_525 hP hS => ?_)
    obtain ⟨j1, hj1, rfl⟩ := h_525
    refine va_iast hx hb hK hP hD hS 0 0 rfl rfl (i := nI 18) (vp_in_nI (N := 20) (by decide) (by decide)) dL_changes_528 (fun H locs hP hD hS => ?_)
    rw [nI_clamp (n := 18) (by decide)] at hP hD
    have hP : va_P D vwCl ((qa, .inl (cI, 20, .inl (upd f 18 (nI j1)))) :: X) _ := hP
    have hD : va_D (inW ((qa, .inl (cI, 20, .inl f)) :: X0)) ((qa, .inl (cI, 20, .inl (upd f 18 (nI j1)))) :: X) := hD
    refine lv_aload_n hx hb dL_changes_529 rfl (lv_at hl 3 rfl) ?_
    refine lv_aload_n hx hb dL_changes_530 rfl (lv_at hl 4 rfl) ?_
    refine lv_bipush (v := 18) hx hb dL_changes_531 (by decide) ?_
    refine va_iald hx hb hK hP 0 0 rfl rfl (i := nI 18) (vp_in_nI (N := 20) (by decide) (by decide)) dL_changes_533 ?_
    rw [nI_clamp (n := 18) (by decide)]
    refine lv_topi (fun y_137 e_138 => ?_)
    have e_138 : nI j1 = y_137 := (e_138.trans (pk_us)).symm
    subst e_138
    have hPb : va_P D vwCl ([(qa, .inl (cI, 20, .inl (upd f 18 (nI j1))))] ++ X) _ := hP
    have hDb : va_D (inW ((qa, .inl (cI, 20, .inl f)) :: X0)) ([(qa, .inl (cI, 20, .inl (upd f 18 (nI j1))))] ++ X) := hD
    refine ox_calli hPb hDb hX hS (va_runV (As := [.int (nI j1)]) (rest := []) ⟨hx, hb, hml, hown, hts⟩ (y_setBulge_ok l D cI cB cO A n (f 17) (f 18) f (M8 f) (nI j1) (inB_nI (a := 0) (b := 9) (by omega) (by omega) (by decide)) ⟨j1, by omega, rfl⟩) (cwV 1 hts gL_changes_X6_setBulge rfl rfl rfl (by decide +kernel) ⟨Nat.le_of_ble_eq_true rfl, Nat.le_of_ble_eq_true rfl⟩) (ox_pre hK hPb hDb hX hN) rfl rfl hl.1 rfl (lv_room (Nat.le_of_ble_eq_true rfl)) dL_changes_534 ⟨Nat.le_refl _, Nat.le_refl _⟩) (fun X H locs hX hP hD hS => ?_)
    have hP : va_P D vwCl ((qa, .inl (cI, 20, .inl (upd f 18 (nI j1)))) :: X) _ := hP
    have hD : va_D (inW ((qa, .inl (cI, 20, .inl f)) :: X0)) ((qa, .inl (cI, 20, .inl (upd f 18 (nI j1)))) :: X) := hD
    refine lv_iload hx hb dL_changes_537 (lv_at hl 0 rfl) ?_
    refine lv_icmp_ne (tgt := 557) hx hb dL_changes_539 (by decide) (fun c_539 => ?_) (fun c_539 => ?_)
    · skip
      exact absurd (rfl) c_539
    · skip
      refine lv_aload_n hx hb dL_changes_542 rfl (lv_at hl 3 rfl) ?_
      refine lv_bipush (v := 10) hx hb dL_changes_543 (by decide) ?_
      have hPb : va_P D vwCl ([(qa, .inl (cI, 20, .inl (upd f 18 (nI j1))))] ++ X) _ := hP
      have hDb : va_D (inW ((qa, .inl (cI, 20, .inl f)) :: X0)) ([(qa, .inl (cI, 20, .inl (upd f 18 (nI j1))))] ++ X) := hD
      refine ox_calli hPb hDb hX hS (va_runV (As := [.int 10]) (rest := []) ⟨hx, hb, hml, hown, hts⟩ (y_setBulge_no l D cI cB cO A n (f 17) (nI j1) f (M8 f) 10 (by decide)) (cwV 1 hts gL_changes_X6_setBulge rfl rfl rfl (by decide +kernel) ⟨Nat.le_of_ble_eq_true rfl, Nat.le_of_ble_eq_true rfl⟩) (ox_pre hK hPb hDb hX hN) rfl rfl hl.1 rfl (lv_room (Nat.le_of_ble_eq_true rfl)) dL_changes_545 ⟨Nat.le_refl _, Nat.le_refl _⟩) (fun X H locs hX hP hD hS => ?_)
      have hP : va_P D vwCl ((qa, .inl (cI, 20, .inl (upd f 18 (nI j1)))) :: X) _ := hP
      have hD : va_D (inW ((qa, .inl (cI, 20, .inl f)) :: X0)) ((qa, .inl (cI, 20, .inl (upd f 18 (nI j1)))) :: X) := hD
      refine lv_bipush (v := (-2)) hx hb dL_changes_548 (by decide) ?_
      refine lv_icmp_ne (tgt := 557) hx hb dL_changes_550 (by decide) (fun c_550 => ?_) (fun c_550 => ?_)
      · skip
        exact absurd (by decide) c_550
      · skip
        refine lv_iconst (v := 1) hx hb dL_changes_553 (by decide) ?_
        refine lv_goto (tgt := 558) hx hb dL_changes_554 (by decide) ?_
        exact W.zret (v := 1) hx hb hr (rfl) (fun tS htS hWS => ⟨⟨1, (upd f 18 (nI j1), X), rfl, ⟨rfl, (by show (upd f 18 (nI j1)) 16 = nI n; rw [pk_un (by omega)]; exact h16), hX.b1 h8⟩, retP htS hP⟩, hS.F htS⟩) hS.2.2 dL_changes_558
