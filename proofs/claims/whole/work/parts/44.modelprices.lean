/-! the reference's prices, groups and findsSet -/
/-- 1 where no mast stands -/
def be (M : Nat → Int32) (s : Nat) : Nat := if M s = 0 then 1 else 0
theorem be_le (M : Nat → Int32) (s : Nat) : be M s ≤ 1 := by unfold be; split <;> omega
theorem prc_be {M : Nat → Int32} {h : Int32} (hh : 0 < h) : prN1 M h = fun s => 32 * be M s + 1 := by
  funext s; unfold prN1 be
  by_cases q : M s = 0
  · rw [if_pos ⟨q, hh⟩, if_pos q]
  · rw [if_neg (fun z => q z.1), if_neg q]
theorem prc_1 (M : Nat → Int32) : prN1 M 0 = fun _ => 1 := by
  funext s; unfold prN1
  rw [if_neg (fun z => absurd z.2 (by decide))]
def w100 (M : Nat → Int32) (s : Nat) : Nat := 100 * be M s + 1
theorem w100_le (M : Nat → Int32) (s : Nat) : w100 M s ≤ 101 := by have := be_le M s; unfold w100; omega
/-! prices while they still fall -/
def phi (n : Nat) (C : Nat → Nat) : Nat := fb_sm (fun k => if C k = 0 then 3000 else C k) n
def PZ (E : Nat → Nat → Bool) (w : Nat → Nat) (n to : Nat) (u : Nat → Int32) (C : Nat → Nat) : Prop := (∀ k, k < n → u k = nI (C k)) ∧ (∀ k, C k = 0 ∨ ∃ i, Ch E w n to i (C k) k) ∧ (C to ≠ 0 ∧ C to ≤ w to) ∧ (∀ k, C k ≤ 101 * fb_ct (fun j => decide (C j ≠ 0)) n)
/-- since the round's start (Cz): nothing was better so far, or something was -/
def PG (E : Nat → Nat → Bool) (w : Nat → Nat) (n s t : Nat) (Cz C : Nat → Nat) (g : Nat) : Prop := (g = 0 ∧ C = Cz ∧ (∀ k, k < s → ∀ j, j < n → E k j = true → C j ≠ 0 → C k ≠ 0 ∧ C k ≤ w k + C j) ∧ (∀ j, j < t → E s j = true → C j ≠ 0 → C s ≠ 0 ∧ C s ≤ w s + C j)) ∨ (g = 1 ∧ phi n C < phi n Cz)
section PRICES
variable {E : Nat → Nat → Bool} {w : Nat → Nat} {n to s t g : Nat} {u : Nat → Int32} {C Cz : Nat → Nat}
theorem PZ_le (h : PZ E w n to u C) (hn : n ≤ 20) (k : Nat) : C k ≤ 2020 := by
  have h1 := h.2.2.2 k
  have h2 := fb_ct_le (fun j => decide (C j ≠ 0)) n
  omega
theorem PZ_0 (hu : ∀ k, k < n → u k = nI (if k = to then w to else 0)) (hto : to < n) (hw : 0 < w to) (hw2 : w to ≤ 101) : PZ E w n to u (fun k => if k = to then w to else 0) := by
  refine ⟨hu, fun k => ?_, ?_, fun k => ?_⟩
  · show (if k = to then w to else 0) = 0 ∨ ∃ i, Ch E w n to i (if k = to then w to else 0) k
    by_cases q : k = to
    · rw [if_pos q, q]; exact Or.inr ⟨1, Ch_one hto⟩
    · rw [if_neg q]; exact Or.inl rfl
  · show (if to = to then w to else 0) ≠ 0 ∧ (if to = to then w to else 0) ≤ w to
    rw [if_pos rfl]; exact ⟨by omega, Nat.le_refl _⟩
  · have h1 : 0 < fb_ct (fun j => decide ((if j = to then w to else 0) ≠ 0)) n := fb_ct_pos.mpr ⟨to, hto, decide_eq_true (by rw [if_pos rfl]; omega)⟩
    show (if k = to then w to else 0) ≤ 101 * fb_ct (fun j => decide ((if j = to then w to else 0) ≠ 0)) n
    split
    · omega
    · exact Nat.zero_le _
theorem PG_0 : PG E w n 0 0 C C 0 := Or.inl ⟨rfl, rfl, fun k hk => absurd hk (Nat.not_lt_zero k), fun k hk => absurd hk (Nat.not_lt_zero k)⟩
theorem PG_s (h : PG E w n s t Cz C g) (ht : n ≤ t) : PG E w n (s + 1) 0 Cz C g := by
  rcases h with ⟨h1, h2, h3, h4⟩ | h
  · refine Or.inl ⟨h1, h2, fun k hk j hj => ?_, fun k hk => absurd hk (Nat.not_lt_zero k)⟩
    rcases Nat.lt_succ_iff_lt_or_eq.mp hk with z | z
    · exact h3 k z j hj
    · rw [z]; exact h4 j (by omega)
  · exact Or.inr h
theorem PG_no (h : PG E w n s t Cz C g) (c : E s t = true → C t ≠ 0 → C s ≠ 0 ∧ C s ≤ w s + C t) : PG E w n s (t + 1) Cz C g := by
  rcases h with ⟨h1, h2, h3, h4⟩ | h
  · refine Or.inl ⟨h1, h2, h3, fun j hj => ?_⟩
    rcases Nat.lt_succ_iff_lt_or_eq.mp hj with z | z
    · exact h4 j z
    · rw [z]; exact c
  · exact Or.inr h
def stp (w : Nat → Nat) (s t : Nat) (C : Nat → Nat) : Nat → Nat := fun k => if k = s then C t + w s else C k
theorem phi_stp (hs : s < n) (hb : ∀ k, C k ≤ 2020) (hw2 : w s ≤ 101) (hw : 0 < w s) (c : C s = 0 ∨ C t + w s < C s) : phi n (stp w s t C) < phi n C := by
  have h := fb_sm_upd (fun k => if C k = 0 then 3000 else C k) (C t + w s) hs
  have e : fb_sm (fun k => if k = s then C t + w s else if C k = 0 then 3000 else C k) n = phi n (stp w s t C) := fb_sm_cong (fun k hk => by
    show _ = if stp w s t C k = 0 then 3000 else stp w s t C k
    unfold stp
    by_cases q : k = s
    · rw [if_pos q, if_pos q, if_neg (by omega)]
    · rw [if_neg q, if_neg q])
  rw [e] at h
  have h : phi n (stp w s t C) + (if C s = 0 then 3000 else C s) = phi n C + (C t + w s) := h
  have := hb t
  split at h
  · omega
  · omega
theorem PG_yes (h : PG E w n s t Cz C g) (hs : s < n) (hb : ∀ k, C k ≤ 2020) (hw2 : w s ≤ 101) (hw : 0 < w s) (c : C s = 0 ∨ C t + w s < C s) : PG E w n s (t + 1) Cz (stp w s t C) 1 := by
  have h1 := phi_stp hs hb hw2 hw c
  refine Or.inr ⟨rfl, ?_⟩
  rcases h with ⟨-, h2, -⟩ | ⟨-, h2⟩
  · rw [← h2]; exact h1
  · omega
theorem PG_g (h : PG E w n s t Cz C g) : g = 0 ∨ g = 1 := h.elim (fun z => Or.inl z.1) (fun z => Or.inr z.1)
theorem PZ_same (h : PZ E w n to u C) (hs : s < n) : PZ E w n to (upd u s (nI (C s))) C := by
  refine ⟨fun k hk => ?_, h.2⟩
  by_cases q : k = s
  · rw [q, pk_us]
  · rw [pk_un q]; exact h.1 k hk
theorem PZ_yes (h : PZ E w n to u C) (hs : s < n) (hw2 : w s ≤ 101) (hw : 0 < w s) (he : E s t = true) (h0 : C t ≠ 0) (c : C s = 0 ∨ C t + w s < C s) : PZ E w n to (upd u s (nI (C t + w s))) (stp w s t C) := by
  obtain ⟨h1, h2, h3, h4⟩ := h
  refine ⟨fun k hk => ?_, fun k => ?_, ?_, fun k => ?_⟩
  · unfold stp
    by_cases q : k = s
    · rw [q, pk_us, if_pos rfl]
    · rw [pk_un q, if_neg q]; exact h1 k hk
  · unfold stp
    by_cases q : k = s
    · rw [if_pos q, q, Nat.add_comm]
      rcases h2 t with z | ⟨i, hi⟩
      · exact absurd z h0
      · exact Or.inr ⟨i + 1, Ch_step hs he hi⟩
    · rw [if_neg q]; exact h2 k
  · unfold stp
    by_cases q : to = s
    · rw [if_pos q]
      rcases c with c | c
      · rw [← q] at c; exact absurd c h3.1
      · rw [← q] at c ⊢; exact ⟨by omega, by omega⟩
    · rw [if_neg q]; exact h3
  · have hu := fb_ct_upd (fun j => decide (C j ≠ 0)) true hs
    have e : fb_ct (fun j => if j = s then true else decide (C j ≠ 0)) n = fb_ct (fun j => decide (stp w s t C j ≠ 0)) n := fb_ct_cong (fun j hj => by
      unfold stp
      by_cases q : j = s
      · rw [if_pos q, if_pos q]; exact (decide_eq_true (by omega)).symm
      · rw [if_neg q, if_neg q])
    rw [e, if_pos rfl] at hu
    have ht := h4 t
    have hk := h4 k
    have hss := h4 s
    unfold stp at hu ⊢
    by_cases z : C s = 0
    · rw [if_neg (by rw [decide_eq_true_iff]; exact fun y => y z)] at hu
      split <;> omega
    · rw [if_pos (decide_eq_true z)] at hu
      split
      · have := c.resolve_left z
        omega
      · omega
theorem PG_end (h : PG E w n s 0 Cz C 0) (hs : n ≤ s) (hz : PZ E w n to u C) : ∀ k, k < n → u k = nI (dst E w n to k) := by
  rcases h with ⟨h1, h2, h3, h4⟩ | ⟨h1, h2⟩
  · intro k hk
    rw [hz.1 k hk, Clo_end hz.2.1 (fun _ => hz.2.2.1) (fun k hk j hj => h3 k (by omega) j hj) k]
  · cases h1
theorem PG_phi (h : PG E w n s t Cz C g) : phi n C + g < phi n Cz + 1 ∨ g = 1 ∧ phi n C + 1 < phi n Cz + 1 ∨ g = 0 := by
  rcases h with ⟨h1, h2, -⟩ | ⟨h1, h2⟩
  · exact Or.inr (Or.inr h1)
  · exact Or.inr (Or.inl ⟨h1, by omega⟩)
theorem PG_dec (h : PG E w n s t Cz C g) : phi n C + g < phi n Cz + 1 := by
  rcases h with ⟨h1, h2, -⟩ | ⟨h1, h2⟩
  · rw [h1, h2]; omega
  · omega
end PRICES
theorem kX7_price_0 : ∀ w ∈ wsX70, w ∈ wsX7_price := by decide +kernel
theorem kX7_price_1 : (.fieldLink RX7 7 "SightRidgeModel" "m" "[I" : Cond) ∈ wsX7_price := by decide +kernel
set_option maxHeartbeats 4000000 in
set_option maxRecDepth 100000 in
/-- price(s) -/
theorem c_X7_price (l : Launch) (D : va_G) (cI cB cO : ClassId) (o q1 : Nat) (fs : List Value) (n : Nat) (mm : Nat → Int32) (rg bl : Int32) (G M : Nat → Int32) (k : Nat) (hm : MOK n mm rg bl G M) (hmh : MH n M) (hk : k < n) : Met l yX7_price wsX7_price (rmD 1) (rdPc D (tyL cI cB cO) [.ref o, .int (nI k)] [(o, .inr (7, .ref q1 :: fs)), (q1, .inl (cI, 43, .inl mm))]) (rdQi (fun r => r = nI (w100 M k))) 0 0 noA := by
  refine Met.ofW (cc := cX7_price) (maxL := 2) (ret := (some .int)) (by decide) rfl ?_
  intro p e s m args below meth c s₁ B hml hv
  obtain ⟨rfl, hP, hK, hN⟩ := hv
  have hx := B.exec
  have hb := B.bytes
  have hr := B.returns
  have hts := atoms_spec (ws := wsX7_price) B.pre
  have hown : s.vm.findClass RX7 = some m.cls := findClass_of_methodNamed B.named
  have hlocks := B.notSynchronized
  have hS : va_S noA s.heap s.heap [] := va_S.rf
  have hl := lv_entry ([.ref o, .int (nI k)]) (n := 2) (Nat.le_of_ble_eq_true rfl)
  rw [lg_entry_eq]
  generalize (lg_sl ([.ref o, .int (nI k)]) ++ List.replicate (2 - (lg_sl ([.ref o, .int (nI k)])).length) Slot.unset).toArray = ls at hl ⊢
  have hl : lv_has ls 2 [(0, .ref o), (1, .int (nI k))] := hl
  obtain ⟨hn, hn1, hm0, hm1, hm2, hG, hM⟩ := id hm
  refine lv_aload_n hx hb dX7_price_0 rfl (lv_at hl 0 rfl) ?_
  refine va_get (D := D) (ci := 7) (v := .ref q1) (C := RX7) (T := TX7) (N := 15) hx hb hts kX7_price_0 hown hK hP 0 rfl rfl 0 (by decide) (hts (.fieldLink RX7 7 "SightRidgeModel" "m" "[I") kX7_price_1) (fun _ h9 => h9) rfl dX7_price_1 ?_
  refine lv_bipush (v := 23) hx hb dX7_price_4 (by decide) ?_
  refine lv_iload_n hx hb dX7_price_6 rfl (lv_at hl 1 rfl) ?_
  refine lv_iadd hx hb dX7_price_7 ?_
  refine lv_topi (fun y_1 e_2 => ?_)
  have e_2 : nI (23 + k) = y_1 := (e_2.trans (nI_add 23 k)).symm
  subst e_2
  refine va_iald hx hb hK hP 1 0 rfl rfl (i := nI (23 + k)) (vp_in_nI (N := 43) (by omega) (by decide)) dX7_price_8 ?_
  rw [nI_clamp (n := 23 + k) (by omega)]
  refine lv_topi (fun y_3 e_4 => ?_)
  have e_4 : M k = y_3 := (e_4.trans (hM k hk)).symm
  subst e_4
  refine lv_if_le (tgt := 16) hx hb dX7_price_9 (by decide) (fun c_9 => ?_) (fun c_9 => ?_)
  · skip
    refine lv_bipush (v := 101) hx hb dX7_price_16 (by decide) ?_
    exact W.iret (v := 101) hx hb hr (fun tS htS hWS => ⟨⟨101, (), rfl, (by unfold w100 be; first | (rw [if_pos (MH_no hmh hk c_9)]; rfl) | (rw [if_neg (MH_yes c_9)]; rfl) | fail), trivial⟩, hS.F htS⟩) hS.2.2 dX7_price_18
  · skip
    refine lv_iconst (v := 1) hx hb dX7_price_12 (by decide) ?_
    refine lv_goto (tgt := 18) hx hb dX7_price_13 (by decide) ?_
    exact W.iret (v := 1) hx hb hr (fun tS htS hWS => ⟨⟨1, (), rfl, (by unfold w100 be; first | (rw [if_pos (MH_no hmh hk c_9)]; rfl) | (rw [if_neg (MH_yes c_9)]; rfl) | fail), trivial⟩, hS.F htS⟩) hS.2.2 dX7_price_18
theorem kX7_wouldMeet_0 : ∀ w ∈ wsX70, w ∈ wsX7_wouldMeet := by decide +kernel
theorem kX7_wouldMeet_1 : (.fieldLink RX7 7 "SightRidgeModel" "m" "[I" : Cond) ∈ wsX7_wouldMeet := by decide +kernel
set_option maxHeartbeats 4000000 in
set_option maxRecDepth 100000 in
/-- wouldMeet(a, b, height) -/
theorem c_X7_wouldMeet (l : Launch) (D : va_G) (cI cB cO : ClassId) (o q1 : Nat) (fs : List Value) (n : Nat) (mm : Nat → Int32) (rg bl : Int32) (G M : Nat → Int32) (a b : Nat) (h : Int32) (hm : MOK n mm rg bl G M) (hmh : MH n M) (ha : a < n) (hb0 : b < n) : Met l yX7_wouldMeet wsX7_wouldMeet (rmD 4) (rdPc D (tyL cI cB cO) [.ref o, .int (nI a), .int (nI b), .int h] [(o, .inr (7, .ref q1 :: fs)), (q1, .inl (cI, 43, .inl mm))]) (rdQi (fun r => r = bI (lkB G rg bl (hT G M h) a b))) 0 0 noA := by
  refine Met.ofW (cc := cX7_wouldMeet) (maxL := 6) (ret := (some .boolean)) (by decide) rfl ?_
  intro p e s m args below meth c s₁ B hml hv
  obtain ⟨rfl, hP, hK, hN⟩ := hv
  have hx := B.exec
  have hb := B.bytes
  have hr := B.returns
  have hts := atoms_spec (ws := wsX7_wouldMeet) B.pre
  have hown : s.vm.findClass RX7 = some m.cls := findClass_of_methodNamed B.named
  have hlocks := B.notSynchronized
  have hS : va_S noA s.heap s.heap [] := va_S.rf
  have hl := lv_entry ([.ref o, .int (nI a), .int (nI b), .int h]) (n := 6) (Nat.le_of_ble_eq_true rfl)
  rw [lg_entry_eq]
  generalize (lg_sl ([.ref o, .int (nI a), .int (nI b), .int h]) ++ List.replicate (6 - (lg_sl ([.ref o, .int (nI a), .int (nI b), .int h])).length) Slot.unset).toArray = ls at hl ⊢
  have hl : lv_has ls 6 [(0, .ref o), (1, .int (nI a)), (2, .int (nI b)), (3, .int h)] := hl
  obtain ⟨hn, hn1, hm0, hm1, hm2, hG, hM⟩ := id hm
  refine lv_aload_n hx hb dX7_wouldMeet_0 rfl (lv_at hl 0 rfl) ?_
  refine va_get (D := D) (ci := 7) (v := .ref q1) (C := RX7) (T := TX7) (N := 15) hx hb hts kX7_wouldMeet_0 hown hK hP 0 rfl rfl 0 (by decide) (hts (.fieldLink RX7 7 "SightRidgeModel" "m" "[I") kX7_wouldMeet_1) (fun _ h9 => h9) rfl dX7_wouldMeet_1 ?_
  refine lv_bipush (v := 23) hx hb dX7_wouldMeet_4 (by decide) ?_
  refine lv_iload_n hx hb dX7_wouldMeet_6 rfl (lv_at hl 1 rfl) ?_
  refine lv_iadd hx hb dX7_wouldMeet_7 ?_
  refine lv_topi (fun y_1 e_2 => ?_)
  have e_2 : nI (23 + a) = y_1 := (e_2.trans (nI_add 23 a)).symm
  subst e_2
  refine va_iald hx hb hK hP 1 0 rfl rfl (i := nI (23 + a)) (vp_in_nI (N := 43) (by omega) (by decide)) dX7_wouldMeet_8 ?_
  rw [nI_clamp (n := 23 + a) (by omega)]
  refine lv_topi (fun y_3 e_4 => ?_)
  have e_4 : M a = y_3 := (e_4.trans (hM a ha)).symm
  subst e_4
  refine lv_if_le (tgt := 20) hx hb dX7_wouldMeet_9 (by decide) (fun c_9 => ?_) (fun c_9 => ?_)
  · skip
    refine lv_aload_n hx hb dX7_wouldMeet_20 rfl (lv_at hl 0 rfl) ?_
    refine lv_iload_n hx hb dX7_wouldMeet_21 rfl (lv_at hl 1 rfl) ?_
    refine rd_calli hP hS (va_runV (As := [.int (nI a)]) (rest := []) ⟨hx, hb, hml, hown, hts⟩ (c_X7_top l D cI cB cO o q1 fs n mm rg bl G M a hm ha) (cwV 1 hts gX7_wouldMeet_X7_top rfl rfl rfl (by decide +kernel) ⟨Nat.le_of_ble_eq_true rfl, Nat.le_of_ble_eq_true rfl⟩) (rd_preV (r := (RX7, TX7, 15)) (ci := 7) hK (hP.pick [0, 1] rfl) hN (q0 := 0) rfl rfl) rfl rfl hl.1 rfl (lv_room (Nat.le_of_ble_eq_true rfl)) dX7_wouldMeet_22 ⟨Nat.le_refl _, Nat.le_refl _⟩) (fun r_22 H locs h_22 hP hS => ?_)
    subst h_22
    refine lv_iload_n hx hb dX7_wouldMeet_25 rfl (lv_at hl 3 rfl) ?_
    refine lv_iadd hx hb dX7_wouldMeet_26 ?_
    refine lv_topi (fun y_5 e_6 => ?_)
    have e_6 : hT G M h a = y_5 := (e_6.trans ((hT_b (MH_no hmh ha c_9)))).symm
    subst e_6
    refine lv_istore (lv' := [(4, .int (hT G M h a)), (0, .ref o), (1, .int (nI a)), (2, .int (nI b)), (3, .int h)]) hx hb dX7_wouldMeet_27 hl (by decide) rfl (fun ls hl => ?_)
    refine lv_aload_n hx hb dX7_wouldMeet_29 rfl (lv_at hl 1 rfl) ?_
    refine va_get (D := D) (ci := 7) (v := .ref q1) (C := RX7) (T := TX7) (N := 15) hx hb hts kX7_wouldMeet_0 hown hK hP 0 rfl rfl 0 (by decide) (hts (.fieldLink RX7 7 "SightRidgeModel" "m" "[I") kX7_wouldMeet_1) (fun _ h9 => h9) rfl dX7_wouldMeet_30 ?_
    refine lv_bipush (v := 23) hx hb dX7_wouldMeet_33 (by decide) ?_
    refine lv_iload_n hx hb dX7_wouldMeet_35 rfl (lv_at hl 3 rfl) ?_
    refine lv_iadd hx hb dX7_wouldMeet_36 ?_
    refine lv_topi (fun y_7 e_8 => ?_)
    have e_8 : nI (23 + b) = y_7 := (e_8.trans (nI_add 23 b)).symm
    subst e_8
    refine va_iald hx hb hK hP 1 0 rfl rfl (i := nI (23 + b)) (vp_in_nI (N := 43) (by omega) (by decide)) dX7_wouldMeet_37 ?_
    rw [nI_clamp (n := 23 + b) (by omega)]
    refine lv_topi (fun y_9 e_10 => ?_)
    have e_10 : M b = y_9 := (e_10.trans (hM b hb0)).symm
    subst e_10
    refine lv_if_le (tgt := 49) hx hb dX7_wouldMeet_38 (by decide) (fun c_38 => ?_) (fun c_38 => ?_)
    · skip
      refine lv_aload_n hx hb dX7_wouldMeet_49 rfl (lv_at hl 1 rfl) ?_
      refine lv_iload_n hx hb dX7_wouldMeet_50 rfl (lv_at hl 3 rfl) ?_
      refine rd_calli hP hS (va_runV (As := [.int (nI b)]) (rest := []) ⟨hx, hb, hml, hown, hts⟩ (c_X7_top l D cI cB cO o q1 fs n mm rg bl G M b hm hb0) (cwV 1 hts gX7_wouldMeet_X7_top rfl rfl rfl (by decide +kernel) ⟨Nat.le_of_ble_eq_true rfl, Nat.le_of_ble_eq_true rfl⟩) (rd_preV (r := (RX7, TX7, 15)) (ci := 7) hK (hP.pick [0, 1] rfl) hN (q0 := 0) rfl rfl) rfl rfl hl.1 rfl (lv_room (Nat.le_of_ble_eq_true rfl)) dX7_wouldMeet_51 ⟨Nat.le_refl _, Nat.le_refl _⟩) (fun r_51 H locs h_51 hP hS => ?_)
      subst h_51
      refine lv_iload_n hx hb dX7_wouldMeet_54 rfl (lv_at hl 4 rfl) ?_
      refine lv_iadd hx hb dX7_wouldMeet_55 ?_
      refine lv_topi (fun y_11 e_12 => ?_)
      have e_12 : hT G M h b = y_11 := (e_12.trans ((hT_b (MH_no hmh hb0 c_38)))).symm
      subst e_12
      refine lv_istore (lv' := [(5, .int (hT G M h b)), (4, .int (hT G M h a)), (0, .ref o), (1, .int (nI a)), (2, .int (nI b)), (3, .int h)]) hx hb dX7_wouldMeet_56 hl (by decide) rfl (fun ls hl => ?_)
      refine lv_iload_n hx hb dX7_wouldMeet_58 rfl (lv_at hl 3 rfl) ?_
      refine lv_iload_n hx hb dX7_wouldMeet_59 rfl (lv_at hl 4 rfl) ?_
      refine lv_icmp_eq (tgt := 94) hx hb dX7_wouldMeet_60 (by decide) (fun c_60 => ?_) (fun c_60 => ?_)
      · skip
        have c1 : a = b := (nI_eq (by omega) (by omega)).mp c_60
        refine lv_iconst (v := 0) hx hb dX7_wouldMeet_94 (by decide) ?_
        exact W.zret (v := 0) hx hb hr (rfl) (fun tS htS hWS => ⟨⟨0, (), rfl, (by unfold lkB; first | exact bI_t (decide_eq_true ⟨c1, Int32.not_lt.mp c_74, c3⟩) | exact bI_f (decide_eq_false (fun q => q.1 c1)) | exact bI_f (decide_eq_false (fun q => absurd q.2.1 (Int32.not_le.mpr c_74))) | exact bI_f (decide_eq_false (fun q => Bool.false_ne_true (c3.symm.trans q.2.2))) | fail), trivial⟩, hS.F htS⟩) hS.2.2 dX7_wouldMeet_95
      · skip
        have c1 : ¬ a = b := fun z => c_60 (by rw [z])
        refine lv_iload_n hx hb dX7_wouldMeet_63 rfl (lv_at hl 3 rfl) ?_
        refine lv_iload_n hx hb dX7_wouldMeet_64 rfl (lv_at hl 4 rfl) ?_
        refine rd_calli hP hS (va_runS (As := [.int (nI a), .int (nI b)]) (rest := []) ⟨hx, hb, hml, hown, hts⟩ (c_X7_apart l D cI cB cO a b (by omega) (by omega)) (va_cwS 2 hts gX7_wouldMeet_X7_apart rfl rfl rfl (by decide +kernel) ⟨Nat.le_of_ble_eq_true rfl, Nat.le_of_ble_eq_true rfl⟩) (rd_preS hK (hP.pick [] rfl) hN) rfl rfl hl.1 rfl (lv_room (Nat.le_of_ble_eq_true rfl)) dX7_wouldMeet_65 ⟨Nat.le_refl _, Nat.le_refl _⟩) (fun r_65 H locs h_65 hP hS => ?_)
        subst h_65
        refine lv_aload_n hx hb dX7_wouldMeet_68 rfl (lv_at hl 2 rfl) ?_
        refine va_get (D := D) (ci := 7) (v := .ref q1) (C := RX7) (T := TX7) (N := 15) hx hb hts kX7_wouldMeet_0 hown hK hP 0 rfl rfl 0 (by decide) (hts (.fieldLink RX7 7 "SightRidgeModel" "m" "[I") kX7_wouldMeet_1) (fun _ h9 => h9) rfl dX7_wouldMeet_69 ?_
        refine lv_iconst (v := 1) hx hb dX7_wouldMeet_72 (by decide) ?_
        refine va_iald hx hb hK hP 1 0 rfl rfl (i := nI 1) (vp_in_nI (N := 43) (by decide) (by decide)) dX7_wouldMeet_73 ?_
        rw [nI_clamp (n := 1) (by decide)]
        refine lv_topi (fun y_13 e_14 => ?_)
        have e_14 : rg = y_13 := (e_14.trans (hm1)).symm
        subst e_14
        refine lv_icmp_gt (tgt := 94) hx hb dX7_wouldMeet_74 (by decide) (fun c_74 => ?_) (fun c_74 => ?_)
        · skip
          refine lv_iconst (v := 0) hx hb dX7_wouldMeet_94 (by decide) ?_
          exact W.zret (v := 0) hx hb hr (rfl) (fun tS htS hWS => ⟨⟨0, (), rfl, (by unfold lkB; first | exact bI_t (decide_eq_true ⟨c1, Int32.not_lt.mp c_74, c3⟩) | exact bI_f (decide_eq_false (fun q => q.1 c1)) | exact bI_f (decide_eq_false (fun q => absurd q.2.1 (Int32.not_le.mpr c_74))) | exact bI_f (decide_eq_false (fun q => Bool.false_ne_true (c3.symm.trans q.2.2))) | fail), trivial⟩, hS.F htS⟩) hS.2.2 dX7_wouldMeet_95
        · skip
          refine lv_aload_n hx hb dX7_wouldMeet_77 rfl (lv_at hl 2 rfl) ?_
          refine lv_iload_n hx hb dX7_wouldMeet_78 rfl (lv_at hl 3 rfl) ?_
          refine lv_iload hx hb dX7_wouldMeet_79 (lv_at hl 1 rfl) ?_
          refine lv_iload_n hx hb dX7_wouldMeet_81 rfl (lv_at hl 4 rfl) ?_
          refine lv_iload hx hb dX7_wouldMeet_82 (lv_at hl 0 rfl) ?_
          refine rd_calli hP hS (va_runV (As := [.int (nI a), .int (hT G M h a), .int (nI b), .int (hT G M h b)]) (rest := []) ⟨hx, hb, hml, hown, hts⟩ (c_X7_meet l D cI cB cO o q1 fs n mm rg bl G M a (hT G M h a) b (hT G M h b) hm ha hb0) (cwV 4 hts gX7_wouldMeet_X7_meet rfl rfl rfl (by decide +kernel) ⟨Nat.le_of_ble_eq_true rfl, Nat.le_of_ble_eq_true rfl⟩) (rd_preV (r := (RX7, TX7, 15)) (ci := 7) hK (hP.pick [0, 1] rfl) hN (q0 := 0) rfl rfl) rfl rfl hl.1 rfl (lv_room (Nat.le_of_ble_eq_true rfl)) dX7_wouldMeet_84 ⟨Nat.le_refl _, Nat.le_refl _⟩) (fun r_84 H locs h_84 hP hS => ?_)
          refine lv_if_eq (tgt := 94) hx hb dX7_wouldMeet_87 (by decide) (fun c_87 => ?_) (fun c_87 => ?_)
          · skip
            have c3 := bI_e0 (h_84.symm.trans c_87)
            refine lv_iconst (v := 0) hx hb dX7_wouldMeet_94 (by decide) ?_
            exact W.zret (v := 0) hx hb hr (rfl) (fun tS htS hWS => ⟨⟨0, (), rfl, (by unfold lkB; first | exact bI_t (decide_eq_true ⟨c1, Int32.not_lt.mp c_74, c3⟩) | exact bI_f (decide_eq_false (fun q => q.1 c1)) | exact bI_f (decide_eq_false (fun q => absurd q.2.1 (Int32.not_le.mpr c_74))) | exact bI_f (decide_eq_false (fun q => Bool.false_ne_true (c3.symm.trans q.2.2))) | fail), trivial⟩, hS.F htS⟩) hS.2.2 dX7_wouldMeet_95
          · skip
            have c3 := bI_n0 (fun q => c_87 (h_84.trans q))
            refine lv_iconst (v := 1) hx hb dX7_wouldMeet_90 (by decide) ?_
            refine lv_goto (tgt := 95) hx hb dX7_wouldMeet_91 (by decide) ?_
            exact W.zret (v := 1) hx hb hr (rfl) (fun tS htS hWS => ⟨⟨1, (), rfl, (by unfold lkB; first | exact bI_t (decide_eq_true ⟨c1, Int32.not_lt.mp c_74, c3⟩) | exact bI_f (decide_eq_false (fun q => q.1 c1)) | exact bI_f (decide_eq_false (fun q => absurd q.2.1 (Int32.not_le.mpr c_74))) | exact bI_f (decide_eq_false (fun q => Bool.false_ne_true (c3.symm.trans q.2.2))) | fail), trivial⟩, hS.F htS⟩) hS.2.2 dX7_wouldMeet_95
    · skip
      refine lv_aload_n hx hb dX7_wouldMeet_41 rfl (lv_at hl 1 rfl) ?_
      refine lv_iload_n hx hb dX7_wouldMeet_42 rfl (lv_at hl 3 rfl) ?_
      refine rd_calli hP hS (va_runV (As := [.int (nI b)]) (rest := []) ⟨hx, hb, hml, hown, hts⟩ (c_X7_top l D cI cB cO o q1 fs n mm rg bl G M b hm hb0) (cwV 1 hts gX7_wouldMeet_X7_top rfl rfl rfl (by decide +kernel) ⟨Nat.le_of_ble_eq_true rfl, Nat.le_of_ble_eq_true rfl⟩) (rd_preV (r := (RX7, TX7, 15)) (ci := 7) hK (hP.pick [0, 1] rfl) hN (q0 := 0) rfl rfl) rfl rfl hl.1 rfl (lv_room (Nat.le_of_ble_eq_true rfl)) dX7_wouldMeet_43 ⟨Nat.le_refl _, Nat.le_refl _⟩) (fun r_43 H locs h_43 hP hS => ?_)
      subst h_43
      refine lv_goto (tgt := 56) hx hb dX7_wouldMeet_46 (by decide) ?_
      refine lv_topi (fun y_15 e_16 => ?_)
      have e_16 : hT G M h b = y_15 := (e_16.trans ((Int32.add_zero _).symm.trans (hT_m (MH_yes c_38)))).symm
      subst e_16
      refine lv_istore (lv' := [(5, .int (hT G M h b)), (4, .int (hT G M h a)), (0, .ref o), (1, .int (nI a)), (2, .int (nI b)), (3, .int h)]) hx hb dX7_wouldMeet_56 hl (by decide) rfl (fun ls hl => ?_)
      refine lv_iload_n hx hb dX7_wouldMeet_58 rfl (lv_at hl 3 rfl) ?_
      refine lv_iload_n hx hb dX7_wouldMeet_59 rfl (lv_at hl 4 rfl) ?_
      refine lv_icmp_eq (tgt := 94) hx hb dX7_wouldMeet_60 (by decide) (fun c_60 => ?_) (fun c_60 => ?_)
      · skip
        have c1 : a = b := (nI_eq (by omega) (by omega)).mp c_60
        refine lv_iconst (v := 0) hx hb dX7_wouldMeet_94 (by decide) ?_
        exact W.zret (v := 0) hx hb hr (rfl) (fun tS htS hWS => ⟨⟨0, (), rfl, (by unfold lkB; first | exact bI_t (decide_eq_true ⟨c1, Int32.not_lt.mp c_74, c3⟩) | exact bI_f (decide_eq_false (fun q => q.1 c1)) | exact bI_f (decide_eq_false (fun q => absurd q.2.1 (Int32.not_le.mpr c_74))) | exact bI_f (decide_eq_false (fun q => Bool.false_ne_true (c3.symm.trans q.2.2))) | fail), trivial⟩, hS.F htS⟩) hS.2.2 dX7_wouldMeet_95
      · skip
        have c1 : ¬ a = b := fun z => c_60 (by rw [z])
        refine lv_iload_n hx hb dX7_wouldMeet_63 rfl (lv_at hl 3 rfl) ?_
        refine lv_iload_n hx hb dX7_wouldMeet_64 rfl (lv_at hl 4 rfl) ?_
        refine rd_calli hP hS (va_runS (As := [.int (nI a), .int (nI b)]) (rest := []) ⟨hx, hb, hml, hown, hts⟩ (c_X7_apart l D cI cB cO a b (by omega) (by omega)) (va_cwS 2 hts gX7_wouldMeet_X7_apart rfl rfl rfl (by decide +kernel) ⟨Nat.le_of_ble_eq_true rfl, Nat.le_of_ble_eq_true rfl⟩) (rd_preS hK (hP.pick [] rfl) hN) rfl rfl hl.1 rfl (lv_room (Nat.le_of_ble_eq_true rfl)) dX7_wouldMeet_65 ⟨Nat.le_refl _, Nat.le_refl _⟩) (fun r_65 H locs h_65 hP hS => ?_)
        subst h_65
        refine lv_aload_n hx hb dX7_wouldMeet_68 rfl (lv_at hl 2 rfl) ?_
        refine va_get (D := D) (ci := 7) (v := .ref q1) (C := RX7) (T := TX7) (N := 15) hx hb hts kX7_wouldMeet_0 hown hK hP 0 rfl rfl 0 (by decide) (hts (.fieldLink RX7 7 "SightRidgeModel" "m" "[I") kX7_wouldMeet_1) (fun _ h9 => h9) rfl dX7_wouldMeet_69 ?_
        refine lv_iconst (v := 1) hx hb dX7_wouldMeet_72 (by decide) ?_
        refine va_iald hx hb hK hP 1 0 rfl rfl (i := nI 1) (vp_in_nI (N := 43) (by decide) (by decide)) dX7_wouldMeet_73 ?_
        rw [nI_clamp (n := 1) (by decide)]
        refine lv_topi (fun y_17 e_18 => ?_)
        have e_18 : rg = y_17 := (e_18.trans (hm1)).symm
        subst e_18
        refine lv_icmp_gt (tgt := 94) hx hb dX7_wouldMeet_74 (by decide) (fun c_74 => ?_) (fun c_74 => ?_)
        · skip
          refine lv_iconst (v := 0) hx hb dX7_wouldMeet_94 (by decide) ?_
          exact W.zret (v := 0) hx hb hr (rfl) (fun tS htS hWS => ⟨⟨0, (), rfl, (by unfold lkB; first | exact bI_t (decide_eq_true ⟨c1, Int32.not_lt.mp c_74, c3⟩) | exact bI_f (decide_eq_false (fun q => q.1 c1)) | exact bI_f (decide_eq_false (fun q => absurd q.2.1 (Int32.not_le.mpr c_74))) | exact bI_f (decide_eq_false (fun q => Bool.false_ne_true (c3.symm.trans q.2.2))) | fail), trivial⟩, hS.F htS⟩) hS.2.2 dX7_wouldMeet_95
        · skip
          refine lv_aload_n hx hb dX7_wouldMeet_77 rfl (lv_at hl 2 rfl) ?_
          refine lv_iload_n hx hb dX7_wouldMeet_78 rfl (lv_at hl 3 rfl) ?_
          refine lv_iload hx hb dX7_wouldMeet_79 (lv_at hl 1 rfl) ?_
          refine lv_iload_n hx hb dX7_wouldMeet_81 rfl (lv_at hl 4 rfl) ?_
          refine lv_iload hx hb dX7_wouldMeet_82 (lv_at hl 0 rfl) ?_
          refine rd_calli hP hS (va_runV (As := [.int (nI a), .int (hT G M h a), .int (nI b), .int (hT G M h b)]) (rest := []) ⟨hx, hb, hml, hown, hts⟩ (c_X7_meet l D cI cB cO o q1 fs n mm rg bl G M a (hT G M h a) b (hT G M h b) hm ha hb0) (cwV 4 hts gX7_wouldMeet_X7_meet rfl rfl rfl (by decide +kernel) ⟨Nat.le_of_ble_eq_true rfl, Nat.le_of_ble_eq_true rfl⟩) (rd_preV (r := (RX7, TX7, 15)) (ci := 7) hK (hP.pick [0, 1] rfl) hN (q0 := 0) rfl rfl) rfl rfl hl.1 rfl (lv_room (Nat.le_of_ble_eq_true rfl)) dX7_wouldMeet_84 ⟨Nat.le_refl _, Nat.le_refl _⟩) (fun r_84 H locs h_84 hP hS => ?_)
          refine lv_if_eq (tgt := 94) hx hb dX7_wouldMeet_87 (by decide) (fun c_87 => ?_) (fun c_87 => ?_)
          · skip
            have c3 := bI_e0 (h_84.symm.trans c_87)
            refine lv_iconst (v := 0) hx hb dX7_wouldMeet_94 (by decide) ?_
            exact W.zret (v := 0) hx hb hr (rfl) (fun tS htS hWS => ⟨⟨0, (), rfl, (by unfold lkB; first | exact bI_t (decide_eq_true ⟨c1, Int32.not_lt.mp c_74, c3⟩) | exact bI_f (decide_eq_false (fun q => q.1 c1)) | exact bI_f (decide_eq_false (fun q => absurd q.2.1 (Int32.not_le.mpr c_74))) | exact bI_f (decide_eq_false (fun q => Bool.false_ne_true (c3.symm.trans q.2.2))) | fail), trivial⟩, hS.F htS⟩) hS.2.2 dX7_wouldMeet_95
          · skip
            have c3 := bI_n0 (fun q => c_87 (h_84.trans q))
            refine lv_iconst (v := 1) hx hb dX7_wouldMeet_90 (by decide) ?_
            refine lv_goto (tgt := 95) hx hb dX7_wouldMeet_91 (by decide) ?_
            exact W.zret (v := 1) hx hb hr (rfl) (fun tS htS hWS => ⟨⟨1, (), rfl, (by unfold lkB; first | exact bI_t (decide_eq_true ⟨c1, Int32.not_lt.mp c_74, c3⟩) | exact bI_f (decide_eq_false (fun q => q.1 c1)) | exact bI_f (decide_eq_false (fun q => absurd q.2.1 (Int32.not_le.mpr c_74))) | exact bI_f (decide_eq_false (fun q => Bool.false_ne_true (c3.symm.trans q.2.2))) | fail), trivial⟩, hS.F htS⟩) hS.2.2 dX7_wouldMeet_95
  · skip
    refine lv_aload_n hx hb dX7_wouldMeet_12 rfl (lv_at hl 0 rfl) ?_
    refine lv_iload_n hx hb dX7_wouldMeet_13 rfl (lv_at hl 1 rfl) ?_
    refine rd_calli hP hS (va_runV (As := [.int (nI a)]) (rest := []) ⟨hx, hb, hml, hown, hts⟩ (c_X7_top l D cI cB cO o q1 fs n mm rg bl G M a hm ha) (cwV 1 hts gX7_wouldMeet_X7_top rfl rfl rfl (by decide +kernel) ⟨Nat.le_of_ble_eq_true rfl, Nat.le_of_ble_eq_true rfl⟩) (rd_preV (r := (RX7, TX7, 15)) (ci := 7) hK (hP.pick [0, 1] rfl) hN (q0 := 0) rfl rfl) rfl rfl hl.1 rfl (lv_room (Nat.le_of_ble_eq_true rfl)) dX7_wouldMeet_14 ⟨Nat.le_refl _, Nat.le_refl _⟩) (fun r_14 H locs h_14 hP hS => ?_)
    subst h_14
    refine lv_goto (tgt := 27) hx hb dX7_wouldMeet_17 (by decide) ?_
    refine lv_topi (fun y_19 e_20 => ?_)
    have e_20 : hT G M h a = y_19 := (e_20.trans ((Int32.add_zero _).symm.trans (hT_m (MH_yes c_9)))).symm
    subst e_20
    refine lv_istore (lv' := [(4, .int (hT G M h a)), (0, .ref o), (1, .int (nI a)), (2, .int (nI b)), (3, .int h)]) hx hb dX7_wouldMeet_27 hl (by decide) rfl (fun ls hl => ?_)
    refine lv_aload_n hx hb dX7_wouldMeet_29 rfl (lv_at hl 1 rfl) ?_
    refine va_get (D := D) (ci := 7) (v := .ref q1) (C := RX7) (T := TX7) (N := 15) hx hb hts kX7_wouldMeet_0 hown hK hP 0 rfl rfl 0 (by decide) (hts (.fieldLink RX7 7 "SightRidgeModel" "m" "[I") kX7_wouldMeet_1) (fun _ h9 => h9) rfl dX7_wouldMeet_30 ?_
    refine lv_bipush (v := 23) hx hb dX7_wouldMeet_33 (by decide) ?_
    refine lv_iload_n hx hb dX7_wouldMeet_35 rfl (lv_at hl 3 rfl) ?_
    refine lv_iadd hx hb dX7_wouldMeet_36 ?_
    refine lv_topi (fun y_21 e_22 => ?_)
    have e_22 : nI (23 + b) = y_21 := (e_22.trans (nI_add 23 b)).symm
    subst e_22
    refine va_iald hx hb hK hP 1 0 rfl rfl (i := nI (23 + b)) (vp_in_nI (N := 43) (by omega) (by decide)) dX7_wouldMeet_37 ?_
    rw [nI_clamp (n := 23 + b) (by omega)]
    refine lv_topi (fun y_23 e_24 => ?_)
    have e_24 : M b = y_23 := (e_24.trans (hM b hb0)).symm
    subst e_24
    refine lv_if_le (tgt := 49) hx hb dX7_wouldMeet_38 (by decide) (fun c_38 => ?_) (fun c_38 => ?_)
    · skip
      refine lv_aload_n hx hb dX7_wouldMeet_49 rfl (lv_at hl 1 rfl) ?_
      refine lv_iload_n hx hb dX7_wouldMeet_50 rfl (lv_at hl 3 rfl) ?_
      refine rd_calli hP hS (va_runV (As := [.int (nI b)]) (rest := []) ⟨hx, hb, hml, hown, hts⟩ (c_X7_top l D cI cB cO o q1 fs n mm rg bl G M b hm hb0) (cwV 1 hts gX7_wouldMeet_X7_top rfl rfl rfl (by decide +kernel) ⟨Nat.le_of_ble_eq_true rfl, Nat.le_of_ble_eq_true rfl⟩) (rd_preV (r := (RX7, TX7, 15)) (ci := 7) hK (hP.pick [0, 1] rfl) hN (q0 := 0) rfl rfl) rfl rfl hl.1 rfl (lv_room (Nat.le_of_ble_eq_true rfl)) dX7_wouldMeet_51 ⟨Nat.le_refl _, Nat.le_refl _⟩) (fun r_51 H locs h_51 hP hS => ?_)
      subst h_51
      refine lv_iload_n hx hb dX7_wouldMeet_54 rfl (lv_at hl 4 rfl) ?_
      refine lv_iadd hx hb dX7_wouldMeet_55 ?_
      refine lv_topi (fun y_25 e_26 => ?_)
      have e_26 : hT G M h b = y_25 := (e_26.trans ((hT_b (MH_no hmh hb0 c_38)))).symm
      subst e_26
      refine lv_istore (lv' := [(5, .int (hT G M h b)), (4, .int (hT G M h a)), (0, .ref o), (1, .int (nI a)), (2, .int (nI b)), (3, .int h)]) hx hb dX7_wouldMeet_56 hl (by decide) rfl (fun ls hl => ?_)
      refine lv_iload_n hx hb dX7_wouldMeet_58 rfl (lv_at hl 3 rfl) ?_
      refine lv_iload_n hx hb dX7_wouldMeet_59 rfl (lv_at hl 4 rfl) ?_
      refine lv_icmp_eq (tgt := 94) hx hb dX7_wouldMeet_60 (by decide) (fun c_60 => ?_) (fun c_60 => ?_)
      · skip
        have c1 : a = b := (nI_eq (by omega) (by omega)).mp c_60
        refine lv_iconst (v := 0) hx hb dX7_wouldMeet_94 (by decide) ?_
        exact W.zret (v := 0) hx hb hr (rfl) (fun tS htS hWS => ⟨⟨0, (), rfl, (by unfold lkB; first | exact bI_t (decide_eq_true ⟨c1, Int32.not_lt.mp c_74, c3⟩) | exact bI_f (decide_eq_false (fun q => q.1 c1)) | exact bI_f (decide_eq_false (fun q => absurd q.2.1 (Int32.not_le.mpr c_74))) | exact bI_f (decide_eq_false (fun q => Bool.false_ne_true (c3.symm.trans q.2.2))) | fail), trivial⟩, hS.F htS⟩) hS.2.2 dX7_wouldMeet_95
      · skip
        have c1 : ¬ a = b := fun z => c_60 (by rw [z])
        refine lv_iload_n hx hb dX7_wouldMeet_63 rfl (lv_at hl 3 rfl) ?_
        refine lv_iload_n hx hb dX7_wouldMeet_64 rfl (lv_at hl 4 rfl) ?_
        refine rd_calli hP hS (va_runS (As := [.int (nI a), .int (nI b)]) (rest := []) ⟨hx, hb, hml, hown, hts⟩ (c_X7_apart l D cI cB cO a b (by omega) (by omega)) (va_cwS 2 hts gX7_wouldMeet_X7_apart rfl rfl rfl (by decide +kernel) ⟨Nat.le_of_ble_eq_true rfl, Nat.le_of_ble_eq_true rfl⟩) (rd_preS hK (hP.pick [] rfl) hN) rfl rfl hl.1 rfl (lv_room (Nat.le_of_ble_eq_true rfl)) dX7_wouldMeet_65 ⟨Nat.le_refl _, Nat.le_refl _⟩) (fun r_65 H locs h_65 hP hS => ?_)
        subst h_65
        refine lv_aload_n hx hb dX7_wouldMeet_68 rfl (lv_at hl 2 rfl) ?_
        refine va_get (D := D) (ci := 7) (v := .ref q1) (C := RX7) (T := TX7) (N := 15) hx hb hts kX7_wouldMeet_0 hown hK hP 0 rfl rfl 0 (by decide) (hts (.fieldLink RX7 7 "SightRidgeModel" "m" "[I") kX7_wouldMeet_1) (fun _ h9 => h9) rfl dX7_wouldMeet_69 ?_
        refine lv_iconst (v := 1) hx hb dX7_wouldMeet_72 (by decide) ?_
        refine va_iald hx hb hK hP 1 0 rfl rfl (i := nI 1) (vp_in_nI (N := 43) (by decide) (by decide)) dX7_wouldMeet_73 ?_
        rw [nI_clamp (n := 1) (by decide)]
        refine lv_topi (fun y_27 e_28 => ?_)
        have e_28 : rg = y_27 := (e_28.trans (hm1)).symm
        subst e_28
        refine lv_icmp_gt (tgt := 94) hx hb dX7_wouldMeet_74 (by decide) (fun c_74 => ?_) (fun c_74 => ?_)
        · skip
          refine lv_iconst (v := 0) hx hb dX7_wouldMeet_94 (by decide) ?_
          exact W.zret (v := 0) hx hb hr (rfl) (fun tS htS hWS => ⟨⟨0, (), rfl, (by unfold lkB; first | exact bI_t (decide_eq_true ⟨c1, Int32.not_lt.mp c_74, c3⟩) | exact bI_f (decide_eq_false (fun q => q.1 c1)) | exact bI_f (decide_eq_false (fun q => absurd q.2.1 (Int32.not_le.mpr c_74))) | exact bI_f (decide_eq_false (fun q => Bool.false_ne_true (c3.symm.trans q.2.2))) | fail), trivial⟩, hS.F htS⟩) hS.2.2 dX7_wouldMeet_95
        · skip
          refine lv_aload_n hx hb dX7_wouldMeet_77 rfl (lv_at hl 2 rfl) ?_
          refine lv_iload_n hx hb dX7_wouldMeet_78 rfl (lv_at hl 3 rfl) ?_
          refine lv_iload hx hb dX7_wouldMeet_79 (lv_at hl 1 rfl) ?_
          refine lv_iload_n hx hb dX7_wouldMeet_81 rfl (lv_at hl 4 rfl) ?_
          refine lv_iload hx hb dX7_wouldMeet_82 (lv_at hl 0 rfl) ?_
          refine rd_calli hP hS (va_runV (As := [.int (nI a), .int (hT G M h a), .int (nI b), .int (hT G M h b)]) (rest := []) ⟨hx, hb, hml, hown, hts⟩ (c_X7_meet l D cI cB cO o q1 fs n mm rg bl G M a (hT G M h a) b (hT G M h b) hm ha hb0) (cwV 4 hts gX7_wouldMeet_X7_meet rfl rfl rfl (by decide +kernel) ⟨Nat.le_of_ble_eq_true rfl, Nat.le_of_ble_eq_true rfl⟩) (rd_preV (r := (RX7, TX7, 15)) (ci := 7) hK (hP.pick [0, 1] rfl) hN (q0 := 0) rfl rfl) rfl rfl hl.1 rfl (lv_room (Nat.le_of_ble_eq_true rfl)) dX7_wouldMeet_84 ⟨Nat.le_refl _, Nat.le_refl _⟩) (fun r_84 H locs h_84 hP hS => ?_)
          refine lv_if_eq (tgt := 94) hx hb dX7_wouldMeet_87 (by decide) (fun c_87 => ?_) (fun c_87 => ?_)
          · skip
            have c3 := bI_e0 (h_84.symm.trans c_87)
            refine lv_iconst (v := 0) hx hb dX7_wouldMeet_94 (by decide) ?_
            exact W.zret (v := 0) hx hb hr (rfl) (fun tS htS hWS => ⟨⟨0, (), rfl, (by unfold lkB; first | exact bI_t (decide_eq_true ⟨c1, Int32.not_lt.mp c_74, c3⟩) | exact bI_f (decide_eq_false (fun q => q.1 c1)) | exact bI_f (decide_eq_false (fun q => absurd q.2.1 (Int32.not_le.mpr c_74))) | exact bI_f (decide_eq_false (fun q => Bool.false_ne_true (c3.symm.trans q.2.2))) | fail), trivial⟩, hS.F htS⟩) hS.2.2 dX7_wouldMeet_95
          · skip
            have c3 := bI_n0 (fun q => c_87 (h_84.trans q))
            refine lv_iconst (v := 1) hx hb dX7_wouldMeet_90 (by decide) ?_
            refine lv_goto (tgt := 95) hx hb dX7_wouldMeet_91 (by decide) ?_
            exact W.zret (v := 1) hx hb hr (rfl) (fun tS htS hWS => ⟨⟨1, (), rfl, (by unfold lkB; first | exact bI_t (decide_eq_true ⟨c1, Int32.not_lt.mp c_74, c3⟩) | exact bI_f (decide_eq_false (fun q => q.1 c1)) | exact bI_f (decide_eq_false (fun q => absurd q.2.1 (Int32.not_le.mpr c_74))) | exact bI_f (decide_eq_false (fun q => Bool.false_ne_true (c3.symm.trans q.2.2))) | fail), trivial⟩, hS.F htS⟩) hS.2.2 dX7_wouldMeet_95
    · skip
      refine lv_aload_n hx hb dX7_wouldMeet_41 rfl (lv_at hl 1 rfl) ?_
      refine lv_iload_n hx hb dX7_wouldMeet_42 rfl (lv_at hl 3 rfl) ?_
      refine rd_calli hP hS (va_runV (As := [.int (nI b)]) (rest := []) ⟨hx, hb, hml, hown, hts⟩ (c_X7_top l D cI cB cO o q1 fs n mm rg bl G M b hm hb0) (cwV 1 hts gX7_wouldMeet_X7_top rfl rfl rfl (by decide +kernel) ⟨Nat.le_of_ble_eq_true rfl, Nat.le_of_ble_eq_true rfl⟩) (rd_preV (r := (RX7, TX7, 15)) (ci := 7) hK (hP.pick [0, 1] rfl) hN (q0 := 0) rfl rfl) rfl rfl hl.1 rfl (lv_room (Nat.le_of_ble_eq_true rfl)) dX7_wouldMeet_43 ⟨Nat.le_refl _, Nat.le_refl _⟩) (fun r_43 H locs h_43 hP hS => ?_)
      subst h_43
      refine lv_goto (tgt := 56) hx hb dX7_wouldMeet_46 (by decide) ?_
      refine lv_topi (fun y_29 e_30 => ?_)
      have e_30 : hT G M h b = y_29 := (e_30.trans ((Int32.add_zero _).symm.trans (hT_m (MH_yes c_38)))).symm
      subst e_30
      refine lv_istore (lv' := [(5, .int (hT G M h b)), (4, .int (hT G M h a)), (0, .ref o), (1, .int (nI a)), (2, .int (nI b)), (3, .int h)]) hx hb dX7_wouldMeet_56 hl (by decide) rfl (fun ls hl => ?_)
      refine lv_iload_n hx hb dX7_wouldMeet_58 rfl (lv_at hl 3 rfl) ?_
      refine lv_iload_n hx hb dX7_wouldMeet_59 rfl (lv_at hl 4 rfl) ?_
      refine lv_icmp_eq (tgt := 94) hx hb dX7_wouldMeet_60 (by decide) (fun c_60 => ?_) (fun c_60 => ?_)
      · skip
        have c1 : a = b := (nI_eq (by omega) (by omega)).mp c_60
        refine lv_iconst (v := 0) hx hb dX7_wouldMeet_94 (by decide) ?_
        exact W.zret (v := 0) hx hb hr (rfl) (fun tS htS hWS => ⟨⟨0, (), rfl, (by unfold lkB; first | exact bI_t (decide_eq_true ⟨c1, Int32.not_lt.mp c_74, c3⟩) | exact bI_f (decide_eq_false (fun q => q.1 c1)) | exact bI_f (decide_eq_false (fun q => absurd q.2.1 (Int32.not_le.mpr c_74))) | exact bI_f (decide_eq_false (fun q => Bool.false_ne_true (c3.symm.trans q.2.2))) | fail), trivial⟩, hS.F htS⟩) hS.2.2 dX7_wouldMeet_95
      · skip
        have c1 : ¬ a = b := fun z => c_60 (by rw [z])
        refine lv_iload_n hx hb dX7_wouldMeet_63 rfl (lv_at hl 3 rfl) ?_
        refine lv_iload_n hx hb dX7_wouldMeet_64 rfl (lv_at hl 4 rfl) ?_
        refine rd_calli hP hS (va_runS (As := [.int (nI a), .int (nI b)]) (rest := []) ⟨hx, hb, hml, hown, hts⟩ (c_X7_apart l D cI cB cO a b (by omega) (by omega)) (va_cwS 2 hts gX7_wouldMeet_X7_apart rfl rfl rfl (by decide +kernel) ⟨Nat.le_of_ble_eq_true rfl, Nat.le_of_ble_eq_true rfl⟩) (rd_preS hK (hP.pick [] rfl) hN) rfl rfl hl.1 rfl (lv_room (Nat.le_of_ble_eq_true rfl)) dX7_wouldMeet_65 ⟨Nat.le_refl _, Nat.le_refl _⟩) (fun r_65 H locs h_65 hP hS => ?_)
        subst h_65
        refine lv_aload_n hx hb dX7_wouldMeet_68 rfl (lv_at hl 2 rfl) ?_
        refine va_get (D := D) (ci := 7) (v := .ref q1) (C := RX7) (T := TX7) (N := 15) hx hb hts kX7_wouldMeet_0 hown hK hP 0 rfl rfl 0 (by decide) (hts (.fieldLink RX7 7 "SightRidgeModel" "m" "[I") kX7_wouldMeet_1) (fun _ h9 => h9) rfl dX7_wouldMeet_69 ?_
        refine lv_iconst (v := 1) hx hb dX7_wouldMeet_72 (by decide) ?_
        refine va_iald hx hb hK hP 1 0 rfl rfl (i := nI 1) (vp_in_nI (N := 43) (by decide) (by decide)) dX7_wouldMeet_73 ?_
        rw [nI_clamp (n := 1) (by decide)]
        refine lv_topi (fun y_31 e_32 => ?_)
        have e_32 : rg = y_31 := (e_32.trans (hm1)).symm
        subst e_32
        refine lv_icmp_gt (tgt := 94) hx hb dX7_wouldMeet_74 (by decide) (fun c_74 => ?_) (fun c_74 => ?_)
        · skip
          refine lv_iconst (v := 0) hx hb dX7_wouldMeet_94 (by decide) ?_
          exact W.zret (v := 0) hx hb hr (rfl) (fun tS htS hWS => ⟨⟨0, (), rfl, (by unfold lkB; first | exact bI_t (decide_eq_true ⟨c1, Int32.not_lt.mp c_74, c3⟩) | exact bI_f (decide_eq_false (fun q => q.1 c1)) | exact bI_f (decide_eq_false (fun q => absurd q.2.1 (Int32.not_le.mpr c_74))) | exact bI_f (decide_eq_false (fun q => Bool.false_ne_true (c3.symm.trans q.2.2))) | fail), trivial⟩, hS.F htS⟩) hS.2.2 dX7_wouldMeet_95
        · skip
          refine lv_aload_n hx hb dX7_wouldMeet_77 rfl (lv_at hl 2 rfl) ?_
          refine lv_iload_n hx hb dX7_wouldMeet_78 rfl (lv_at hl 3 rfl) ?_
          refine lv_iload hx hb dX7_wouldMeet_79 (lv_at hl 1 rfl) ?_
          refine lv_iload_n hx hb dX7_wouldMeet_81 rfl (lv_at hl 4 rfl) ?_
          refine lv_iload hx hb dX7_wouldMeet_82 (lv_at hl 0 rfl) ?_
          refine rd_calli hP hS (va_runV (As := [.int (nI a), .int (hT G M h a), .int (nI b), .int (hT G M h b)]) (rest := []) ⟨hx, hb, hml, hown, hts⟩ (c_X7_meet l D cI cB cO o q1 fs n mm rg bl G M a (hT G M h a) b (hT G M h b) hm ha hb0) (cwV 4 hts gX7_wouldMeet_X7_meet rfl rfl rfl (by decide +kernel) ⟨Nat.le_of_ble_eq_true rfl, Nat.le_of_ble_eq_true rfl⟩) (rd_preV (r := (RX7, TX7, 15)) (ci := 7) hK (hP.pick [0, 1] rfl) hN (q0 := 0) rfl rfl) rfl rfl hl.1 rfl (lv_room (Nat.le_of_ble_eq_true rfl)) dX7_wouldMeet_84 ⟨Nat.le_refl _, Nat.le_refl _⟩) (fun r_84 H locs h_84 hP hS => ?_)
          refine lv_if_eq (tgt := 94) hx hb dX7_wouldMeet_87 (by decide) (fun c_87 => ?_) (fun c_87 => ?_)
          · skip
            have c3 := bI_e0 (h_84.symm.trans c_87)
            refine lv_iconst (v := 0) hx hb dX7_wouldMeet_94 (by decide) ?_
            exact W.zret (v := 0) hx hb hr (rfl) (fun tS htS hWS => ⟨⟨0, (), rfl, (by unfold lkB; first | exact bI_t (decide_eq_true ⟨c1, Int32.not_lt.mp c_74, c3⟩) | exact bI_f (decide_eq_false (fun q => q.1 c1)) | exact bI_f (decide_eq_false (fun q => absurd q.2.1 (Int32.not_le.mpr c_74))) | exact bI_f (decide_eq_false (fun q => Bool.false_ne_true (c3.symm.trans q.2.2))) | fail), trivial⟩, hS.F htS⟩) hS.2.2 dX7_wouldMeet_95
          · skip
            have c3 := bI_n0 (fun q => c_87 (h_84.trans q))
            refine lv_iconst (v := 1) hx hb dX7_wouldMeet_90 (by decide) ?_
            refine lv_goto (tgt := 95) hx hb dX7_wouldMeet_91 (by decide) ?_
            exact W.zret (v := 1) hx hb hr (rfl) (fun tS htS hWS => ⟨⟨1, (), rfl, (by unfold lkB; first | exact bI_t (decide_eq_true ⟨c1, Int32.not_lt.mp c_74, c3⟩) | exact bI_f (decide_eq_false (fun q => q.1 c1)) | exact bI_f (decide_eq_false (fun q => absurd q.2.1 (Int32.not_le.mpr c_74))) | exact bI_f (decide_eq_false (fun q => Bool.false_ne_true (c3.symm.trans q.2.2))) | fail), trivial⟩, hS.F htS⟩) hS.2.2 dX7_wouldMeet_95
theorem kX7_prices_0 : ∀ w ∈ wsX70, w ∈ wsX7_prices := by decide +kernel
theorem kX7_prices_1 : (.fieldLink RX7 7 "SightRidgeModel" "m" "[I" : Cond) ∈ wsX7_prices := by decide +kernel
theorem kX7_prices_2 : (.fieldLink RX7 32 "SightRidgeModel" "way" "[I" : Cond) ∈ wsX7_prices := by decide +kernel
set_option maxHeartbeats 4000000 in
set_option maxRecDepth 100000 in
/-- prices(to, height) -/
theorem c_X7_prices (l : Launch) (D : va_G) (cI cB cO : ClassId) (q0 q1 q2 q3 q4 q5 q6 q7 q8 : Nat) (mm pp fd tx rgd rmd wy cvr : Nat → Int32) (un fi tl re at0 fa : Int32) (hsh : Int64) (n : Nat) (rg bl : Int32) (G M : Nat → Int32) (to : Nat) (h : Int32) (hm : MOK n mm rg bl G M) (hmh : MH n M) (hto : to < n) (hh : 0 < h) : Met l yX7_prices wsX7_prices (rmD 5) (wrPc D (tyL cI cB cO) [.ref q0, .int (nI to), .int h] [(q0, .inr (7, [.ref q1, .ref q2, .int un, .ref q3, .int fi, .ref q4, .int tl, .ref q5, .ref q6, .int re, .int at0, .int fa, .ref q7, .ref q8, .long hsh])), (q1, .inl (cI, 43, .inl mm)), (q7, .inl (cI, 20, .inl wy))]) (wrQv D [(q0, .inr (7, [.ref q1, .ref q2, .int un, .ref q3, .int fi, .ref q4, .int tl, .ref q5, .ref q6, .int re, .int at0, .int fa, .ref q7, .ref q8, .long hsh])), (q1, .inl (cI, 43, .inl mm)), (q7, .inl (cI, 20, .inl wy))] (fun (u : Nat → Int32) => ∀ k, k < n → u k = nI ((dst (EX (lkB G rg bl (hT G M h)) (reB M h) to) (w100 M) n to) k)) (fun (u : Nat → Int32) => [(q0, .inr (7, [.ref q1, .ref q2, .int un, .ref q3, .int fi, .ref q4, .int tl, .ref q5, .ref q6, .int re, .int at0, .int fa, .ref q7, .ref q8, .long hsh])), (q1, .inl (cI, 43, .inl mm)), (q7, .inl (cI, 20, .inl u))])) 0 0 (inW [(q0, .inr (7, [.ref q1, .ref q2, .int un, .ref q3, .int fi, .ref q4, .int tl, .ref q5, .ref q6, .int re, .int at0, .int fa, .ref q7, .ref q8, .long hsh])), (q1, .inl (cI, 43, .inl mm)), (q7, .inl (cI, 20, .inl wy))]) := by
  refine Met.ofW (cc := cX7_prices) (maxL := 8) (ret := none) (by decide) rfl ?_
  intro p e s m args below meth c s₁ B hml hv
  obtain ⟨rfl, hP, hK, hN, hD⟩ := hv
  have hx := B.exec
  have hb := B.bytes
  have hr := B.returns
  have hts := atoms_spec (ws := wsX7_prices) B.pre
  have hown : s.vm.findClass RX7 = some m.cls := findClass_of_methodNamed B.named
  have hlocks := B.notSynchronized
  have hS : va_S (inW [(q0, .inr (7, [.ref q1, .ref q2, .int un, .ref q3, .int fi, .ref q4, .int tl, .ref q5, .ref q6, .int re, .int at0, .int fa, .ref q7, .ref q8, .long hsh])), (q1, .inl (cI, 43, .inl mm)), (q7, .inl (cI, 20, .inl wy))]) s.heap s.heap [] := va_S.rf
  have hD : va_D (inW [(q0, .inr (7, [.ref q1, .ref q2, .int un, .ref q3, .int fi, .ref q4, .int tl, .ref q5, .ref q6, .int re, .int at0, .int fa, .ref q7, .ref q8, .long hsh])), (q1, .inl (cI, 43, .inl mm)), (q7, .inl (cI, 20, .inl wy))]) [(q0, .inr (7, [.ref q1, .ref q2, .int un, .ref q3, .int fi, .ref q4, .int tl, .ref q5, .ref q6, .int re, .int at0, .int fa, .ref q7, .ref q8, .long hsh])), (q1, .inl (cI, 43, .inl mm)), (q7, .inl (cI, 20, .inl wy))] := inW_self hD
  have hl := lv_entry ([.ref q0, .int (nI to), .int h]) (n := 8) (Nat.le_of_ble_eq_true rfl)
  rw [lg_entry_eq]
  generalize (lg_sl ([.ref q0, .int (nI to), .int h]) ++ List.replicate (8 - (lg_sl ([.ref q0, .int (nI to), .int h])).length) Slot.unset).toArray = ls at hl ⊢
  have hl : lv_has ls 8 [(0, .ref q0), (1, .int (nI to)), (2, .int h)] := hl
  obtain ⟨hn, hn1, hm0, hm1, hm2, hG, hM⟩ := id hm
  refine lv_iconst (v := 0) hx hb dX7_prices_0 (by decide) ?_
  refine lv_istore_n (lv' := [(3, .int 0), (0, .ref q0), (1, .int (nI to)), (2, .int h)]) hx hb dX7_prices_1 rfl hl (by decide) rfl (fun ls hl => ?_)
  have L_2 : ∀ (k_2 : Nat) (i : Nat) (u : Nat → Int32), 20 - i < k_2 → (i ≤ 20) → (∀ k, k < i → u k = nI (if k = to then w100 M to else 0)) → ∀ (H : Heap) (locs : List Loc), va_P D vwCl [(q0, .inr (7, [.ref q1, .ref q2, .int un, .ref q3, .int fi, .ref q4, .int tl, .ref q5, .ref q6, .int re, .int at0, .int fa, .ref q7, .ref q8, .long hsh])), (q1, .inl (cI, 43, .inl mm)), (q7, .inl (cI, 20, .inl u))] H → va_D (inW [(q0, .inr (7, [.ref q1, .ref q2, .int un, .ref q3, .int fi, .ref q4, .int tl, .ref q5, .ref q6, .int re, .int at0, .int fa, .ref q7, .ref q8, .long hsh])), (q1, .inl (cI, 43, .inl mm)), (q7, .inl (cI, 20, .inl wy))]) [(q0, .inr (7, [.ref q1, .ref q2, .int un, .ref q3, .int fi, .ref q4, .int tl, .ref q5, .ref q6, .int re, .int at0, .int fa, .ref q7, .ref q8, .long hsh])), (q1, .inl (cI, 43, .inl mm)), (q7, .inl (cI, 20, .inl u))] → va_S (inW [(q0, .inr (7, [.ref q1, .ref q2, .int un, .ref q3, .int fi, .ref q4, .int tl, .ref q5, .ref q6, .int re, .int at0, .int fa, .ref q7, .ref q8, .long hsh])), (q1, .inl (cI, 43, .inl mm)), (q7, .inl (cI, 20, .inl wy))]) s.heap H locs → ∀ (ls : Array Slot), lv_has ls 8 [(0, .ref q0), (1, .int (nI to)), (2, .int h), (3, .int (nI i))] → W p l e (rmD 5) s m ([.ref q0, .int (nI to), .int h] : List Value).toArray below meth c H locs 0 0 (MQ below (wrQv D [(q0, .inr (7, [.ref q1, .ref q2, .int un, .ref q3, .int fi, .ref q4, .int tl, .ref q5, .ref q6, .int re, .int at0, .int fa, .ref q7, .ref q8, .long hsh])), (q1, .inl (cI, 43, .inl mm)), (q7, .inl (cI, 20, .inl wy))] (fun (u : Nat → Int32) => ∀ k, k < n → u k = nI ((dst (EX (lkB G rg bl (hT G M h)) (reB M h) to) (w100 M) n to) k)) (fun (u : Nat → Int32) => [(q0, .inr (7, [.ref q1, .ref q2, .int un, .ref q3, .int fi, .ref q4, .int tl, .ref q5, .ref q6, .int re, .int at0, .int fa, .ref q7, .ref q8, .long hsh])), (q1, .inl (cI, 43, .inl mm)), (q7, .inl (cI, 20, .inl u))])) ([.ref q0, .int (nI to), .int h] : List Value).toArray s 0 0 (inW [(q0, .inr (7, [.ref q1, .ref q2, .int un, .ref q3, .int fi, .ref q4, .int tl, .ref q5, .ref q6, .int re, .int at0, .int fa, .ref q7, .ref q8, .long hsh])), (q1, .inl (cI, 43, .inl mm)), (q7, .inl (cI, 20, .inl wy))])) (F0 m 2 ls []) := by
    intro k_2
    induction k_2 with
    | zero => intro i u h9; exact absurd h9 (Nat.not_lt_zero _)
    | succ k_2 ih_2 =>
      intro i u hm_2 hi hu H locs hP hD hS ls hl
      refine lv_iload_n hx hb dX7_prices_2 rfl (lv_at hl 3 rfl) ?_
      refine lv_bipush (v := 20) hx hb dX7_prices_3 (by decide) ?_
      refine lv_icmp_ge (tgt := 34) hx hb dX7_prices_5 (by decide) (fun c_5 => ?_) (fun c_5 => ?_)
      · skip
        have c0 : 20 ≤ i := ge_t (by omega) c_5
        refine lv_iconst (v := 1) hx hb dX7_prices_34 (by decide) ?_
        refine lv_istore_n (lv' := [(3, .int 1), (0, .ref q0), (1, .int (nI to)), (2, .int h)]) hx hb dX7_prices_35 rfl hl (by decide) rfl (fun ls hl => ?_)
        have hP0 : PZ (EX (lkB G rg bl (hT G M h)) (reB M h) to) (w100 M) n to u (fun k => if k = to then w100 M to else 0) := PZ_0 (fun k hk => hu k (by omega)) hto (Nat.succ_pos _) (w100_le M to)
        have L_36 : ∀ (k_36 : Nat) (zg : Nat) (u2 : Nat → Int32) (C2 : Nat → Nat), phi n C2 + zg < k_36 → (PZ (EX (lkB G rg bl (hT G M h)) (reB M h) to) (w100 M) n to u2 C2) → ((zg = 1 ∨ (zg = 0 ∧ ∀ k, k < n → u2 k = nI ((dst (EX (lkB G rg bl (hT G M h)) (reB M h) to) (w100 M) n to) k)))) → ∀ (H : Heap) (locs : List Loc), va_P D vwCl [(q0, .inr (7, [.ref q1, .ref q2, .int un, .ref q3, .int fi, .ref q4, .int tl, .ref q5, .ref q6, .int re, .int at0, .int fa, .ref q7, .ref q8, .long hsh])), (q1, .inl (cI, 43, .inl mm)), (q7, .inl (cI, 20, .inl u2))] H → va_D (inW [(q0, .inr (7, [.ref q1, .ref q2, .int un, .ref q3, .int fi, .ref q4, .int tl, .ref q5, .ref q6, .int re, .int at0, .int fa, .ref q7, .ref q8, .long hsh])), (q1, .inl (cI, 43, .inl mm)), (q7, .inl (cI, 20, .inl wy))]) [(q0, .inr (7, [.ref q1, .ref q2, .int un, .ref q3, .int fi, .ref q4, .int tl, .ref q5, .ref q6, .int re, .int at0, .int fa, .ref q7, .ref q8, .long hsh])), (q1, .inl (cI, 43, .inl mm)), (q7, .inl (cI, 20, .inl u2))] → va_S (inW [(q0, .inr (7, [.ref q1, .ref q2, .int un, .ref q3, .int fi, .ref q4, .int tl, .ref q5, .ref q6, .int re, .int at0, .int fa, .ref q7, .ref q8, .long hsh])), (q1, .inl (cI, 43, .inl mm)), (q7, .inl (cI, 20, .inl wy))]) s.heap H locs → ∀ (ls : Array Slot), lv_has ls 8 [(0, .ref q0), (1, .int (nI to)), (2, .int h), (3, .int (nI zg))] → W p l e (rmD 5) s m ([.ref q0, .int (nI to), .int h] : List Value).toArray below meth c H locs 0 0 (MQ below (wrQv D [(q0, .inr (7, [.ref q1, .ref q2, .int un, .ref q3, .int fi, .ref q4, .int tl, .ref q5, .ref q6, .int re, .int at0, .int fa, .ref q7, .ref q8, .long hsh])), (q1, .inl (cI, 43, .inl mm)), (q7, .inl (cI, 20, .inl wy))] (fun (u : Nat → Int32) => ∀ k, k < n → u k = nI ((dst (EX (lkB G rg bl (hT G M h)) (reB M h) to) (w100 M) n to) k)) (fun (u : Nat → Int32) => [(q0, .inr (7, [.ref q1, .ref q2, .int un, .ref q3, .int fi, .ref q4, .int tl, .ref q5, .ref q6, .int re, .int at0, .int fa, .ref q7, .ref q8, .long hsh])), (q1, .inl (cI, 43, .inl mm)), (q7, .inl (cI, 20, .inl u))])) ([.ref q0, .int (nI to), .int h] : List Value).toArray s 0 0 (inW [(q0, .inr (7, [.ref q1, .ref q2, .int un, .ref q3, .int fi, .ref q4, .int tl, .ref q5, .ref q6, .int re, .int at0, .int fa, .ref q7, .ref q8, .long hsh])), (q1, .inl (cI, 43, .inl mm)), (q7, .inl (cI, 20, .inl wy))])) (F0 m 36 ls []) := by
          intro k_36
          induction k_36 with
          | zero => intro zg u2 C2 h9; exact absurd h9 (Nat.not_lt_zero _)
          | succ k_36 ih_36 =>
            intro zg u2 C2 hm_36 hz hzg H locs hP hD hS ls hl
            refine lv_iload_n hx hb dX7_prices_36 rfl (lv_at hl 3 rfl) ?_
            refine lv_if_eq (tgt := 211) hx hb dX7_prices_37 (by decide) (fun c_37 => ?_) (fun c_37 => ?_)
            · skip
              have g1 : zg = 0 := hzg.elim (fun q => by subst q; exact absurd c_37 (by decide)) (fun q => q.1)
              have hend9 := (hzg.resolve_left (fun q => by omega)).2
              exact W.vret hx hb hr (fun tS htS hWS => ⟨⟨u2, rfl, hend9, retP htS hP⟩, hS.F htS⟩) hS.2.2 dX7_prices_211
            · skip
              have g1 : zg = 1 := hzg.elim id (fun q => by have := q.1; subst this; exact absurd rfl c_37)
              subst g1
              refine lv_iconst (v := 0) hx hb dX7_prices_40 (by decide) ?_
              refine lv_istore_n (lv' := [(3, .int 0), (0, .ref q0), (1, .int (nI to)), (2, .int h)]) hx hb dX7_prices_41 rfl hl (by decide) rfl (fun ls hl => ?_)
              refine lv_iconst (v := 0) hx hb dX7_prices_42 (by decide) ?_
              refine lv_istore (lv' := [(4, .int 0), (3, .int 0), (0, .ref q0), (1, .int (nI to)), (2, .int h)]) hx hb dX7_prices_43 hl (by decide) rfl (fun ls hl => ?_)
              have L_45 : ∀ (k_45 : Nat) (zs : Nat) (g : Nat) (u3 : Nat → Int32) (C3 : Nat → Nat), n - zs < k_45 → (zs ≤ n) → (PZ (EX (lkB G rg bl (hT G M h)) (reB M h) to) (w100 M) n to u3 C3) → (PG (EX (lkB G rg bl (hT G M h)) (reB M h) to) (w100 M) n zs 0 C2 C3 g) → ∀ (H : Heap) (locs : List Loc), va_P D vwCl [(q0, .inr (7, [.ref q1, .ref q2, .int un, .ref q3, .int fi, .ref q4, .int tl, .ref q5, .ref q6, .int re, .int at0, .int fa, .ref q7, .ref q8, .long hsh])), (q1, .inl (cI, 43, .inl mm)), (q7, .inl (cI, 20, .inl u3))] H → va_D (inW [(q0, .inr (7, [.ref q1, .ref q2, .int un, .ref q3, .int fi, .ref q4, .int tl, .ref q5, .ref q6, .int re, .int at0, .int fa, .ref q7, .ref q8, .long hsh])), (q1, .inl (cI, 43, .inl mm)), (q7, .inl (cI, 20, .inl wy))]) [(q0, .inr (7, [.ref q1, .ref q2, .int un, .ref q3, .int fi, .ref q4, .int tl, .ref q5, .ref q6, .int re, .int at0, .int fa, .ref q7, .ref q8, .long hsh])), (q1, .inl (cI, 43, .inl mm)), (q7, .inl (cI, 20, .inl u3))] → va_S (inW [(q0, .inr (7, [.ref q1, .ref q2, .int un, .ref q3, .int fi, .ref q4, .int tl, .ref q5, .ref q6, .int re, .int at0, .int fa, .ref q7, .ref q8, .long hsh])), (q1, .inl (cI, 43, .inl mm)), (q7, .inl (cI, 20, .inl wy))]) s.heap H locs → ∀ (ls : Array Slot), lv_has ls 8 [(0, .ref q0), (1, .int (nI to)), (2, .int h), (3, .int (nI g)), (4, .int (nI zs))] → W p l e (rmD 5) s m ([.ref q0, .int (nI to), .int h] : List Value).toArray below meth c H locs 0 0 (MQ below (wrQv D [(q0, .inr (7, [.ref q1, .ref q2, .int un, .ref q3, .int fi, .ref q4, .int tl, .ref q5, .ref q6, .int re, .int at0, .int fa, .ref q7, .ref q8, .long hsh])), (q1, .inl (cI, 43, .inl mm)), (q7, .inl (cI, 20, .inl wy))] (fun (u : Nat → Int32) => ∀ k, k < n → u k = nI ((dst (EX (lkB G rg bl (hT G M h)) (reB M h) to) (w100 M) n to) k)) (fun (u : Nat → Int32) => [(q0, .inr (7, [.ref q1, .ref q2, .int un, .ref q3, .int fi, .ref q4, .int tl, .ref q5, .ref q6, .int re, .int at0, .int fa, .ref q7, .ref q8, .long hsh])), (q1, .inl (cI, 43, .inl mm)), (q7, .inl (cI, 20, .inl u))])) ([.ref q0, .int (nI to), .int h] : List Value).toArray s 0 0 (inW [(q0, .inr (7, [.ref q1, .ref q2, .int un, .ref q3, .int fi, .ref q4, .int tl, .ref q5, .ref q6, .int re, .int at0, .int fa, .ref q7, .ref q8, .long hsh])), (q1, .inl (cI, 43, .inl mm)), (q7, .inl (cI, 20, .inl wy))])) (F0 m 45 ls []) := by
                intro k_45
                induction k_45 with
                | zero => intro zs g u3 C3 h9; exact absurd h9 (Nat.not_lt_zero _)
                | succ k_45 ih_45 =>
                  intro zs g u3 C3 hm_45 hzs hz3 hg3 H locs hP hD hS ls hl
                  refine lv_iload hx hb dX7_prices_45 (lv_at hl 4 rfl) ?_
                  refine lv_aload_n hx hb dX7_prices_47 rfl (lv_at hl 0 rfl) ?_
                  refine va_get (D := D) (ci := 7) (v := .ref q1) (C := RX7) (T := TX7) (N := 15) hx hb hts kX7_prices_0 hown hK hP 0 rfl rfl 0 (by decide) (hts (.fieldLink RX7 7 "SightRidgeModel" "m" "[I") kX7_prices_1) (fun _ h9 => h9) rfl dX7_prices_48 ?_
                  refine lv_iconst (v := 0) hx hb dX7_prices_51 (by decide) ?_
                  refine va_iald hx hb hK hP 1 0 rfl rfl (i := nI 0) (vp_in_nI (N := 43) (by decide) (by decide)) dX7_prices_52 ?_
                  rw [nI_clamp (n := 0) (by decide)]
                  refine lv_topi (fun y_1 e_2 => ?_)
                  have e_2 : nI n = y_1 := (e_2.trans (hm0)).symm
                  subst e_2
                  refine lv_icmp_ge (tgt := 208) hx hb dX7_prices_53 (by decide) (fun c_53 => ?_) (fun c_53 => ?_)
                  · skip
                    have c3 : n ≤ zs := ge_t (by omega) c_53
                    have hend : g = 1 ∨ (g = 0 ∧ ∀ k, k < n → u3 k = nI ((dst (EX (lkB G rg bl (hT G M h)) (reB M h) to) (w100 M) n to) k)) := (PG_g hg3).elim (fun q => Or.inr ⟨q, by subst q; exact PG_end hg3 c3 hz3⟩) Or.inl
                    have hdec := PG_dec hg3
                    refine lv_goto (tgt := 36) hx hb dX7_prices_208 (by decide) ?_
                    exact ih_36 g u3 C3 (by omega) (hz3) (hend) _ _ hP hD hS ls (lv_sub hl [0, 1, 2, 3] rfl)
                  · skip
                    have c3 : zs < n := ge_f (by omega) c_53
                    refine lv_iconst (v := 0) hx hb dX7_prices_56 (by decide) ?_
                    refine lv_istore (lv' := [(5, .int 0), (0, .ref q0), (1, .int (nI to)), (2, .int h), (3, .int (nI g)), (4, .int (nI zs))]) hx hb dX7_prices_57 hl (by decide) rfl (fun ls hl => ?_)
                    have L_59 : ∀ (k_59 : Nat) (zt : Nat) (g4 : Nat) (u4 : Nat → Int32) (C4 : Nat → Nat), n - zt < k_59 → (zt ≤ n) → (PZ (EX (lkB G rg bl (hT G M h)) (reB M h) to) (w100 M) n to u4 C4) → (PG (EX (lkB G rg bl (hT G M h)) (reB M h) to) (w100 M) n zs zt C2 C4 g4) → ∀ (H : Heap) (locs : List Loc), va_P D vwCl [(q0, .inr (7, [.ref q1, .ref q2, .int un, .ref q3, .int fi, .ref q4, .int tl, .ref q5, .ref q6, .int re, .int at0, .int fa, .ref q7, .ref q8, .long hsh])), (q1, .inl (cI, 43, .inl mm)), (q7, .inl (cI, 20, .inl u4))] H → va_D (inW [(q0, .inr (7, [.ref q1, .ref q2, .int un, .ref q3, .int fi, .ref q4, .int tl, .ref q5, .ref q6, .int re, .int at0, .int fa, .ref q7, .ref q8, .long hsh])), (q1, .inl (cI, 43, .inl mm)), (q7, .inl (cI, 20, .inl wy))]) [(q0, .inr (7, [.ref q1, .ref q2, .int un, .ref q3, .int fi, .ref q4, .int tl, .ref q5, .ref q6, .int re, .int at0, .int fa, .ref q7, .ref q8, .long hsh])), (q1, .inl (cI, 43, .inl mm)), (q7, .inl (cI, 20, .inl u4))] → va_S (inW [(q0, .inr (7, [.ref q1, .ref q2, .int un, .ref q3, .int fi, .ref q4, .int tl, .ref q5, .ref q6, .int re, .int at0, .int fa, .ref q7, .ref q8, .long hsh])), (q1, .inl (cI, 43, .inl mm)), (q7, .inl (cI, 20, .inl wy))]) s.heap H locs → ∀ (ls : Array Slot), lv_has ls 8 [(0, .ref q0), (1, .int (nI to)), (2, .int h), (3, .int (nI g4)), (4, .int (nI zs)), (5, .int (nI zt))] → W p l e (rmD 5) s m ([.ref q0, .int (nI to), .int h] : List Value).toArray below meth c H locs 0 0 (MQ below (wrQv D [(q0, .inr (7, [.ref q1, .ref q2, .int un, .ref q3, .int fi, .ref q4, .int tl, .ref q5, .ref q6, .int re, .int at0, .int fa, .ref q7, .ref q8, .long hsh])), (q1, .inl (cI, 43, .inl mm)), (q7, .inl (cI, 20, .inl wy))] (fun (u : Nat → Int32) => ∀ k, k < n → u k = nI ((dst (EX (lkB G rg bl (hT G M h)) (reB M h) to) (w100 M) n to) k)) (fun (u : Nat → Int32) => [(q0, .inr (7, [.ref q1, .ref q2, .int un, .ref q3, .int fi, .ref q4, .int tl, .ref q5, .ref q6, .int re, .int at0, .int fa, .ref q7, .ref q8, .long hsh])), (q1, .inl (cI, 43, .inl mm)), (q7, .inl (cI, 20, .inl u))])) ([.ref q0, .int (nI to), .int h] : List Value).toArray s 0 0 (inW [(q0, .inr (7, [.ref q1, .ref q2, .int un, .ref q3, .int fi, .ref q4, .int tl, .ref q5, .ref q6, .int re, .int at0, .int fa, .ref q7, .ref q8, .long hsh])), (q1, .inl (cI, 43, .inl mm)), (q7, .inl (cI, 20, .inl wy))])) (F0 m 59 ls []) := by
                      intro k_59
                      induction k_59 with
                      | zero => intro zt g4 u4 C4 h9; exact absurd h9 (Nat.not_lt_zero _)
                      | succ k_59 ih_59 =>
                        intro zt g4 u4 C4 hm_59 hzt hz4 hg4 H locs hP hD hS ls hl
                        refine lv_iload hx hb dX7_prices_59 (lv_at hl 5 rfl) ?_
                        refine lv_aload_n hx hb dX7_prices_61 rfl (lv_at hl 0 rfl) ?_
                        refine va_get (D := D) (ci := 7) (v := .ref q1) (C := RX7) (T := TX7) (N := 15) hx hb hts kX7_prices_0 hown hK hP 0 rfl rfl 0 (by decide) (hts (.fieldLink RX7 7 "SightRidgeModel" "m" "[I") kX7_prices_1) (fun _ h9 => h9) rfl dX7_prices_62 ?_
                        refine lv_iconst (v := 0) hx hb dX7_prices_65 (by decide) ?_
                        refine va_iald hx hb hK hP 1 0 rfl rfl (i := nI 0) (vp_in_nI (N := 43) (by decide) (by decide)) dX7_prices_66 ?_
                        rw [nI_clamp (n := 0) (by decide)]
                        refine lv_topi (fun y_3 e_4 => ?_)
                        have e_4 : nI n = y_3 := (e_4.trans (hm0)).symm
                        subst e_4
                        refine lv_icmp_ge (tgt := 202) hx hb dX7_prices_67 (by decide) (fun c_67 => ?_) (fun c_67 => ?_)
                        · skip
                          have c4 : n ≤ zt := ge_t (by omega) c_67
                          refine lv_iinc (v := nI (zs + 1)) (lv' := [(4, .int (nI (zs + 1))), (0, .ref q0), (1, .int (nI to)), (2, .int h), (3, .int (nI g4)), (5, .int (nI zt))]) hx hb dX7_prices_202 hl (k := 4) rfl (inc1 _) (by decide) rfl (fun ls hl => ?_)
                          refine lv_goto (tgt := 45) hx hb dX7_prices_205 (by decide) ?_
                          exact ih_45 (zs + 1) g4 u4 C4 (by omega) (by omega) (hz4) (PG_s hg4 c4) _ _ hP hD hS ls (lv_sub hl [1, 2, 3, 4, 0] rfl)
                        · skip
                          have c4 : zt < n := ge_f (by omega) c_67
                          have hb4 := PZ_le hz4 hn
                          have hbs := hb4 zs
                          have hbt := hb4 zt
                          have hws := w100_le M zs
                          have hu4 := hz4.1
                          refine lv_aload_n hx hb dX7_prices_70 rfl (lv_at hl 0 rfl) ?_
                          refine va_get (D := D) (ci := 7) (v := .ref q7) (C := RX7) (T := TX7) (N := 15) hx hb hts kX7_prices_0 hown hK hP 0 rfl rfl 12 (by decide) (hts (.fieldLink RX7 32 "SightRidgeModel" "way" "[I") kX7_prices_2) (fun _ h9 => h9) rfl dX7_prices_71 ?_
                          refine lv_iload hx hb dX7_prices_74 (lv_at hl 5 rfl) ?_
                          refine va_iald hx hb hK hP 2 0 rfl rfl (i := nI zt) (vp_in_nI (N := 20) (by omega) (by decide)) dX7_prices_76 ?_
                          rw [nI_clamp (n := zt) (by omega)]
                          refine lv_topi (fun y_5 e_6 => ?_)
                          have e_6 : nI (C4 zt) = y_5 := (e_6.trans (hu4 zt c4)).symm
                          subst e_6
                          refine lv_if_le (tgt := 96) hx hb dX7_prices_77 (by decide) (fun c_77 => ?_) (fun c_77 => ?_)
                          · skip
                            have d1 : C4 zt = 0 := by have := (nI_leI (b := 0) (by omega) (by decide)).mp c_77; omega
                            refine lv_iconst (v := 0) hx hb dX7_prices_96 (by decide) ?_
                            refine lv_istore (lv' := [(6, .int 0), (0, .ref q0), (1, .int (nI to)), (2, .int h), (3, .int (nI g4)), (4, .int (nI zs)), (5, .int (nI zt))]) hx hb dX7_prices_97 hl (by decide) rfl (fun ls hl => ?_)
                            refine lv_iload hx hb dX7_prices_99 (lv_at hl 0 rfl) ?_
                            refine lv_if_eq (tgt := 142) hx hb dX7_prices_101 (by decide) (fun c_101 => ?_) (fun c_101 => ?_)
                            · skip
                              refine lv_iconst (v := 0) hx hb dX7_prices_142 (by decide) ?_
                              refine lv_istore (lv' := [(7, .int 0), (6, .int 0), (0, .ref q0), (1, .int (nI to)), (2, .int h), (3, .int (nI g4)), (4, .int (nI zs)), (5, .int (nI zt))]) hx hb dX7_prices_143 hl (by decide) rfl (fun ls hl => ?_)
                              refine lv_aload_n hx hb dX7_prices_145 rfl (lv_at hl 2 rfl) ?_
                              refine va_get (D := D) (ci := 7) (v := .ref q7) (C := RX7) (T := TX7) (N := 15) hx hb hts kX7_prices_0 hown hK hP 0 rfl rfl 12 (by decide) (hts (.fieldLink RX7 32 "SightRidgeModel" "way" "[I") kX7_prices_2) (fun _ h9 => h9) rfl dX7_prices_146 ?_
                              refine lv_iload hx hb dX7_prices_149 (lv_at hl 6 rfl) ?_
                              refine lv_iload hx hb dX7_prices_151 (lv_at hl 0 rfl) ?_
                              refine lv_if_eq (tgt := 173) hx hb dX7_prices_153 (by decide) (fun c_153 => ?_) (fun c_153 => ?_)
                              · skip
                                refine lv_aload_n hx hb dX7_prices_173 rfl (lv_at hl 2 rfl) ?_
                                refine va_get (D := D) (ci := 7) (v := .ref q7) (C := RX7) (T := TX7) (N := 15) hx hb hts kX7_prices_0 hown hK hP 0 rfl rfl 12 (by decide) (hts (.fieldLink RX7 32 "SightRidgeModel" "way" "[I") kX7_prices_2) (fun _ h9 => h9) rfl dX7_prices_174 ?_
                                refine lv_iload hx hb dX7_prices_177 (lv_at hl 6 rfl) ?_
                                refine va_iald hx hb hK hP 2 0 rfl rfl (i := nI zs) (vp_in_nI (N := 20) (by omega) (by decide)) dX7_prices_179 ?_
                                rw [nI_clamp (n := zs) (by omega)]
                                refine lv_topi (fun y_7 e_8 => ?_)
                                have e_8 : nI (C4 zs) = y_7 := (e_8.trans (hu4 zs c3)).symm
                                subst e_8
                                refine va_iast hx hb hK hP hD hS 2 0 rfl rfl (i := nI zs) (vp_in_nI (N := 20) (by omega) (by decide)) dX7_prices_180 (fun H locs hP hD hS => ?_)
                                rw [nI_clamp (n := zs) (by omega)] at hP hD
                                have hP : va_P D vwCl [(q0, .inr (7, [.ref q1, .ref q2, .int un, .ref q3, .int fi, .ref q4, .int tl, .ref q5, .ref q6, .int re, .int at0, .int fa, .ref q7, .ref q8, .long hsh])), (q1, .inl (cI, 43, .inl mm)), (q7, .inl (cI, 20, .inl (upd u4 zs (nI (C4 zs)))))] _ := hP
                                have hD : va_D (inW [(q0, .inr (7, [.ref q1, .ref q2, .int un, .ref q3, .int fi, .ref q4, .int tl, .ref q5, .ref q6, .int re, .int at0, .int fa, .ref q7, .ref q8, .long hsh])), (q1, .inl (cI, 43, .inl mm)), (q7, .inl (cI, 20, .inl wy))]) [(q0, .inr (7, [.ref q1, .ref q2, .int un, .ref q3, .int fi, .ref q4, .int tl, .ref q5, .ref q6, .int re, .int at0, .int fa, .ref q7, .ref q8, .long hsh])), (q1, .inl (cI, 43, .inl mm)), (q7, .inl (cI, 20, .inl (upd u4 zs (nI (C4 zs)))))] := hD
                                refine lv_iload_n hx hb dX7_prices_181 rfl (lv_at hl 5 rfl) ?_
                                refine lv_if_ne (tgt := 190) hx hb dX7_prices_182 (by decide) (fun c_182 => ?_) (fun c_182 => ?_)
                                · skip
                                  have d6 : g4 = 1 := (PG_g hg4).elim (fun q => by subst q; exact absurd rfl c_182) id
                                  subst d6
                                  refine lv_iconst (v := 1) hx hb dX7_prices_190 (by decide) ?_
                                  refine lv_goto (tgt := 195) hx hb dX7_prices_191 (by decide) ?_
                                  refine lv_istore_n (lv' := [(3, .int 1), (7, .int 0), (6, .int 0), (0, .ref q0), (1, .int (nI to)), (2, .int h), (4, .int (nI zs)), (5, .int (nI zt))]) hx hb dX7_prices_195 rfl hl (by decide) rfl (fun ls hl => ?_)
                                  refine lv_iinc (v := nI (zt + 1)) (lv' := [(5, .int (nI (zt + 1))), (3, .int 1), (7, .int 0), (6, .int 0), (0, .ref q0), (1, .int (nI to)), (2, .int h), (4, .int (nI zs))]) hx hb dX7_prices_196 hl (k := 7) rfl (inc1 _) (by decide) rfl (fun ls hl => ?_)
                                  refine lv_goto (tgt := 59) hx hb dX7_prices_199 (by decide) ?_
                                  exact ih_59 (zt + 1) 1 (upd u4 zs (nI (C4 zs))) C4 (by omega) (by omega) (PZ_same hz4 c3) (PG_no hg4 (fun _ q => absurd d1 q)) _ _ hP hD hS ls (lv_sub hl [4, 5, 6, 1, 7, 0] rfl)
                                · skip
                                  have d6 : g4 = 0 := (PG_g hg4).elim id (fun q => by subst q; exact absurd c_182 (by decide))
                                  subst d6
                                  refine lv_iload hx hb dX7_prices_185 (lv_at hl 0 rfl) ?_
                                  refine lv_if_eq (tgt := 194) hx hb dX7_prices_187 (by decide) (fun c_187 => ?_) (fun c_187 => ?_)
                                  · skip
                                    refine lv_iconst (v := 0) hx hb dX7_prices_194 (by decide) ?_
                                    refine lv_istore_n (lv' := [(3, .int 0), (7, .int 0), (6, .int 0), (0, .ref q0), (1, .int (nI to)), (2, .int h), (4, .int (nI zs)), (5, .int (nI zt))]) hx hb dX7_prices_195 rfl hl (by decide) rfl (fun ls hl => ?_)
                                    refine lv_iinc (v := nI (zt + 1)) (lv' := [(5, .int (nI (zt + 1))), (3, .int 0), (7, .int 0), (6, .int 0), (0, .ref q0), (1, .int (nI to)), (2, .int h), (4, .int (nI zs))]) hx hb dX7_prices_196 hl (k := 7) rfl (inc1 _) (by decide) rfl (fun ls hl => ?_)
                                    refine lv_goto (tgt := 59) hx hb dX7_prices_199 (by decide) ?_
                                    exact ih_59 (zt + 1) 0 (upd u4 zs (nI (C4 zs))) C4 (by omega) (by omega) (PZ_same hz4 c3) (PG_no hg4 (fun _ q => absurd d1 q)) _ _ hP hD hS ls (lv_sub hl [4, 5, 6, 1, 7, 0] rfl)
                                  · skip
                                    exact absurd (by decide) c_187
                              · skip
                                exact absurd (by decide) c_153
                            · skip
                              exact absurd (by decide) c_101
                          · skip
                            have d1 : C4 zt ≠ 0 := fun q => c_77 (by rw [q]; decide)
                            refine lv_aload_n hx hb dX7_prices_80 rfl (lv_at hl 0 rfl) ?_
                            refine lv_iload hx hb dX7_prices_81 (lv_at hl 4 rfl) ?_
                            refine lv_iload hx hb dX7_prices_83 (lv_at hl 5 rfl) ?_
                            refine lv_iload_n hx hb dX7_prices_85 rfl (lv_at hl 2 rfl) ?_
                            refine rd_calli hP hS (va_runV (As := [.int (nI zs), .int (nI zt), .int h]) (rest := []) ⟨hx, hb, hml, hown, hts⟩ (c_X7_wouldMeet l D cI cB cO q0 q1 [.ref q2, .int un, .ref q3, .int fi, .ref q4, .int tl, .ref q5, .ref q6, .int re, .int at0, .int fa, .ref q7, .ref q8, .long hsh] n mm rg bl G M zs zt h hm hmh c3 c4) (cwV 3 hts gX7_prices_X7_wouldMeet rfl rfl rfl (by decide +kernel) ⟨Nat.le_of_ble_eq_true rfl, Nat.le_of_ble_eq_true rfl⟩) (rd_preV (r := (RX7, TX7, 15)) (ci := 7) hK (hP.pick [0, 1] rfl) hN (q0 := 0) rfl rfl) rfl rfl hl.1 rfl (lv_room (Nat.le_of_ble_eq_true rfl)) dX7_prices_86 ⟨Nat.le_refl _, Nat.le_refl _⟩) (fun r_86 H locs h_86 hP hS => ?_)
                            refine lv_if_eq (tgt := 96) hx hb dX7_prices_89 (by decide) (fun c_89 => ?_) (fun c_89 => ?_)
                            · skip
                              have d2 := bI_e0 (h_86.symm.trans c_89)
                              have d3 : ¬ (EX (lkB G rg bl (hT G M h)) (reB M h) to) zs zt = true := fun q => by
                                unfold EX at q
                                rw [d2, Bool.false_and] at q
                                cases q
                              refine lv_iconst (v := 0) hx hb dX7_prices_96 (by decide) ?_
                              refine lv_istore (lv' := [(6, .int 0), (0, .ref q0), (1, .int (nI to)), (2, .int h), (3, .int (nI g4)), (4, .int (nI zs)), (5, .int (nI zt))]) hx hb dX7_prices_97 hl (by decide) rfl (fun ls hl => ?_)
                              refine lv_iload hx hb dX7_prices_99 (lv_at hl 0 rfl) ?_
                              refine lv_if_eq (tgt := 142) hx hb dX7_prices_101 (by decide) (fun c_101 => ?_) (fun c_101 => ?_)
                              · skip
                                refine lv_iconst (v := 0) hx hb dX7_prices_142 (by decide) ?_
                                refine lv_istore (lv' := [(7, .int 0), (6, .int 0), (0, .ref q0), (1, .int (nI to)), (2, .int h), (3, .int (nI g4)), (4, .int (nI zs)), (5, .int (nI zt))]) hx hb dX7_prices_143 hl (by decide) rfl (fun ls hl => ?_)
                                refine lv_aload_n hx hb dX7_prices_145 rfl (lv_at hl 2 rfl) ?_
                                refine va_get (D := D) (ci := 7) (v := .ref q7) (C := RX7) (T := TX7) (N := 15) hx hb hts kX7_prices_0 hown hK hP 0 rfl rfl 12 (by decide) (hts (.fieldLink RX7 32 "SightRidgeModel" "way" "[I") kX7_prices_2) (fun _ h9 => h9) rfl dX7_prices_146 ?_
                                refine lv_iload hx hb dX7_prices_149 (lv_at hl 6 rfl) ?_
                                refine lv_iload hx hb dX7_prices_151 (lv_at hl 0 rfl) ?_
                                refine lv_if_eq (tgt := 173) hx hb dX7_prices_153 (by decide) (fun c_153 => ?_) (fun c_153 => ?_)
                                · skip
                                  refine lv_aload_n hx hb dX7_prices_173 rfl (lv_at hl 2 rfl) ?_
                                  refine va_get (D := D) (ci := 7) (v := .ref q7) (C := RX7) (T := TX7) (N := 15) hx hb hts kX7_prices_0 hown hK hP 0 rfl rfl 12 (by decide) (hts (.fieldLink RX7 32 "SightRidgeModel" "way" "[I") kX7_prices_2) (fun _ h9 => h9) rfl dX7_prices_174 ?_
                                  refine lv_iload hx hb dX7_prices_177 (lv_at hl 6 rfl) ?_
                                  refine va_iald hx hb hK hP 2 0 rfl rfl (i := nI zs) (vp_in_nI (N := 20) (by omega) (by decide)) dX7_prices_179 ?_
                                  rw [nI_clamp (n := zs) (by omega)]
                                  refine lv_topi (fun y_9 e_10 => ?_)
                                  have e_10 : nI (C4 zs) = y_9 := (e_10.trans (hu4 zs c3)).symm
                                  subst e_10
                                  refine va_iast hx hb hK hP hD hS 2 0 rfl rfl (i := nI zs) (vp_in_nI (N := 20) (by omega) (by decide)) dX7_prices_180 (fun H locs hP hD hS => ?_)
                                  rw [nI_clamp (n := zs) (by omega)] at hP hD
                                  have hP : va_P D vwCl [(q0, .inr (7, [.ref q1, .ref q2, .int un, .ref q3, .int fi, .ref q4, .int tl, .ref q5, .ref q6, .int re, .int at0, .int fa, .ref q7, .ref q8, .long hsh])), (q1, .inl (cI, 43, .inl mm)), (q7, .inl (cI, 20, .inl (upd u4 zs (nI (C4 zs)))))] _ := hP
                                  have hD : va_D (inW [(q0, .inr (7, [.ref q1, .ref q2, .int un, .ref q3, .int fi, .ref q4, .int tl, .ref q5, .ref q6, .int re, .int at0, .int fa, .ref q7, .ref q8, .long hsh])), (q1, .inl (cI, 43, .inl mm)), (q7, .inl (cI, 20, .inl wy))]) [(q0, .inr (7, [.ref q1, .ref q2, .int un, .ref q3, .int fi, .ref q4, .int tl, .ref q5, .ref q6, .int re, .int at0, .int fa, .ref q7, .ref q8, .long hsh])), (q1, .inl (cI, 43, .inl mm)), (q7, .inl (cI, 20, .inl (upd u4 zs (nI (C4 zs)))))] := hD
                                  refine lv_iload_n hx hb dX7_prices_181 rfl (lv_at hl 5 rfl) ?_
                                  refine lv_if_ne (tgt := 190) hx hb dX7_prices_182 (by decide) (fun c_182 => ?_) (fun c_182 => ?_)
                                  · skip
                                    have d6 : g4 = 1 := (PG_g hg4).elim (fun q => by subst q; exact absurd rfl c_182) id
                                    subst d6
                                    refine lv_iconst (v := 1) hx hb dX7_prices_190 (by decide) ?_
                                    refine lv_goto (tgt := 195) hx hb dX7_prices_191 (by decide) ?_
                                    refine lv_istore_n (lv' := [(3, .int 1), (7, .int 0), (6, .int 0), (0, .ref q0), (1, .int (nI to)), (2, .int h), (4, .int (nI zs)), (5, .int (nI zt))]) hx hb dX7_prices_195 rfl hl (by decide) rfl (fun ls hl => ?_)
                                    refine lv_iinc (v := nI (zt + 1)) (lv' := [(5, .int (nI (zt + 1))), (3, .int 1), (7, .int 0), (6, .int 0), (0, .ref q0), (1, .int (nI to)), (2, .int h), (4, .int (nI zs))]) hx hb dX7_prices_196 hl (k := 7) rfl (inc1 _) (by decide) rfl (fun ls hl => ?_)
                                    refine lv_goto (tgt := 59) hx hb dX7_prices_199 (by decide) ?_
                                    exact ih_59 (zt + 1) 1 (upd u4 zs (nI (C4 zs))) C4 (by omega) (by omega) (PZ_same hz4 c3) (PG_no hg4 (fun q => absurd q d3)) _ _ hP hD hS ls (lv_sub hl [4, 5, 6, 1, 7, 0] rfl)
                                  · skip
                                    have d6 : g4 = 0 := (PG_g hg4).elim id (fun q => by subst q; exact absurd c_182 (by decide))
                                    subst d6
                                    refine lv_iload hx hb dX7_prices_185 (lv_at hl 0 rfl) ?_
                                    refine lv_if_eq (tgt := 194) hx hb dX7_prices_187 (by decide) (fun c_187 => ?_) (fun c_187 => ?_)
                                    · skip
                                      refine lv_iconst (v := 0) hx hb dX7_prices_194 (by decide) ?_
                                      refine lv_istore_n (lv' := [(3, .int 0), (7, .int 0), (6, .int 0), (0, .ref q0), (1, .int (nI to)), (2, .int h), (4, .int (nI zs)), (5, .int (nI zt))]) hx hb dX7_prices_195 rfl hl (by decide) rfl (fun ls hl => ?_)
                                      refine lv_iinc (v := nI (zt + 1)) (lv' := [(5, .int (nI (zt + 1))), (3, .int 0), (7, .int 0), (6, .int 0), (0, .ref q0), (1, .int (nI to)), (2, .int h), (4, .int (nI zs))]) hx hb dX7_prices_196 hl (k := 7) rfl (inc1 _) (by decide) rfl (fun ls hl => ?_)
                                      refine lv_goto (tgt := 59) hx hb dX7_prices_199 (by decide) ?_
                                      exact ih_59 (zt + 1) 0 (upd u4 zs (nI (C4 zs))) C4 (by omega) (by omega) (PZ_same hz4 c3) (PG_no hg4 (fun q => absurd q d3)) _ _ hP hD hS ls (lv_sub hl [4, 5, 6, 1, 7, 0] rfl)
                                    · skip
                                      exact absurd (by decide) c_187
                                · skip
                                  exact absurd (by decide) c_153
                              · skip
                                exact absurd (by decide) c_101
                            · skip
                              have d2 := bI_n0 (fun q => c_89 (h_86.trans q))
                              have d3 : (EX (lkB G rg bl (hT G M h)) (reB M h) to) zs zt = true := by
                                unfold EX reB
                                rw [d2, decide_eq_true (Or.inr hh), Bool.or_true]
                                rfl
                              refine lv_iconst (v := 1) hx hb dX7_prices_92 (by decide) ?_
                              refine lv_goto (tgt := 97) hx hb dX7_prices_93 (by decide) ?_
                              refine lv_istore (lv' := [(6, .int 1), (0, .ref q0), (1, .int (nI to)), (2, .int h), (3, .int (nI g4)), (4, .int (nI zs)), (5, .int (nI zt))]) hx hb dX7_prices_97 hl (by decide) rfl (fun ls hl => ?_)
                              refine lv_iload hx hb dX7_prices_99 (lv_at hl 0 rfl) ?_
                              refine lv_if_eq (tgt := 142) hx hb dX7_prices_101 (by decide) (fun c_101 => ?_) (fun c_101 => ?_)
                              · skip
                                exact absurd c_101 (by decide)
                              · skip
                                refine lv_aload_n hx hb dX7_prices_104 rfl (lv_at hl 1 rfl) ?_
                                refine va_get (D := D) (ci := 7) (v := .ref q7) (C := RX7) (T := TX7) (N := 15) hx hb hts kX7_prices_0 hown hK hP 0 rfl rfl 12 (by decide) (hts (.fieldLink RX7 32 "SightRidgeModel" "way" "[I") kX7_prices_2) (fun _ h9 => h9) rfl dX7_prices_105 ?_
                                refine lv_iload hx hb dX7_prices_108 (lv_at hl 5 rfl) ?_
                                refine va_iald hx hb hK hP 2 0 rfl rfl (i := nI zs) (vp_in_nI (N := 20) (by omega) (by decide)) dX7_prices_110 ?_
                                rw [nI_clamp (n := zs) (by omega)]
                                refine lv_topi (fun y_11 e_12 => ?_)
                                have e_12 : nI (C4 zs) = y_11 := (e_12.trans (hu4 zs c3)).symm
                                subst e_12
                                refine lv_if_eq (tgt := 138) hx hb dX7_prices_111 (by decide) (fun c_111 => ?_) (fun c_111 => ?_)
                                · skip
                                  have d4 : C4 zs = 0 := (nI_eq (b := 0) (by omega) (by decide)).mp c_111
                                  refine lv_iconst (v := 1) hx hb dX7_prices_138 (by decide) ?_
                                  refine lv_goto (tgt := 143) hx hb dX7_prices_139 (by decide) ?_
                                  refine lv_istore (lv' := [(7, .int 1), (6, .int 1), (0, .ref q0), (1, .int (nI to)), (2, .int h), (3, .int (nI g4)), (4, .int (nI zs)), (5, .int (nI zt))]) hx hb dX7_prices_143 hl (by decide) rfl (fun ls hl => ?_)
                                  refine lv_aload_n hx hb dX7_prices_145 rfl (lv_at hl 2 rfl) ?_
                                  refine va_get (D := D) (ci := 7) (v := .ref q7) (C := RX7) (T := TX7) (N := 15) hx hb hts kX7_prices_0 hown hK hP 0 rfl rfl 12 (by decide) (hts (.fieldLink RX7 32 "SightRidgeModel" "way" "[I") kX7_prices_2) (fun _ h9 => h9) rfl dX7_prices_146 ?_
                                  refine lv_iload hx hb dX7_prices_149 (lv_at hl 6 rfl) ?_
                                  refine lv_iload hx hb dX7_prices_151 (lv_at hl 0 rfl) ?_
                                  refine lv_if_eq (tgt := 173) hx hb dX7_prices_153 (by decide) (fun c_153 => ?_) (fun c_153 => ?_)
                                  · skip
                                    exact absurd c_153 (by decide)
                                  · skip
                                    refine lv_aload_n hx hb dX7_prices_156 rfl (lv_at hl 2 rfl) ?_
                                    refine va_get (D := D) (ci := 7) (v := .ref q7) (C := RX7) (T := TX7) (N := 15) hx hb hts kX7_prices_0 hown hK hP 0 rfl rfl 12 (by decide) (hts (.fieldLink RX7 32 "SightRidgeModel" "way" "[I") kX7_prices_2) (fun _ h9 => h9) rfl dX7_prices_157 ?_
                                    refine lv_iload hx hb dX7_prices_160 (lv_at hl 7 rfl) ?_
                                    refine va_iald hx hb hK hP 2 0 rfl rfl (i := nI zt) (vp_in_nI (N := 20) (by omega) (by decide)) dX7_prices_162 ?_
                                    rw [nI_clamp (n := zt) (by omega)]
                                    refine lv_topi (fun y_13 e_14 => ?_)
                                    have e_14 : nI (C4 zt) = y_13 := (e_14.trans (hu4 zt c4)).symm
                                    subst e_14
                                    refine lv_aload_n hx hb dX7_prices_163 rfl (lv_at hl 2 rfl) ?_
                                    refine lv_iload hx hb dX7_prices_164 (lv_at hl 6 rfl) ?_
                                    refine rd_calli hP hS (va_runV (As := [.int (nI zs)]) (rest := [.int (nI (C4 zt)), .int (nI zs), .ref q7]) ⟨hx, hb, hml, hown, hts⟩ (c_X7_price l D cI cB cO q0 q1 [.ref q2, .int un, .ref q3, .int fi, .ref q4, .int tl, .ref q5, .ref q6, .int re, .int at0, .int fa, .ref q7, .ref q8, .long hsh] n mm rg bl G M zs hm hmh c3) (cwV 1 hts gX7_prices_X7_price rfl rfl rfl (by decide +kernel) ⟨Nat.le_of_ble_eq_true rfl, Nat.le_of_ble_eq_true rfl⟩) (rd_preV (r := (RX7, TX7, 15)) (ci := 7) hK (hP.pick [0, 1] rfl) hN (q0 := 0) rfl rfl) rfl rfl hl.1 rfl (lv_room (Nat.le_of_ble_eq_true rfl)) dX7_prices_166 ⟨Nat.le_refl _, Nat.le_refl _⟩) (fun r_166 H locs h_166 hP hS => ?_)
                                    subst h_166
                                    refine lv_iadd hx hb dX7_prices_169 ?_
                                    refine lv_topi (fun y_15 e_16 => ?_)
                                    have e_16 : nI ((C4 zt) + (w100 M zs)) = y_15 := (e_16.trans (nI_add (C4 zt) (w100 M zs))).symm
                                    subst e_16
                                    refine lv_goto (tgt := 180) hx hb dX7_prices_170 (by decide) ?_
                                    refine va_iast hx hb hK hP hD hS 2 0 rfl rfl (i := nI zs) (vp_in_nI (N := 20) (by omega) (by decide)) dX7_prices_180 (fun H locs hP hD hS => ?_)
                                    rw [nI_clamp (n := zs) (by omega)] at hP hD
                                    have hP : va_P D vwCl [(q0, .inr (7, [.ref q1, .ref q2, .int un, .ref q3, .int fi, .ref q4, .int tl, .ref q5, .ref q6, .int re, .int at0, .int fa, .ref q7, .ref q8, .long hsh])), (q1, .inl (cI, 43, .inl mm)), (q7, .inl (cI, 20, .inl (upd u4 zs (nI ((C4 zt) + (w100 M zs))))))] _ := hP
                                    have hD : va_D (inW [(q0, .inr (7, [.ref q1, .ref q2, .int un, .ref q3, .int fi, .ref q4, .int tl, .ref q5, .ref q6, .int re, .int at0, .int fa, .ref q7, .ref q8, .long hsh])), (q1, .inl (cI, 43, .inl mm)), (q7, .inl (cI, 20, .inl wy))]) [(q0, .inr (7, [.ref q1, .ref q2, .int un, .ref q3, .int fi, .ref q4, .int tl, .ref q5, .ref q6, .int re, .int at0, .int fa, .ref q7, .ref q8, .long hsh])), (q1, .inl (cI, 43, .inl mm)), (q7, .inl (cI, 20, .inl (upd u4 zs (nI ((C4 zt) + (w100 M zs))))))] := hD
                                    refine lv_iload_n hx hb dX7_prices_181 rfl (lv_at hl 5 rfl) ?_
                                    refine lv_if_ne (tgt := 190) hx hb dX7_prices_182 (by decide) (fun c_182 => ?_) (fun c_182 => ?_)
                                    · skip
                                      have d6 : g4 = 1 := (PG_g hg4).elim (fun q => by subst q; exact absurd rfl c_182) id
                                      subst d6
                                      refine lv_iconst (v := 1) hx hb dX7_prices_190 (by decide) ?_
                                      refine lv_goto (tgt := 195) hx hb dX7_prices_191 (by decide) ?_
                                      refine lv_istore_n (lv' := [(3, .int 1), (7, .int 1), (6, .int 1), (0, .ref q0), (1, .int (nI to)), (2, .int h), (4, .int (nI zs)), (5, .int (nI zt))]) hx hb dX7_prices_195 rfl hl (by decide) rfl (fun ls hl => ?_)
                                      refine lv_iinc (v := nI (zt + 1)) (lv' := [(5, .int (nI (zt + 1))), (3, .int 1), (7, .int 1), (6, .int 1), (0, .ref q0), (1, .int (nI to)), (2, .int h), (4, .int (nI zs))]) hx hb dX7_prices_196 hl (k := 7) rfl (inc1 _) (by decide) rfl (fun ls hl => ?_)
                                      refine lv_goto (tgt := 59) hx hb dX7_prices_199 (by decide) ?_
                                      exact ih_59 (zt + 1) 1 (upd u4 zs (nI ((C4 zt) + (w100 M zs)))) (stp (w100 M) zs zt C4) (by omega) (by omega) (PZ_yes hz4 c3 hws (Nat.succ_pos _) d3 d1 (Or.inl d4)) (PG_yes hg4 c3 hb4 hws (Nat.succ_pos _) (Or.inl d4)) _ _ hP hD hS ls (lv_sub hl [4, 5, 6, 1, 7, 0] rfl)
                                    · skip
                                      have d6 : g4 = 0 := (PG_g hg4).elim id (fun q => by subst q; exact absurd c_182 (by decide))
                                      subst d6
                                      refine lv_iload hx hb dX7_prices_185 (lv_at hl 0 rfl) ?_
                                      refine lv_if_eq (tgt := 194) hx hb dX7_prices_187 (by decide) (fun c_187 => ?_) (fun c_187 => ?_)
                                      · skip
                                        exact absurd c_187 (by decide)
                                      · skip
                                        refine lv_iconst (v := 1) hx hb dX7_prices_190 (by decide) ?_
                                        refine lv_goto (tgt := 195) hx hb dX7_prices_191 (by decide) ?_
                                        refine lv_istore_n (lv' := [(3, .int 1), (7, .int 1), (6, .int 1), (0, .ref q0), (1, .int (nI to)), (2, .int h), (4, .int (nI zs)), (5, .int (nI zt))]) hx hb dX7_prices_195 rfl hl (by decide) rfl (fun ls hl => ?_)
                                        refine lv_iinc (v := nI (zt + 1)) (lv' := [(5, .int (nI (zt + 1))), (3, .int 1), (7, .int 1), (6, .int 1), (0, .ref q0), (1, .int (nI to)), (2, .int h), (4, .int (nI zs))]) hx hb dX7_prices_196 hl (k := 7) rfl (inc1 _) (by decide) rfl (fun ls hl => ?_)
                                        refine lv_goto (tgt := 59) hx hb dX7_prices_199 (by decide) ?_
                                        exact ih_59 (zt + 1) 1 (upd u4 zs (nI ((C4 zt) + (w100 M zs)))) (stp (w100 M) zs zt C4) (by omega) (by omega) (PZ_yes hz4 c3 hws (Nat.succ_pos _) d3 d1 (Or.inl d4)) (PG_yes hg4 c3 hb4 hws (Nat.succ_pos _) (Or.inl d4)) _ _ hP hD hS ls (lv_sub hl [4, 5, 6, 1, 7, 0] rfl)
                                · skip
                                  have d4 : C4 zs ≠ 0 := fun q => c_111 (by rw [q]; rfl)
                                  refine lv_aload_n hx hb dX7_prices_114 rfl (lv_at hl 1 rfl) ?_
                                  refine va_get (D := D) (ci := 7) (v := .ref q7) (C := RX7) (T := TX7) (N := 15) hx hb hts kX7_prices_0 hown hK hP 0 rfl rfl 12 (by decide) (hts (.fieldLink RX7 32 "SightRidgeModel" "way" "[I") kX7_prices_2) (fun _ h9 => h9) rfl dX7_prices_115 ?_
                                  refine lv_iload hx hb dX7_prices_118 (lv_at hl 6 rfl) ?_
                                  refine va_iald hx hb hK hP 2 0 rfl rfl (i := nI zt) (vp_in_nI (N := 20) (by omega) (by decide)) dX7_prices_120 ?_
                                  rw [nI_clamp (n := zt) (by omega)]
                                  refine lv_topi (fun y_17 e_18 => ?_)
                                  have e_18 : nI (C4 zt) = y_17 := (e_18.trans (hu4 zt c4)).symm
                                  subst e_18
                                  refine lv_aload_n hx hb dX7_prices_121 rfl (lv_at hl 1 rfl) ?_
                                  refine lv_iload hx hb dX7_prices_122 (lv_at hl 5 rfl) ?_
                                  refine rd_calli hP hS (va_runV (As := [.int (nI zs)]) (rest := [.int (nI (C4 zt))]) ⟨hx, hb, hml, hown, hts⟩ (c_X7_price l D cI cB cO q0 q1 [.ref q2, .int un, .ref q3, .int fi, .ref q4, .int tl, .ref q5, .ref q6, .int re, .int at0, .int fa, .ref q7, .ref q8, .long hsh] n mm rg bl G M zs hm hmh c3) (cwV 1 hts gX7_prices_X7_price rfl rfl rfl (by decide +kernel) ⟨Nat.le_of_ble_eq_true rfl, Nat.le_of_ble_eq_true rfl⟩) (rd_preV (r := (RX7, TX7, 15)) (ci := 7) hK (hP.pick [0, 1] rfl) hN (q0 := 0) rfl rfl) rfl rfl hl.1 rfl (lv_room (Nat.le_of_ble_eq_true rfl)) dX7_prices_124 ⟨Nat.le_refl _, Nat.le_refl _⟩) (fun r_124 H locs h_124 hP hS => ?_)
                                  subst h_124
                                  refine lv_iadd hx hb dX7_prices_127 ?_
                                  refine lv_topi (fun y_19 e_20 => ?_)
                                  have e_20 : nI ((C4 zt) + (w100 M zs)) = y_19 := (e_20.trans (nI_add (C4 zt) (w100 M zs))).symm
                                  subst e_20
                                  refine lv_aload_n hx hb dX7_prices_128 rfl (lv_at hl 1 rfl) ?_
                                  refine va_get (D := D) (ci := 7) (v := .ref q7) (C := RX7) (T := TX7) (N := 15) hx hb hts kX7_prices_0 hown hK hP 0 rfl rfl 12 (by decide) (hts (.fieldLink RX7 32 "SightRidgeModel" "way" "[I") kX7_prices_2) (fun _ h9 => h9) rfl dX7_prices_129 ?_
                                  refine lv_iload hx hb dX7_prices_132 (lv_at hl 5 rfl) ?_
                                  refine va_iald hx hb hK hP 2 0 rfl rfl (i := nI zs) (vp_in_nI (N := 20) (by omega) (by decide)) dX7_prices_134 ?_
                                  rw [nI_clamp (n := zs) (by omega)]
                                  refine lv_topi (fun y_21 e_22 => ?_)
                                  have e_22 : nI (C4 zs) = y_21 := (e_22.trans (hu4 zs c3)).symm
                                  subst e_22
                                  refine lv_icmp_ge (tgt := 142) hx hb dX7_prices_135 (by decide) (fun c_135 => ?_) (fun c_135 => ?_)
                                  · skip
                                    have d5 : C4 zs ≤ C4 zt + w100 M zs := (nI_leI (by omega) (by omega)).mp c_135
                                    refine lv_iconst (v := 0) hx hb dX7_prices_142 (by decide) ?_
                                    refine lv_istore (lv' := [(7, .int 0), (6, .int 1), (0, .ref q0), (1, .int (nI to)), (2, .int h), (3, .int (nI g4)), (4, .int (nI zs)), (5, .int (nI zt))]) hx hb dX7_prices_143 hl (by decide) rfl (fun ls hl => ?_)
                                    refine lv_aload_n hx hb dX7_prices_145 rfl (lv_at hl 2 rfl) ?_
                                    refine va_get (D := D) (ci := 7) (v := .ref q7) (C := RX7) (T := TX7) (N := 15) hx hb hts kX7_prices_0 hown hK hP 0 rfl rfl 12 (by decide) (hts (.fieldLink RX7 32 "SightRidgeModel" "way" "[I") kX7_prices_2) (fun _ h9 => h9) rfl dX7_prices_146 ?_
                                    refine lv_iload hx hb dX7_prices_149 (lv_at hl 6 rfl) ?_
                                    refine lv_iload hx hb dX7_prices_151 (lv_at hl 0 rfl) ?_
                                    refine lv_if_eq (tgt := 173) hx hb dX7_prices_153 (by decide) (fun c_153 => ?_) (fun c_153 => ?_)
                                    · skip
                                      refine lv_aload_n hx hb dX7_prices_173 rfl (lv_at hl 2 rfl) ?_
                                      refine va_get (D := D) (ci := 7) (v := .ref q7) (C := RX7) (T := TX7) (N := 15) hx hb hts kX7_prices_0 hown hK hP 0 rfl rfl 12 (by decide) (hts (.fieldLink RX7 32 "SightRidgeModel" "way" "[I") kX7_prices_2) (fun _ h9 => h9) rfl dX7_prices_174 ?_
                                      refine lv_iload hx hb dX7_prices_177 (lv_at hl 6 rfl) ?_
                                      refine va_iald hx hb hK hP 2 0 rfl rfl (i := nI zs) (vp_in_nI (N := 20) (by omega) (by decide)) dX7_prices_179 ?_
                                      rw [nI_clamp (n := zs) (by omega)]
                                      refine lv_topi (fun y_23 e_24 => ?_)
                                      have e_24 : nI (C4 zs) = y_23 := (e_24.trans (hu4 zs c3)).symm
                                      subst e_24
                                      refine va_iast hx hb hK hP hD hS 2 0 rfl rfl (i := nI zs) (vp_in_nI (N := 20) (by omega) (by decide)) dX7_prices_180 (fun H locs hP hD hS => ?_)
                                      rw [nI_clamp (n := zs) (by omega)] at hP hD
                                      have hP : va_P D vwCl [(q0, .inr (7, [.ref q1, .ref q2, .int un, .ref q3, .int fi, .ref q4, .int tl, .ref q5, .ref q6, .int re, .int at0, .int fa, .ref q7, .ref q8, .long hsh])), (q1, .inl (cI, 43, .inl mm)), (q7, .inl (cI, 20, .inl (upd u4 zs (nI (C4 zs)))))] _ := hP
                                      have hD : va_D (inW [(q0, .inr (7, [.ref q1, .ref q2, .int un, .ref q3, .int fi, .ref q4, .int tl, .ref q5, .ref q6, .int re, .int at0, .int fa, .ref q7, .ref q8, .long hsh])), (q1, .inl (cI, 43, .inl mm)), (q7, .inl (cI, 20, .inl wy))]) [(q0, .inr (7, [.ref q1, .ref q2, .int un, .ref q3, .int fi, .ref q4, .int tl, .ref q5, .ref q6, .int re, .int at0, .int fa, .ref q7, .ref q8, .long hsh])), (q1, .inl (cI, 43, .inl mm)), (q7, .inl (cI, 20, .inl (upd u4 zs (nI (C4 zs)))))] := hD
                                      refine lv_iload_n hx hb dX7_prices_181 rfl (lv_at hl 5 rfl) ?_
                                      refine lv_if_ne (tgt := 190) hx hb dX7_prices_182 (by decide) (fun c_182 => ?_) (fun c_182 => ?_)
                                      · skip
                                        have d6 : g4 = 1 := (PG_g hg4).elim (fun q => by subst q; exact absurd rfl c_182) id
                                        subst d6
                                        refine lv_iconst (v := 1) hx hb dX7_prices_190 (by decide) ?_
                                        refine lv_goto (tgt := 195) hx hb dX7_prices_191 (by decide) ?_
                                        refine lv_istore_n (lv' := [(3, .int 1), (7, .int 0), (6, .int 1), (0, .ref q0), (1, .int (nI to)), (2, .int h), (4, .int (nI zs)), (5, .int (nI zt))]) hx hb dX7_prices_195 rfl hl (by decide) rfl (fun ls hl => ?_)
                                        refine lv_iinc (v := nI (zt + 1)) (lv' := [(5, .int (nI (zt + 1))), (3, .int 1), (7, .int 0), (6, .int 1), (0, .ref q0), (1, .int (nI to)), (2, .int h), (4, .int (nI zs))]) hx hb dX7_prices_196 hl (k := 7) rfl (inc1 _) (by decide) rfl (fun ls hl => ?_)
                                        refine lv_goto (tgt := 59) hx hb dX7_prices_199 (by decide) ?_
                                        exact ih_59 (zt + 1) 1 (upd u4 zs (nI (C4 zs))) C4 (by omega) (by omega) (PZ_same hz4 c3) (PG_no hg4 (fun _ _ => ⟨d4, by omega⟩)) _ _ hP hD hS ls (lv_sub hl [4, 5, 6, 1, 7, 0] rfl)
                                      · skip
                                        have d6 : g4 = 0 := (PG_g hg4).elim id (fun q => by subst q; exact absurd c_182 (by decide))
                                        subst d6
                                        refine lv_iload hx hb dX7_prices_185 (lv_at hl 0 rfl) ?_
                                        refine lv_if_eq (tgt := 194) hx hb dX7_prices_187 (by decide) (fun c_187 => ?_) (fun c_187 => ?_)
                                        · skip
                                          refine lv_iconst (v := 0) hx hb dX7_prices_194 (by decide) ?_
                                          refine lv_istore_n (lv' := [(3, .int 0), (7, .int 0), (6, .int 1), (0, .ref q0), (1, .int (nI to)), (2, .int h), (4, .int (nI zs)), (5, .int (nI zt))]) hx hb dX7_prices_195 rfl hl (by decide) rfl (fun ls hl => ?_)
                                          refine lv_iinc (v := nI (zt + 1)) (lv' := [(5, .int (nI (zt + 1))), (3, .int 0), (7, .int 0), (6, .int 1), (0, .ref q0), (1, .int (nI to)), (2, .int h), (4, .int (nI zs))]) hx hb dX7_prices_196 hl (k := 7) rfl (inc1 _) (by decide) rfl (fun ls hl => ?_)
                                          refine lv_goto (tgt := 59) hx hb dX7_prices_199 (by decide) ?_
                                          exact ih_59 (zt + 1) 0 (upd u4 zs (nI (C4 zs))) C4 (by omega) (by omega) (PZ_same hz4 c3) (PG_no hg4 (fun _ _ => ⟨d4, by omega⟩)) _ _ hP hD hS ls (lv_sub hl [4, 5, 6, 1, 7, 0] rfl)
                                        · skip
                                          exact absurd (by decide) c_187
                                    · skip
                                      exact absurd (by decide) c_153
                                  · skip
                                    have d5 : C4 zt + w100 M zs < C4 zs := Nat.lt_of_not_le (fun q => c_135 ((nI_leI (by omega) (by omega)).mpr q))
                                    refine lv_iconst (v := 1) hx hb dX7_prices_138 (by decide) ?_
                                    refine lv_goto (tgt := 143) hx hb dX7_prices_139 (by decide) ?_
                                    refine lv_istore (lv' := [(7, .int 1), (6, .int 1), (0, .ref q0), (1, .int (nI to)), (2, .int h), (3, .int (nI g4)), (4, .int (nI zs)), (5, .int (nI zt))]) hx hb dX7_prices_143 hl (by decide) rfl (fun ls hl => ?_)
                                    refine lv_aload_n hx hb dX7_prices_145 rfl (lv_at hl 2 rfl) ?_
                                    refine va_get (D := D) (ci := 7) (v := .ref q7) (C := RX7) (T := TX7) (N := 15) hx hb hts kX7_prices_0 hown hK hP 0 rfl rfl 12 (by decide) (hts (.fieldLink RX7 32 "SightRidgeModel" "way" "[I") kX7_prices_2) (fun _ h9 => h9) rfl dX7_prices_146 ?_
                                    refine lv_iload hx hb dX7_prices_149 (lv_at hl 6 rfl) ?_
                                    refine lv_iload hx hb dX7_prices_151 (lv_at hl 0 rfl) ?_
                                    refine lv_if_eq (tgt := 173) hx hb dX7_prices_153 (by decide) (fun c_153 => ?_) (fun c_153 => ?_)
                                    · skip
                                      exact absurd c_153 (by decide)
                                    · skip
                                      refine lv_aload_n hx hb dX7_prices_156 rfl (lv_at hl 2 rfl) ?_
                                      refine va_get (D := D) (ci := 7) (v := .ref q7) (C := RX7) (T := TX7) (N := 15) hx hb hts kX7_prices_0 hown hK hP 0 rfl rfl 12 (by decide) (hts (.fieldLink RX7 32 "SightRidgeModel" "way" "[I") kX7_prices_2) (fun _ h9 => h9) rfl dX7_prices_157 ?_
                                      refine lv_iload hx hb dX7_prices_160 (lv_at hl 7 rfl) ?_
                                      refine va_iald hx hb hK hP 2 0 rfl rfl (i := nI zt) (vp_in_nI (N := 20) (by omega) (by decide)) dX7_prices_162 ?_
                                      rw [nI_clamp (n := zt) (by omega)]
                                      refine lv_topi (fun y_25 e_26 => ?_)
                                      have e_26 : nI (C4 zt) = y_25 := (e_26.trans (hu4 zt c4)).symm
                                      subst e_26
                                      refine lv_aload_n hx hb dX7_prices_163 rfl (lv_at hl 2 rfl) ?_
                                      refine lv_iload hx hb dX7_prices_164 (lv_at hl 6 rfl) ?_
                                      refine rd_calli hP hS (va_runV (As := [.int (nI zs)]) (rest := [.int (nI (C4 zt)), .int (nI zs), .ref q7]) ⟨hx, hb, hml, hown, hts⟩ (c_X7_price l D cI cB cO q0 q1 [.ref q2, .int un, .ref q3, .int fi, .ref q4, .int tl, .ref q5, .ref q6, .int re, .int at0, .int fa, .ref q7, .ref q8, .long hsh] n mm rg bl G M zs hm hmh c3) (cwV 1 hts gX7_prices_X7_price rfl rfl rfl (by decide +kernel) ⟨Nat.le_of_ble_eq_true rfl, Nat.le_of_ble_eq_true rfl⟩) (rd_preV (r := (RX7, TX7, 15)) (ci := 7) hK (hP.pick [0, 1] rfl) hN (q0 := 0) rfl rfl) rfl rfl hl.1 rfl (lv_room (Nat.le_of_ble_eq_true rfl)) dX7_prices_166 ⟨Nat.le_refl _, Nat.le_refl _⟩) (fun r_166 H locs h_166 hP hS => ?_)
                                      subst h_166
                                      refine lv_iadd hx hb dX7_prices_169 ?_
                                      refine lv_topi (fun y_27 e_28 => ?_)
                                      have e_28 : nI ((C4 zt) + (w100 M zs)) = y_27 := (e_28.trans (nI_add (C4 zt) (w100 M zs))).symm
                                      subst e_28
                                      refine lv_goto (tgt := 180) hx hb dX7_prices_170 (by decide) ?_
                                      refine va_iast hx hb hK hP hD hS 2 0 rfl rfl (i := nI zs) (vp_in_nI (N := 20) (by omega) (by decide)) dX7_prices_180 (fun H locs hP hD hS => ?_)
                                      rw [nI_clamp (n := zs) (by omega)] at hP hD
                                      have hP : va_P D vwCl [(q0, .inr (7, [.ref q1, .ref q2, .int un, .ref q3, .int fi, .ref q4, .int tl, .ref q5, .ref q6, .int re, .int at0, .int fa, .ref q7, .ref q8, .long hsh])), (q1, .inl (cI, 43, .inl mm)), (q7, .inl (cI, 20, .inl (upd u4 zs (nI ((C4 zt) + (w100 M zs))))))] _ := hP
                                      have hD : va_D (inW [(q0, .inr (7, [.ref q1, .ref q2, .int un, .ref q3, .int fi, .ref q4, .int tl, .ref q5, .ref q6, .int re, .int at0, .int fa, .ref q7, .ref q8, .long hsh])), (q1, .inl (cI, 43, .inl mm)), (q7, .inl (cI, 20, .inl wy))]) [(q0, .inr (7, [.ref q1, .ref q2, .int un, .ref q3, .int fi, .ref q4, .int tl, .ref q5, .ref q6, .int re, .int at0, .int fa, .ref q7, .ref q8, .long hsh])), (q1, .inl (cI, 43, .inl mm)), (q7, .inl (cI, 20, .inl (upd u4 zs (nI ((C4 zt) + (w100 M zs))))))] := hD
                                      refine lv_iload_n hx hb dX7_prices_181 rfl (lv_at hl 5 rfl) ?_
                                      refine lv_if_ne (tgt := 190) hx hb dX7_prices_182 (by decide) (fun c_182 => ?_) (fun c_182 => ?_)
                                      · skip
                                        have d6 : g4 = 1 := (PG_g hg4).elim (fun q => by subst q; exact absurd rfl c_182) id
                                        subst d6
                                        refine lv_iconst (v := 1) hx hb dX7_prices_190 (by decide) ?_
                                        refine lv_goto (tgt := 195) hx hb dX7_prices_191 (by decide) ?_
                                        refine lv_istore_n (lv' := [(3, .int 1), (7, .int 1), (6, .int 1), (0, .ref q0), (1, .int (nI to)), (2, .int h), (4, .int (nI zs)), (5, .int (nI zt))]) hx hb dX7_prices_195 rfl hl (by decide) rfl (fun ls hl => ?_)
                                        refine lv_iinc (v := nI (zt + 1)) (lv' := [(5, .int (nI (zt + 1))), (3, .int 1), (7, .int 1), (6, .int 1), (0, .ref q0), (1, .int (nI to)), (2, .int h), (4, .int (nI zs))]) hx hb dX7_prices_196 hl (k := 7) rfl (inc1 _) (by decide) rfl (fun ls hl => ?_)
                                        refine lv_goto (tgt := 59) hx hb dX7_prices_199 (by decide) ?_
                                        exact ih_59 (zt + 1) 1 (upd u4 zs (nI ((C4 zt) + (w100 M zs)))) (stp (w100 M) zs zt C4) (by omega) (by omega) (PZ_yes hz4 c3 hws (Nat.succ_pos _) d3 d1 (Or.inr d5)) (PG_yes hg4 c3 hb4 hws (Nat.succ_pos _) (Or.inr d5)) _ _ hP hD hS ls (lv_sub hl [4, 5, 6, 1, 7, 0] rfl)
                                      · skip
                                        have d6 : g4 = 0 := (PG_g hg4).elim id (fun q => by subst q; exact absurd c_182 (by decide))
                                        subst d6
                                        refine lv_iload hx hb dX7_prices_185 (lv_at hl 0 rfl) ?_
                                        refine lv_if_eq (tgt := 194) hx hb dX7_prices_187 (by decide) (fun c_187 => ?_) (fun c_187 => ?_)
                                        · skip
                                          exact absurd c_187 (by decide)
                                        · skip
                                          refine lv_iconst (v := 1) hx hb dX7_prices_190 (by decide) ?_
                                          refine lv_goto (tgt := 195) hx hb dX7_prices_191 (by decide) ?_
                                          refine lv_istore_n (lv' := [(3, .int 1), (7, .int 1), (6, .int 1), (0, .ref q0), (1, .int (nI to)), (2, .int h), (4, .int (nI zs)), (5, .int (nI zt))]) hx hb dX7_prices_195 rfl hl (by decide) rfl (fun ls hl => ?_)
                                          refine lv_iinc (v := nI (zt + 1)) (lv' := [(5, .int (nI (zt + 1))), (3, .int 1), (7, .int 1), (6, .int 1), (0, .ref q0), (1, .int (nI to)), (2, .int h), (4, .int (nI zs))]) hx hb dX7_prices_196 hl (k := 7) rfl (inc1 _) (by decide) rfl (fun ls hl => ?_)
                                          refine lv_goto (tgt := 59) hx hb dX7_prices_199 (by decide) ?_
                                          exact ih_59 (zt + 1) 1 (upd u4 zs (nI ((C4 zt) + (w100 M zs)))) (stp (w100 M) zs zt C4) (by omega) (by omega) (PZ_yes hz4 c3 hws (Nat.succ_pos _) d3 d1 (Or.inr d5)) (PG_yes hg4 c3 hb4 hws (Nat.succ_pos _) (Or.inr d5)) _ _ hP hD hS ls (lv_sub hl [4, 5, 6, 1, 7, 0] rfl)
                    exact L_59 _ 0 g u3 C3 (Nat.lt_succ_self _) (by omega) (hz3) (hg3) _ _ hP hD hS ls (lv_sub hl [1, 2, 3, 4, 5, 0] rfl)
              exact L_45 _ 0 0 u2 C2 (Nat.lt_succ_self _) (by omega) (hz) (PG_0) _ _ hP hD hS ls (lv_sub hl [2, 3, 4, 1, 0] rfl)
        exact L_36 _ 1 u (fun k => if k = to then w100 M to else 0) (Nat.lt_succ_self _) (hP0) (Or.inl rfl) _ _ hP hD hS ls (lv_sub hl [1, 2, 3, 0] rfl)
      · skip
        have c0 : i < 20 := ge_f (by omega) c_5
        refine lv_aload_n hx hb dX7_prices_8 rfl (lv_at hl 0 rfl) ?_
        refine va_get (D := D) (ci := 7) (v := .ref q7) (C := RX7) (T := TX7) (N := 15) hx hb hts kX7_prices_0 hown hK hP 0 rfl rfl 12 (by decide) (hts (.fieldLink RX7 32 "SightRidgeModel" "way" "[I") kX7_prices_2) (fun _ h9 => h9) rfl dX7_prices_9 ?_
        refine lv_iload_n hx hb dX7_prices_12 rfl (lv_at hl 3 rfl) ?_
        refine lv_iload_n hx hb dX7_prices_13 rfl (lv_at hl 3 rfl) ?_
        refine lv_iload_n hx hb dX7_prices_14 rfl (lv_at hl 1 rfl) ?_
        refine lv_icmp_ne (tgt := 26) hx hb dX7_prices_15 (by decide) (fun c_15 => ?_) (fun c_15 => ?_)
        · skip
          have c1 : ¬ i = to := fun z => c_15 (by rw [z])
          refine lv_iconst (v := 0) hx hb dX7_prices_26 (by decide) ?_
          refine va_iast hx hb hK hP hD hS 2 0 rfl rfl (i := nI i) (vp_in_nI (N := 20) (by omega) (by decide)) dX7_prices_27 (fun H locs hP hD hS => ?_)
          rw [nI_clamp (n := i) (by omega)] at hP hD
          have hP : va_P D vwCl [(q0, .inr (7, [.ref q1, .ref q2, .int un, .ref q3, .int fi, .ref q4, .int tl, .ref q5, .ref q6, .int re, .int at0, .int fa, .ref q7, .ref q8, .long hsh])), (q1, .inl (cI, 43, .inl mm)), (q7, .inl (cI, 20, .inl (upd u i 0)))] _ := hP
          have hD : va_D (inW [(q0, .inr (7, [.ref q1, .ref q2, .int un, .ref q3, .int fi, .ref q4, .int tl, .ref q5, .ref q6, .int re, .int at0, .int fa, .ref q7, .ref q8, .long hsh])), (q1, .inl (cI, 43, .inl mm)), (q7, .inl (cI, 20, .inl wy))]) [(q0, .inr (7, [.ref q1, .ref q2, .int un, .ref q3, .int fi, .ref q4, .int tl, .ref q5, .ref q6, .int re, .int at0, .int fa, .ref q7, .ref q8, .long hsh])), (q1, .inl (cI, 43, .inl mm)), (q7, .inl (cI, 20, .inl (upd u i 0)))] := hD
          refine lv_iinc (v := nI (i + 1)) (lv' := [(3, .int (nI (i + 1))), (0, .ref q0), (1, .int (nI to)), (2, .int h)]) hx hb dX7_prices_28 hl (k := 3) rfl (inc1 _) (by decide) rfl (fun ls hl => ?_)
          refine lv_goto (tgt := 2) hx hb dX7_prices_31 (by decide) ?_
          exact ih_2 (i + 1) (upd u i 0) (by omega) (by omega) (by first | exact up_s hu (F := fun k => nI (if k = to then w100 M to else 0)) (by rw [if_pos c1, ← c1]) | exact up_s hu (F := fun k => nI (if k = to then w100 M to else 0)) (by rw [if_neg c1]; rfl) | fail) _ _ hP hD hS ls (lv_sub hl [1, 2, 3, 0] rfl)
        · skip
          have c1 : i = to := (nI_eq (by omega) (by omega)).mp c_15
          refine lv_aload_n hx hb dX7_prices_18 rfl (lv_at hl 0 rfl) ?_
          refine lv_iload_n hx hb dX7_prices_19 rfl (lv_at hl 3 rfl) ?_
          refine rd_calli hP hS (va_runV (As := [.int (nI i)]) (rest := [.int (nI i), .ref q7]) ⟨hx, hb, hml, hown, hts⟩ (c_X7_price l D cI cB cO q0 q1 [.ref q2, .int un, .ref q3, .int fi, .ref q4, .int tl, .ref q5, .ref q6, .int re, .int at0, .int fa, .ref q7, .ref q8, .long hsh] n mm rg bl G M i hm hmh (by omega)) (cwV 1 hts gX7_prices_X7_price rfl rfl rfl (by decide +kernel) ⟨Nat.le_of_ble_eq_true rfl, Nat.le_of_ble_eq_true rfl⟩) (rd_preV (r := (RX7, TX7, 15)) (ci := 7) hK (hP.pick [0, 1] rfl) hN (q0 := 0) rfl rfl) rfl rfl hl.1 rfl (lv_room (Nat.le_of_ble_eq_true rfl)) dX7_prices_20 ⟨Nat.le_refl _, Nat.le_refl _⟩) (fun r_20 H locs h_20 hP hS => ?_)
          subst h_20
          refine lv_goto (tgt := 27) hx hb dX7_prices_23 (by decide) ?_
          refine va_iast hx hb hK hP hD hS 2 0 rfl rfl (i := nI i) (vp_in_nI (N := 20) (by omega) (by decide)) dX7_prices_27 (fun H locs hP hD hS => ?_)
          rw [nI_clamp (n := i) (by omega)] at hP hD
          have hP : va_P D vwCl [(q0, .inr (7, [.ref q1, .ref q2, .int un, .ref q3, .int fi, .ref q4, .int tl, .ref q5, .ref q6, .int re, .int at0, .int fa, .ref q7, .ref q8, .long hsh])), (q1, .inl (cI, 43, .inl mm)), (q7, .inl (cI, 20, .inl (upd u i (nI (w100 M i)))))] _ := hP
          have hD : va_D (inW [(q0, .inr (7, [.ref q1, .ref q2, .int un, .ref q3, .int fi, .ref q4, .int tl, .ref q5, .ref q6, .int re, .int at0, .int fa, .ref q7, .ref q8, .long hsh])), (q1, .inl (cI, 43, .inl mm)), (q7, .inl (cI, 20, .inl wy))]) [(q0, .inr (7, [.ref q1, .ref q2, .int un, .ref q3, .int fi, .ref q4, .int tl, .ref q5, .ref q6, .int re, .int at0, .int fa, .ref q7, .ref q8, .long hsh])), (q1, .inl (cI, 43, .inl mm)), (q7, .inl (cI, 20, .inl (upd u i (nI (w100 M i)))))] := hD
          refine lv_iinc (v := nI (i + 1)) (lv' := [(3, .int (nI (i + 1))), (0, .ref q0), (1, .int (nI to)), (2, .int h)]) hx hb dX7_prices_28 hl (k := 3) rfl (inc1 _) (by decide) rfl (fun ls hl => ?_)
          refine lv_goto (tgt := 2) hx hb dX7_prices_31 (by decide) ?_
          exact ih_2 (i + 1) (upd u i (nI (w100 M i))) (by omega) (by omega) (by first | exact up_s hu (F := fun k => nI (if k = to then w100 M to else 0)) (by rw [if_pos c1, ← c1]) | exact up_s hu (F := fun k => nI (if k = to then w100 M to else 0)) (by rw [if_neg c1]; rfl) | fail) _ _ hP hD hS ls (lv_sub hl [1, 2, 3, 0] rfl)
  exact L_2 _ 0 wy (Nat.lt_succ_self _) (by omega) (up_0) _ _ hP hD hS ls (lv_sub hl [1, 2, 3, 0] rfl)
theorem low_1 : ∀ n, n < 21 → 0 < n → nI (2 ^ n - 1) &&& -(nI (2 ^ n - 1)) = nI 1 := by decide +kernel
/-- Y is what was, Z what is; the stations of Y have brought theirs -/
def GZ (L : Nat → Nat → Bool) (n Y i Z : Nat) : Prop := Z < 2 ^ n ∧ Z.testBit 0 = true ∧ (∀ k, k < n → Y.testBit k = true → Z.testBit k = true) ∧ (∀ k, k < i → k < n → Y.testBit k = true → ∀ v, v < n → L k v = true → Z.testBit v = true)
section GRP
variable {L : Nat → Nat → Bool} {n Y Z i : Nat}
theorem GZ_00 (hn : 0 < n) : GZ L n 0 n 1 := by
  refine ⟨?_, by decide, fun k _ h => ?_, fun k _ _ h => ?_⟩
  · have : (2 : Nat) ^ 1 ≤ 2 ^ n := Nat.pow_le_pow_right (by decide) hn
    omega
  · rw [Nat.zero_testBit] at h; cases h
  · rw [Nat.zero_testBit] at h; cases h
theorem GZ_0 (h : GZ L n Y i Z) : GZ L n Z 0 Z := ⟨h.1, h.2.1, fun _ _ h => h, fun k hk => absurd hk (Nat.not_lt_zero k)⟩
theorem GZ_T (h : GZ L n Y i Z) (hi : i < n) : GZ L n Y (i + 1) (Z ||| bs (L i) n) := by
  obtain ⟨h1, h2, h3, h4⟩ := h
  refine ⟨Nat.or_lt_two_pow h1 (bs_lt _ n), by rw [Nat.testBit_or, h2]; rfl, fun k hk q => by rw [Nat.testBit_or, h3 k hk q]; rfl, fun k hk hk2 q v hv q2 => ?_⟩
  rw [Nat.testBit_or, bs_in hv]
  rcases Nat.lt_succ_iff_lt_or_eq.mp hk with z | z
  · rw [h4 k z hk2 q v hv q2]; rfl
  · rw [← z, q2, Bool.or_true]
theorem GZ_F (h : GZ L n Y i Z) (c : Y.testBit i = false) : GZ L n Y (i + 1) (Z ||| 0) := by
  obtain ⟨h1, h2, h3, h4⟩ := h
  rw [Nat.or_zero]
  refine ⟨h1, h2, h3, fun k hk hk2 q v hv q2 => ?_⟩
  rcases Nat.lt_succ_iff_lt_or_eq.mp hk with z | z
  · exact h4 k z hk2 q v hv q2
  · rw [z, c] at q; cases q
theorem GZ_n (h : GZ L n Y i Z) (hi : n ≤ i) : GZ L n Y n Z := ⟨h.1, h.2.1, h.2.2.1, fun k hk hk2 => h.2.2.2 k (by omega) hk2⟩
theorem GZ_end (h : GZ L n Z n Z) (hrow : ∀ k, k + 1 < n → L k (k + 1) = true) : Z = 2 ^ n - 1 := by
  obtain ⟨h1, h2, h3, h4⟩ := h
  refine all_bits h1 (fun v => ?_)
  induction v with
  | zero => intro _; exact h2
  | succ v ih => intro hv; exact h4 v (by omega) (by omega) (ih (by omega)) (v + 1) hv (hrow v hv)
theorem GZ_dec (h : GZ L n Y n Z) (hc : ¬ Y = Z) (hy : Y < 2 ^ n) : fb_ct (fun k => Y.testBit k) n < fb_ct (fun k => Z.testBit k) n := by
  refine Decidable.byContradiction (fun q => hc (Nat.eq_of_testBit_eq (fun i => ?_)))
  have h5 := ct_eq (p := fun k => Y.testBit k) (q := fun k => Z.testBit k) h.2.2.1 (by omega)
  rcases Nat.lt_or_ge i n with z | z
  · refine Bool.eq_iff_iff.mpr ⟨h.2.2.1 i z, h5 i z⟩
  · have e := Nat.pow_le_pow_right (n := 2) (by decide) z
    rw [Nat.testBit_lt_two_pow (Nat.lt_of_lt_of_le hy e), Nat.testBit_lt_two_pow (Nat.lt_of_lt_of_le h.1 e)]
end GRP
theorem wx_out {x n k : Nat} (hx : x < 2 ^ n) (hk : n ≤ k) : x.testBit k = false := Nat.testBit_lt_two_pow (Nat.lt_of_lt_of_le hx (Nat.pow_le_pow_right (by decide) hk))
theorem wx_20 {x n i : Nat} (hn : n ≤ 20) (hx : x < 2 ^ n) (hi : n ≤ i) (hi2 : i ≤ 20 := by omega) : fb_ct (fun z => x.testBit z) 20 = fb_ct (fun z => x.testBit z) i := fb_ct_stop (P := fun z => x.testBit z) hi2 (fun j h1 _ => wx_out hx (by omega))
theorem wx_in {x n i k : Nat} (hx : x < 2 ^ n) (hi : n ≤ i) (h : x.testBit k = true) : k < i := by
  refine Decidable.byContradiction (fun q => ?_)
  rw [wx_out hx (by omega)] at h; cases h
theorem lt_20 {x n : Nat} (hn : n ≤ 20) (h : x < 2 ^ n) : x < 2 ^ 20 := Nat.lt_of_lt_of_le h (Nat.pow_le_pow_right (by decide) hn)
theorem kX7_groups_0 : ∀ w ∈ wsX70, w ∈ wsX7_groups := by decide +kernel
theorem kX7_groups_1 : (.fieldLink RX7 7 "SightRidgeModel" "m" "[I" : Cond) ∈ wsX7_groups := by decide +kernel
set_option maxHeartbeats 4000000 in
set_option maxRecDepth 100000 in
/-- groups() -/
theorem c_X7_groups (l : Launch) (D : va_G) (cI cB cO : ClassId) (o q1 : Nat) (fs : List Value) (n : Nat) (mm : Nat → Int32) (rg bl : Int32) (G M : Nat → Int32) (hm : MOK n mm rg bl G M) (hrow : ∀ k, k + 1 < n → conB G M rg bl k (k + 1) = true) : Met l yX7_groups wsX7_groups (rmD 6) (rdPc D (tyL cI cB cO) [.ref o] [(o, .inr (7, .ref q1 :: fs)), (q1, .inl (cI, 43, .inl mm))]) (rdQi (fun r => r = 1)) 0 0 noA := by
  refine Met.ofW (cc := cX7_groups) (maxL := 6) (ret := (some .int)) (by decide) rfl ?_
  intro p e s m args below meth c s₁ B hml hv
  obtain ⟨rfl, hP, hK, hN⟩ := hv
  have hx := B.exec
  have hb := B.bytes
  have hr := B.returns
  have hts := atoms_spec (ws := wsX7_groups) B.pre
  have hown : s.vm.findClass RX7 = some m.cls := findClass_of_methodNamed B.named
  have hlocks := B.notSynchronized
  have hS : va_S noA s.heap s.heap [] := va_S.rf
  have hl := lv_entry ([.ref o]) (n := 6) (Nat.le_of_ble_eq_true rfl)
  rw [lg_entry_eq]
  generalize (lg_sl ([.ref o]) ++ List.replicate (6 - (lg_sl ([.ref o])).length) Slot.unset).toArray = ls at hl ⊢
  have hl : lv_has ls 6 [(0, .ref o)] := hl
  obtain ⟨hn, hn1, hm0, hm1, hm2, hG, hM⟩ := id hm
  refine lv_iconst (v := 1) hx hb dX7_groups_0 (by decide) ?_
  refine lv_aload_n hx hb dX7_groups_1 rfl (lv_at hl 0 rfl) ?_
  refine va_get (D := D) (ci := 7) (v := .ref q1) (C := RX7) (T := TX7) (N := 15) hx hb hts kX7_groups_0 hown hK hP 0 rfl rfl 0 (by decide) (hts (.fieldLink RX7 7 "SightRidgeModel" "m" "[I") kX7_groups_1) (fun _ h9 => h9) rfl dX7_groups_2 ?_
  refine lv_iconst (v := 0) hx hb dX7_groups_5 (by decide) ?_
  refine va_iald hx hb hK hP 1 0 rfl rfl (i := nI 0) (vp_in_nI (N := 43) (by decide) (by decide)) dX7_groups_6 ?_
  rw [nI_clamp (n := 0) (by decide)]
  refine lv_topi (fun y_1 e_2 => ?_)
  have e_2 : nI n = y_1 := (e_2.trans (hm0)).symm
  subst e_2
  refine lv_ishl hx hb dX7_groups_7 ?_
  refine lv_topi (fun y_3 e_4 => ?_)
  have e_4 : nI (2 ^ n) = y_3 := (e_4.trans (shl1 (by omega))).symm
  subst e_4
  refine lv_iconst (v := 1) hx hb dX7_groups_8 (by decide) ?_
  refine lv_isub hx hb dX7_groups_9 ?_
  refine lv_topi (fun y_5 e_6 => ?_)
  have e_6 : nI (2 ^ n - 1) = y_5 := (e_6.trans ((pk_sub (a := 2 ^ n) (b := 1) (Nat.pos_of_ne_zero (by simp))))).symm
  subst e_6
  refine lv_istore_n (lv' := [(1, .int (nI (2 ^ n - 1))), (0, .ref o)]) hx hb dX7_groups_10 rfl hl (by decide) rfl (fun ls hl => ?_)
  refine lv_iconst (v := 0) hx hb dX7_groups_11 (by decide) ?_
  refine lv_istore_n (lv' := [(2, .int 0), (1, .int (nI (2 ^ n - 1))), (0, .ref o)]) hx hb dX7_groups_12 rfl hl (by decide) rfl (fun ls hl => ?_)
  have hp : (2 : Nat) ^ n ≤ 2 ^ 20 := Nat.pow_le_pow_right (by decide) hn
  have hp1 : (2 : Nat) ^ 1 ≤ 2 ^ n := Nat.pow_le_pow_right (by decide) (by omega)
  have L_13 : ∀ (k_13 : Nat) (w : Nat) (g : Nat), w < k_13 → ((w = 2 ^ n - 1 ∧ g = 0) ∨ (w = 0 ∧ g = 1)) → ∀ (H : Heap) (locs : List Loc), va_P D vwCl [(o, .inr (7, .ref q1 :: fs)), (q1, .inl (cI, 43, .inl mm))] H → va_S noA s.heap H locs → ∀ (ls : Array Slot), lv_has ls 6 [(0, .ref o), (1, .int (nI w)), (2, .int (nI g))] → W p l e (rmD 6) s m ([.ref o] : List Value).toArray below meth c H locs 0 0 (MQ below (rdQi (fun r => r = 1)) ([.ref o] : List Value).toArray s 0 0 noA) (F0 m 13 ls []) := by
    intro k_13
    induction k_13 with
    | zero => intro w g h9; exact absurd h9 (Nat.not_lt_zero _)
    | succ k_13 ih_13 =>
      intro w g hm_13 hw H locs hP hS ls hl
      refine lv_iload_n hx hb dX7_groups_13 rfl (lv_at hl 1 rfl) ?_
      refine lv_if_eq (tgt := 93) hx hb dX7_groups_14 (by decide) (fun c_14 => ?_) (fun c_14 => ?_)
      · skip
        have c1 : w = 0 := (nI_eq (b := 0) (by omega) (by decide)).mp c_14
        have hw2 := (hw.resolve_left (fun q => by omega)).2
        subst hw2
        refine lv_iload_n hx hb dX7_groups_93 rfl (lv_at hl 2 rfl) ?_
        exact W.iret (v := nI 1) hx hb hr (fun tS htS hWS => ⟨⟨nI 1, (), rfl, rfl, trivial⟩, hS.F htS⟩) hS.2.2 dX7_groups_94
      · skip
        have c1 : ¬ w = 0 := fun q => c_14 (by rw [q]; rfl)
        obtain ⟨e1, e2⟩ := hw.resolve_right (fun q => c1 q.1)
        subst e1
        subst e2
        refine lv_iload_n hx hb dX7_groups_17 rfl (lv_at hl 1 rfl) ?_
        refine lv_iload_n hx hb dX7_groups_18 rfl (lv_at hl 1 rfl) ?_
        refine lv_ineg hx hb dX7_groups_19 ?_
        refine lv_iand hx hb dX7_groups_20 ?_
        refine lv_topi (fun y_7 e_8 => ?_)
        have e_8 : nI 1 = y_7 := (e_8.trans (low_1 n (by omega) (by omega))).symm
        subst e_8
        refine lv_istore_n (lv' := [(3, .int (nI 1)), (0, .ref o), (1, .int (nI (2 ^ n - 1))), (2, .int (nI 0))]) hx hb dX7_groups_21 rfl hl (by decide) rfl (fun ls hl => ?_)
        refine lv_iconst (v := 0) hx hb dX7_groups_22 (by decide) ?_
        refine lv_istore (lv' := [(4, .int 0), (3, .int (nI 1)), (0, .ref o), (1, .int (nI (2 ^ n - 1))), (2, .int (nI 0))]) hx hb dX7_groups_23 hl (by decide) rfl (fun ls hl => ?_)
        have L_25 : ∀ (k_25 : Nat) (Z : Nat) (Y : Nat), n - fb_ct (fun k => Y.testBit k) n < k_25 → (GZ (conB G M rg bl) n Y n Z) → (Y < 2 ^ n) → ∀ (H : Heap) (locs : List Loc), va_P D vwCl [(o, .inr (7, .ref q1 :: fs)), (q1, .inl (cI, 43, .inl mm))] H → va_S noA s.heap H locs → ∀ (ls : Array Slot), lv_has ls 6 [(0, .ref o), (1, .int (nI (2 ^ n - 1))), (2, .int (nI 0)), (3, .int (nI Z)), (4, .int (nI Y))] → W p l e (rmD 6) s m ([.ref o] : List Value).toArray below meth c H locs 0 0 (MQ below (rdQi (fun r => r = 1)) ([.ref o] : List Value).toArray s 0 0 noA) (F0 m 25 ls []) := by
          intro k_25
          induction k_25 with
          | zero => intro Z Y h9; exact absurd h9 (Nat.not_lt_zero _)
          | succ k_25 ih_25 =>
            intro Z Y hm_25 hZ hY H locs hP hS ls hl
            refine lv_iload hx hb dX7_groups_25 (lv_at hl 4 rfl) ?_
            refine lv_iload_n hx hb dX7_groups_27 rfl (lv_at hl 3 rfl) ?_
            refine lv_icmp_eq (tgt := 81) hx hb dX7_groups_28 (by decide) (fun c_28 => ?_) (fun c_28 => ?_)
            · skip
              have c2 : Y = Z := (nI_eq (by have := lt_20 hn hY; omega) (by have := lt_20 hn hZ.1; omega)).mp c_28
              subst c2
              have eZ := GZ_end hZ hrow
              subst eZ
              refine lv_iload_n hx hb dX7_groups_81 rfl (lv_at hl 1 rfl) ?_
              refine lv_iload_n hx hb dX7_groups_82 rfl (lv_at hl 3 rfl) ?_
              refine lv_iconst (v := (-1)) hx hb dX7_groups_83 (by decide) ?_
              refine lv_ixor hx hb dX7_groups_84 ?_
              refine lv_iand hx hb dX7_groups_85 ?_
              refine lv_topi (fun y_9 e_10 => ?_)
              have e_10 : nI 0 = y_9 := (e_10.trans (wt_f hn (by omega))).symm
              subst e_10
              refine lv_istore_n (lv' := [(1, .int (nI 0)), (0, .ref o), (2, .int (nI 0)), (3, .int (nI (2 ^ n - 1))), (4, .int (nI (2 ^ n - 1)))]) hx hb dX7_groups_86 rfl hl (by decide) rfl (fun ls hl => ?_)
              refine lv_iinc (v := nI (0 + 1)) (lv' := [(2, .int (nI (0 + 1))), (1, .int (nI 0)), (0, .ref o), (3, .int (nI (2 ^ n - 1))), (4, .int (nI (2 ^ n - 1)))]) hx hb dX7_groups_87 hl (k := 2) rfl (inc1 _) (by decide) rfl (fun ls hl => ?_)
              refine lv_goto (tgt := 13) hx hb dX7_groups_90 (by decide) ?_
              exact ih_13 0 (0 + 1) (by omega) (Or.inr ⟨rfl, rfl⟩) _ _ hP hS ls (lv_sub hl [2, 1, 0] rfl)
            · skip
              have c2 : ¬ Y = Z := fun q => c_28 (by rw [q])
              have hdec := GZ_dec hZ c2 hY
              have hle := fb_ct_le (fun k => Z.testBit k) n
              have hzl := lt_20 hn hZ.1
              refine lv_iload_n hx hb dX7_groups_31 rfl (lv_at hl 3 rfl) ?_
              refine lv_istore (lv' := [(4, .int (nI Z)), (0, .ref o), (1, .int (nI (2 ^ n - 1))), (2, .int (nI 0)), (3, .int (nI Z))]) hx hb dX7_groups_32 hl (by decide) rfl (fun ls hl => ?_)
              refine lv_iconst (v := 0) hx hb dX7_groups_34 (by decide) ?_
              refine lv_istore (lv' := [(5, .int 0), (4, .int (nI Z)), (0, .ref o), (1, .int (nI (2 ^ n - 1))), (2, .int (nI 0)), (3, .int (nI Z))]) hx hb dX7_groups_35 hl (by decide) rfl (fun ls hl => ?_)
              have L_37 : ∀ (k_37 : Nat) (i : Nat) (Z2 : Nat), n - i < k_37 → (i ≤ n) → (GZ (conB G M rg bl) n Z i Z2) → ∀ (H : Heap) (locs : List Loc), va_P D vwCl [(o, .inr (7, .ref q1 :: fs)), (q1, .inl (cI, 43, .inl mm))] H → va_S noA s.heap H locs → ∀ (ls : Array Slot), lv_has ls 6 [(0, .ref o), (1, .int (nI (2 ^ n - 1))), (2, .int (nI 0)), (3, .int (nI Z2)), (4, .int (nI Z)), (5, .int (nI i))] → W p l e (rmD 6) s m ([.ref o] : List Value).toArray below meth c H locs 0 0 (MQ below (rdQi (fun r => r = 1)) ([.ref o] : List Value).toArray s 0 0 noA) (F0 m 37 ls []) := by
                intro k_37
                induction k_37 with
                | zero => intro i Z2 h9; exact absurd h9 (Nat.not_lt_zero _)
                | succ k_37 ih_37 =>
                  intro i Z2 hm_37 hi hZ2 H locs hP hS ls hl
                  refine lv_iload hx hb dX7_groups_37 (lv_at hl 5 rfl) ?_
                  refine lv_aload_n hx hb dX7_groups_39 rfl (lv_at hl 0 rfl) ?_
                  refine va_get (D := D) (ci := 7) (v := .ref q1) (C := RX7) (T := TX7) (N := 15) hx hb hts kX7_groups_0 hown hK hP 0 rfl rfl 0 (by decide) (hts (.fieldLink RX7 7 "SightRidgeModel" "m" "[I") kX7_groups_1) (fun _ h9 => h9) rfl dX7_groups_40 ?_
                  refine lv_iconst (v := 0) hx hb dX7_groups_43 (by decide) ?_
                  refine va_iald hx hb hK hP 1 0 rfl rfl (i := nI 0) (vp_in_nI (N := 43) (by decide) (by decide)) dX7_groups_44 ?_
                  rw [nI_clamp (n := 0) (by decide)]
                  refine lv_topi (fun y_11 e_12 => ?_)
                  have e_12 : nI n = y_11 := (e_12.trans (hm0)).symm
                  subst e_12
                  refine lv_icmp_ge (tgt := 78) hx hb dX7_groups_45 (by decide) (fun c_45 => ?_) (fun c_45 => ?_)
                  · skip
                    have c3 : n ≤ i := ge_t (by omega) c_45
                    refine lv_goto (tgt := 25) hx hb dX7_groups_78 (by decide) ?_
                    exact ih_25 Z2 Z (by omega) (GZ_n hZ2 c3) (hZ.1) _ _ hP hS ls (lv_sub hl [0, 1, 2, 3, 4] rfl)
                  · skip
                    have c3 : i < n := ge_f (by omega) c_45
                    refine lv_iload_n hx hb dX7_groups_48 rfl (lv_at hl 3 rfl) ?_
                    refine lv_iload hx hb dX7_groups_49 (lv_at hl 4 rfl) ?_
                    refine lv_iload hx hb dX7_groups_51 (lv_at hl 5 rfl) ?_
                    refine lv_ishr hx hb dX7_groups_53 ?_
                    refine lv_topi (fun y_13 e_14 => ?_)
                    have e_14 : nI (Z / 2 ^ i) = y_13 := (e_14.trans (pk_shrN (by omega) (nI i &&& 31) i (s_l i (by omega)))).symm
                    subst e_14
                    refine lv_iconst (v := 1) hx hb dX7_groups_54 (by decide) ?_
                    refine lv_iand hx hb dX7_groups_55 ?_
                    refine lv_topi (fun y_15 e_16 => ?_)
                    have e_16 : nI (Z / 2 ^ i % 2) = y_15 := (e_16.trans (pk_andN (by have := Nat.div_le_self Z (2 ^ i); omega) 1 (by decide))).symm
                    subst e_16
                    refine lv_iconst (v := 1) hx hb dX7_groups_56 (by decide) ?_
                    refine lv_icmp_ne (tgt := 69) hx hb dX7_groups_57 (by decide) (fun c_57 => ?_) (fun c_57 => ?_)
                    · skip
                      have c4 : Z.testBit i = false := Bool.eq_false_iff.mpr (fun q => c_57 (tb_is.mpr q))
                      refine lv_iconst (v := 0) hx hb dX7_groups_69 (by decide) ?_
                      refine lv_ior hx hb dX7_groups_70 ?_
                      refine lv_topi (fun y_17 e_18 => ?_)
                      have e_18 : nI (Z2 ||| 0) = y_17 := (e_18.trans (fa_or _ 0)).symm
                      subst e_18
                      refine lv_istore_n (lv' := [(3, .int (nI (Z2 ||| 0))), (0, .ref o), (1, .int (nI (2 ^ n - 1))), (2, .int (nI 0)), (4, .int (nI Z)), (5, .int (nI i))]) hx hb dX7_groups_71 rfl hl (by decide) rfl (fun ls hl => ?_)
                      refine lv_iinc (v := nI (i + 1)) (lv' := [(5, .int (nI (i + 1))), (3, .int (nI (Z2 ||| 0))), (0, .ref o), (1, .int (nI (2 ^ n - 1))), (2, .int (nI 0)), (4, .int (nI Z))]) hx hb dX7_groups_72 hl (k := 5) rfl (inc1 _) (by decide) rfl (fun ls hl => ?_)
                      refine lv_goto (tgt := 37) hx hb dX7_groups_75 (by decide) ?_
                      exact ih_37 (i + 1) (Z2 ||| 0) (by omega) (by omega) (by first | exact GZ_T hZ2 c3 | exact GZ_F hZ2 c4 | fail) _ _ hP hS ls (lv_sub hl [2, 3, 4, 1, 5, 0] rfl)
                    · skip
                      have c4 : Z.testBit i = true := tb_is.mp c_57
                      refine lv_aload_n hx hb dX7_groups_60 rfl (lv_at hl 0 rfl) ?_
                      refine lv_iload hx hb dX7_groups_61 (lv_at hl 5 rfl) ?_
                      refine rd_calli hP hS (va_runV (As := [.int (nI i)]) (rest := [.int (nI Z2)]) ⟨hx, hb, hml, hown, hts⟩ (c_X7_contacts l D cI cB cO o q1 fs n mm rg bl G M i hm c3) (cwV 1 hts gX7_groups_X7_contacts rfl rfl rfl (by decide +kernel) ⟨Nat.le_of_ble_eq_true rfl, Nat.le_of_ble_eq_true rfl⟩) (rd_preV (r := (RX7, TX7, 15)) (ci := 7) hK (hP.pick [0, 1] rfl) hN (q0 := 0) rfl rfl) rfl rfl hl.1 rfl (lv_room (Nat.le_of_ble_eq_true rfl)) dX7_groups_63 ⟨Nat.le_refl _, Nat.le_refl _⟩) (fun r_63 H locs h_63 hP hS => ?_)
                      subst h_63
                      refine lv_goto (tgt := 70) hx hb dX7_groups_66 (by decide) ?_
                      refine lv_ior hx hb dX7_groups_70 ?_
                      refine lv_topi (fun y_19 e_20 => ?_)
                      have e_20 : nI (Z2 ||| bs (conB G M rg bl i) n) = y_19 := (e_20.trans (fa_or _ _)).symm
                      subst e_20
                      refine lv_istore_n (lv' := [(3, .int (nI (Z2 ||| bs (conB G M rg bl i) n))), (0, .ref o), (1, .int (nI (2 ^ n - 1))), (2, .int (nI 0)), (4, .int (nI Z)), (5, .int (nI i))]) hx hb dX7_groups_71 rfl hl (by decide) rfl (fun ls hl => ?_)
                      refine lv_iinc (v := nI (i + 1)) (lv' := [(5, .int (nI (i + 1))), (3, .int (nI (Z2 ||| bs (conB G M rg bl i) n))), (0, .ref o), (1, .int (nI (2 ^ n - 1))), (2, .int (nI 0)), (4, .int (nI Z))]) hx hb dX7_groups_72 hl (k := 5) rfl (inc1 _) (by decide) rfl (fun ls hl => ?_)
                      refine lv_goto (tgt := 37) hx hb dX7_groups_75 (by decide) ?_
                      exact ih_37 (i + 1) (Z2 ||| bs (conB G M rg bl i) n) (by omega) (by omega) (by first | exact GZ_T hZ2 c3 | exact GZ_F hZ2 c4 | fail) _ _ hP hS ls (lv_sub hl [2, 3, 4, 1, 5, 0] rfl)
              exact L_37 _ 0 Z (Nat.lt_succ_self _) (by omega) (GZ_0 hZ) _ _ hP hS ls (lv_sub hl [2, 3, 4, 5, 1, 0] rfl)
        exact L_25 _ 1 0 (Nat.lt_succ_self _) (GZ_00 (by omega)) (by omega) _ _ hP hS ls (lv_sub hl [2, 3, 4, 1, 0] rfl)
  exact L_13 _ (2 ^ n - 1) 0 (Nat.lt_succ_self _) (Or.inl ⟨rfl, rfl⟩) _ _ hP hS ls (lv_sub hl [2, 1, 0] rfl)
theorem kX7_findsSet_0 : ∀ w ∈ wsX70, w ∈ wsX7_findsSet := by decide +kernel
theorem kX7_findsSet_1 : (.fieldLink RX7 19 "SightRidgeModel" "finds" "I" : Cond) ∈ wsX7_findsSet := by decide +kernel
theorem kX7_findsSet_2 : (.fieldLink RX7 7 "SightRidgeModel" "m" "[I" : Cond) ∈ wsX7_findsSet := by decide +kernel
theorem kX7_findsSet_3 : (.fieldLink RX7 16 "SightRidgeModel" "found" "[I" : Cond) ∈ wsX7_findsSet := by decide +kernel
set_option maxHeartbeats 4000000 in
set_option maxRecDepth 100000 in
/-- findsSet(set) -/
theorem c_X7_findsSet (l : Launch) (D : va_G) (cI cB cO : ClassId) (q0 q1 q2 q3 q4 q5 q6 q7 q8 : Nat) (mm pp fd tx rgd rmd wy cvr : Nat → Int32) (un fi tl re at0 fa : Int32) (hsh : Int64) (n : Nat) (rg bl : Int32) (G M : Nat → Int32) (x : Nat) (hm : MOK n mm rg bl G M) (hx0 : x < 2 ^ n) : Met l yX7_findsSet wsX7_findsSet (rmD 2) (wrPc D (tyL cI cB cO) [.ref q0, .int (nI x)] [(q0, .inr (7, [.ref q1, .ref q2, .int un, .ref q3, .int fi, .ref q4, .int tl, .ref q5, .ref q6, .int re, .int at0, .int fa, .ref q7, .ref q8, .long hsh])), (q1, .inl (cI, 43, .inl mm)), (q3, .inl (cI, 20, .inl fd))]) (wrQv D [(q0, .inr (7, [.ref q1, .ref q2, .int un, .ref q3, .int fi, .ref q4, .int tl, .ref q5, .ref q6, .int re, .int at0, .int fa, .ref q7, .ref q8, .long hsh])), (q1, .inl (cI, 43, .inl mm)), (q3, .inl (cI, 20, .inl fd))] (fun (u : Nat → Int32) => ∀ j, j < fb_ct (fun z => x.testBit z) 20 → u j = nI (nthB (fun z => x.testBit z) 20 j)) (fun (u : Nat → Int32) => [(q0, .inr (7, [.ref q1, .ref q2, .int un, .ref q3, .int (nI (fb_ct (fun z => x.testBit z) 20)), .ref q4, .int tl, .ref q5, .ref q6, .int re, .int at0, .int fa, .ref q7, .ref q8, .long hsh])), (q1, .inl (cI, 43, .inl mm)), (q3, .inl (cI, 20, .inl u))])) 0 0 (inW [(q0, .inr (7, [.ref q1, .ref q2, .int un, .ref q3, .int fi, .ref q4, .int tl, .ref q5, .ref q6, .int re, .int at0, .int fa, .ref q7, .ref q8, .long hsh])), (q1, .inl (cI, 43, .inl mm)), (q3, .inl (cI, 20, .inl fd))]) := by
  refine Met.ofW (cc := cX7_findsSet) (maxL := 3) (ret := none) (by decide) rfl ?_
  intro p e s m args below meth c s₁ B hml hv
  obtain ⟨rfl, hP, hK, hN, hD⟩ := hv
  have hx := B.exec
  have hb := B.bytes
  have hr := B.returns
  have hts := atoms_spec (ws := wsX7_findsSet) B.pre
  have hown : s.vm.findClass RX7 = some m.cls := findClass_of_methodNamed B.named
  have hlocks := B.notSynchronized
  have hS : va_S (inW [(q0, .inr (7, [.ref q1, .ref q2, .int un, .ref q3, .int fi, .ref q4, .int tl, .ref q5, .ref q6, .int re, .int at0, .int fa, .ref q7, .ref q8, .long hsh])), (q1, .inl (cI, 43, .inl mm)), (q3, .inl (cI, 20, .inl fd))]) s.heap s.heap [] := va_S.rf
  have hD : va_D (inW [(q0, .inr (7, [.ref q1, .ref q2, .int un, .ref q3, .int fi, .ref q4, .int tl, .ref q5, .ref q6, .int re, .int at0, .int fa, .ref q7, .ref q8, .long hsh])), (q1, .inl (cI, 43, .inl mm)), (q3, .inl (cI, 20, .inl fd))]) [(q0, .inr (7, [.ref q1, .ref q2, .int un, .ref q3, .int fi, .ref q4, .int tl, .ref q5, .ref q6, .int re, .int at0, .int fa, .ref q7, .ref q8, .long hsh])), (q1, .inl (cI, 43, .inl mm)), (q3, .inl (cI, 20, .inl fd))] := inW_self hD
  have hl := lv_entry ([.ref q0, .int (nI x)]) (n := 3) (Nat.le_of_ble_eq_true rfl)
  rw [lg_entry_eq]
  generalize (lg_sl ([.ref q0, .int (nI x)]) ++ List.replicate (3 - (lg_sl ([.ref q0, .int (nI x)])).length) Slot.unset).toArray = ls at hl ⊢
  have hl : lv_has ls 3 [(0, .ref q0), (1, .int (nI x))] := hl
  obtain ⟨hn, hn1, hm0, hm1, hm2, hG, hM⟩ := id hm
  have hx1 := lt_31 hn hx0
  refine lv_aload_n hx hb dX7_findsSet_0 rfl (lv_at hl 0 rfl) ?_
  refine lv_iconst (v := 0) hx hb dX7_findsSet_1 (by decide) ?_
  refine va_put (D := D) (ci := 7) (v := .int 0) (ty := .int) (C := RX7) (T := TX7) (N := 15) hx hb hts kX7_findsSet_0 tyX7 tyX7_ok nmX7 hown hK hP hD hS 0 rfl rfl 4 (by decide) (hts (.fieldLink RX7 19 "SightRidgeModel" "finds" "I") kX7_findsSet_1) (fun _ h9 => h9) rfl (by decide +kernel) rfl rfl (Nat.le_of_ble_eq_true rfl) dX7_findsSet_2 (fun H locs hP hD hS => ?_)
  have hP : va_P D vwCl [(q0, .inr (7, [.ref q1, .ref q2, .int un, .ref q3, .int 0, .ref q4, .int tl, .ref q5, .ref q6, .int re, .int at0, .int fa, .ref q7, .ref q8, .long hsh])), (q1, .inl (cI, 43, .inl mm)), (q3, .inl (cI, 20, .inl fd))] _ := hP
  have hD : va_D (inW [(q0, .inr (7, [.ref q1, .ref q2, .int un, .ref q3, .int fi, .ref q4, .int tl, .ref q5, .ref q6, .int re, .int at0, .int fa, .ref q7, .ref q8, .long hsh])), (q1, .inl (cI, 43, .inl mm)), (q3, .inl (cI, 20, .inl fd))]) [(q0, .inr (7, [.ref q1, .ref q2, .int un, .ref q3, .int 0, .ref q4, .int tl, .ref q5, .ref q6, .int re, .int at0, .int fa, .ref q7, .ref q8, .long hsh])), (q1, .inl (cI, 43, .inl mm)), (q3, .inl (cI, 20, .inl fd))] := hD
  refine lv_iconst (v := 0) hx hb dX7_findsSet_5 (by decide) ?_
  refine lv_istore_n (lv' := [(2, .int 0), (0, .ref q0), (1, .int (nI x))]) hx hb dX7_findsSet_6 rfl hl (by decide) rfl (fun ls hl => ?_)
  have e9 : ([(q0, .inr (7, [.ref q1, .ref q2, .int un, .ref q3, .int 0, .ref q4, .int tl, .ref q5, .ref q6, .int re, .int at0, .int fa, .ref q7, .ref q8, .long hsh])), (q1, .inl (cI, 43, .inl mm)), (q3, .inl (cI, 20, .inl fd))] : va_W) = [(q0, .inr (7, [.ref q1, .ref q2, .int un, .ref q3, .int (nI (fb_ct (fun z => x.testBit z) 0)), .ref q4, .int tl, .ref q5, .ref q6, .int re, .int at0, .int fa, .ref q7, .ref q8, .long hsh])), (q1, .inl (cI, 43, .inl mm)), (q3, .inl (cI, 20, .inl fd))] := congrArg (fun f9 : Int32 => ([(q0, .inr (7, [.ref q1, .ref q2, .int un, .ref q3, .int f9, .ref q4, .int tl, .ref q5, .ref q6, .int re, .int at0, .int fa, .ref q7, .ref q8, .long hsh])), (q1, .inl (cI, 43, .inl mm)), (q3, .inl (cI, 20, .inl fd))] : va_W)) (show 0 = nI (fb_ct (fun z => x.testBit z) 0) from rfl)
  have hP := va_P_eq e9 hP
  have hD := va_D_eq e9 hD
  have L_7 : ∀ (k_7 : Nat) (i : Nat) (u : Nat → Int32), n - i < k_7 → (i ≤ n) → (∀ z, z < i → x.testBit z = true → u (fb_ct (fun z => x.testBit z) z) = nI z) → ∀ (H : Heap) (locs : List Loc), va_P D vwCl [(q0, .inr (7, [.ref q1, .ref q2, .int un, .ref q3, .int (nI (fb_ct (fun z => x.testBit z) i)), .ref q4, .int tl, .ref q5, .ref q6, .int re, .int at0, .int fa, .ref q7, .ref q8, .long hsh])), (q1, .inl (cI, 43, .inl mm)), (q3, .inl (cI, 20, .inl u))] H → va_D (inW [(q0, .inr (7, [.ref q1, .ref q2, .int un, .ref q3, .int fi, .ref q4, .int tl, .ref q5, .ref q6, .int re, .int at0, .int fa, .ref q7, .ref q8, .long hsh])), (q1, .inl (cI, 43, .inl mm)), (q3, .inl (cI, 20, .inl fd))]) [(q0, .inr (7, [.ref q1, .ref q2, .int un, .ref q3, .int (nI (fb_ct (fun z => x.testBit z) i)), .ref q4, .int tl, .ref q5, .ref q6, .int re, .int at0, .int fa, .ref q7, .ref q8, .long hsh])), (q1, .inl (cI, 43, .inl mm)), (q3, .inl (cI, 20, .inl u))] → va_S (inW [(q0, .inr (7, [.ref q1, .ref q2, .int un, .ref q3, .int fi, .ref q4, .int tl, .ref q5, .ref q6, .int re, .int at0, .int fa, .ref q7, .ref q8, .long hsh])), (q1, .inl (cI, 43, .inl mm)), (q3, .inl (cI, 20, .inl fd))]) s.heap H locs → ∀ (ls : Array Slot), lv_has ls 3 [(0, .ref q0), (1, .int (nI x)), (2, .int (nI i))] → W p l e (rmD 2) s m ([.ref q0, .int (nI x)] : List Value).toArray below meth c H locs 0 0 (MQ below (wrQv D [(q0, .inr (7, [.ref q1, .ref q2, .int un, .ref q3, .int fi, .ref q4, .int tl, .ref q5, .ref q6, .int re, .int at0, .int fa, .ref q7, .ref q8, .long hsh])), (q1, .inl (cI, 43, .inl mm)), (q3, .inl (cI, 20, .inl fd))] (fun (u : Nat → Int32) => ∀ j, j < fb_ct (fun z => x.testBit z) 20 → u j = nI (nthB (fun z => x.testBit z) 20 j)) (fun (u : Nat → Int32) => [(q0, .inr (7, [.ref q1, .ref q2, .int un, .ref q3, .int (nI (fb_ct (fun z => x.testBit z) 20)), .ref q4, .int tl, .ref q5, .ref q6, .int re, .int at0, .int fa, .ref q7, .ref q8, .long hsh])), (q1, .inl (cI, 43, .inl mm)), (q3, .inl (cI, 20, .inl u))])) ([.ref q0, .int (nI x)] : List Value).toArray s 0 0 (inW [(q0, .inr (7, [.ref q1, .ref q2, .int un, .ref q3, .int fi, .ref q4, .int tl, .ref q5, .ref q6, .int re, .int at0, .int fa, .ref q7, .ref q8, .long hsh])), (q1, .inl (cI, 43, .inl mm)), (q3, .inl (cI, 20, .inl fd))])) (F0 m 7 ls []) := by
    intro k_7
    induction k_7 with
    | zero => intro i u h9; exact absurd h9 (Nat.not_lt_zero _)
    | succ k_7 ih_7 =>
      intro i u hm_7 hi hu H locs hP hD hS ls hl
      refine lv_iload_n hx hb dX7_findsSet_7 rfl (lv_at hl 2 rfl) ?_
      refine lv_aload_n hx hb dX7_findsSet_8 rfl (lv_at hl 0 rfl) ?_
      refine va_get (D := D) (ci := 7) (v := .ref q1) (C := RX7) (T := TX7) (N := 15) hx hb hts kX7_findsSet_0 hown hK hP 0 rfl rfl 0 (by decide) (hts (.fieldLink RX7 7 "SightRidgeModel" "m" "[I") kX7_findsSet_2) (fun _ h9 => h9) rfl dX7_findsSet_9 ?_
      refine lv_iconst (v := 0) hx hb dX7_findsSet_12 (by decide) ?_
      refine va_iald hx hb hK hP 1 0 rfl rfl (i := nI 0) (vp_in_nI (N := 43) (by decide) (by decide)) dX7_findsSet_13 ?_
      rw [nI_clamp (n := 0) (by decide)]
      refine lv_topi (fun y_1 e_2 => ?_)
      have e_2 : nI n = y_1 := (e_2.trans (hm0)).symm
      subst e_2
      refine lv_icmp_ge (tgt := 52) hx hb dX7_findsSet_14 (by decide) (fun c_14 => ?_) (fun c_14 => ?_)
      · skip
        have c0 : n ≤ i := ge_t (by omega) c_14
        have e9 : ([(q0, .inr (7, [.ref q1, .ref q2, .int un, .ref q3, .int (nI (fb_ct (fun z => x.testBit z) i)), .ref q4, .int tl, .ref q5, .ref q6, .int re, .int at0, .int fa, .ref q7, .ref q8, .long hsh])), (q1, .inl (cI, 43, .inl mm)), (q3, .inl (cI, 20, .inl u))] : va_W) = [(q0, .inr (7, [.ref q1, .ref q2, .int un, .ref q3, .int (nI (fb_ct (fun z => x.testBit z) 20)), .ref q4, .int tl, .ref q5, .ref q6, .int re, .int at0, .int fa, .ref q7, .ref q8, .long hsh])), (q1, .inl (cI, 43, .inl mm)), (q3, .inl (cI, 20, .inl u))] := congrArg (fun f9 : Int32 => ([(q0, .inr (7, [.ref q1, .ref q2, .int un, .ref q3, .int f9, .ref q4, .int tl, .ref q5, .ref q6, .int re, .int at0, .int fa, .ref q7, .ref q8, .long hsh])), (q1, .inl (cI, 43, .inl mm)), (q3, .inl (cI, 20, .inl u))] : va_W)) (show nI (fb_ct (fun z => x.testBit z) i) = nI (fb_ct (fun z => x.testBit z) 20) from congrArg nI (wx_20 hn hx0 c0).symm)
        have hP := va_P_eq e9 hP
        have hD := va_D_eq e9 hD
        exact W.vret hx hb hr (fun tS htS hWS => ⟨⟨u, rfl, (fun j hj => by obtain ⟨k9, h91, h92, h93⟩ := fb_ct_kth hj; have h94 := hu k9 (wx_in hx0 c0 h92) h92; rw [h93] at h94; rw [h94, ← h93, nthB_eq h91 h92]), retP htS hP⟩, hS.F htS⟩) hS.2.2 dX7_findsSet_52
      · skip
        have c0 : i < n := ge_f (by omega) c_14
        refine lv_iload_n hx hb dX7_findsSet_17 rfl (lv_at hl 1 rfl) ?_
        refine lv_iload_n hx hb dX7_findsSet_18 rfl (lv_at hl 2 rfl) ?_
        refine lv_ishr hx hb dX7_findsSet_19 ?_
        refine lv_topi (fun y_3 e_4 => ?_)
        have e_4 : nI (x / 2 ^ i) = y_3 := (e_4.trans (pk_shrN hx1 (nI i &&& 31) i (s_l i (by omega)))).symm
        subst e_4
        refine lv_iconst (v := 1) hx hb dX7_findsSet_20 (by decide) ?_
        refine lv_iand hx hb dX7_findsSet_21 ?_
        refine lv_topi (fun y_5 e_6 => ?_)
        have e_6 : nI (x / 2 ^ i % 2) = y_5 := (e_6.trans (pk_andN (by have := Nat.div_le_self x (2 ^ i); omega) 1 (by decide))).symm
        subst e_6
        refine lv_iconst (v := 1) hx hb dX7_findsSet_22 (by decide) ?_
        refine lv_icmp_ne (tgt := 46) hx hb dX7_findsSet_23 (by decide) (fun c_23 => ?_) (fun c_23 => ?_)
        · skip
          have c1 : x.testBit i = false := Bool.eq_false_iff.mpr (fun q => c_23 (tb_is.mpr q))
          have e9 : ([(q0, .inr (7, [.ref q1, .ref q2, .int un, .ref q3, .int (nI (fb_ct (fun z => x.testBit z) i)), .ref q4, .int tl, .ref q5, .ref q6, .int re, .int at0, .int fa, .ref q7, .ref q8, .long hsh])), (q1, .inl (cI, 43, .inl mm)), (q3, .inl (cI, 20, .inl u))] : va_W) = [(q0, .inr (7, [.ref q1, .ref q2, .int un, .ref q3, .int (nI (fb_ct (fun z => x.testBit z) (i + 1))), .ref q4, .int tl, .ref q5, .ref q6, .int re, .int at0, .int fa, .ref q7, .ref q8, .long hsh])), (q1, .inl (cI, 43, .inl mm)), (q3, .inl (cI, 20, .inl u))] := congrArg (fun f9 : Int32 => ([(q0, .inr (7, [.ref q1, .ref q2, .int un, .ref q3, .int f9, .ref q4, .int tl, .ref q5, .ref q6, .int re, .int at0, .int fa, .ref q7, .ref q8, .long hsh])), (q1, .inl (cI, 43, .inl mm)), (q3, .inl (cI, 20, .inl u))] : va_W)) (show nI (fb_ct (fun z => x.testBit z) i) = nI (fb_ct (fun z => x.testBit z) (i + 1)) from (congrArg nI (fb_ct_F (P := (fun z => x.testBit z)) c1)).symm)
          have hP := va_P_eq e9 hP
          have hD := va_D_eq e9 hD
          refine lv_iinc (v := nI (i + 1)) (lv' := [(2, .int (nI (i + 1))), (0, .ref q0), (1, .int (nI x))]) hx hb dX7_findsSet_46 hl (k := 2) rfl (inc1 _) (by decide) rfl (fun ls hl => ?_)
          refine lv_goto (tgt := 7) hx hb dX7_findsSet_49 (by decide) ?_
          exact ih_7 (i + 1) u (by omega) (by omega) (ks_F hu c1) _ _ hP hD hS ls (lv_sub hl [1, 2, 0] rfl)
        · skip
          have c1 : x.testBit i = true := tb_is.mp c_23
          have hlt : fb_ct (fun z => x.testBit z) i ≤ i := fb_ct_le _ _
          refine lv_aload_n hx hb dX7_findsSet_26 rfl (lv_at hl 0 rfl) ?_
          refine va_get (D := D) (ci := 7) (v := .ref q3) (C := RX7) (T := TX7) (N := 15) hx hb hts kX7_findsSet_0 hown hK hP 0 rfl rfl 3 (by decide) (hts (.fieldLink RX7 16 "SightRidgeModel" "found" "[I") kX7_findsSet_3) (fun _ h9 => h9) rfl dX7_findsSet_27 ?_
          refine lv_aload_n hx hb dX7_findsSet_30 rfl (lv_at hl 0 rfl) ?_
          refine va_get (D := D) (ci := 7) (v := .int (nI (fb_ct (fun z => x.testBit z) i))) (C := RX7) (T := TX7) (N := 15) hx hb hts kX7_findsSet_0 hown hK hP 0 rfl rfl 4 (by decide) (hts (.fieldLink RX7 19 "SightRidgeModel" "finds" "I") kX7_findsSet_1) (fun _ h9 => h9) rfl dX7_findsSet_31 ?_
          refine lv_iload_n hx hb dX7_findsSet_34 rfl (lv_at hl 2 rfl) ?_
          refine va_iast hx hb hK hP hD hS 2 0 rfl rfl (i := nI (fb_ct (fun z => x.testBit z) i)) (vp_in_nI (N := 20) (by omega) (by decide)) dX7_findsSet_35 (fun H locs hP hD hS => ?_)
          rw [nI_clamp (n := fb_ct (fun z => x.testBit z) i) (by omega)] at hP hD
          have hP : va_P D vwCl [(q0, .inr (7, [.ref q1, .ref q2, .int un, .ref q3, .int (nI (fb_ct (fun z => x.testBit z) i)), .ref q4, .int tl, .ref q5, .ref q6, .int re, .int at0, .int fa, .ref q7, .ref q8, .long hsh])), (q1, .inl (cI, 43, .inl mm)), (q3, .inl (cI, 20, .inl (upd u (fb_ct (fun z => x.testBit z) i) (nI i))))] _ := hP
          have hD : va_D (inW [(q0, .inr (7, [.ref q1, .ref q2, .int un, .ref q3, .int fi, .ref q4, .int tl, .ref q5, .ref q6, .int re, .int at0, .int fa, .ref q7, .ref q8, .long hsh])), (q1, .inl (cI, 43, .inl mm)), (q3, .inl (cI, 20, .inl fd))]) [(q0, .inr (7, [.ref q1, .ref q2, .int un, .ref q3, .int (nI (fb_ct (fun z => x.testBit z) i)), .ref q4, .int tl, .ref q5, .ref q6, .int re, .int at0, .int fa, .ref q7, .ref q8, .long hsh])), (q1, .inl (cI, 43, .inl mm)), (q3, .inl (cI, 20, .inl (upd u (fb_ct (fun z => x.testBit z) i) (nI i))))] := hD
          refine lv_aload_n hx hb dX7_findsSet_36 rfl (lv_at hl 0 rfl) ?_
          refine lv_dup hx hb dX7_findsSet_37 rfl ?_
          refine va_get (D := D) (ci := 7) (v := .int (nI (fb_ct (fun z => x.testBit z) i))) (C := RX7) (T := TX7) (N := 15) hx hb hts kX7_findsSet_0 hown hK hP 0 rfl rfl 4 (by decide) (hts (.fieldLink RX7 19 "SightRidgeModel" "finds" "I") kX7_findsSet_1) (fun _ h9 => h9) rfl dX7_findsSet_38 ?_
          refine lv_iconst (v := 1) hx hb dX7_findsSet_41 (by decide) ?_
          refine lv_iadd hx hb dX7_findsSet_42 ?_
          refine lv_topi (fun y_7 e_8 => ?_)
          have e_8 : nI ((fb_ct (fun z => x.testBit z) i) + 1) = y_7 := (e_8.trans (nI_add (fb_ct (fun z => x.testBit z) i) 1)).symm
          subst e_8
          refine va_put (D := D) (ci := 7) (v := .int (nI ((fb_ct (fun z => x.testBit z) i) + 1))) (ty := .int) (C := RX7) (T := TX7) (N := 15) hx hb hts kX7_findsSet_0 tyX7 tyX7_ok nmX7 hown hK hP hD hS 0 rfl rfl 4 (by decide) (hts (.fieldLink RX7 19 "SightRidgeModel" "finds" "I") kX7_findsSet_1) (fun _ h9 => h9) rfl (by decide +kernel) rfl rfl (Nat.le_of_ble_eq_true rfl) dX7_findsSet_43 (fun H locs hP hD hS => ?_)
          have hP : va_P D vwCl [(q0, .inr (7, [.ref q1, .ref q2, .int un, .ref q3, .int (nI ((fb_ct (fun z => x.testBit z) i) + 1)), .ref q4, .int tl, .ref q5, .ref q6, .int re, .int at0, .int fa, .ref q7, .ref q8, .long hsh])), (q1, .inl (cI, 43, .inl mm)), (q3, .inl (cI, 20, .inl (upd u (fb_ct (fun z => x.testBit z) i) (nI i))))] _ := hP
          have hD : va_D (inW [(q0, .inr (7, [.ref q1, .ref q2, .int un, .ref q3, .int fi, .ref q4, .int tl, .ref q5, .ref q6, .int re, .int at0, .int fa, .ref q7, .ref q8, .long hsh])), (q1, .inl (cI, 43, .inl mm)), (q3, .inl (cI, 20, .inl fd))]) [(q0, .inr (7, [.ref q1, .ref q2, .int un, .ref q3, .int (nI ((fb_ct (fun z => x.testBit z) i) + 1)), .ref q4, .int tl, .ref q5, .ref q6, .int re, .int at0, .int fa, .ref q7, .ref q8, .long hsh])), (q1, .inl (cI, 43, .inl mm)), (q3, .inl (cI, 20, .inl (upd u (fb_ct (fun z => x.testBit z) i) (nI i))))] := hD
          have e9 : ([(q0, .inr (7, [.ref q1, .ref q2, .int un, .ref q3, .int (nI ((fb_ct (fun z => x.testBit z) i) + 1)), .ref q4, .int tl, .ref q5, .ref q6, .int re, .int at0, .int fa, .ref q7, .ref q8, .long hsh])), (q1, .inl (cI, 43, .inl mm)), (q3, .inl (cI, 20, .inl (upd u (fb_ct (fun z => x.testBit z) i) (nI i))))] : va_W) = [(q0, .inr (7, [.ref q1, .ref q2, .int un, .ref q3, .int (nI (fb_ct (fun z => x.testBit z) (i + 1))), .ref q4, .int tl, .ref q5, .ref q6, .int re, .int at0, .int fa, .ref q7, .ref q8, .long hsh])), (q1, .inl (cI, 43, .inl mm)), (q3, .inl (cI, 20, .inl (upd u (fb_ct (fun z => x.testBit z) i) (nI i))))] := congrArg (fun f9 : Int32 => ([(q0, .inr (7, [.ref q1, .ref q2, .int un, .ref q3, .int f9, .ref q4, .int tl, .ref q5, .ref q6, .int re, .int at0, .int fa, .ref q7, .ref q8, .long hsh])), (q1, .inl (cI, 43, .inl mm)), (q3, .inl (cI, 20, .inl (upd u (fb_ct (fun z => x.testBit z) i) (nI i))))] : va_W)) (show nI ((fb_ct (fun z => x.testBit z) i) + 1) = nI (fb_ct (fun z => x.testBit z) (i + 1)) from (congrArg nI (fb_ct_T (P := (fun z => x.testBit z)) c1)).symm)
          have hP := va_P_eq e9 hP
          have hD := va_D_eq e9 hD
          refine lv_iinc (v := nI (i + 1)) (lv' := [(2, .int (nI (i + 1))), (0, .ref q0), (1, .int (nI x))]) hx hb dX7_findsSet_46 hl (k := 2) rfl (inc1 _) (by decide) rfl (fun ls hl => ?_)
          refine lv_goto (tgt := 7) hx hb dX7_findsSet_49 (by decide) ?_
          exact ih_7 (i + 1) (upd u (fb_ct (fun z => x.testBit z) i) (nI i)) (by omega) (by omega) (ks_T hu c1) _ _ hP hD hS ls (lv_sub hl [1, 2, 0] rfl)
  exact L_7 _ 0 fd (Nat.lt_succ_self _) (by omega) (fun z hz => absurd hz (Nat.not_lt_zero z)) _ _ hP hD hS ls (lv_sub hl [1, 2, 0] rfl)
