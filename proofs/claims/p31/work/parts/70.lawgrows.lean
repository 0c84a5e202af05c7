/-! the law's script, and how it lays a profile -/
abbrev xPc (b L : Nat) (xs : Nat → Int32) (av : List Value) : Array Value → State → Prop := va_Pc av (fun U => va_X b L xs U U.heap ∧ b < U.heap.size)
theorem lw_preX {b L : Nat} {xs : Nat → Int32} {s : State} {H0 H : Heap} {locs : List Loc} {A0 : Nat → Prop} {As : List Value} (hX : va_X b L xs s H0) (hbl : b < H0.size) (hbA : ¬ A0 b) (hS : va_S A0 H0 H locs) : PreS s H (xPc b L xs As) As :=
  ⟨fun a U g mk q => by obtain ⟨q0, qX, qb⟩ := q; exact ⟨q0, va_X.moved (u := U) (U := U.calling g mk a) (Vm.Alike.refl U.vm) qX, qb⟩, fun U hU hW => ⟨rfl, by rw [hU]; exact (hX.kept (hS.2.1 b hbl hbA)).moved hW.alike, by rw [hU]; exact Nat.lt_of_lt_of_le hbl hS.1⟩⟩
theorem ge_f9 {L k : Nat} (hL : L ≤ 260) (hk : k < 2 ^ 20) (c : ¬ nI L ≤ nI k) : k < L := ge_f (by omega) c
theorem kL_cell_0 : (.constant RL 7 (795577677) : Cond) ∈ wsL_cell := by decide +kernel
set_option maxHeartbeats 4000000 in
set_option maxRecDepth 100000 in
theorem c_L_cell (l : Launch) (b L : Nat) (xs : Nat → Int32) (k : Nat) (hL : L ≤ 260) (hk : k < 2 ^ 20) : Met l yL_cell wsL_cell (rmD 1) (xPc b L xs [.ref b, .int (nI k)]) (rdQi (fun r => True)) 0 0 noA := by
  refine Met.ofW (cc := cL_cell) (maxL := 2) (ret := (some .int)) (by decide) rfl ?_
  intro p e s m args below meth c s₁ B hml hv
  obtain ⟨rfl, hXs, hbl⟩ := hv
  have hx := B.exec
  have hb := B.bytes
  have hr := B.returns
  have hts := atoms_spec (ws := wsL_cell) B.pre
  have hown : s.vm.findClass RL = some m.cls := findClass_of_methodNamed B.named
  have hlocks := B.notSynchronized
  have hS : va_S noA s.heap s.heap [] := va_S.rf
  have hl := lv_entry ([.ref b, .int (nI k)]) (n := 2) (Nat.le_of_ble_eq_true rfl)
  rw [lg_entry_eq]
  generalize (lg_sl ([.ref b, .int (nI k)]) ++ List.replicate (2 - (lg_sl ([.ref b, .int (nI k)])).length) Slot.unset).toArray = ls at hl ⊢
  have hl : lv_has ls 2 [(0, .ref b), (1, .int (nI k))] := hl
  refine lv_iload_n hx hb dL_cell_0 rfl (lv_at hl 1 rfl) ?_
  refine lv_aload_n hx hb dL_cell_1 rfl (lv_at hl 0 rfl) ?_
  refine va_slen hx hb hXs hbl (fun h => h) hS dL_cell_2 ?_
  refine lv_icmp_ge (tgt := 12) hx hb dL_cell_3 (by decide) (fun c_3 => ?_) (fun c_3 => ?_)
  · skip
    refine lv_ldc (v := 795577677) hx hb hown (hts (.constant RL 7 (795577677)) kL_cell_0) dL_cell_12 ?_
    refine lv_iload_n hx hb dL_cell_14 rfl (lv_at hl 1 rfl) ?_
    refine lv_iconst (v := 1) hx hb dL_cell_15 (by decide) ?_
    refine lv_iadd hx hb dL_cell_16 ?_
    refine lv_topi (fun y_1 e_2 => ?_)
    have e_2 : nI (k + 1) = y_1 := (e_2.trans (nI_add k 1)).symm
    subst e_2
    refine lv_imul hx hb dL_cell_17 ?_
    exact W.iret (v := 795577677 * (nI (k + 1))) hx hb hr (fun tS htS hWS => ⟨⟨795577677 * (nI (k + 1)), (), rfl, trivial, trivial⟩, hS.F htS⟩) hS.2.2 dL_cell_18
  · skip
    refine lv_aload_n hx hb dL_cell_6 rfl (lv_at hl 0 rfl) ?_
    refine lv_iload_n hx hb dL_cell_7 rfl (lv_at hl 1 rfl) ?_
    refine va_sld hx hb hXs hbl (fun h => h) hS (vp_in_nI (N := L) (n := k) (ge_f9 hL hk c_3) (by omega)) dL_cell_8 ?_
    rw [nI_clamp (n := k) (by omega)]
    refine lv_goto (tgt := 18) hx hb dL_cell_9 (by decide) ?_
    exact W.iret (v := xs k) hx hb hr (fun tS htS hWS => ⟨⟨xs k, (), rfl, trivial, trivial⟩, hS.F htS⟩) hS.2.2 dL_cell_18
def G50 (f : Nat → Int32) (k : Nat) : Nat → Int32 := fun j => if j < k then f j else 50
def M00 (f : Nat → Int32) (k : Nat) : Nat → Int32 := fun j => if j < k then f (8 + j) else 0
theorem SRX.gw {cI cB cO : ClassId} {A : Nat → Nat} {X : va_W} {n k : Nat} {f : Nat → Int32} {y z : Int32} (h8 : n ≤ 8) (hk : k < n) (h : SRX cI cB cO A X n (f 17) (f 18) (upd (G50 f k) k y) (upd (M00 f k) k z)) : SRX cI cB cO A X n (upd (upd f k y) (8 + k) z 17) (upd (upd f k y) (8 + k) z 18) (G50 (upd (upd f k y) (8 + k) z) (k + 1)) (M00 (upd (upd f k y) (8 + k) z) (k + 1)) := by
  refine h.cong ?_ ?_ (fun j hj => ?_) (fun j hj => ?_)
  · rw [pk_un (by omega), pk_un (by omega)]
  · rw [pk_un (by omega), pk_un (by omega)]
  · unfold G50
    by_cases q : j = k
    · rw [q, pk_us, if_pos (Nat.lt_succ_self k), pk_un (by omega), pk_us]
    · rw [pk_un q]
      by_cases r : j < k
      · rw [if_pos r, if_pos (by omega), pk_un (by omega), pk_un q]
      · rw [if_neg r, if_neg (by omega)]
  · unfold M00
    by_cases q : j = k
    · rw [q, pk_us, if_pos (Nat.lt_succ_self k), pk_us]
    · rw [pk_un q]
      by_cases r : j < k
      · rw [if_pos r, if_pos (by omega), pk_un (by omega), pk_un (by omega)]
      · rw [if_neg r, if_neg (by omega)]
theorem SRX.g0 {cI cB cO : ClassId} {A : Nat → Nat} {X : va_W} {n : Nat} {f : Nat → Int32} (h : SRX cI cB cO A X n (f 17) (f 18) (fun _ => 50) (fun _ => 0)) : SRX cI cB cO A X n (f 17) (f 18) (G50 f 0) (M00 f 0) :=
  h.cong rfl rfl (fun j _ => (if_neg (Nat.not_lt_zero j)).symm) (fun j _ => (if_neg (Nat.not_lt_zero j)).symm)
theorem SRX.g9 {cI cB cO : ClassId} {A : Nat → Nat} {X : va_W} {n k : Nat} {f : Nat → Int32} (hk : n ≤ k) (h : SRX cI cB cO A X n (f 17) (f 18) (G50 f k) (M00 f k)) : SRX cI cB cO A X n (f 17) (f 18) f (M8 f) :=
  h.cong rfl rfl (fun j hj => if_pos (by omega)) (fun j hj => if_pos (by omega))
theorem G50_k (f : Nat → Int32) (k : Nat) : G50 f k k = 50 := if_neg (Nat.lt_irrefl k)
theorem M00_k (f : Nat → Int32) (k : Nat) : M00 f k k = 0 := if_neg (Nat.lt_irrefl k)
theorem r3_16 {f : Nat → Int32} {x y z : Int32} : upd (upd (upd f 16 x) 17 y) 18 z 16 = x := by rw [pk_un (by decide), pk_un (by decide), pk_us]
theorem r3_17 {f : Nat → Int32} {x y z : Int32} : upd (upd (upd f 16 x) 17 y) 18 z 17 = y := by rw [pk_un (by decide), pk_us]
theorem r3_18 {f : Nat → Int32} {x y z : Int32} : upd (upd (upd f 16 x) 17 y) 18 z 18 = z := pk_us
set_option maxHeartbeats 4000000 in
set_option maxRecDepth 100000 in
/-- grows(o, a, s, 0, 8) -/
theorem c_L_grows (l : Launch) (D : va_G) (cI cB cO : ClassId) (A : Nat → Nat) (qa : Nat) (f0 : Nat → Int32) (X0 : va_W) (b L : Nat) (xs : Nat → Int32) (hX0 : SRX cI cB cO A X0 2 19 0 (fun _ => 0) (fun _ => 0)) (hL : L ≤ 260) (hbW : ¬ inW ((qa, .inl (cI, 20, .inl f0)) :: X0) b) : Met l yL_grows wsL_grows (rmD 8) (va_Pc [.ref (A 0), .ref qa, .ref b, .int (nI 0), .int (nI 8)] (fun U => va_P D vwCl ((qa, .inl (cI, 20, .inl f0)) :: X0) U.heap ∧ va_K D vwCl (tyL cI cB cO) U ∧ NW U ∧ va_D (fun _ => True) ((qa, .inl (cI, 20, .inl f0)) :: X0) ∧ va_X b L xs U U.heap ∧ b < U.heap.size)) (wrQi D ((qa, .inl (cI, 20, .inl f0)) :: X0) (fun (r : Int32) (u : Nat × (Nat → Int32) × va_W) => r = 1 ∧ u.2.1 16 = nI u.1 ∧ u.1 ≤ 8 ∧ SRX cI cB cO A u.2.2 u.1 (u.2.1 17) (u.2.1 18) u.2.1 (M8 u.2.1)) (fun (u : Nat × (Nat → Int32) × va_W) => ((qa, .inl (cI, 20, .inl u.2.1)) :: u.2.2))) 0 0 (inW ((qa, .inl (cI, 20, .inl f0)) :: X0)) := by
  refine Met.ofW (cc := cL_grows) (maxL := 8) (ret := (some .boolean)) (by decide) rfl ?_
  intro p e s m args below meth c s₁ B hml hv
  obtain ⟨rfl, hP, hK, hN, hD, hXs, hbl⟩ := hv
  have hx := B.exec
  have hb := B.bytes
  have hr := B.returns
  have hts := atoms_spec (ws := wsL_grows) B.pre
  have hown : s.vm.findClass RL = some m.cls := findClass_of_methodNamed B.named
  have hlocks := B.notSynchronized
  have hS : va_S (inW ((qa, .inl (cI, 20, .inl f0)) :: X0)) s.heap s.heap [] := va_S.rf
  have hD : va_D (inW ((qa, .inl (cI, 20, .inl f0)) :: X0)) ((qa, .inl (cI, 20, .inl f0)) :: X0) := inW_self hD
  have hl := lv_entry ([.ref (A 0), .ref qa, .ref b, .int (nI 0), .int (nI 8)]) (n := 8) (Nat.le_of_ble_eq_true rfl)
  rw [lg_entry_eq]
  generalize (lg_sl ([.ref (A 0), .ref qa, .ref b, .int (nI 0), .int (nI 8)]) ++ List.replicate (8 - (lg_sl ([.ref (A 0), .ref qa, .ref b, .int (nI 0), .int (nI 8)])).length) Slot.unset).toArray = ls at hl ⊢
  have hl : lv_has ls 8 [(0, .ref (A 0)), (1, .ref qa), (2, .ref b), (3, .int (nI 0)), (4, .int (nI 8))] := hl
  obtain ⟨X, hX, hP, hD⟩ : ∃ X : va_W, SRX cI cB cO A X 2 19 0 (fun _ => 0) (fun _ => 0) ∧ va_P D vwCl ((qa, .inl (cI, 20, .inl f0)) :: X) s.heap ∧ va_D (inW ((qa, .inl (cI, 20, .inl f0)) :: X0)) ((qa, .inl (cI, 20, .inl f0)) :: X) := ⟨X0, hX0, hP, hD⟩
  refine lv_aload_n hx hb dL_grows_0 rfl (lv_at hl 2 rfl) ?_
  refine lv_iload_n hx hb dL_grows_1 rfl (lv_at hl 3 rfl) ?_
  refine rd_calli hP hS (va_runS (As := [.ref b, .int (nI 0)]) (rest := []) ⟨hx, hb, hml, hown, hts⟩ (c_L_cell l b L xs 0 hL (by omega)) (va_cwS 2 hts gL_grows_L_cell rfl rfl rfl (by decide +kernel) ⟨Nat.le_of_ble_eq_true rfl, Nat.le_of_ble_eq_true rfl⟩) (lw_preX hXs hbl hbW hS) rfl rfl hl.1 rfl (lv_room (Nat.le_of_ble_eq_true rfl)) dL_grows_2 ⟨Nat.le_refl _, Nat.le_refl _⟩) (fun v H locs _ hP hS => ?_)
  refine lv_istore (lv' := [(5, .int v), (0, .ref (A 0)), (1, .ref qa), (2, .ref b), (3, .int (nI 0)), (4, .int (nI 8))]) hx hb dL_grows_5 hl (by decide) rfl (fun ls hl => ?_)
  refine lv_aload_n hx hb dL_grows_7 rfl (lv_at hl 2 rfl) ?_
  refine lv_bipush (v := 16) hx hb dL_grows_8 (by decide) ?_
  refine lv_iconst (v := 2) hx hb dL_grows_10 (by decide) ?_
  refine lv_iload hx hb dL_grows_11 (lv_at hl 0 rfl) ?_
  refine lv_iload hx hb dL_grows_13 (lv_at hl 5 rfl) ?_
  refine lv_iconst (v := 1) hx hb dL_grows_15 (by decide) ?_
  skip
  refine lv_isub hx hb dL_grows_16 ?_
  refine lv_topi (fun y_1 e_2 => ?_)
  have e_2 : nI 7 = y_1 := (e_2.trans ((pk_sub (a := 8) (b := 1) (by decide)))).symm
  subst e_2
  refine rd_calli hP hS (va_runS (As := [.int v, .int (nI 7)]) (rest := [.int 2, .int 16, .ref qa]) ⟨hx, hb, hml, hown, hts⟩ (c_L_low l D cI cB cO v 7 (by omega) (by omega)) (va_cwS 2 hts gL_grows_L_low rfl rfl rfl (by decide +kernel) ⟨Nat.le_of_ble_eq_true rfl, Nat.le_of_ble_eq_true rfl⟩) (rd_preS hK (hP.pick [] rfl) hN) rfl rfl hl.1 rfl (lv_room (Nat.le_of_ble_eq_true rfl)) dL_grows_17 ⟨Nat.le_refl _, Nat.le_refl _⟩) (fun r_17 H locs h_17 hP hS => ?_)
  obtain ⟨n0, hn0, rfl⟩ := h_17
  refine lv_iadd hx hb dL_grows_20 ?_
  refine lv_topi (fun y_3 e_4 => ?_)
  have e_4 : nI (2 + n0) = y_3 := (e_4.trans (nI_add 2 n0)).symm
  subst e_4
  obtain ⟨n, en⟩ : ∃ n, n = 2 + n0 := ⟨_, rfl⟩
  rw [← en]
  refine va_iast hx hb hK hP hD hS 0 0 rfl rfl (i := nI 16) (vp_in_nI (N := 20) (by decide) (by decide)) dL_grows_21 (fun H locs hP hD hS => ?_)
  rw [nI_clamp (n := 16) (by decide)] at hP hD
  have hP : va_P D vwCl ((qa, .inl (cI, 20, .inl (upd f0 16 (nI n)))) :: X) _ := hP
  have hD : va_D (inW ((qa, .inl (cI, 20, .inl f0)) :: X0)) ((qa, .inl (cI, 20, .inl (upd f0 16 (nI n)))) :: X) := hD
  refine lv_aload_n hx hb dL_grows_22 rfl (lv_at hl 2 rfl) ?_
  refine lv_bipush (v := 17) hx hb dL_grows_23 (by decide) ?_
  refine W_joinH (D := D) (ws := ((qa, .inl (cI, 20, .inl (upd f0 16 (nI n)))) :: X)) (A0 := (inW ((qa, .inl (cI, 20, .inl f0)) :: X0))) (H0 := s.heap) (pc2 := 52) (st2 := [.int 17, .ref qa]) (fun x9 => ∃ z, x9 = nI z ∧ 1 ≤ z ∧ z ≤ 19) hP hD hS (fun x9 hx9 H locs hP hD hS => ?_) (fun J_52 => ?_)
  · skip
    obtain ⟨rg, rfl, hrg_0, hrg_1⟩ := hx9
    refine va_iast hx hb hK hP hD hS 0 0 rfl rfl (i := nI 17) (vp_in_nI (N := 20) (by decide) (by decide)) dL_grows_52 (fun H locs hP hD hS => ?_)
    rw [nI_clamp (n := 17) (by decide)] at hP hD
    have hP : va_P D vwCl ((qa, .inl (cI, 20, .inl (upd (upd f0 16 (nI n)) 17 (nI rg)))) :: X) _ := hP
    have hD : va_D (inW ((qa, .inl (cI, 20, .inl f0)) :: X0)) ((qa, .inl (cI, 20, .inl (upd (upd f0 16 (nI n)) 17 (nI rg)))) :: X) := hD
    refine lv_aload_n hx hb dL_grows_53 rfl (lv_at hl 2 rfl) ?_
    refine lv_bipush (v := 18) hx hb dL_grows_54 (by decide) ?_
    refine W_joinH (D := D) (ws := ((qa, .inl (cI, 20, .inl (upd (upd f0 16 (nI n)) 17 (nI rg)))) :: X)) (A0 := (inW ((qa, .inl (cI, 20, .inl f0)) :: X0))) (H0 := s.heap) (pc2 := 82) (st2 := [.int 18, .ref qa]) (fun x9 => ∃ z, x9 = nI z ∧ z ≤ 9) hP hD hS (fun x9 hx9 H locs hP hD hS => ?_) (fun J_82 => ?_)
    · skip
      obtain ⟨bl, rfl, hbl_0⟩ := hx9
      refine va_iast hx hb hK hP hD hS 0 0 rfl rfl (i := nI 18) (vp_in_nI (N := 20) (by decide) (by decide)) dL_grows_82 (fun H locs hP hD hS => ?_)
      rw [nI_clamp (n := 18) (by decide)] at hP hD
      have hP : va_P D vwCl ((qa, .inl (cI, 20, .inl (upd (upd (upd f0 16 (nI n)) 17 (nI rg)) 18 (nI bl)))) :: X) _ := hP
      have hD : va_D (inW ((qa, .inl (cI, 20, .inl f0)) :: X0)) ((qa, .inl (cI, 20, .inl (upd (upd (upd f0 16 (nI n)) 17 (nI rg)) 18 (nI bl)))) :: X) := hD
      obtain ⟨f, ef⟩ : ∃ f : Nat → Int32, f = upd (upd (upd f0 16 (nI n)) 17 (nI rg)) 18 (nI bl) := ⟨_, rfl⟩
      have h16 : f 16 = nI n := by rw [ef]; exact r3_16
      have h17 : f 17 = nI rg := by rw [ef]; exact r3_17
      have h18 : f 18 = nI bl := by rw [ef]; exact r3_18
      rw [← ef] at hP hD
      clear ef
      refine lv_aload_n hx hb dL_grows_83 rfl (lv_at hl 1 rfl) ?_
      refine lv_aload_n hx hb dL_grows_84 rfl (lv_at hl 2 rfl) ?_
      refine lv_bipush (v := 16) hx hb dL_grows_85 (by decide) ?_
      refine va_iald hx hb hK hP 0 0 rfl rfl (i := nI 16) (vp_in_nI (N := 20) (by decide) (by decide)) dL_grows_87 ?_
      rw [nI_clamp (n := 16) (by decide)]
      refine lv_topi (fun y_5 e_6 => ?_)
      have e_6 : nI n = y_5 := (e_6.trans (h16)).symm
      subst e_6
      refine lv_bipush (v := 50) hx hb dL_grows_88 (by decide) ?_
      have hPb : va_P D vwCl ([(qa, .inl (cI, 20, .inl f))] ++ X) _ := hP
      have hDb : va_D (inW ((qa, .inl (cI, 20, .inl f0)) :: X0)) ([(qa, .inl (cI, 20, .inl f))] ++ X) := hD
      refine ox_calli hPb hDb hX hS (va_runV (As := [.int (nI n), .int 50]) (rest := []) ⟨hx, hb, hml, hown, hts⟩ (y_reset_ok l D cI cB cO A 2 19 0 (fun _ => 0) (fun _ => 0) n 50 (by omega) (by omega) (by decide) ⟨50, by decide, rfl⟩) (cwV 2 hts gL_grows_X6_reset rfl rfl rfl (by decide +kernel) ⟨Nat.le_of_ble_eq_true rfl, Nat.le_of_ble_eq_true rfl⟩) (ox_pre hK hPb hDb hX hN) rfl rfl hl.1 rfl (lv_room (Nat.le_of_ble_eq_true rfl)) dL_grows_90 ⟨Nat.le_refl _, Nat.le_refl _⟩) (fun X H locs hX hP hD hS => ?_)
      have hP : va_P D vwCl ((qa, .inl (cI, 20, .inl f)) :: X) _ := hP
      have hD : va_D (inW ((qa, .inl (cI, 20, .inl f0)) :: X0)) ((qa, .inl (cI, 20, .inl f)) :: X) := hD
      refine lv_aload_n hx hb dL_grows_93 rfl (lv_at hl 2 rfl) ?_
      refine lv_bipush (v := 16) hx hb dL_grows_94 (by decide) ?_
      refine va_iald hx hb hK hP 0 0 rfl rfl (i := nI 16) (vp_in_nI (N := 20) (by decide) (by decide)) dL_grows_96 ?_
      rw [nI_clamp (n := 16) (by decide)]
      refine lv_topi (fun y_7 e_8 => ?_)
      have e_8 : nI n = y_7 := (e_8.trans (h16)).symm
      subst e_8
      refine lv_icmp_ne (tgt := 124) hx hb dL_grows_97 (by decide) (fun c_97 => ?_) (fun c_97 => ?_)
      · skip
        exact absurd (rfl) c_97
      · skip
        refine lv_aload_n hx hb dL_grows_100 rfl (lv_at hl 1 rfl) ?_
        refine lv_aload_n hx hb dL_grows_101 rfl (lv_at hl 2 rfl) ?_
        refine lv_bipush (v := 17) hx hb dL_grows_102 (by decide) ?_
        refine va_iald hx hb hK hP 0 0 rfl rfl (i := nI 17) (vp_in_nI (N := 20) (by decide) (by decide)) dL_grows_104 ?_
        rw [nI_clamp (n := 17) (by decide)]
        refine lv_topi (fun y_9 e_10 => ?_)
        have e_10 : nI rg = y_9 := (e_10.trans (h17)).symm
        subst e_10
        have hPb : va_P D vwCl ([(qa, .inl (cI, 20, .inl f))] ++ X) _ := hP
        have hDb : va_D (inW ((qa, .inl (cI, 20, .inl f0)) :: X0)) ([(qa, .inl (cI, 20, .inl f))] ++ X) := hD
        refine ox_calli hPb hDb hX hS (va_runV (As := [.int (nI rg)]) (rest := []) ⟨hx, hb, hml, hown, hts⟩ (y_setRange_ok l D cI cB cO A n 19 0 (fun _ => 50) (fun _ => 0) (nI rg) (inB_nI (a := 1) (b := 19) (by omega) (by omega) (by decide)) ⟨_, by omega, by omega, rfl⟩) (cwV 1 hts gL_grows_X6_setRange rfl rfl rfl (by decide +kernel) ⟨Nat.le_of_ble_eq_true rfl, Nat.le_of_ble_eq_true rfl⟩) (ox_pre hK hPb hDb hX hN) rfl rfl hl.1 rfl (lv_room (Nat.le_of_ble_eq_true rfl)) dL_grows_105 ⟨Nat.le_refl _, Nat.le_refl _⟩) (fun X H locs hX hP hD hS => ?_)
        have hP : va_P D vwCl ((qa, .inl (cI, 20, .inl f)) :: X) _ := hP
        have hD : va_D (inW ((qa, .inl (cI, 20, .inl f0)) :: X0)) ((qa, .inl (cI, 20, .inl f)) :: X) := hD
        refine lv_bipush (v := 19) hx hb dL_grows_108 (by decide) ?_
        refine lv_icmp_ne (tgt := 124) hx hb dL_grows_110 (by decide) (fun c_110 => ?_) (fun c_110 => ?_)
        · skip
          exact absurd (by decide) c_110
        · skip
          refine lv_aload_n hx hb dL_grows_113 rfl (lv_at hl 1 rfl) ?_
          refine lv_aload_n hx hb dL_grows_114 rfl (lv_at hl 2 rfl) ?_
          refine lv_bipush (v := 18) hx hb dL_grows_115 (by decide) ?_
          refine va_iald hx hb hK hP 0 0 rfl rfl (i := nI 18) (vp_in_nI (N := 20) (by decide) (by decide)) dL_grows_117 ?_
          rw [nI_clamp (n := 18) (by decide)]
          refine lv_topi (fun y_11 e_12 => ?_)
          have e_12 : nI bl = y_11 := (e_12.trans (h18)).symm
          subst e_12
          have hPb : va_P D vwCl ([(qa, .inl (cI, 20, .inl f))] ++ X) _ := hP
          have hDb : va_D (inW ((qa, .inl (cI, 20, .inl f0)) :: X0)) ([(qa, .inl (cI, 20, .inl f))] ++ X) := hD
          refine ox_calli hPb hDb hX hS (va_runV (As := [.int (nI bl)]) (rest := []) ⟨hx, hb, hml, hown, hts⟩ (y_setBulge_ok l D cI cB cO A n (nI rg) 0 (fun _ => 50) (fun _ => 0) (nI bl) (inB_nI (a := 0) (b := 9) (by omega) (by omega) (by decide)) ⟨_, by omega, rfl⟩) (cwV 1 hts gL_grows_X6_setBulge rfl rfl rfl (by decide +kernel) ⟨Nat.le_of_ble_eq_true rfl, Nat.le_of_ble_eq_true rfl⟩) (ox_pre hK hPb hDb hX hN) rfl rfl hl.1 rfl (lv_room (Nat.le_of_ble_eq_true rfl)) dL_grows_118 ⟨Nat.le_refl _, Nat.le_refl _⟩) (fun X H locs hX hP hD hS => ?_)
          have hP : va_P D vwCl ((qa, .inl (cI, 20, .inl f)) :: X) _ := hP
          have hD : va_D (inW ((qa, .inl (cI, 20, .inl f0)) :: X0)) ((qa, .inl (cI, 20, .inl f)) :: X) := hD
          refine lv_if_eq (tgt := 126) hx hb dL_grows_121 (by decide) (fun c_121 => ?_) (fun c_121 => ?_)
          · skip
            have hX : SRX cI cB cO A X n (f 17) (f 18) (G50 f 0) (M00 f 0) := SRX.g0 (by rw [h17, h18]; exact hX)
            clear h17 h18
            refine lv_iconst (v := 0) hx hb dL_grows_126 (by decide) ?_
            have h8 : n ≤ 8 := by omega
            have h2n : 2 ≤ n := by omega
            have hn : n ≤ 20 := by omega
            refine lv_istore (lv' := [(6, .int 0), (5, .int v), (0, .ref (A 0)), (1, .ref qa), (2, .ref b), (3, .int (nI 0)), (4, .int (nI 8))]) hx hb dL_grows_127 hl (by decide) rfl (fun ls hl => ?_)
            have L_129 : ∀ (k_129 : Nat) (k : Nat) (f : Nat → Int32) (X : va_W), n - k < k_129 → (k ≤ n) → (f 16 = nI n) → (SRX cI cB cO A X n (f 17) (f 18) (G50 f k) (M00 f k)) → ∀ (H : Heap) (locs : List Loc), va_P D vwCl ((qa, .inl (cI, 20, .inl f)) :: X) H → va_D (inW ((qa, .inl (cI, 20, .inl f0)) :: X0)) ((qa, .inl (cI, 20, .inl f)) :: X) → va_S (inW ((qa, .inl (cI, 20, .inl f0)) :: X0)) s.heap H locs → ∀ (ls : Array Slot), lv_has ls 8 [(0, .ref (A 0)), (1, .ref qa), (2, .ref b), (3, .int (nI 0)), (4, .int (nI 8)), (5, .int v), (6, .int (nI k))] → W p l e (rmD 8) s m ([.ref (A 0), .ref qa, .ref b, .int (nI 0), .int (nI 8)] : List Value).toArray below meth c H locs 0 0 (MQ below (wrQi D ((qa, .inl (cI, 20, .inl f0)) :: X0) (fun (r : Int32) (u : Nat × (Nat → Int32) × va_W) => r = 1 ∧ u.2.1 16 = nI u.1 ∧ u.1 ≤ 8 ∧ SRX cI cB cO A u.2.2 u.1 (u.2.1 17) (u.2.1 18) u.2.1 (M8 u.2.1)) (fun (u : Nat × (Nat → Int32) × va_W) => ((qa, .inl (cI, 20, .inl u.2.1)) :: u.2.2))) ([.ref (A 0), .ref qa, .ref b, .int (nI 0), .int (nI 8)] : List Value).toArray s 0 0 (inW ((qa, .inl (cI, 20, .inl f0)) :: X0))) (F0 m 129 ls []) := by
              intro k_129
              induction k_129 with
              | zero => intro k f X h9; exact absurd h9 (Nat.not_lt_zero _)
              | succ k_129 ih_129 =>
                intro k f X hm_129 hk0 h16 hX H locs hP hD hS ls hl
                refine lv_iload hx hb dL_grows_129 (lv_at hl 6 rfl) ?_
                refine lv_aload_n hx hb dL_grows_131 rfl (lv_at hl 1 rfl) ?_
                refine lv_bipush (v := 16) hx hb dL_grows_132 (by decide) ?_
                refine va_iald hx hb hK hP 0 0 rfl rfl (i := nI 16) (vp_in_nI (N := 20) (by decide) (by decide)) dL_grows_134 ?_
                rw [nI_clamp (n := 16) (by decide)]
                refine lv_topi (fun y_13 e_14 => ?_)
                have e_14 : nI n = y_13 := (e_14.trans (h16)).symm
                subst e_14
                refine lv_icmp_ge (tgt := 253) hx hb dL_grows_135 (by decide) (fun c_135 => ?_) (fun c_135 => ?_)
                · skip
                  have g135 : n ≤ k := ge_t (by omega) c_135
                  refine lv_aload_n hx hb dL_grows_253 rfl (lv_at hl 0 rfl) ?_
                  refine lv_iconst (v := 0) hx hb dL_grows_254 (by decide) ?_
                  have hX : SRX cI cB cO A X n (f 17) (f 18) f (M8 f) := hX.g9 g135
                  have hPb : va_P D vwCl ([(qa, .inl (cI, 20, .inl f))] ++ X) _ := hP
                  have hDb : va_D (inW ((qa, .inl (cI, 20, .inl f0)) :: X0)) ([(qa, .inl (cI, 20, .inl f))] ++ X) := hD
                  refine ox_calli hPb hDb hX hS (va_runV (As := [.int 0]) (rest := []) ⟨hx, hb, hml, hown, hts⟩ (y_count l D cI cB cO A n (f 17) (f 18) f (M8 f) 0 (by decide) (by decide)) (cwV 1 hts gL_grows_X6_count rfl rfl rfl (by decide +kernel) ⟨Nat.le_of_ble_eq_true rfl, Nat.le_of_ble_eq_true rfl⟩) (ox_pre hK hPb hDb hX hN) rfl rfl hl.1 rfl (lv_room (Nat.le_of_ble_eq_true rfl)) dL_grows_255 ⟨Nat.le_refl _, Nat.le_refl _⟩) (fun X H locs hX hP hD hS => ?_)
                  have hP : va_P D vwCl ((qa, .inl (cI, 20, .inl f)) :: X) _ := hP
                  have hD : va_D (inW ((qa, .inl (cI, 20, .inl f0)) :: X0)) ((qa, .inl (cI, 20, .inl f)) :: X) := hD
                  refine lv_topi (fun y_15 e_16 => ?_)
                  have e_16 : nI n = y_15 := (e_16.trans (rfl)).symm
                  subst e_16
                  refine lv_aload_n hx hb dL_grows_258 rfl (lv_at hl 1 rfl) ?_
                  refine lv_bipush (v := 16) hx hb dL_grows_259 (by decide) ?_
                  refine va_iald hx hb hK hP 0 0 rfl rfl (i := nI 16) (vp_in_nI (N := 20) (by decide) (by decide)) dL_grows_261 ?_
                  rw [nI_clamp (n := 16) (by decide)]
                  refine lv_topi (fun y_17 e_18 => ?_)
                  have e_18 : nI n = y_17 := (e_18.trans (h16)).symm
                  subst e_18
                  refine lv_icmp_ne (tgt := 269) hx hb dL_grows_262 (by decide) (fun c_262 => ?_) (fun c_262 => ?_)
                  · skip
                    exact absurd (rfl) c_262
                  · skip
                    refine lv_iconst (v := 1) hx hb dL_grows_265 (by decide) ?_
                    refine lv_goto (tgt := 270) hx hb dL_grows_266 (by decide) ?_
                    exact W.zret (v := 1) hx hb hr (rfl) (fun tS htS hWS => ⟨⟨1, (n, f, X), rfl, ⟨rfl, h16, h8, hX⟩, retP htS hP⟩, hS.F htS⟩) hS.2.2 dL_grows_270
                · skip
                  have g135 : k < n := ge_f (by omega) c_135
                  refine lv_aload_n hx hb dL_grows_138 rfl (lv_at hl 2 rfl) ?_
                  refine lv_iload_n hx hb dL_grows_139 rfl (lv_at hl 3 rfl) ?_
                  refine lv_iconst (v := 1) hx hb dL_grows_140 (by decide) ?_
                  refine lv_iadd hx hb dL_grows_141 ?_
                  refine lv_topi (fun y_19 e_20 => ?_)
                  have e_20 : nI (0 + 1) = y_19 := (e_20.trans (nI_add 0 1)).symm
                  subst e_20
                  refine lv_iload hx hb dL_grows_142 (lv_at hl 6 rfl) ?_
                  refine lv_iadd hx hb dL_grows_144 ?_
                  refine lv_topi (fun y_21 e_22 => ?_)
                  have e_22 : nI (0 + 1 + k) = y_21 := (e_22.trans (nI_add (0 + 1) k)).symm
                  subst e_22
                  refine rd_calli hP hS (va_runS (As := [.ref b, .int (nI (0 + 1 + k))]) (rest := []) ⟨hx, hb, hml, hown, hts⟩ (c_L_cell l b L xs (0 + 1 + k) hL (by omega)) (va_cwS 2 hts gL_grows_L_cell rfl rfl rfl (by decide +kernel) ⟨Nat.le_of_ble_eq_true rfl, Nat.le_of_ble_eq_true rfl⟩) (lw_preX hXs hbl hbW hS) rfl rfl hl.1 rfl (lv_room (Nat.le_of_ble_eq_true rfl)) dL_grows_145 ⟨Nat.le_refl _, Nat.le_refl _⟩) (fun x H locs _ hP hS => ?_)
                  refine lv_istore (lv' := [(7, .int x), (0, .ref (A 0)), (1, .ref qa), (2, .ref b), (3, .int (nI 0)), (4, .int (nI 8)), (5, .int v), (6, .int (nI k))]) hx hb dL_grows_148 hl (by decide) rfl (fun ls hl => ?_)
                  refine lv_aload_n hx hb dL_grows_150 rfl (lv_at hl 2 rfl) ?_
                  refine lv_iload hx hb dL_grows_151 (lv_at hl 7 rfl) ?_
                  refine lv_iload hx hb dL_grows_153 (lv_at hl 0 rfl) ?_
                  refine W_joinH (D := D) (ws := ((qa, .inl (cI, 20, .inl f)) :: X)) (A0 := (inW ((qa, .inl (cI, 20, .inl f0)) :: X0))) (H0 := s.heap) (pc2 := 175) (st2 := [.int x, .int (nI k), .ref qa]) (fun x9 => ∃ z, x9 = nI z ∧ 0 < z ∧ z ≤ 300) hP hD hS (fun x9 hx9 H locs hP hD hS => ?_) (fun J_175 => ?_)
                  · skip
                    obtain ⟨cp, rfl, hcp_0, hcp_1⟩ := hx9
                    refine rd_calli hP hS (va_runS (As := [.int x, .int (nI cp)]) (rest := [.int (nI k), .ref qa]) ⟨hx, hb, hml, hown, hts⟩ (c_L_low l D cI cB cO x cp (by omega) (by omega)) (va_cwS 2 hts gL_grows_L_low rfl rfl rfl (by decide +kernel) ⟨Nat.le_of_ble_eq_true rfl, Nat.le_of_ble_eq_true rfl⟩) (rd_preS hK (hP.pick [] rfl) hN) rfl rfl hl.1 rfl (lv_room (Nat.le_of_ble_eq_true rfl)) dL_grows_175 ⟨Nat.le_refl _, Nat.le_refl _⟩) (fun r_175 H locs h_175 hP hS => ?_)
                    obtain ⟨y1, hy1, rfl⟩ := h_175
                    refine va_iast hx hb hK hP hD hS 0 0 rfl rfl (i := nI k) (vp_in_nI (N := 20) (by omega) (by decide)) dL_grows_178 (fun H locs hP hD hS => ?_)
                    rw [nI_clamp (n := k) (by omega)] at hP hD
                    have hP : va_P D vwCl ((qa, .inl (cI, 20, .inl (upd f k (nI y1)))) :: X) _ := hP
                    have hD : va_D (inW ((qa, .inl (cI, 20, .inl f0)) :: X0)) ((qa, .inl (cI, 20, .inl (upd f k (nI y1)))) :: X) := hD
                    refine lv_aload_n hx hb dL_grows_179 rfl (lv_at hl 2 rfl) ?_
                    refine lv_bipush (v := 8) hx hb dL_grows_180 (by decide) ?_
                    refine lv_iload hx hb dL_grows_182 (lv_at hl 7 rfl) ?_
                    refine lv_iadd hx hb dL_grows_184 ?_
                    refine lv_topi (fun y_23 e_24 => ?_)
                    have e_24 : nI (8 + k) = y_23 := (e_24.trans (nI_add 8 k)).symm
                    subst e_24
                    refine W_joinH (D := D) (ws := ((qa, .inl (cI, 20, .inl (upd f k (nI y1)))) :: X)) (A0 := (inW ((qa, .inl (cI, 20, .inl f0)) :: X0))) (H0 := s.heap) (pc2 := 213) (st2 := [.int (nI (8 + k)), .ref qa]) (fun x9 => ∃ z, x9 = nI z ∧ z ≤ 200) hP hD hS (fun x9 hx9 H locs hP hD hS => ?_) (fun J_213 => ?_)
                    · skip
                      obtain ⟨y2, rfl, hy2_0⟩ := hx9
                      refine va_iast hx hb hK hP hD hS 0 0 rfl rfl (i := nI (8 + k)) (vp_in_nI (N := 20) (by omega) (by decide)) dL_grows_213 (fun H locs hP hD hS => ?_)
                      rw [nI_clamp (n := 8 + k) (by omega)] at hP hD
                      have hP : va_P D vwCl ((qa, .inl (cI, 20, .inl (upd (upd f k (nI y1)) (8 + k) (nI y2)))) :: X) _ := hP
                      have hD : va_D (inW ((qa, .inl (cI, 20, .inl f0)) :: X0)) ((qa, .inl (cI, 20, .inl (upd (upd f k (nI y1)) (8 + k) (nI y2)))) :: X) := hD
                      refine lv_aload_n hx hb dL_grows_214 rfl (lv_at hl 1 rfl) ?_
                      refine lv_iload hx hb dL_grows_215 (lv_at hl 7 rfl) ?_
                      refine lv_aload_n hx hb dL_grows_217 rfl (lv_at hl 2 rfl) ?_
                      refine lv_iload hx hb dL_grows_218 (lv_at hl 7 rfl) ?_
                      refine va_iald hx hb hK hP 0 0 rfl rfl (i := nI k) (vp_in_nI (N := 20) (by omega) (by decide)) dL_grows_220 ?_
                      rw [nI_clamp (n := k) (by omega)]
                      refine lv_topi (fun y_25 e_26 => ?_)
                      have e_26 : nI y1 = y_25 := (e_26.trans ((by rw [pk_un (by omega), pk_us]))).symm
                      subst e_26
                      have hPb : va_P D vwCl ([(qa, .inl (cI, 20, .inl (upd (upd f k (nI y1)) (8 + k) (nI y2))))] ++ X) _ := hP
                      have hDb : va_D (inW ((qa, .inl (cI, 20, .inl f0)) :: X0)) ([(qa, .inl (cI, 20, .inl (upd (upd f k (nI y1)) (8 + k) (nI y2))))] ++ X) := hD
                      refine ox_calli hPb hDb hX hS (va_runV (As := [.int (nI k), .int (nI y1)]) (rest := []) ⟨hx, hb, hml, hown, hts⟩ (y_setGround_ok l D cI cB cO A n (f 17) (f 18) (G50 f k) (M00 f k) k (nI y1) g135 (inB_nI (a := 0) (b := 999) (by omega) (by omega) (by decide)) ⟨y1, by omega, rfl⟩) (cwV 2 hts gL_grows_X6_setGround rfl rfl rfl (by decide +kernel) ⟨Nat.le_of_ble_eq_true rfl, Nat.le_of_ble_eq_true rfl⟩) (ox_pre hK hPb hDb hX hN) rfl rfl hl.1 rfl (lv_room (Nat.le_of_ble_eq_true rfl)) dL_grows_221 ⟨Nat.le_refl _, Nat.le_refl _⟩) (fun X H locs hX hP hD hS => ?_)
                      have hP : va_P D vwCl ((qa, .inl (cI, 20, .inl (upd (upd f k (nI y1)) (8 + k) (nI y2)))) :: X) _ := hP
                      have hD : va_D (inW ((qa, .inl (cI, 20, .inl f0)) :: X0)) ((qa, .inl (cI, 20, .inl (upd (upd f k (nI y1)) (8 + k) (nI y2)))) :: X) := hD
                      refine lv_topi (fun y_27 e_28 => ?_)
                      have e_28 : 50 = y_27 := (e_28.trans (G50_k f k)).symm
                      subst e_28
                      refine lv_bipush (v := 50) hx hb dL_grows_224 (by decide) ?_
                      refine lv_icmp_ne (tgt := 245) hx hb dL_grows_226 (by decide) (fun c_226 => ?_) (fun c_226 => ?_)
                      · skip
                        exact absurd (by decide) c_226
                      · skip
                        refine lv_aload_n hx hb dL_grows_229 rfl (lv_at hl 1 rfl) ?_
                        refine lv_iload hx hb dL_grows_230 (lv_at hl 7 rfl) ?_
                        refine lv_aload_n hx hb dL_grows_232 rfl (lv_at hl 2 rfl) ?_
                        refine lv_bipush (v := 8) hx hb dL_grows_233 (by decide) ?_
                        refine lv_iload hx hb dL_grows_235 (lv_at hl 7 rfl) ?_
                        refine lv_iadd hx hb dL_grows_237 ?_
                        refine lv_topi (fun y_29 e_30 => ?_)
                        have e_30 : nI (8 + k) = y_29 := (e_30.trans (nI_add 8 k)).symm
                        subst e_30
                        refine va_iald hx hb hK hP 0 0 rfl rfl (i := nI (8 + k)) (vp_in_nI (N := 20) (by omega) (by decide)) dL_grows_238 ?_
                        rw [nI_clamp (n := 8 + k) (by omega)]
                        refine lv_topi (fun y_31 e_32 => ?_)
                        have e_32 : nI y2 = y_31 := (e_32.trans (pk_us)).symm
                        subst e_32
                        have hPb : va_P D vwCl ([(qa, .inl (cI, 20, .inl (upd (upd f k (nI y1)) (8 + k) (nI y2))))] ++ X) _ := hP
                        have hDb : va_D (inW ((qa, .inl (cI, 20, .inl f0)) :: X0)) ([(qa, .inl (cI, 20, .inl (upd (upd f k (nI y1)) (8 + k) (nI y2))))] ++ X) := hD
                        refine ox_calli hPb hDb hX hS (va_runV (As := [.int (nI k), .int (nI y2)]) (rest := []) ⟨hx, hb, hml, hown, hts⟩ (y_mast_ok l D cI cB cO A n (f 17) (f 18) (upd (G50 f k) k (nI y1)) (M00 f k) k (nI y2) g135 (inB_nI (a := 0) (b := 200) (by omega) (by omega) (by decide)) ⟨_, by omega, rfl⟩) (cwV 2 hts gL_grows_X6_mast rfl rfl rfl (by decide +kernel) ⟨Nat.le_of_ble_eq_true rfl, Nat.le_of_ble_eq_true rfl⟩) (ox_pre hK hPb hDb hX hN) rfl rfl hl.1 rfl (lv_room (Nat.le_of_ble_eq_true rfl)) dL_grows_239 ⟨Nat.le_refl _, Nat.le_refl _⟩) (fun X H locs hX hP hD hS => ?_)
                        have hP : va_P D vwCl ((qa, .inl (cI, 20, .inl (upd (upd f k (nI y1)) (8 + k) (nI y2)))) :: X) _ := hP
                        have hD : va_D (inW ((qa, .inl (cI, 20, .inl f0)) :: X0)) ((qa, .inl (cI, 20, .inl (upd (upd f k (nI y1)) (8 + k) (nI y2)))) :: X) := hD
                        refine lv_topi (fun y_33 e_34 => ?_)
                        have e_34 : 0 = y_33 := (e_34.trans (M00_k f k)).symm
                        subst e_34
                        refine lv_if_eq (tgt := 247) hx hb dL_grows_242 (by decide) (fun c_242 => ?_) (fun c_242 => ?_)
                        · skip
                          refine lv_iinc (v := nI (k + 1)) (lv' := [(6, .int (nI (k + 1))), (7, .int x), (0, .ref (A 0)), (1, .ref qa), (2, .ref b), (3, .int (nI 0)), (4, .int (nI 8)), (5, .int v)]) hx hb dL_grows_247 hl (k := 7) rfl (inc1 _) (by decide) rfl (fun ls hl => ?_)
                          refine lv_goto (tgt := 129) hx hb dL_grows_250 (by decide) ?_
                          exact ih_129 (k + 1) (upd (upd f k (nI y1)) (8 + k) (nI y2)) X (by omega) (by omega) (by rw [pk_un (by omega), pk_un (by omega)]; exact h16) (hX.gw h8 g135) _ _ hP hD hS ls (lv_sub hl [2, 3, 4, 5, 6, 7, 0] rfl)
                        · skip
                          exact absurd (by decide) c_242
                    · skip
                      refine lv_iload hx hb dL_grows_185 (lv_at hl 0 rfl) ?_
                      refine lv_bipush (v := 10) hx hb dL_grows_187 (by decide) ?_
                      refine lv_ishr hx hb dL_grows_189 ?_
                      refine lv_iconst (v := 3) hx hb dL_grows_190 (by decide) ?_
                      refine lv_topi (fun y_35 e_36 => ?_)
                      have e_36 : nI 3 = y_35 := (e_36.trans (rfl)).symm
                      subst e_36
                      refine rd_calli hP hS (va_runS (As := [.int (x >>> (10 &&& 31)), .int (nI 3)]) (rest := [.int (nI (8 + k)), .ref qa]) ⟨hx, hb, hml, hown, hts⟩ (c_L_low l D cI cB cO (x >>> (10 &&& 31)) 3 (by omega) (by omega)) (va_cwS 2 hts gL_grows_L_low rfl rfl rfl (by decide +kernel) ⟨Nat.le_of_ble_eq_true rfl, Nat.le_of_ble_eq_true rfl⟩) (rd_preS hK (hP.pick [] rfl) hN) rfl rfl hl.1 rfl (lv_room (Nat.le_of_ble_eq_true rfl)) dL_grows_191 ⟨Nat.le_refl _, Nat.le_refl _⟩) (fun r_191 H locs h_191 hP hS => ?_)
                      obtain ⟨j5, hj5, rfl⟩ := h_191
                      refine lv_if_ne (tgt := 201) hx hb dL_grows_194 (by decide) (fun c_194 => ?_) (fun c_194 => ?_)
                      · skip
                        refine lv_iconst (v := 1) hx hb dL_grows_201 (by decide) ?_
                        refine lv_iload hx hb dL_grows_202 (lv_at hl 0 rfl) ?_
                        refine lv_bipush (v := 12) hx hb dL_grows_204 (by decide) ?_
                        refine lv_ishr hx hb dL_grows_206 ?_
                        refine lv_bipush (v := 80) hx hb dL_grows_207 (by decide) ?_
                        refine lv_topi (fun y_37 e_38 => ?_)
                        have e_38 : nI 80 = y_37 := (e_38.trans (rfl)).symm
                        subst e_38
                        refine rd_calli hP hS (va_runS (As := [.int (x >>> (12 &&& 31)), .int (nI 80)]) (rest := [.int 1, .int (nI (8 + k)), .ref qa]) ⟨hx, hb, hml, hown, hts⟩ (c_L_low l D cI cB cO (x >>> (12 &&& 31)) 80 (by omega) (by omega)) (va_cwS 2 hts gL_grows_L_low rfl rfl rfl (by decide +kernel) ⟨Nat.le_of_ble_eq_true rfl, Nat.le_of_ble_eq_true rfl⟩) (rd_preS hK (hP.pick [] rfl) hN) rfl rfl hl.1 rfl (lv_room (Nat.le_of_ble_eq_true rfl)) dL_grows_209 ⟨Nat.le_refl _, Nat.le_refl _⟩) (fun r_209 H locs h_209 hP hS => ?_)
                        obtain ⟨j6, hj6, rfl⟩ := h_209
                        refine lv_iadd hx hb dL_grows_212 ?_
                        refine lv_topi (fun y_39 e_40 => ?_)
                        have e_40 : nI (1 + j6) = y_39 := (e_40.trans (nI_add 1 j6)).symm
                        subst e_40
                        exact J_213 _ ⟨(1 + j6), rfl, by omega⟩ _ _ hP hD hS
                      · skip
                        refine lv_iconst (v := 0) hx hb dL_grows_197 (by decide) ?_
                        refine lv_goto (tgt := 213) hx hb dL_grows_198 (by decide) ?_
                        exact J_213 _ ⟨0, rfl, by omega⟩ _ _ hP hD hS
                  · skip
                    refine lv_iload hx hb dL_grows_155 (lv_at hl 0 rfl) ?_
                    refine lv_bipush (v := 20) hx hb dL_grows_157 (by decide) ?_
                    refine lv_ishr hx hb dL_grows_159 ?_
                    refine lv_iconst (v := 3) hx hb dL_grows_160 (by decide) ?_
                    refine lv_topi (fun y_41 e_42 => ?_)
                    have e_42 : nI 3 = y_41 := (e_42.trans (rfl)).symm
                    subst e_42
                    refine rd_calli hP hS (va_runS (As := [.int (x >>> (20 &&& 31)), .int (nI 3)]) (rest := [.int x, .int (nI k), .ref qa]) ⟨hx, hb, hml, hown, hts⟩ (c_L_low l D cI cB cO (x >>> (20 &&& 31)) 3 (by omega) (by omega)) (va_cwS 2 hts gL_grows_L_low rfl rfl rfl (by decide +kernel) ⟨Nat.le_of_ble_eq_true rfl, Nat.le_of_ble_eq_true rfl⟩) (rd_preS hK (hP.pick [] rfl) hN) rfl rfl hl.1 rfl (lv_room (Nat.le_of_ble_eq_true rfl)) dL_grows_161 ⟨Nat.le_refl _, Nat.le_refl _⟩) (fun r_161 H locs h_161 hP hS => ?_)
                    obtain ⟨j4, hj4, rfl⟩ := h_161
                    refine lv_if_ne (tgt := 173) hx hb dL_grows_164 (by decide) (fun c_164 => ?_) (fun c_164 => ?_)
                    · skip
                      refine lv_bipush (v := 60) hx hb dL_grows_173 (by decide) ?_
                      exact J_175 _ ⟨60, rfl, by omega, by omega⟩ _ _ hP hD hS
                    · skip
                      refine lv_sipush (v := 300) hx hb dL_grows_167 (by decide) ?_
                      refine lv_goto (tgt := 175) hx hb dL_grows_170 (by decide) ?_
                      exact J_175 _ ⟨300, rfl, by omega, by omega⟩ _ _ hP hD hS
            exact L_129 _ 0 f X (Nat.lt_succ_self _) (Nat.zero_le n) (h16) (hX) _ _ hP hD hS ls (lv_sub hl [2, 3, 4, 5, 6, 1, 0] rfl)
          · skip
            exact absurd (by decide) c_121
    · skip
      refine lv_iload hx hb dL_grows_56 (lv_at hl 0 rfl) ?_
      refine lv_bipush (v := 9) hx hb dL_grows_58 (by decide) ?_
      refine lv_ishr hx hb dL_grows_60 ?_
      refine lv_iconst (v := 3) hx hb dL_grows_61 (by decide) ?_
      refine lv_topi (fun y_43 e_44 => ?_)
      have e_44 : nI 3 = y_43 := (e_44.trans (rfl)).symm
      subst e_44
      refine rd_calli hP hS (va_runS (As := [.int (v >>> (9 &&& 31)), .int (nI 3)]) (rest := [.int 18, .ref qa]) ⟨hx, hb, hml, hown, hts⟩ (c_L_low l D cI cB cO (v >>> (9 &&& 31)) 3 (by omega) (by omega)) (va_cwS 2 hts gL_grows_L_low rfl rfl rfl (by decide +kernel) ⟨Nat.le_of_ble_eq_true rfl, Nat.le_of_ble_eq_true rfl⟩) (rd_preS hK (hP.pick [] rfl) hN) rfl rfl hl.1 rfl (lv_room (Nat.le_of_ble_eq_true rfl)) dL_grows_62 ⟨Nat.le_refl _, Nat.le_refl _⟩) (fun r_62 H locs h_62 hP hS => ?_)
      obtain ⟨j2, hj2, rfl⟩ := h_62
      refine lv_if_ne (tgt := 81) hx hb dL_grows_65 (by decide) (fun c_65 => ?_) (fun c_65 => ?_)
      · skip
        refine lv_iconst (v := 0) hx hb dL_grows_81 (by decide) ?_
        exact J_82 _ ⟨0, rfl, by omega⟩ _ _ hP hD hS
      · skip
        refine lv_iload hx hb dL_grows_68 (lv_at hl 0 rfl) ?_
        refine lv_bipush (v := 11) hx hb dL_grows_70 (by decide) ?_
        refine lv_ishr hx hb dL_grows_72 ?_
        refine lv_bipush (v := 6) hx hb dL_grows_73 (by decide) ?_
        refine lv_topi (fun y_45 e_46 => ?_)
        have e_46 : nI 6 = y_45 := (e_46.trans (rfl)).symm
        subst e_46
        refine rd_calli hP hS (va_runS (As := [.int (v >>> (11 &&& 31)), .int (nI 6)]) (rest := [.int 18, .ref qa]) ⟨hx, hb, hml, hown, hts⟩ (c_L_low l D cI cB cO (v >>> (11 &&& 31)) 6 (by omega) (by omega)) (va_cwS 2 hts gL_grows_L_low rfl rfl rfl (by decide +kernel) ⟨Nat.le_of_ble_eq_true rfl, Nat.le_of_ble_eq_true rfl⟩) (rd_preS hK (hP.pick [] rfl) hN) rfl rfl hl.1 rfl (lv_room (Nat.le_of_ble_eq_true rfl)) dL_grows_75 ⟨Nat.le_refl _, Nat.le_refl _⟩) (fun r_75 H locs h_75 hP hS => ?_)
        obtain ⟨j3, hj3, rfl⟩ := h_75
        refine lv_goto (tgt := 82) hx hb dL_grows_78 (by decide) ?_
        exact J_82 _ ⟨j3, rfl, by omega⟩ _ _ hP hD hS
  · skip
    refine lv_iload hx hb dL_grows_25 (lv_at hl 0 rfl) ?_
    refine lv_iconst (v := 4) hx hb dL_grows_27 (by decide) ?_
    refine lv_ishr hx hb dL_grows_28 ?_
    refine lv_iconst (v := 3) hx hb dL_grows_29 (by decide) ?_
    refine lv_topi (fun y_47 e_48 => ?_)
    have e_48 : nI 3 = y_47 := (e_48.trans (rfl)).symm
    subst e_48
    refine rd_calli hP hS (va_runS (As := [.int (v >>> (4 &&& 31)), .int (nI 3)]) (rest := [.int 17, .ref qa]) ⟨hx, hb, hml, hown, hts⟩ (c_L_low l D cI cB cO (v >>> (4 &&& 31)) 3 (by omega) (by omega)) (va_cwS 2 hts gL_grows_L_low rfl rfl rfl (by decide +kernel) ⟨Nat.le_of_ble_eq_true rfl, Nat.le_of_ble_eq_true rfl⟩) (rd_preS hK (hP.pick [] rfl) hN) rfl rfl hl.1 rfl (lv_room (Nat.le_of_ble_eq_true rfl)) dL_grows_30 ⟨Nat.le_refl _, Nat.le_refl _⟩) (fun r_30 H locs h_30 hP hS => ?_)
    obtain ⟨j0, hj0, rfl⟩ := h_30
    refine lv_if_ne (tgt := 50) hx hb dL_grows_33 (by decide) (fun c_33 => ?_) (fun c_33 => ?_)
    · skip
      refine lv_bipush (v := 19) hx hb dL_grows_50 (by decide) ?_
      exact J_52 _ ⟨19, rfl, by omega, by omega⟩ _ _ hP hD hS
    · skip
      refine lv_iconst (v := 1) hx hb dL_grows_36 (by decide) ?_
      refine lv_iload hx hb dL_grows_37 (lv_at hl 0 rfl) ?_
      refine lv_bipush (v := 6) hx hb dL_grows_39 (by decide) ?_
      refine lv_ishr hx hb dL_grows_41 ?_
      refine lv_iconst (v := 4) hx hb dL_grows_42 (by decide) ?_
      refine lv_topi (fun y_49 e_50 => ?_)
      have e_50 : nI 4 = y_49 := (e_50.trans (rfl)).symm
      subst e_50
      refine rd_calli hP hS (va_runS (As := [.int (v >>> (6 &&& 31)), .int (nI 4)]) (rest := [.int 1, .int 17, .ref qa]) ⟨hx, hb, hml, hown, hts⟩ (c_L_low l D cI cB cO (v >>> (6 &&& 31)) 4 (by omega) (by omega)) (va_cwS 2 hts gL_grows_L_low rfl rfl rfl (by decide +kernel) ⟨Nat.le_of_ble_eq_true rfl, Nat.le_of_ble_eq_true rfl⟩) (rd_preS hK (hP.pick [] rfl) hN) rfl rfl hl.1 rfl (lv_room (Nat.le_of_ble_eq_true rfl)) dL_grows_43 ⟨Nat.le_refl _, Nat.le_refl _⟩) (fun r_43 H locs h_43 hP hS => ?_)
      obtain ⟨j1, hj1, rfl⟩ := h_43
      refine lv_iadd hx hb dL_grows_46 ?_
      refine lv_topi (fun y_51 e_52 => ?_)
      have e_52 : nI (1 + j1) = y_51 := (e_52.trans (nI_add 1 j1)).symm
      subst e_52
      refine lv_goto (tgt := 52) hx hb dL_grows_47 (by decide) ?_
      exact J_52 _ ⟨(1 + j1), rfl, by omega, by omega⟩ _ _ hP hD hS
