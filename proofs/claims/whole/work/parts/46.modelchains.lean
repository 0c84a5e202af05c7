/-! chains, new masts, vital stations, groups: the reference -/
theorem fzd_1 (k : Nat) : nI k + (-1) = FZ k := (Int32.sub_eq_add_neg _ _).symm
theorem FZ_lt {k : Nat} (h : k < 2 ^ 30) : FZ k < 0 ↔ k = 0 := by
  cases k with
  | zero => exact ⟨fun _ => rfl, fun _ => by decide⟩
  | succ k =>
    rw [FZ_s]
    exact ⟨fun q => absurd q (nI_pos (by omega)), fun q => by cases q⟩
/-- looked through from above, the stations from k on: the least of them with P, -1 without one -/
def SC (P : Nat → Bool) (n k : Nat) (v : Int32) : Prop := (v = -1 ∧ ∀ j, k ≤ j → j < n → P j = false) ∨ ∃ z, k ≤ z ∧ z < n ∧ P z = true ∧ v = nI z ∧ ∀ j, k ≤ j → j < z → P j = false
theorem SC_n (P : Nat → Bool) (n : Nat) : SC P n n (-1) := Or.inl ⟨rfl, fun j h1 h2 => by omega⟩
theorem SC_T {P : Nat → Bool} {n k : Nat} (hk : k < n) (h : P k = true) : SC P n k (nI k) := Or.inr ⟨k, Nat.le_refl k, hk, h, rfl, fun j h1 h2 => by omega⟩
theorem SC_F {P : Nat → Bool} {n k : Nat} {v : Int32} (hs : SC P n (k + 1) v) (h : P k = false) : SC P n k v := by
  rcases hs with ⟨h1, h2⟩ | ⟨z, h1, h2, h3, h4, h5⟩
  · refine Or.inl ⟨h1, fun j h3 h4 => ?_⟩
    rcases Nat.eq_or_lt_of_le h3 with q | q
    · rw [← q]; exact h
    · exact h2 j q h4
  · refine Or.inr ⟨z, by omega, h2, h3, h4, fun j h6 h7 => ?_⟩
    rcases Nat.eq_or_lt_of_le h6 with q | q
    · rw [← q]; exact h
    · exact h5 j q h7
theorem SC_end {P : Nat → Bool} {n : Nat} {v : Int32} (h : SC P n 0 v) (h2 : fa_first P n < n) : v = nI (fa_first P n) := by
  rcases h with ⟨-, h1⟩ | ⟨z, -, h3, h4, h5, h6⟩
  · have := fa_first_yes P n h2
    rw [h1 _ (Nat.zero_le _) h2] at this; cases this
  · rw [h5, fa_first_eq (fun j hj => h6 j (Nat.zero_le _) hj) h4 h3]
theorem EM_1 {M : Nat → Int32} {L : Nat → Nat → Bool} {h : Int32} {b s t : Nat} (h1 : L s t = true) (h2 : t = b ∨ reB M h t = true) : EX L (reB M h) b s t = true := by
  unfold EX; rw [h1, Bool.true_and, Bool.or_eq_true, decide_eq_true_iff]; exact h2
theorem EM_0 {M : Nat → Int32} {L : Nat → Nat → Bool} {h : Int32} {b s t : Nat} (h1 : L s t = false) : EX L (reB M h) b s t = false := by
  unfold EX; rw [h1, Bool.false_and]
theorem EM_r {M : Nat → Int32} {L : Nat → Nat → Bool} {b s t : Nat} (h1 : ¬ t = b) (h2 : M t = 0) : EX L (reB M 0) b s t = false := by
  unfold EX reB; rw [decide_eq_false h1, decide_eq_false (fun q3 => q3.elim (fun q4 => q4 h2) (by decide)), Bool.false_or, Bool.and_false]
theorem tgt_f1 {E : Nat → Nat → Bool} {w d : Nat → Nat} {s t : Nat} (h : E s t = false) : tgt E w d s t = false := by unfold tgt; rw [h, Bool.false_and]
theorem tgt_f2 {E : Nat → Nat → Bool} {w d : Nat → Nat} {s t : Nat} (h : ¬ (d t ≠ 0 ∧ d s = w s + d t)) : tgt E w d s t = false := by unfold tgt; rw [decide_eq_false h, Bool.and_false]
theorem w100_eq (M : Nat → Int32) : w100 M = fun s => 100 * be M s + 1 := rfl
/-- without the relay x -/
theorem viM {n : Nat} {rg bl : Int32} {G M : Nat → Int32} {a b x : Nat} (hax : a ≠ x) (hbx : b ≠ x) : joB (lkB G rg bl (hT G (upd M x 0) 0)) (reB (upd M x 0) 0) n a b = joB (lkB G rg bl (hT G M 0)) (fun t => reB M 0 t && decide (t ≠ x)) n a b := by
  have hx1 : ∀ s, EX (lkB G rg bl (hT G (upd M x 0) 0)) (reB (upd M x 0) 0) b s x = false := fun s => EM_r (fun q => hbx q.symm) pk_us
  have hx2 : ∀ s, EX (lkB G rg bl (hT G M 0)) (fun t => reB M 0 t && decide (t ≠ x)) b s x = false := fun s => by
    show (lkB G rg bl (hT G M 0) s x && (decide (x = b) || (reB M 0 x && decide (x ≠ x)))) = false
    rw [decide_eq_false (fun q : x = b => hbx q.symm), decide_eq_false (p := x ≠ x) (fun q => q rfl), Bool.and_false, Bool.or_false, Bool.and_false]
  have ht : ∀ s, s ≠ x → hT G (upd M x 0) 0 s = hT G M 0 s := fun s hs => by
    unfold hT tp; rw [pk_un hs]
  have hr : ∀ s, s ≠ x → reB (upd M x 0) 0 s = reB M 0 s := fun s hs => by
    unfold reB; rw [pk_un hs]
  unfold joB
  rw [dst_cong (x := x) (E' := EX (lkB G rg bl (hT G M 0)) (fun t => reB M 0 t && decide (t ≠ x)) b) (w' := fun _ => 1) (fun s hs t _ _ => ?_) (fun s _ => hx1 s) (fun s _ => hx2 s) (fun _ _ => rfl) hax]
  by_cases q : t = x
  · rw [q, hx1, hx2]
  · show (lkB G rg bl (hT G (upd M x 0) 0) s t && (decide (t = b) || reB (upd M x 0) 0 t)) = (lkB G rg bl (hT G M 0) s t && (decide (t = b) || (reB M 0 t && decide (t ≠ x))))
    unfold lkB
    rw [ht s hs, ht t q, hr t q, decide_eq_true (p := t ≠ x) q, Bool.and_true]
theorem mok_mask {n x : Nat} {mm : Nat → Int32} {rg bl : Int32} {G M : Nat → Int32} (h : MOK n mm rg bl G M) (hx : x < n) : MOK n (upd mm (23 + x) 0) rg bl G (upd M x 0) := mok_mast h hx
theorem mh_mask {n x : Nat} {M : Nat → Int32} (h : MH n M) : MH n (upd M x 0) := by
  intro k hk
  by_cases q : k = x
  · rw [q, pk_us]; exact ⟨0, by decide, rfl⟩
  · rw [pk_un q]; exact h k hk
theorem upd_back {f : Nat → Int32} {k : Nat} {v w : Int32} (h : f k = v) : upd (upd f k w) k v = f := by
  funext j; unfold upd
  by_cases q : j = k
  · rw [if_pos q, q, h]
  · rw [if_neg q, if_neg q]
theorem dM_rng {n : Nat} {rg bl : Int32} {G M : Nat → Int32} {h : Int32} {a b : Nat} (hn : n ≤ 20) : dst (cE rg bl G M h b) (w100 M) n b a ≤ 2020 := by
  by_cases q : dst (cE rg bl G M h b) (w100 M) n b a = 0
  · omega
  · obtain ⟨k, h1, h2, h3⟩ := dst_n (w := w100 M) (fun _ _ => Nat.succ_pos _) q
    have := Ch_bound (B := 101) (fun s _ => w100_le M s) h3
    have h4 : k * 101 ≤ 20 * 101 := Nat.mul_le_mul_right _ (by omega)
    omega
set_option maxHeartbeats 4000000 in
set_option maxRecDepth 100000 in
theorem c_X7_chain_no (l : Launch) (D : va_G) (cI cB cO : ClassId) (A : Nat → Nat) (n : Nat) (rg : Int32) (bl : Int32) (G : Nat → Int32) (M : Nat → Int32) (hs : List Prf) (tL : Nat) (tc : Nat → Nat) (fk : Nat) (fc : Nat → Nat) (x y : Int32) (hok : okS n rg bl G M hs tL tc fk fc) (hno : (hasB n x && hasB n y) = false) : Met l yX7_chain wsX7_chain (rmD 8) (mrPc D cI cB cO A [.ref (A 0), .int x, .int y] n rg bl G M hs tL tc fk fc) (mrQi A (fun (r : Int32) (u : Unit) => r = -2) (fun (u : Unit) H => MRI D cI cB cO A H n rg bl G M hs tL tc fk fc)) 0 0 (inW (bdW A)) := by
  refine Met.ofW (cc := cX7_chain) (maxL := 8) (ret := (some .int)) (by decide) rfl ?_
  intro p e s m args below meth c s₁ B hml hv
  obtain ⟨rfl, hI, hK, hN, hA⟩ := hv
  have hx := B.exec
  have hb := B.bytes
  have hr := B.returns
  have hts := atoms_spec (ws := wsX7_chain) B.pre
  have hown : s.vm.findClass RX7 = some m.cls := findClass_of_methodNamed B.named
  have hlocks := B.notSynchronized
  have hS : va_S (inW (bdW A)) s.heap s.heap [] := va_S.rf
  obtain ⟨mm, pp, fd, tx, rgd, rmd, wy, cvr, re, at0, fa, hsh, hP, hm, hpp, hsl, htx, hfd⟩ := hI
  have hD : va_D (inW (bdW A)) [(A 0, .inr (7, [.ref (A 1), .ref (A 2), .int (nI hs.length), .ref (A 3), .int (FZ fk), .ref (A 4), .int (nI tL), .ref (A 5), .ref (A 6), .int re, .int at0, .int fa, .ref (A 7), .ref (A 8), .long hsh])), (A 1, .inl (cI, 43, .inl mm)), (A 2, .inl (cI, 430, .inl pp)), (A 3, .inl (cI, 20, .inl fd)), (A 4, .inl (cI, 120, .inl tx)), (A 5, .inl (cI, 20, .inl rgd)), (A 6, .inl (cI, 20, .inl rmd)), (A 7, .inl (cI, 20, .inl wy)), (A 8, .inl (cI, 20, .inl cvr))] := da_D hA rfl
  have hl := lv_entry ([.ref (A 0), .int x, .int y]) (n := 8) (Nat.le_of_ble_eq_true rfl)
  rw [lg_entry_eq]
  generalize (lg_sl ([.ref (A 0), .int x, .int y]) ++ List.replicate (8 - (lg_sl ([.ref (A 0), .int x, .int y])).length) Slot.unset).toArray = ls at hl ⊢
  have hl : lv_has ls 8 [(0, .ref (A 0)), (1, .int x), (2, .int y)] := hl
  obtain ⟨hokP, hokH, hL, hcc, hfk⟩ := id hok
  have hn : n ≤ 20 := hokP.2.1
  have hn2 : 2 ≤ n := hokP.1
  obtain ⟨-, -, hm0, hm1, hm2, hG, hM⟩ := id hm
  refine lv_aload_n hx hb dX7_chain_0 rfl (lv_at hl 0 rfl) ?_
  refine lv_iload_n hx hb dX7_chain_1 rfl (lv_at hl 1 rfl) ?_
  refine rd_calli hP hS (va_runV (As := [.int x]) (rest := []) ⟨hx, hb, hml, hown, hts⟩ (c_X7_isStation l D cI cB cO (A 0) (A 1) [.ref (A 2), .int (nI hs.length), .ref (A 3), .int (FZ fk), .ref (A 4), .int (nI tL), .ref (A 5), .ref (A 6), .int re, .int at0, .int fa, .ref (A 7), .ref (A 8), .long hsh] n mm rg bl G M x hm) (cwV 1 hts gX7_chain_X7_isStation rfl rfl rfl (by decide +kernel) ⟨Nat.le_of_ble_eq_true rfl, Nat.le_of_ble_eq_true rfl⟩) (rd_preV (r := (RX7, TX7, 15)) (ci := 7) hK (hP.pick [0, 1] rfl) hN (q0 := 0) rfl rfl) rfl rfl hl.1 rfl (lv_room (Nat.le_of_ble_eq_true rfl)) dX7_chain_2 ⟨Nat.le_refl _, Nat.le_refl _⟩) (fun r_2 H locs h_2 hP hS => ?_)
  refine lv_if_eq (tgt := 16) hx hb dX7_chain_5 (by decide) (fun c_5 => ?_) (fun c_5 => ?_)
  · skip
    have d1 := bI_e0 (h_2.symm.trans c_5)
    refine lv_bipush (v := (-2)) hx hb dX7_chain_16 (by decide) ?_
    have hI := mri_mk (D := D) (cI := cI) (cB := cB) (cO := cO) (A := A) n rg bl G M hs tL tc fk fc mm pp fd tx rgd rmd wy cvr re at0 fa hsh hP hm hpp hsl htx hfd
    refine W.iret (v := -2) hx hb hr ?_ hS.2.2 dX7_chain_18
    intro tS htS hWS
    refine ⟨⟨(-2), (), rfl, ?_, ?_⟩, ?_⟩
    · exact rfl
    · exact retM htS hI
    · exact hS.F htS
  · skip
    have d1 := bI_n0 (fun q => c_5 (h_2.trans q))
    refine lv_aload_n hx hb dX7_chain_8 rfl (lv_at hl 0 rfl) ?_
    refine lv_iload_n hx hb dX7_chain_9 rfl (lv_at hl 2 rfl) ?_
    refine rd_calli hP hS (va_runV (As := [.int y]) (rest := []) ⟨hx, hb, hml, hown, hts⟩ (c_X7_isStation l D cI cB cO (A 0) (A 1) [.ref (A 2), .int (nI hs.length), .ref (A 3), .int (FZ fk), .ref (A 4), .int (nI tL), .ref (A 5), .ref (A 6), .int re, .int at0, .int fa, .ref (A 7), .ref (A 8), .long hsh] n mm rg bl G M y hm) (cwV 1 hts gX7_chain_X7_isStation rfl rfl rfl (by decide +kernel) ⟨Nat.le_of_ble_eq_true rfl, Nat.le_of_ble_eq_true rfl⟩) (rd_preV (r := (RX7, TX7, 15)) (ci := 7) hK (hP.pick [0, 1] rfl) hN (q0 := 0) rfl rfl) rfl rfl hl.1 rfl (lv_room (Nat.le_of_ble_eq_true rfl)) dX7_chain_10 ⟨Nat.le_refl _, Nat.le_refl _⟩) (fun r_10 H locs h_10 hP hS => ?_)
    refine lv_if_ne (tgt := 19) hx hb dX7_chain_13 (by decide) (fun c_13 => ?_) (fun c_13 => ?_)
    · skip
      have d2 := bI_n0 (fun q => c_13 (h_10.trans q))
      exact absurd hno (by rw [d1, d2]; decide)
    · skip
      refine lv_bipush (v := (-2)) hx hb dX7_chain_16 (by decide) ?_
      have hI := mri_mk (D := D) (cI := cI) (cB := cB) (cO := cO) (A := A) n rg bl G M hs tL tc fk fc mm pp fd tx rgd rmd wy cvr re at0 fa hsh hP hm hpp hsl htx hfd
      refine W.iret (v := -2) hx hb hr ?_ hS.2.2 dX7_chain_18
      intro tS htS hWS
      refine ⟨⟨(-2), (), rfl, ?_, ?_⟩, ?_⟩
      · exact rfl
      · exact retM htS hI
      · exact hS.F htS
theorem kX7_chain_none_0 : ∀ w ∈ wsX70, w ∈ wsX7_chain := by decide +kernel
theorem kX7_chain_none_1 : (.fieldLink RX7 32 "SightRidgeModel" "way" "[I" : Cond) ∈ wsX7_chain := by decide +kernel
set_option maxHeartbeats 4000000 in
set_option maxRecDepth 100000 in
theorem c_X7_chain_none (l : Launch) (D : va_G) (cI cB cO : ClassId) (A : Nat → Nat) (n : Nat) (rg : Int32) (bl : Int32) (G : Nat → Int32) (M : Nat → Int32) (hs : List Prf) (tL : Nat) (tc : Nat → Nat) (fk : Nat) (fc : Nat → Nat) (a b : Nat) (hok : okS n rg bl G M hs tL tc fk fc) (ha : a < n) (hb0 : b < n) (hd : dC n rg bl G M b a = 0) : Met l yX7_chain wsX7_chain (rmD 8) (mrPc D cI cB cO A [.ref (A 0), .int (nI a), .int (nI b)] n rg bl G M hs tL tc fk fc) (mrQi A (fun (r : Int32) (u : Unit) => r = -1) (fun (u : Unit) H => MRI D cI cB cO A H n rg bl G M hs tL tc fk fc)) 0 0 (inW (bdW A)) := by
  refine Met.ofW (cc := cX7_chain) (maxL := 8) (ret := (some .int)) (by decide) rfl ?_
  intro p e s m args below meth c s₁ B hml hv
  obtain ⟨rfl, hI, hK, hN, hA⟩ := hv
  have hx := B.exec
  have hb := B.bytes
  have hr := B.returns
  have hts := atoms_spec (ws := wsX7_chain) B.pre
  have hown : s.vm.findClass RX7 = some m.cls := findClass_of_methodNamed B.named
  have hlocks := B.notSynchronized
  have hS : va_S (inW (bdW A)) s.heap s.heap [] := va_S.rf
  obtain ⟨mm, pp, fd, tx, rgd, rmd, wy, cvr, re, at0, fa, hsh, hP, hm, hpp, hsl, htx, hfd⟩ := hI
  have hD : va_D (inW (bdW A)) [(A 0, .inr (7, [.ref (A 1), .ref (A 2), .int (nI hs.length), .ref (A 3), .int (FZ fk), .ref (A 4), .int (nI tL), .ref (A 5), .ref (A 6), .int re, .int at0, .int fa, .ref (A 7), .ref (A 8), .long hsh])), (A 1, .inl (cI, 43, .inl mm)), (A 2, .inl (cI, 430, .inl pp)), (A 3, .inl (cI, 20, .inl fd)), (A 4, .inl (cI, 120, .inl tx)), (A 5, .inl (cI, 20, .inl rgd)), (A 6, .inl (cI, 20, .inl rmd)), (A 7, .inl (cI, 20, .inl wy)), (A 8, .inl (cI, 20, .inl cvr))] := da_D hA rfl
  have hl := lv_entry ([.ref (A 0), .int (nI a), .int (nI b)]) (n := 8) (Nat.le_of_ble_eq_true rfl)
  rw [lg_entry_eq]
  generalize (lg_sl ([.ref (A 0), .int (nI a), .int (nI b)]) ++ List.replicate (8 - (lg_sl ([.ref (A 0), .int (nI a), .int (nI b)])).length) Slot.unset).toArray = ls at hl ⊢
  have hl : lv_has ls 8 [(0, .ref (A 0)), (1, .int (nI a)), (2, .int (nI b))] := hl
  obtain ⟨hokP, hokH, hL, hcc, hfk⟩ := id hok
  have hn : n ≤ 20 := hokP.2.1
  have hn2 : 2 ≤ n := hokP.1
  have hmh : MH n M := hokP.2.2.2.2.2
  obtain ⟨-, -, hm0, hm1, hm2, hG, hM⟩ := id hm
  refine lv_aload_n hx hb dX7_chain_0 rfl (lv_at hl 0 rfl) ?_
  refine lv_iload_n hx hb dX7_chain_1 rfl (lv_at hl 1 rfl) ?_
  refine rd_calli hP hS (va_runV (As := [.int (nI a)]) (rest := []) ⟨hx, hb, hml, hown, hts⟩ (c_X7_isStation l D cI cB cO (A 0) (A 1) [.ref (A 2), .int (nI hs.length), .ref (A 3), .int (FZ fk), .ref (A 4), .int (nI tL), .ref (A 5), .ref (A 6), .int re, .int at0, .int fa, .ref (A 7), .ref (A 8), .long hsh] n mm rg bl G M (nI a) hm) (cwV 1 hts gX7_chain_X7_isStation rfl rfl rfl (by decide +kernel) ⟨Nat.le_of_ble_eq_true rfl, Nat.le_of_ble_eq_true rfl⟩) (rd_preV (r := (RX7, TX7, 15)) (ci := 7) hK (hP.pick [0, 1] rfl) hN (q0 := 0) rfl rfl) rfl rfl hl.1 rfl (lv_room (Nat.le_of_ble_eq_true rfl)) dX7_chain_2 ⟨Nat.le_refl _, Nat.le_refl _⟩) (fun r_2 H locs h_2 hP hS => ?_)
  refine lv_if_eq (tgt := 16) hx hb dX7_chain_5 (by decide) (fun c_5 => ?_) (fun c_5 => ?_)
  · skip
    have d1 := bI_e0 (h_2.symm.trans c_5)
    exact absurd d1 (by rw [hasB_in ha hn]; decide)
  · skip
    refine lv_aload_n hx hb dX7_chain_8 rfl (lv_at hl 0 rfl) ?_
    refine lv_iload_n hx hb dX7_chain_9 rfl (lv_at hl 2 rfl) ?_
    refine rd_calli hP hS (va_runV (As := [.int (nI b)]) (rest := []) ⟨hx, hb, hml, hown, hts⟩ (c_X7_isStation l D cI cB cO (A 0) (A 1) [.ref (A 2), .int (nI hs.length), .ref (A 3), .int (FZ fk), .ref (A 4), .int (nI tL), .ref (A 5), .ref (A 6), .int re, .int at0, .int fa, .ref (A 7), .ref (A 8), .long hsh] n mm rg bl G M (nI b) hm) (cwV 1 hts gX7_chain_X7_isStation rfl rfl rfl (by decide +kernel) ⟨Nat.le_of_ble_eq_true rfl, Nat.le_of_ble_eq_true rfl⟩) (rd_preV (r := (RX7, TX7, 15)) (ci := 7) hK (hP.pick [0, 1] rfl) hN (q0 := 0) rfl rfl) rfl rfl hl.1 rfl (lv_room (Nat.le_of_ble_eq_true rfl)) dX7_chain_10 ⟨Nat.le_refl _, Nat.le_refl _⟩) (fun r_10 H locs h_10 hP hS => ?_)
    refine lv_if_ne (tgt := 19) hx hb dX7_chain_13 (by decide) (fun c_13 => ?_) (fun c_13 => ?_)
    · skip
      refine lv_aload_n hx hb dX7_chain_19 rfl (lv_at hl 0 rfl) ?_
      refine lv_iload_n hx hb dX7_chain_20 rfl (lv_at hl 2 rfl) ?_
      refine wv_callv (wc := [(A 0, .inr (7, [.ref (A 1), .ref (A 2), .int (nI hs.length), .ref (A 3), .int (FZ fk), .ref (A 4), .int (nI tL), .ref (A 5), .ref (A 6), .int re, .int at0, .int fa, .ref (A 7), .ref (A 8), .long hsh])), (A 1, .inl (cI, 43, .inl mm)), (A 7, .inl (cI, 20, .inl wy))]) hP hD hS [0, 1, 7] rfl rfl (va_runV (As := [.int (nI b)]) (rest := []) ⟨hx, hb, hml, hown, hts⟩ (c_X7_ways l D cI cB cO (A 0) (A 1) (A 2) (A 3) (A 4) (A 5) (A 6) (A 7) (A 8) mm pp fd tx rgd rmd wy cvr (nI hs.length) (FZ fk) (nI tL) re at0 fa hsh n rg bl G M b hm hmh hb0) (cwV 1 hts gX7_chain_X7_ways rfl rfl rfl (by decide +kernel) ⟨Nat.le_of_ble_eq_true rfl, Nat.le_of_ble_eq_true rfl⟩) (wr_preV (wc := [(A 0, .inr (7, [.ref (A 1), .ref (A 2), .int (nI hs.length), .ref (A 3), .int (FZ fk), .ref (A 4), .int (nI tL), .ref (A 5), .ref (A 6), .int re, .int at0, .int fa, .ref (A 7), .ref (A 8), .long hsh])), (A 1, .inl (cI, 43, .inl mm)), (A 7, .inl (cI, 20, .inl wy))]) (r := (RX7, TX7, 15)) (ci := 7) hK (hP.pick [0, 1, 7] rfl) hN (wr_dsub hD [0, 1, 7] rfl rfl) (q0 := 0) rfl rfl) rfl rfl hl.1 rfl (lv_room (Nat.le_of_ble_eq_true rfl)) dX7_chain_21 ⟨Nat.le_refl _, Nat.le_refl _⟩) (fun uw => [(A 0, .inr (7, [.ref (A 1), .ref (A 2), .int (nI hs.length), .ref (A 3), .int (FZ fk), .ref (A 4), .int (nI tL), .ref (A 5), .ref (A 6), .int re, .int at0, .int fa, .ref (A 7), .ref (A 8), .long hsh])), (A 1, .inl (cI, 43, .inl mm)), (A 2, .inl (cI, 430, .inl pp)), (A 3, .inl (cI, 20, .inl fd)), (A 4, .inl (cI, 120, .inl tx)), (A 5, .inl (cI, 20, .inl rgd)), (A 6, .inl (cI, 20, .inl rmd)), (A 7, .inl (cI, 20, .inl uw)), (A 8, .inl (cI, 20, .inl cvr))]) (fun _ => rfl) (fun _ => rfl) (fun uw H locs huw hP hD hS => ?_)
      have hP : va_P D vwCl [(A 0, .inr (7, [.ref (A 1), .ref (A 2), .int (nI hs.length), .ref (A 3), .int (FZ fk), .ref (A 4), .int (nI tL), .ref (A 5), .ref (A 6), .int re, .int at0, .int fa, .ref (A 7), .ref (A 8), .long hsh])), (A 1, .inl (cI, 43, .inl mm)), (A 2, .inl (cI, 430, .inl pp)), (A 3, .inl (cI, 20, .inl fd)), (A 4, .inl (cI, 120, .inl tx)), (A 5, .inl (cI, 20, .inl rgd)), (A 6, .inl (cI, 20, .inl rmd)), (A 7, .inl (cI, 20, .inl uw)), (A 8, .inl (cI, 20, .inl cvr))] _ := hP
      have hD : va_D (inW (bdW A)) [(A 0, .inr (7, [.ref (A 1), .ref (A 2), .int (nI hs.length), .ref (A 3), .int (FZ fk), .ref (A 4), .int (nI tL), .ref (A 5), .ref (A 6), .int re, .int at0, .int fa, .ref (A 7), .ref (A 8), .long hsh])), (A 1, .inl (cI, 43, .inl mm)), (A 2, .inl (cI, 430, .inl pp)), (A 3, .inl (cI, 20, .inl fd)), (A 4, .inl (cI, 120, .inl tx)), (A 5, .inl (cI, 20, .inl rgd)), (A 6, .inl (cI, 20, .inl rmd)), (A 7, .inl (cI, 20, .inl uw)), (A 8, .inl (cI, 20, .inl cvr))] := hD
      refine lv_aload_n hx hb dX7_chain_24 rfl (lv_at hl 0 rfl) ?_
      refine va_get (D := D) (ci := 7) (v := .ref (A 7)) (C := RX7) (T := TX7) (N := 15) hx hb hts kX7_chain_none_0 hown hK hP 0 rfl rfl 12 (by decide) (hts (.fieldLink RX7 32 "SightRidgeModel" "way" "[I") kX7_chain_none_1) (fun _ h9 => h9) rfl dX7_chain_25 ?_
      refine lv_iload_n hx hb dX7_chain_28 rfl (lv_at hl 1 rfl) ?_
      refine va_iald hx hb hK hP 7 0 rfl rfl (i := nI a) (vp_in_nI (N := 20) (by omega) (by decide)) dX7_chain_29 ?_
      rw [nI_clamp (n := a) (by omega)]
      refine lv_topi (fun y_1 e_2 => ?_)
      have e_2 : nI (dC n rg bl G M b a) = y_1 := (e_2.trans (huw a ha)).symm
      subst e_2
      refine lv_if_ne (tgt := 35) hx hb dX7_chain_30 (by decide) (fun c_30 => ?_) (fun c_30 => ?_)
      · skip
        exact absurd (congrArg nI hd) c_30
      · skip
        refine lv_iconst (v := (-1)) hx hb dX7_chain_33 (by decide) ?_
        have hI := mri_mk (D := D) (cI := cI) (cB := cB) (cO := cO) (A := A) n rg bl G M hs tL tc fk fc mm pp fd tx rgd rmd uw cvr re at0 fa hsh hP hm hpp hsl htx hfd
        refine W.iret (v := -1) hx hb hr ?_ hS.2.2 dX7_chain_34
        intro tS htS hWS
        refine ⟨⟨(-1), (), rfl, ?_, ?_⟩, ?_⟩
        · exact rfl
        · exact retM htS hI
        · exact hS.F htS
    · skip
      have d2 := bI_e0 (h_10.symm.trans c_13)
      exact absurd d2 (by rw [hasB_in hb0 hn]; decide)
theorem kX7_chain_ok_0 : ∀ w ∈ wsX70, w ∈ wsX7_chain := by decide +kernel
theorem kX7_chain_ok_1 : (.fieldLink RX7 32 "SightRidgeModel" "way" "[I" : Cond) ∈ wsX7_chain := by decide +kernel
theorem kX7_chain_ok_2 : (.fieldLink RX7 19 "SightRidgeModel" "finds" "I" : Cond) ∈ wsX7_chain := by decide +kernel
theorem kX7_chain_ok_3 : (.fieldLink RX7 16 "SightRidgeModel" "found" "[I" : Cond) ∈ wsX7_chain := by decide +kernel
theorem kX7_chain_ok_4 : (.fieldLink RX7 7 "SightRidgeModel" "m" "[I" : Cond) ∈ wsX7_chain := by decide +kernel
set_option maxHeartbeats 4000000 in
set_option maxRecDepth 100000 in
theorem c_X7_chain_ok (l : Launch) (D : va_G) (cI cB cO : ClassId) (A : Nat → Nat) (n : Nat) (rg : Int32) (bl : Int32) (G : Nat → Int32) (M : Nat → Int32) (hs : List Prf) (tL : Nat) (tc : Nat → Nat) (fk : Nat) (fc : Nat → Nat) (a b : Nat) (hok : okS n rg bl G M hs tL tc fk fc) (ha : a < n) (hb0 : b < n) (hd : dC n rg bl G M b a ≠ 0) : Met l yX7_chain wsX7_chain (rmD 8) (mrPc D cI cB cO A [.ref (A 0), .int (nI a), .int (nI b)] n rg bl G M hs tL tc fk fc) (mrQi A (fun (r : Int32) (u : Unit) => r = nI (dC n rg bl G M b a)) (fun (u : Unit) H => MRI D cI cB cO A H n rg bl G M hs tL tc (dC n rg bl G M b a + 1) (pC n rg bl G M a b))) 0 0 (inW (bdW A)) := by
  refine Met.ofW (cc := cX7_chain) (maxL := 8) (ret := (some .int)) (by decide) rfl ?_
  intro p e s m args below meth c s₁ B hml hv
  obtain ⟨rfl, hI, hK, hN, hA⟩ := hv
  have hx := B.exec
  have hb := B.bytes
  have hr := B.returns
  have hts := atoms_spec (ws := wsX7_chain) B.pre
  have hown : s.vm.findClass RX7 = some m.cls := findClass_of_methodNamed B.named
  have hlocks := B.notSynchronized
  have hS : va_S (inW (bdW A)) s.heap s.heap [] := va_S.rf
  obtain ⟨mm, pp, fd, tx, rgd, rmd, wy, cvr, re, at0, fa, hsh, hP, hm, hpp, hsl, htx, hfd⟩ := hI
  have hD : va_D (inW (bdW A)) [(A 0, .inr (7, [.ref (A 1), .ref (A 2), .int (nI hs.length), .ref (A 3), .int (FZ fk), .ref (A 4), .int (nI tL), .ref (A 5), .ref (A 6), .int re, .int at0, .int fa, .ref (A 7), .ref (A 8), .long hsh])), (A 1, .inl (cI, 43, .inl mm)), (A 2, .inl (cI, 430, .inl pp)), (A 3, .inl (cI, 20, .inl fd)), (A 4, .inl (cI, 120, .inl tx)), (A 5, .inl (cI, 20, .inl rgd)), (A 6, .inl (cI, 20, .inl rmd)), (A 7, .inl (cI, 20, .inl wy)), (A 8, .inl (cI, 20, .inl cvr))] := da_D hA rfl
  have hl := lv_entry ([.ref (A 0), .int (nI a), .int (nI b)]) (n := 8) (Nat.le_of_ble_eq_true rfl)
  rw [lg_entry_eq]
  generalize (lg_sl ([.ref (A 0), .int (nI a), .int (nI b)]) ++ List.replicate (8 - (lg_sl ([.ref (A 0), .int (nI a), .int (nI b)])).length) Slot.unset).toArray = ls at hl ⊢
  have hl : lv_has ls 8 [(0, .ref (A 0)), (1, .int (nI a)), (2, .int (nI b))] := hl
  obtain ⟨hokP, hokH, hL, hcc, hfk⟩ := id hok
  have hn : n ≤ 20 := hokP.2.1
  have hn2 : 2 ≤ n := hokP.1
  have hmh : MH n M := hokP.2.2.2.2.2
  obtain ⟨hl0, hln⟩ := ln_rng (ln := id) one_pos ln_0 hd
  have hl0 : 0 < dC n rg bl G M b a := hl0
  have hln : dC n rg bl G M b a ≤ n := hln
  obtain ⟨-, -, hm0, hm1, hm2, hG, hM⟩ := id hm
  refine lv_aload_n hx hb dX7_chain_0 rfl (lv_at hl 0 rfl) ?_
  refine lv_iload_n hx hb dX7_chain_1 rfl (lv_at hl 1 rfl) ?_
  refine rd_calli hP hS (va_runV (As := [.int (nI a)]) (rest := []) ⟨hx, hb, hml, hown, hts⟩ (c_X7_isStation l D cI cB cO (A 0) (A 1) [.ref (A 2), .int (nI hs.length), .ref (A 3), .int (FZ fk), .ref (A 4), .int (nI tL), .ref (A 5), .ref (A 6), .int re, .int at0, .int fa, .ref (A 7), .ref (A 8), .long hsh] n mm rg bl G M (nI a) hm) (cwV 1 hts gX7_chain_X7_isStation rfl rfl rfl (by decide +kernel) ⟨Nat.le_of_ble_eq_true rfl, Nat.le_of_ble_eq_true rfl⟩) (rd_preV (r := (RX7, TX7, 15)) (ci := 7) hK (hP.pick [0, 1] rfl) hN (q0 := 0) rfl rfl) rfl rfl hl.1 rfl (lv_room (Nat.le_of_ble_eq_true rfl)) dX7_chain_2 ⟨Nat.le_refl _, Nat.le_refl _⟩) (fun r_2 H locs h_2 hP hS => ?_)
  refine lv_if_eq (tgt := 16) hx hb dX7_chain_5 (by decide) (fun c_5 => ?_) (fun c_5 => ?_)
  · skip
    have d1 := bI_e0 (h_2.symm.trans c_5)
    exact absurd d1 (by rw [hasB_in ha hn]; decide)
  · skip
    refine lv_aload_n hx hb dX7_chain_8 rfl (lv_at hl 0 rfl) ?_
    refine lv_iload_n hx hb dX7_chain_9 rfl (lv_at hl 2 rfl) ?_
    refine rd_calli hP hS (va_runV (As := [.int (nI b)]) (rest := []) ⟨hx, hb, hml, hown, hts⟩ (c_X7_isStation l D cI cB cO (A 0) (A 1) [.ref (A 2), .int (nI hs.length), .ref (A 3), .int (FZ fk), .ref (A 4), .int (nI tL), .ref (A 5), .ref (A 6), .int re, .int at0, .int fa, .ref (A 7), .ref (A 8), .long hsh] n mm rg bl G M (nI b) hm) (cwV 1 hts gX7_chain_X7_isStation rfl rfl rfl (by decide +kernel) ⟨Nat.le_of_ble_eq_true rfl, Nat.le_of_ble_eq_true rfl⟩) (rd_preV (r := (RX7, TX7, 15)) (ci := 7) hK (hP.pick [0, 1] rfl) hN (q0 := 0) rfl rfl) rfl rfl hl.1 rfl (lv_room (Nat.le_of_ble_eq_true rfl)) dX7_chain_10 ⟨Nat.le_refl _, Nat.le_refl _⟩) (fun r_10 H locs h_10 hP hS => ?_)
    refine lv_if_ne (tgt := 19) hx hb dX7_chain_13 (by decide) (fun c_13 => ?_) (fun c_13 => ?_)
    · skip
      refine lv_aload_n hx hb dX7_chain_19 rfl (lv_at hl 0 rfl) ?_
      refine lv_iload_n hx hb dX7_chain_20 rfl (lv_at hl 2 rfl) ?_
      refine wv_callv (wc := [(A 0, .inr (7, [.ref (A 1), .ref (A 2), .int (nI hs.length), .ref (A 3), .int (FZ fk), .ref (A 4), .int (nI tL), .ref (A 5), .ref (A 6), .int re, .int at0, .int fa, .ref (A 7), .ref (A 8), .long hsh])), (A 1, .inl (cI, 43, .inl mm)), (A 7, .inl (cI, 20, .inl wy))]) hP hD hS [0, 1, 7] rfl rfl (va_runV (As := [.int (nI b)]) (rest := []) ⟨hx, hb, hml, hown, hts⟩ (c_X7_ways l D cI cB cO (A 0) (A 1) (A 2) (A 3) (A 4) (A 5) (A 6) (A 7) (A 8) mm pp fd tx rgd rmd wy cvr (nI hs.length) (FZ fk) (nI tL) re at0 fa hsh n rg bl G M b hm hmh hb0) (cwV 1 hts gX7_chain_X7_ways rfl rfl rfl (by decide +kernel) ⟨Nat.le_of_ble_eq_true rfl, Nat.le_of_ble_eq_true rfl⟩) (wr_preV (wc := [(A 0, .inr (7, [.ref (A 1), .ref (A 2), .int (nI hs.length), .ref (A 3), .int (FZ fk), .ref (A 4), .int (nI tL), .ref (A 5), .ref (A 6), .int re, .int at0, .int fa, .ref (A 7), .ref (A 8), .long hsh])), (A 1, .inl (cI, 43, .inl mm)), (A 7, .inl (cI, 20, .inl wy))]) (r := (RX7, TX7, 15)) (ci := 7) hK (hP.pick [0, 1, 7] rfl) hN (wr_dsub hD [0, 1, 7] rfl rfl) (q0 := 0) rfl rfl) rfl rfl hl.1 rfl (lv_room (Nat.le_of_ble_eq_true rfl)) dX7_chain_21 ⟨Nat.le_refl _, Nat.le_refl _⟩) (fun uw => [(A 0, .inr (7, [.ref (A 1), .ref (A 2), .int (nI hs.length), .ref (A 3), .int (FZ fk), .ref (A 4), .int (nI tL), .ref (A 5), .ref (A 6), .int re, .int at0, .int fa, .ref (A 7), .ref (A 8), .long hsh])), (A 1, .inl (cI, 43, .inl mm)), (A 2, .inl (cI, 430, .inl pp)), (A 3, .inl (cI, 20, .inl fd)), (A 4, .inl (cI, 120, .inl tx)), (A 5, .inl (cI, 20, .inl rgd)), (A 6, .inl (cI, 20, .inl rmd)), (A 7, .inl (cI, 20, .inl uw)), (A 8, .inl (cI, 20, .inl cvr))]) (fun _ => rfl) (fun _ => rfl) (fun uw H locs huw hP hD hS => ?_)
      have hP : va_P D vwCl [(A 0, .inr (7, [.ref (A 1), .ref (A 2), .int (nI hs.length), .ref (A 3), .int (FZ fk), .ref (A 4), .int (nI tL), .ref (A 5), .ref (A 6), .int re, .int at0, .int fa, .ref (A 7), .ref (A 8), .long hsh])), (A 1, .inl (cI, 43, .inl mm)), (A 2, .inl (cI, 430, .inl pp)), (A 3, .inl (cI, 20, .inl fd)), (A 4, .inl (cI, 120, .inl tx)), (A 5, .inl (cI, 20, .inl rgd)), (A 6, .inl (cI, 20, .inl rmd)), (A 7, .inl (cI, 20, .inl uw)), (A 8, .inl (cI, 20, .inl cvr))] _ := hP
      have hD : va_D (inW (bdW A)) [(A 0, .inr (7, [.ref (A 1), .ref (A 2), .int (nI hs.length), .ref (A 3), .int (FZ fk), .ref (A 4), .int (nI tL), .ref (A 5), .ref (A 6), .int re, .int at0, .int fa, .ref (A 7), .ref (A 8), .long hsh])), (A 1, .inl (cI, 43, .inl mm)), (A 2, .inl (cI, 430, .inl pp)), (A 3, .inl (cI, 20, .inl fd)), (A 4, .inl (cI, 120, .inl tx)), (A 5, .inl (cI, 20, .inl rgd)), (A 6, .inl (cI, 20, .inl rmd)), (A 7, .inl (cI, 20, .inl uw)), (A 8, .inl (cI, 20, .inl cvr))] := hD
      refine lv_aload_n hx hb dX7_chain_24 rfl (lv_at hl 0 rfl) ?_
      refine va_get (D := D) (ci := 7) (v := .ref (A 7)) (C := RX7) (T := TX7) (N := 15) hx hb hts kX7_chain_ok_0 hown hK hP 0 rfl rfl 12 (by decide) (hts (.fieldLink RX7 32 "SightRidgeModel" "way" "[I") kX7_chain_ok_1) (fun _ h9 => h9) rfl dX7_chain_25 ?_
      refine lv_iload_n hx hb dX7_chain_28 rfl (lv_at hl 1 rfl) ?_
      refine va_iald hx hb hK hP 7 0 rfl rfl (i := nI a) (vp_in_nI (N := 20) (by omega) (by decide)) dX7_chain_29 ?_
      rw [nI_clamp (n := a) (by omega)]
      refine lv_topi (fun y_1 e_2 => ?_)
      have e_2 : nI (dC n rg bl G M b a) = y_1 := (e_2.trans (huw a ha)).symm
      subst e_2
      refine lv_if_ne (tgt := 35) hx hb dX7_chain_30 (by decide) (fun c_30 => ?_) (fun c_30 => ?_)
      · skip
        refine lv_aload_n hx hb dX7_chain_35 rfl (lv_at hl 0 rfl) ?_
        refine lv_aload_n hx hb dX7_chain_36 rfl (lv_at hl 0 rfl) ?_
        refine va_get (D := D) (ci := 7) (v := .ref (A 7)) (C := RX7) (T := TX7) (N := 15) hx hb hts kX7_chain_ok_0 hown hK hP 0 rfl rfl 12 (by decide) (hts (.fieldLink RX7 32 "SightRidgeModel" "way" "[I") kX7_chain_ok_1) (fun _ h9 => h9) rfl dX7_chain_37 ?_
        refine lv_iload_n hx hb dX7_chain_40 rfl (lv_at hl 1 rfl) ?_
        refine va_iald hx hb hK hP 7 0 rfl rfl (i := nI a) (vp_in_nI (N := 20) (by omega) (by decide)) dX7_chain_41 ?_
        rw [nI_clamp (n := a) (by omega)]
        refine lv_topi (fun y_3 e_4 => ?_)
        have e_4 : nI (dC n rg bl G M b a) = y_3 := (e_4.trans (huw a ha)).symm
        subst e_4
        refine va_put (D := D) (ci := 7) (v := .int (nI (dC n rg bl G M b a))) (ty := .int) (C := RX7) (T := TX7) (N := 15) hx hb hts kX7_chain_ok_0 tyX7 tyX7_ok nmX7 hown hK hP hD hS 0 rfl rfl 4 (by decide) (hts (.fieldLink RX7 19 "SightRidgeModel" "finds" "I") kX7_chain_ok_2) (fun _ h9 => h9) rfl (by decide +kernel) rfl rfl (Nat.le_of_ble_eq_true rfl) dX7_chain_42 (fun H locs hP hD hS => ?_)
        have hP : va_P D vwCl [(A 0, .inr (7, [.ref (A 1), .ref (A 2), .int (nI hs.length), .ref (A 3), .int (nI (dC n rg bl G M b a)), .ref (A 4), .int (nI tL), .ref (A 5), .ref (A 6), .int re, .int at0, .int fa, .ref (A 7), .ref (A 8), .long hsh])), (A 1, .inl (cI, 43, .inl mm)), (A 2, .inl (cI, 430, .inl pp)), (A 3, .inl (cI, 20, .inl fd)), (A 4, .inl (cI, 120, .inl tx)), (A 5, .inl (cI, 20, .inl rgd)), (A 6, .inl (cI, 20, .inl rmd)), (A 7, .inl (cI, 20, .inl uw)), (A 8, .inl (cI, 20, .inl cvr))] _ := hP
        have hD : va_D (inW (bdW A)) [(A 0, .inr (7, [.ref (A 1), .ref (A 2), .int (nI hs.length), .ref (A 3), .int (nI (dC n rg bl G M b a)), .ref (A 4), .int (nI tL), .ref (A 5), .ref (A 6), .int re, .int at0, .int fa, .ref (A 7), .ref (A 8), .long hsh])), (A 1, .inl (cI, 43, .inl mm)), (A 2, .inl (cI, 430, .inl pp)), (A 3, .inl (cI, 20, .inl fd)), (A 4, .inl (cI, 120, .inl tx)), (A 5, .inl (cI, 20, .inl rgd)), (A 6, .inl (cI, 20, .inl rmd)), (A 7, .inl (cI, 20, .inl uw)), (A 8, .inl (cI, 20, .inl cvr))] := hD
        refine lv_iload_n hx hb dX7_chain_45 rfl (lv_at hl 1 rfl) ?_
        refine lv_istore_n (lv' := [(3, .int (nI a)), (0, .ref (A 0)), (1, .int (nI a)), (2, .int (nI b))]) hx hb dX7_chain_46 rfl hl (by decide) rfl (fun ls hl => ?_)
        refine lv_aload_n hx hb dX7_chain_47 rfl (lv_at hl 1 rfl) ?_
        refine va_get (D := D) (ci := 7) (v := .ref (A 3)) (C := RX7) (T := TX7) (N := 15) hx hb hts kX7_chain_ok_0 hown hK hP 0 rfl rfl 3 (by decide) (hts (.fieldLink RX7 16 "SightRidgeModel" "found" "[I") kX7_chain_ok_3) (fun _ h9 => h9) rfl dX7_chain_48 ?_
        refine lv_iconst (v := 0) hx hb dX7_chain_51 (by decide) ?_
        refine lv_iload_n hx hb dX7_chain_52 rfl (lv_at hl 0 rfl) ?_
        refine va_iast hx hb hK hP hD hS 3 0 rfl rfl (i := nI 0) (vp_in_nI (N := 20) (by decide) (by decide)) dX7_chain_53 (fun H locs hP hD hS => ?_)
        rw [nI_clamp (n := 0) (by decide)] at hP hD
        have hP : va_P D vwCl [(A 0, .inr (7, [.ref (A 1), .ref (A 2), .int (nI hs.length), .ref (A 3), .int (nI (dC n rg bl G M b a)), .ref (A 4), .int (nI tL), .ref (A 5), .ref (A 6), .int re, .int at0, .int fa, .ref (A 7), .ref (A 8), .long hsh])), (A 1, .inl (cI, 43, .inl mm)), (A 2, .inl (cI, 430, .inl pp)), (A 3, .inl (cI, 20, .inl (upd fd 0 (nI a)))), (A 4, .inl (cI, 120, .inl tx)), (A 5, .inl (cI, 20, .inl rgd)), (A 6, .inl (cI, 20, .inl rmd)), (A 7, .inl (cI, 20, .inl uw)), (A 8, .inl (cI, 20, .inl cvr))] _ := hP
        have hD : va_D (inW (bdW A)) [(A 0, .inr (7, [.ref (A 1), .ref (A 2), .int (nI hs.length), .ref (A 3), .int (nI (dC n rg bl G M b a)), .ref (A 4), .int (nI tL), .ref (A 5), .ref (A 6), .int re, .int at0, .int fa, .ref (A 7), .ref (A 8), .long hsh])), (A 1, .inl (cI, 43, .inl mm)), (A 2, .inl (cI, 430, .inl pp)), (A 3, .inl (cI, 20, .inl (upd fd 0 (nI a)))), (A 4, .inl (cI, 120, .inl tx)), (A 5, .inl (cI, 20, .inl rgd)), (A 6, .inl (cI, 20, .inl rmd)), (A 7, .inl (cI, 20, .inl uw)), (A 8, .inl (cI, 20, .inl cvr))] := hD
        refine lv_iconst (v := 1) hx hb dX7_chain_54 (by decide) ?_
        refine lv_istore (lv' := [(4, .int 1), (3, .int (nI a)), (0, .ref (A 0)), (1, .int (nI a)), (2, .int (nI b))]) hx hb dX7_chain_55 hl (by decide) rfl (fun ls hl => ?_)
        have L_57 : ∀ (k_57 : Nat) (j : Nat) (sv : Nat) (uf : Nat → Int32), dC n rg bl G M b a - j < k_57 → (0 < j ∧ j ≤ dC n rg bl G M b a) → (sv = (pC n rg bl G M a b (j - 1))) → (∀ z, z < j → uf z = nI (pC n rg bl G M a b z)) → ∀ (H : Heap) (locs : List Loc), va_P D vwCl [(A 0, .inr (7, [.ref (A 1), .ref (A 2), .int (nI hs.length), .ref (A 3), .int (nI (dC n rg bl G M b a)), .ref (A 4), .int (nI tL), .ref (A 5), .ref (A 6), .int re, .int at0, .int fa, .ref (A 7), .ref (A 8), .long hsh])), (A 1, .inl (cI, 43, .inl mm)), (A 2, .inl (cI, 430, .inl pp)), (A 3, .inl (cI, 20, .inl uf)), (A 4, .inl (cI, 120, .inl tx)), (A 5, .inl (cI, 20, .inl rgd)), (A 6, .inl (cI, 20, .inl rmd)), (A 7, .inl (cI, 20, .inl uw)), (A 8, .inl (cI, 20, .inl cvr))] H → va_D (inW (bdW A)) [(A 0, .inr (7, [.ref (A 1), .ref (A 2), .int (nI hs.length), .ref (A 3), .int (nI (dC n rg bl G M b a)), .ref (A 4), .int (nI tL), .ref (A 5), .ref (A 6), .int re, .int at0, .int fa, .ref (A 7), .ref (A 8), .long hsh])), (A 1, .inl (cI, 43, .inl mm)), (A 2, .inl (cI, 430, .inl pp)), (A 3, .inl (cI, 20, .inl uf)), (A 4, .inl (cI, 120, .inl tx)), (A 5, .inl (cI, 20, .inl rgd)), (A 6, .inl (cI, 20, .inl rmd)), (A 7, .inl (cI, 20, .inl uw)), (A 8, .inl (cI, 20, .inl cvr))] → va_S (inW (bdW A)) s.heap H locs → ∀ (ls : Array Slot), lv_has ls 8 [(0, .ref (A 0)), (1, .int (nI a)), (2, .int (nI b)), (3, .int (nI sv)), (4, .int (nI j))] → W p l e (rmD 8) s m ([.ref (A 0), .int (nI a), .int (nI b)] : List Value).toArray below meth c H locs 0 0 (MQ below (mrQi A (fun (r : Int32) (u : Unit) => r = nI (dC n rg bl G M b a)) (fun (u : Unit) H => MRI D cI cB cO A H n rg bl G M hs tL tc (dC n rg bl G M b a + 1) (pC n rg bl G M a b))) ([.ref (A 0), .int (nI a), .int (nI b)] : List Value).toArray s 0 0 (inW (bdW A))) (F0 m 57 ls []) := by
          intro k_57
          induction k_57 with
          | zero => intro j sv uf h9; exact absurd h9 (Nat.not_lt_zero _)
          | succ k_57 ih_57 =>
            intro j sv uf hm_57 hj hsv huf H locs hP hD hS ls hl
            refine lv_iload hx hb dX7_chain_57 (lv_at hl 4 rfl) ?_
            refine lv_aload_n hx hb dX7_chain_59 rfl (lv_at hl 0 rfl) ?_
            refine va_get (D := D) (ci := 7) (v := .int (nI (dC n rg bl G M b a))) (C := RX7) (T := TX7) (N := 15) hx hb hts kX7_chain_ok_0 hown hK hP 0 rfl rfl 4 (by decide) (hts (.fieldLink RX7 19 "SightRidgeModel" "finds" "I") kX7_chain_ok_2) (fun _ h9 => h9) rfl dX7_chain_60 ?_
            refine lv_icmp_ge (tgt := 174) hx hb dX7_chain_63 (by decide) (fun c_63 => ?_) (fun c_63 => ?_)
            · skip
              have c0 : dC n rg bl G M b a ≤ j := ge_t (by omega) c_63
              have ej : j = dC n rg bl G M b a := by omega
              have e9 : ([(A 0, .inr (7, [.ref (A 1), .ref (A 2), .int (nI hs.length), .ref (A 3), .int (nI (dC n rg bl G M b a)), .ref (A 4), .int (nI tL), .ref (A 5), .ref (A 6), .int re, .int at0, .int fa, .ref (A 7), .ref (A 8), .long hsh])), (A 1, .inl (cI, 43, .inl mm)), (A 2, .inl (cI, 430, .inl pp)), (A 3, .inl (cI, 20, .inl uf)), (A 4, .inl (cI, 120, .inl tx)), (A 5, .inl (cI, 20, .inl rgd)), (A 6, .inl (cI, 20, .inl rmd)), (A 7, .inl (cI, 20, .inl uw)), (A 8, .inl (cI, 20, .inl cvr))] : va_W) = [(A 0, .inr (7, [.ref (A 1), .ref (A 2), .int (nI hs.length), .ref (A 3), .int (FZ (dC n rg bl G M b a + 1)), .ref (A 4), .int (nI tL), .ref (A 5), .ref (A 6), .int re, .int at0, .int fa, .ref (A 7), .ref (A 8), .long hsh])), (A 1, .inl (cI, 43, .inl mm)), (A 2, .inl (cI, 430, .inl pp)), (A 3, .inl (cI, 20, .inl uf)), (A 4, .inl (cI, 120, .inl tx)), (A 5, .inl (cI, 20, .inl rgd)), (A 6, .inl (cI, 20, .inl rmd)), (A 7, .inl (cI, 20, .inl uw)), (A 8, .inl (cI, 20, .inl cvr))] := congrArg (fun f9 : Int32 => ([(A 0, .inr (7, [.ref (A 1), .ref (A 2), .int (nI hs.length), .ref (A 3), .int f9, .ref (A 4), .int (nI tL), .ref (A 5), .ref (A 6), .int re, .int at0, .int fa, .ref (A 7), .ref (A 8), .long hsh])), (A 1, .inl (cI, 43, .inl mm)), (A 2, .inl (cI, 430, .inl pp)), (A 3, .inl (cI, 20, .inl uf)), (A 4, .inl (cI, 120, .inl tx)), (A 5, .inl (cI, 20, .inl rgd)), (A 6, .inl (cI, 20, .inl rmd)), (A 7, .inl (cI, 20, .inl uw)), (A 8, .inl (cI, 20, .inl cvr))] : va_W)) (show nI (dC n rg bl G M b a) = FZ (dC n rg bl G M b a + 1) from (FZ_s _).symm)
              have hP := va_P_eq e9 hP
              have hD := va_D_eq e9 hD
              refine lv_aload_n hx hb dX7_chain_174 rfl (lv_at hl 0 rfl) ?_
              refine va_get (D := D) (ci := 7) (v := .int (FZ (dC n rg bl G M b a + 1))) (C := RX7) (T := TX7) (N := 15) hx hb hts kX7_chain_ok_0 hown hK hP 0 rfl rfl 4 (by decide) (hts (.fieldLink RX7 19 "SightRidgeModel" "finds" "I") kX7_chain_ok_2) (fun _ h9 => h9) rfl dX7_chain_175 ?_
              refine lv_topi (fun y_5 e_6 => ?_)
              have e_6 : nI (dC n rg bl G M b a) = y_5 := (e_6.trans (FZ_s _)).symm
              subst e_6
              have hI := mri_mk (D := D) (cI := cI) (cB := cB) (cO := cO) (A := A) n rg bl G M hs tL tc (dC n rg bl G M b a + 1) (pC n rg bl G M a b) mm pp uf tx rgd rmd uw cvr re at0 fa hsh hP hm hpp hsl htx (fun z hz => huf z (by omega))
              refine W.iret (v := nI (dC n rg bl G M b a)) hx hb hr ?_ hS.2.2 dX7_chain_178
              intro tS htS hWS
              refine ⟨⟨nI (dC n rg bl G M b a), (), rfl, ?_, ?_⟩, ?_⟩
              · exact rfl
              · exact retM htS hI
              · exact hS.F htS
            · skip
              have c0 : j < dC n rg bl G M b a := ge_f (by omega) c_63
              obtain ⟨hi1, hi2, hi3⟩ := pth_in (ln := id) one_pos ln_0 hd (j - 1) (by show j - 1 < dC n rg bl G M b a; omega)
              have hi1 : dC n rg bl G M b sv ≠ 0 := by rw [hsv]; exact hi1
              have hi2 : dC n rg bl G M b sv = dC n rg bl G M b a - (j - 1) := by rw [hsv]; exact hi2
              have hsn := dst_lt hi1
              have c1 : sv ≠ b := fun q => by have h9 := (ln_one (ln := id) one_pos ln_0 hi1).mpr q; have h9 : dC n rg bl G M b sv = 1 := h9; omega
              obtain ⟨hnx1, hnx2⟩ := nxt_ok one_pos hi1 c1
              have hnx : nxt (cE rg bl G M 0 b) (fun _ => 1) (dC n rg bl G M b) n sv = (pC n rg bl G M a b j) := by
                rw [hsv]; conv => rhs; rw [show j = (j - 1) + 1 by omega]
                rfl
              refine lv_iconst (v := (-1)) hx hb dX7_chain_66 (by decide) ?_
              refine lv_istore (lv' := [(5, .int (-1)), (0, .ref (A 0)), (1, .int (nI a)), (2, .int (nI b)), (3, .int (nI sv)), (4, .int (nI j))]) hx hb dX7_chain_67 hl (by decide) rfl (fun ls hl => ?_)
              refine lv_aload_n hx hb dX7_chain_69 rfl (lv_at hl 1 rfl) ?_
              refine va_get (D := D) (ci := 7) (v := .ref (A 1)) (C := RX7) (T := TX7) (N := 15) hx hb hts kX7_chain_ok_0 hown hK hP 0 rfl rfl 0 (by decide) (hts (.fieldLink RX7 7 "SightRidgeModel" "m" "[I") kX7_chain_ok_4) (fun _ h9 => h9) rfl dX7_chain_70 ?_
              refine lv_iconst (v := 0) hx hb dX7_chain_73 (by decide) ?_
              refine va_iald hx hb hK hP 1 0 rfl rfl (i := nI 0) (vp_in_nI (N := 43) (by decide) (by decide)) dX7_chain_74 ?_
              rw [nI_clamp (n := 0) (by decide)]
              refine lv_topi (fun y_7 e_8 => ?_)
              have e_8 : nI n = y_7 := (e_8.trans (hm0)).symm
              subst e_8
              refine lv_iconst (v := 1) hx hb dX7_chain_75 (by decide) ?_
              refine lv_isub hx hb dX7_chain_76 ?_
              refine lv_topi (fun y_9 e_10 => ?_)
              have e_10 : FZ n = y_9 := (e_10.trans (rfl)).symm
              subst e_10
              refine lv_istore (lv' := [(6, .int (FZ n)), (5, .int (-1)), (0, .ref (A 0)), (1, .int (nI a)), (2, .int (nI b)), (3, .int (nI sv)), (4, .int (nI j))]) hx hb dX7_chain_77 hl (by decide) rfl (fun ls hl => ?_)
              have L_79 : ∀ (k_79 : Nat) (kq : Nat) (nv : Int32), kq < k_79 → (kq ≤ n) → (SC (tgt (cE rg bl G M 0 b) (fun _ => 1) (dC n rg bl G M b) sv) n kq nv) → ∀ (H : Heap) (locs : List Loc), va_P D vwCl [(A 0, .inr (7, [.ref (A 1), .ref (A 2), .int (nI hs.length), .ref (A 3), .int (nI (dC n rg bl G M b a)), .ref (A 4), .int (nI tL), .ref (A 5), .ref (A 6), .int re, .int at0, .int fa, .ref (A 7), .ref (A 8), .long hsh])), (A 1, .inl (cI, 43, .inl mm)), (A 2, .inl (cI, 430, .inl pp)), (A 3, .inl (cI, 20, .inl uf)), (A 4, .inl (cI, 120, .inl tx)), (A 5, .inl (cI, 20, .inl rgd)), (A 6, .inl (cI, 20, .inl rmd)), (A 7, .inl (cI, 20, .inl uw)), (A 8, .inl (cI, 20, .inl cvr))] H → va_D (inW (bdW A)) [(A 0, .inr (7, [.ref (A 1), .ref (A 2), .int (nI hs.length), .ref (A 3), .int (nI (dC n rg bl G M b a)), .ref (A 4), .int (nI tL), .ref (A 5), .ref (A 6), .int re, .int at0, .int fa, .ref (A 7), .ref (A 8), .long hsh])), (A 1, .inl (cI, 43, .inl mm)), (A 2, .inl (cI, 430, .inl pp)), (A 3, .inl (cI, 20, .inl uf)), (A 4, .inl (cI, 120, .inl tx)), (A 5, .inl (cI, 20, .inl rgd)), (A 6, .inl (cI, 20, .inl rmd)), (A 7, .inl (cI, 20, .inl uw)), (A 8, .inl (cI, 20, .inl cvr))] → va_S (inW (bdW A)) s.heap H locs → ∀ (ls : Array Slot), lv_has ls 8 [(0, .ref (A 0)), (1, .int (nI a)), (2, .int (nI b)), (3, .int (nI sv)), (4, .int (nI j)), (5, .int nv), (6, .int (FZ kq))] → W p l e (rmD 8) s m ([.ref (A 0), .int (nI a), .int (nI b)] : List Value).toArray below meth c H locs 0 0 (MQ below (mrQi A (fun (r : Int32) (u : Unit) => r = nI (dC n rg bl G M b a)) (fun (u : Unit) H => MRI D cI cB cO A H n rg bl G M hs tL tc (dC n rg bl G M b a + 1) (pC n rg bl G M a b))) ([.ref (A 0), .int (nI a), .int (nI b)] : List Value).toArray s 0 0 (inW (bdW A))) (F0 m 79 ls []) := by
                intro k_79
                induction k_79 with
                | zero => intro kq nv h9; exact absurd h9 (Nat.not_lt_zero _)
                | succ k_79 ih_79 =>
                  intro kq nv hm_79 hkq hsc H locs hP hD hS ls hl
                  refine lv_iload hx hb dX7_chain_79 (lv_at hl 6 rfl) ?_
                  refine lv_if_lt (tgt := 157) hx hb dX7_chain_81 (by decide) (fun c_81 => ?_) (fun c_81 => ?_)
                  · skip
                    have ek : kq = 0 := (FZ_lt (by omega)).mp c_81
                    subst ek
                    refine lv_iload hx hb dX7_chain_157 (lv_at hl 5 rfl) ?_
                    refine lv_topi (fun y_11 e_12 => ?_)
                    have e_12 : nI (nxt (cE rg bl G M 0 b) (fun _ => 1) (dC n rg bl G M b) n sv) = y_11 := (e_12.trans (SC_end hsc hnx1)).symm
                    subst e_12
                    refine lv_istore_n (lv' := [(3, .int (nI (nxt (cE rg bl G M 0 b) (fun _ => 1) (dC n rg bl G M b) n sv))), (0, .ref (A 0)), (1, .int (nI a)), (2, .int (nI b)), (4, .int (nI j)), (5, .int nv), (6, .int (FZ 0))]) hx hb dX7_chain_159 rfl hl (by decide) rfl (fun ls hl => ?_)
                    refine lv_aload_n hx hb dX7_chain_160 rfl (lv_at hl 1 rfl) ?_
                    refine va_get (D := D) (ci := 7) (v := .ref (A 3)) (C := RX7) (T := TX7) (N := 15) hx hb hts kX7_chain_ok_0 hown hK hP 0 rfl rfl 3 (by decide) (hts (.fieldLink RX7 16 "SightRidgeModel" "found" "[I") kX7_chain_ok_3) (fun _ h9 => h9) rfl dX7_chain_161 ?_
                    refine lv_iload hx hb dX7_chain_164 (lv_at hl 4 rfl) ?_
                    refine lv_iload_n hx hb dX7_chain_166 rfl (lv_at hl 0 rfl) ?_
                    refine va_iast hx hb hK hP hD hS 3 0 rfl rfl (i := nI j) (vp_in_nI (N := 20) (by omega) (by decide)) dX7_chain_167 (fun H locs hP hD hS => ?_)
                    rw [nI_clamp (n := j) (by omega)] at hP hD
                    have hP : va_P D vwCl [(A 0, .inr (7, [.ref (A 1), .ref (A 2), .int (nI hs.length), .ref (A 3), .int (nI (dC n rg bl G M b a)), .ref (A 4), .int (nI tL), .ref (A 5), .ref (A 6), .int re, .int at0, .int fa, .ref (A 7), .ref (A 8), .long hsh])), (A 1, .inl (cI, 43, .inl mm)), (A 2, .inl (cI, 430, .inl pp)), (A 3, .inl (cI, 20, .inl (upd uf j (nI (nxt (cE rg bl G M 0 b) (fun _ => 1) (dC n rg bl G M b) n sv))))), (A 4, .inl (cI, 120, .inl tx)), (A 5, .inl (cI, 20, .inl rgd)), (A 6, .inl (cI, 20, .inl rmd)), (A 7, .inl (cI, 20, .inl uw)), (A 8, .inl (cI, 20, .inl cvr))] _ := hP
                    have hD : va_D (inW (bdW A)) [(A 0, .inr (7, [.ref (A 1), .ref (A 2), .int (nI hs.length), .ref (A 3), .int (nI (dC n rg bl G M b a)), .ref (A 4), .int (nI tL), .ref (A 5), .ref (A 6), .int re, .int at0, .int fa, .ref (A 7), .ref (A 8), .long hsh])), (A 1, .inl (cI, 43, .inl mm)), (A 2, .inl (cI, 430, .inl pp)), (A 3, .inl (cI, 20, .inl (upd uf j (nI (nxt (cE rg bl G M 0 b) (fun _ => 1) (dC n rg bl G M b) n sv))))), (A 4, .inl (cI, 120, .inl tx)), (A 5, .inl (cI, 20, .inl rgd)), (A 6, .inl (cI, 20, .inl rmd)), (A 7, .inl (cI, 20, .inl uw)), (A 8, .inl (cI, 20, .inl cvr))] := hD
                    refine lv_iinc (v := nI (j + 1)) (lv' := [(4, .int (nI (j + 1))), (3, .int (nI (nxt (cE rg bl G M 0 b) (fun _ => 1) (dC n rg bl G M b) n sv))), (0, .ref (A 0)), (1, .int (nI a)), (2, .int (nI b)), (5, .int nv), (6, .int (FZ 0))]) hx hb dX7_chain_168 hl (k := 4) rfl (inc1 _) (by decide) rfl (fun ls hl => ?_)
                    refine lv_goto (tgt := 57) hx hb dX7_chain_171 (by decide) ?_
                    exact ih_57 (j + 1) (nxt (cE rg bl G M 0 b) (fun _ => 1) (dC n rg bl G M b) n sv) (upd uf j (nI (nxt (cE rg bl G M 0 b) (fun _ => 1) (dC n rg bl G M b) n sv))) (by omega) (⟨by omega, by omega⟩) (hnx) (up_s huf (F := fun z => nI (pC n rg bl G M a b z)) (congrArg nI hnx)) _ _ hP hD hS ls (lv_sub hl [2, 3, 4, 1, 0] rfl)
                  · skip
                    obtain ⟨k9, rfl⟩ : ∃ k9, kq = k9 + 1 := ⟨kq - 1, by have : kq ≠ 0 := fun q => c_81 ((FZ_lt (by omega)).mpr q); omega⟩
                    rw [FZ_s] at hl
                    refine lv_aload_n hx hb dX7_chain_84 rfl (lv_at hl 0 rfl) ?_
                    refine va_get (D := D) (ci := 7) (v := .ref (A 7)) (C := RX7) (T := TX7) (N := 15) hx hb hts kX7_chain_ok_0 hown hK hP 0 rfl rfl 12 (by decide) (hts (.fieldLink RX7 32 "SightRidgeModel" "way" "[I") kX7_chain_ok_1) (fun _ h9 => h9) rfl dX7_chain_85 ?_
                    refine lv_iload hx hb dX7_chain_88 (lv_at hl 6 rfl) ?_
                    refine va_iald hx hb hK hP 7 0 rfl rfl (i := nI k9) (vp_in_nI (N := 20) (by omega) (by decide)) dX7_chain_90 ?_
                    rw [nI_clamp (n := k9) (by omega)]
                    have hd9 : dC n rg bl G M b k9 ≤ n := dst1_le k9
                    refine lv_topi (fun y_13 e_14 => ?_)
                    have e_14 : nI (dC n rg bl G M b k9) = y_13 := (e_14.trans (huw k9 (by omega))).symm
                    subst e_14
                    refine lv_aload_n hx hb dX7_chain_91 rfl (lv_at hl 0 rfl) ?_
                    refine va_get (D := D) (ci := 7) (v := .int (nI (dC n rg bl G M b a))) (C := RX7) (T := TX7) (N := 15) hx hb hts kX7_chain_ok_0 hown hK hP 0 rfl rfl 4 (by decide) (hts (.fieldLink RX7 19 "SightRidgeModel" "finds" "I") kX7_chain_ok_2) (fun _ h9 => h9) rfl dX7_chain_92 ?_
                    refine lv_iload hx hb dX7_chain_95 (lv_at hl 4 rfl) ?_
                    refine lv_isub hx hb dX7_chain_97 ?_
                    refine lv_topi (fun y_15 e_16 => ?_)
                    have e_16 : nI (dC n rg bl G M b a - j) = y_15 := (e_16.trans (pk_sub (by omega))).symm
                    subst e_16
                    refine lv_icmp_ne (tgt := 134) hx hb dX7_chain_98 (by decide) (fun c_98 => ?_) (fun c_98 => ?_)
                    · skip
                      have w1 : (tgt (cE rg bl G M 0 b) (fun _ => 1) (dC n rg bl G M b) sv) k9 = false := tgt_f2 (fun q => c_98 (congrArg nI (by have := q.2; omega)))
                      refine lv_iconst (v := 0) hx hb dX7_chain_134 (by decide) ?_
                      refine lv_istore (lv' := [(7, .int 0), (0, .ref (A 0)), (1, .int (nI a)), (2, .int (nI b)), (3, .int (nI sv)), (4, .int (nI j)), (5, .int nv), (6, .int (nI k9))]) hx hb dX7_chain_135 hl (by decide) rfl (fun ls hl => ?_)
                      refine lv_iload hx hb dX7_chain_137 (lv_at hl 0 rfl) ?_
                      refine lv_if_eq (tgt := 147) hx hb dX7_chain_139 (by decide) (fun c_139 => ?_) (fun c_139 => ?_)
                      · skip
                        refine lv_iload hx hb dX7_chain_147 (lv_at hl 6 rfl) ?_
                        refine lv_istore (lv' := [(5, .int nv), (7, .int 0), (0, .ref (A 0)), (1, .int (nI a)), (2, .int (nI b)), (3, .int (nI sv)), (4, .int (nI j)), (6, .int (nI k9))]) hx hb dX7_chain_149 hl (by decide) rfl (fun ls hl => ?_)
                        refine lv_iinc (v := (nI k9) + (-1)) (lv' := [(6, .int ((nI k9) + (-1))), (5, .int nv), (7, .int 0), (0, .ref (A 0)), (1, .int (nI a)), (2, .int (nI b)), (3, .int (nI sv)), (4, .int (nI j))]) hx hb dX7_chain_151 hl (k := 7) rfl (rfl) (by decide) rfl (fun ls hl => ?_)
                        rw [fzd_1] at hl
                        refine lv_goto (tgt := 79) hx hb dX7_chain_154 (by decide) ?_
                        exact ih_79 k9 nv (by omega) (by omega) (SC_F hsc w1) _ _ hP hD hS ls (lv_sub hl [3, 4, 5, 6, 7, 1, 0] rfl)
                      · skip
                        exact absurd (by decide) c_139
                    · skip
                      have c6 : dC n rg bl G M b k9 = dC n rg bl G M b a - j := (nI_eq (by omega) (by omega)).mp c_98
                      refine lv_iload hx hb dX7_chain_101 (lv_at hl 6 rfl) ?_
                      refine lv_iload_n hx hb dX7_chain_103 rfl (lv_at hl 2 rfl) ?_
                      refine lv_icmp_eq (tgt := 120) hx hb dX7_chain_104 (by decide) (fun c_104 => ?_) (fun c_104 => ?_)
                      · skip
                        have c7 : k9 = b ∨ reB M 0 k9 = true := Or.inl ((nI_eq (by omega) (by omega)).mp c_104)
                        refine lv_aload_n hx hb dX7_chain_120 rfl (lv_at hl 0 rfl) ?_
                        refine lv_iload_n hx hb dX7_chain_121 rfl (lv_at hl 3 rfl) ?_
                        refine lv_iload hx hb dX7_chain_122 (lv_at hl 6 rfl) ?_
                        refine rd_calli hP hS (va_runV (As := [.int (nI sv), .int (nI k9)]) (rest := []) ⟨hx, hb, hml, hown, hts⟩ (c_X7_inContact l D cI cB cO (A 0) (A 1) [.ref (A 2), .int (nI hs.length), .ref (A 3), .int (nI (dC n rg bl G M b a)), .ref (A 4), .int (nI tL), .ref (A 5), .ref (A 6), .int re, .int at0, .int fa, .ref (A 7), .ref (A 8), .long hsh] n mm rg bl G M sv k9 hm hsn (by omega)) (cwV 2 hts gX7_chain_X7_inContact rfl rfl rfl (by decide +kernel) ⟨Nat.le_of_ble_eq_true rfl, Nat.le_of_ble_eq_true rfl⟩) (rd_preV (r := (RX7, TX7, 15)) (ci := 7) hK (hP.pick [0, 1] rfl) hN (q0 := 0) rfl rfl) rfl rfl hl.1 rfl (lv_room (Nat.le_of_ble_eq_true rfl)) dX7_chain_124 ⟨Nat.le_refl _, Nat.le_refl _⟩) (fun r_124 H locs h_124 hP hS => ?_)
                        refine lv_if_eq (tgt := 134) hx hb dX7_chain_127 (by decide) (fun c_127 => ?_) (fun c_127 => ?_)
                        · skip
                          have d5 := bI_e0 (h_124.symm.trans c_127)
                          have w1 : (tgt (cE rg bl G M 0 b) (fun _ => 1) (dC n rg bl G M b) sv) k9 = false := tgt_f1 (EM_0 (by rw [hT_0, ← lk_con]; exact d5))
                          refine lv_iconst (v := 0) hx hb dX7_chain_134 (by decide) ?_
                          refine lv_istore (lv' := [(7, .int 0), (0, .ref (A 0)), (1, .int (nI a)), (2, .int (nI b)), (3, .int (nI sv)), (4, .int (nI j)), (5, .int nv), (6, .int (nI k9))]) hx hb dX7_chain_135 hl (by decide) rfl (fun ls hl => ?_)
                          refine lv_iload hx hb dX7_chain_137 (lv_at hl 0 rfl) ?_
                          refine lv_if_eq (tgt := 147) hx hb dX7_chain_139 (by decide) (fun c_139 => ?_) (fun c_139 => ?_)
                          · skip
                            refine lv_iload hx hb dX7_chain_147 (lv_at hl 6 rfl) ?_
                            refine lv_istore (lv' := [(5, .int nv), (7, .int 0), (0, .ref (A 0)), (1, .int (nI a)), (2, .int (nI b)), (3, .int (nI sv)), (4, .int (nI j)), (6, .int (nI k9))]) hx hb dX7_chain_149 hl (by decide) rfl (fun ls hl => ?_)
                            refine lv_iinc (v := (nI k9) + (-1)) (lv' := [(6, .int ((nI k9) + (-1))), (5, .int nv), (7, .int 0), (0, .ref (A 0)), (1, .int (nI a)), (2, .int (nI b)), (3, .int (nI sv)), (4, .int (nI j))]) hx hb dX7_chain_151 hl (k := 7) rfl (rfl) (by decide) rfl (fun ls hl => ?_)
                            rw [fzd_1] at hl
                            refine lv_goto (tgt := 79) hx hb dX7_chain_154 (by decide) ?_
                            exact ih_79 k9 nv (by omega) (by omega) (SC_F hsc w1) _ _ hP hD hS ls (lv_sub hl [3, 4, 5, 6, 7, 1, 0] rfl)
                          · skip
                            exact absurd (by decide) c_139
                        · skip
                          have d5 := bI_n0 (fun q => c_127 (h_124.trans q))
                          have w1 : (tgt (cE rg bl G M 0 b) (fun _ => 1) (dC n rg bl G M b) sv) k9 = true := tgt_iff.mpr ⟨EM_1 (by rw [hT_0, ← lk_con]; exact d5) c7, by omega, by show dC n rg bl G M b sv = 1 + dC n rg bl G M b k9; omega⟩
                          refine lv_iconst (v := 1) hx hb dX7_chain_130 (by decide) ?_
                          refine lv_goto (tgt := 135) hx hb dX7_chain_131 (by decide) ?_
                          refine lv_istore (lv' := [(7, .int 1), (0, .ref (A 0)), (1, .int (nI a)), (2, .int (nI b)), (3, .int (nI sv)), (4, .int (nI j)), (5, .int nv), (6, .int (nI k9))]) hx hb dX7_chain_135 hl (by decide) rfl (fun ls hl => ?_)
                          refine lv_iload hx hb dX7_chain_137 (lv_at hl 0 rfl) ?_
                          refine lv_if_eq (tgt := 147) hx hb dX7_chain_139 (by decide) (fun c_139 => ?_) (fun c_139 => ?_)
                          · skip
                            exact absurd c_139 (by decide)
                          · skip
                            refine lv_iload hx hb dX7_chain_142 (lv_at hl 7 rfl) ?_
                            refine lv_goto (tgt := 149) hx hb dX7_chain_144 (by decide) ?_
                            refine lv_istore (lv' := [(5, .int (nI k9)), (7, .int 1), (0, .ref (A 0)), (1, .int (nI a)), (2, .int (nI b)), (3, .int (nI sv)), (4, .int (nI j)), (6, .int (nI k9))]) hx hb dX7_chain_149 hl (by decide) rfl (fun ls hl => ?_)
                            refine lv_iinc (v := (nI k9) + (-1)) (lv' := [(6, .int ((nI k9) + (-1))), (5, .int (nI k9)), (7, .int 1), (0, .ref (A 0)), (1, .int (nI a)), (2, .int (nI b)), (3, .int (nI sv)), (4, .int (nI j))]) hx hb dX7_chain_151 hl (k := 7) rfl (rfl) (by decide) rfl (fun ls hl => ?_)
                            rw [fzd_1] at hl
                            refine lv_goto (tgt := 79) hx hb dX7_chain_154 (by decide) ?_
                            exact ih_79 k9 (nI k9) (by omega) (by omega) (SC_T (by omega) w1) _ _ hP hD hS ls (lv_sub hl [3, 4, 5, 6, 7, 1, 0] rfl)
                      · skip
                        have c8 : ¬ k9 = b := fun q => c_104 (by rw [q])
                        refine lv_aload_n hx hb dX7_chain_107 rfl (lv_at hl 0 rfl) ?_
                        refine va_get (D := D) (ci := 7) (v := .ref (A 1)) (C := RX7) (T := TX7) (N := 15) hx hb hts kX7_chain_ok_0 hown hK hP 0 rfl rfl 0 (by decide) (hts (.fieldLink RX7 7 "SightRidgeModel" "m" "[I") kX7_chain_ok_4) (fun _ h9 => h9) rfl dX7_chain_108 ?_
                        refine lv_bipush (v := 23) hx hb dX7_chain_111 (by decide) ?_
                        refine lv_iload hx hb dX7_chain_113 (lv_at hl 6 rfl) ?_
                        refine lv_iadd hx hb dX7_chain_115 ?_
                        refine lv_topi (fun y_17 e_18 => ?_)
                        have e_18 : nI (23 + k9) = y_17 := (e_18.trans (nI_add 23 k9)).symm
                        subst e_18
                        refine va_iald hx hb hK hP 1 0 rfl rfl (i := nI (23 + k9)) (vp_in_nI (N := 43) (by omega) (by decide)) dX7_chain_116 ?_
                        rw [nI_clamp (n := 23 + k9) (by omega)]
                        refine lv_topi (fun y_19 e_20 => ?_)
                        have e_20 : M k9 = y_19 := (e_20.trans (hM k9 (by omega))).symm
                        subst e_20
                        refine lv_if_le (tgt := 134) hx hb dX7_chain_117 (by decide) (fun c_117 => ?_) (fun c_117 => ?_)
                        · skip
                          have c9 : M k9 = 0 := MH_no hmh (by omega) c_117
                          have w1 : (tgt (cE rg bl G M 0 b) (fun _ => 1) (dC n rg bl G M b) sv) k9 = false := tgt_f1 (EM_r c8 c9)
                          refine lv_iconst (v := 0) hx hb dX7_chain_134 (by decide) ?_
                          refine lv_istore (lv' := [(7, .int 0), (0, .ref (A 0)), (1, .int (nI a)), (2, .int (nI b)), (3, .int (nI sv)), (4, .int (nI j)), (5, .int nv), (6, .int (nI k9))]) hx hb dX7_chain_135 hl (by decide) rfl (fun ls hl => ?_)
                          refine lv_iload hx hb dX7_chain_137 (lv_at hl 0 rfl) ?_
                          refine lv_if_eq (tgt := 147) hx hb dX7_chain_139 (by decide) (fun c_139 => ?_) (fun c_139 => ?_)
                          · skip
                            refine lv_iload hx hb dX7_chain_147 (lv_at hl 6 rfl) ?_
                            refine lv_istore (lv' := [(5, .int nv), (7, .int 0), (0, .ref (A 0)), (1, .int (nI a)), (2, .int (nI b)), (3, .int (nI sv)), (4, .int (nI j)), (6, .int (nI k9))]) hx hb dX7_chain_149 hl (by decide) rfl (fun ls hl => ?_)
                            refine lv_iinc (v := (nI k9) + (-1)) (lv' := [(6, .int ((nI k9) + (-1))), (5, .int nv), (7, .int 0), (0, .ref (A 0)), (1, .int (nI a)), (2, .int (nI b)), (3, .int (nI sv)), (4, .int (nI j))]) hx hb dX7_chain_151 hl (k := 7) rfl (rfl) (by decide) rfl (fun ls hl => ?_)
                            rw [fzd_1] at hl
                            refine lv_goto (tgt := 79) hx hb dX7_chain_154 (by decide) ?_
                            exact ih_79 k9 nv (by omega) (by omega) (SC_F hsc w1) _ _ hP hD hS ls (lv_sub hl [3, 4, 5, 6, 7, 1, 0] rfl)
                          · skip
                            exact absurd (by decide) c_139
                        · skip
                          have c7 : k9 = b ∨ reB M 0 k9 = true := Or.inr (decide_eq_true (Or.inl (MH_yes c_117)))
                          refine lv_aload_n hx hb dX7_chain_120 rfl (lv_at hl 0 rfl) ?_
                          refine lv_iload_n hx hb dX7_chain_121 rfl (lv_at hl 3 rfl) ?_
                          refine lv_iload hx hb dX7_chain_122 (lv_at hl 6 rfl) ?_
                          refine rd_calli hP hS (va_runV (As := [.int (nI sv), .int (nI k9)]) (rest := []) ⟨hx, hb, hml, hown, hts⟩ (c_X7_inContact l D cI cB cO (A 0) (A 1) [.ref (A 2), .int (nI hs.length), .ref (A 3), .int (nI (dC n rg bl G M b a)), .ref (A 4), .int (nI tL), .ref (A 5), .ref (A 6), .int re, .int at0, .int fa, .ref (A 7), .ref (A 8), .long hsh] n mm rg bl G M sv k9 hm hsn (by omega)) (cwV 2 hts gX7_chain_X7_inContact rfl rfl rfl (by decide +kernel) ⟨Nat.le_of_ble_eq_true rfl, Nat.le_of_ble_eq_true rfl⟩) (rd_preV (r := (RX7, TX7, 15)) (ci := 7) hK (hP.pick [0, 1] rfl) hN (q0 := 0) rfl rfl) rfl rfl hl.1 rfl (lv_room (Nat.le_of_ble_eq_true rfl)) dX7_chain_124 ⟨Nat.le_refl _, Nat.le_refl _⟩) (fun r_124 H locs h_124 hP hS => ?_)
                          refine lv_if_eq (tgt := 134) hx hb dX7_chain_127 (by decide) (fun c_127 => ?_) (fun c_127 => ?_)
                          · skip
                            have d5 := bI_e0 (h_124.symm.trans c_127)
                            have w1 : (tgt (cE rg bl G M 0 b) (fun _ => 1) (dC n rg bl G M b) sv) k9 = false := tgt_f1 (EM_0 (by rw [hT_0, ← lk_con]; exact d5))
                            refine lv_iconst (v := 0) hx hb dX7_chain_134 (by decide) ?_
                            refine lv_istore (lv' := [(7, .int 0), (0, .ref (A 0)), (1, .int (nI a)), (2, .int (nI b)), (3, .int (nI sv)), (4, .int (nI j)), (5, .int nv), (6, .int (nI k9))]) hx hb dX7_chain_135 hl (by decide) rfl (fun ls hl => ?_)
                            refine lv_iload hx hb dX7_chain_137 (lv_at hl 0 rfl) ?_
                            refine lv_if_eq (tgt := 147) hx hb dX7_chain_139 (by decide) (fun c_139 => ?_) (fun c_139 => ?_)
                            · skip
                              refine lv_iload hx hb dX7_chain_147 (lv_at hl 6 rfl) ?_
                              refine lv_istore (lv' := [(5, .int nv), (7, .int 0), (0, .ref (A 0)), (1, .int (nI a)), (2, .int (nI b)), (3, .int (nI sv)), (4, .int (nI j)), (6, .int (nI k9))]) hx hb dX7_chain_149 hl (by decide) rfl (fun ls hl => ?_)
                              refine lv_iinc (v := (nI k9) + (-1)) (lv' := [(6, .int ((nI k9) + (-1))), (5, .int nv), (7, .int 0), (0, .ref (A 0)), (1, .int (nI a)), (2, .int (nI b)), (3, .int (nI sv)), (4, .int (nI j))]) hx hb dX7_chain_151 hl (k := 7) rfl (rfl) (by decide) rfl (fun ls hl => ?_)
                              rw [fzd_1] at hl
                              refine lv_goto (tgt := 79) hx hb dX7_chain_154 (by decide) ?_
                              exact ih_79 k9 nv (by omega) (by omega) (SC_F hsc w1) _ _ hP hD hS ls (lv_sub hl [3, 4, 5, 6, 7, 1, 0] rfl)
                            · skip
                              exact absurd (by decide) c_139
                          · skip
                            have d5 := bI_n0 (fun q => c_127 (h_124.trans q))
                            have w1 : (tgt (cE rg bl G M 0 b) (fun _ => 1) (dC n rg bl G M b) sv) k9 = true := tgt_iff.mpr ⟨EM_1 (by rw [hT_0, ← lk_con]; exact d5) c7, by omega, by show dC n rg bl G M b sv = 1 + dC n rg bl G M b k9; omega⟩
                            refine lv_iconst (v := 1) hx hb dX7_chain_130 (by decide) ?_
                            refine lv_goto (tgt := 135) hx hb dX7_chain_131 (by decide) ?_
                            refine lv_istore (lv' := [(7, .int 1), (0, .ref (A 0)), (1, .int (nI a)), (2, .int (nI b)), (3, .int (nI sv)), (4, .int (nI j)), (5, .int nv), (6, .int (nI k9))]) hx hb dX7_chain_135 hl (by decide) rfl (fun ls hl => ?_)
                            refine lv_iload hx hb dX7_chain_137 (lv_at hl 0 rfl) ?_
                            refine lv_if_eq (tgt := 147) hx hb dX7_chain_139 (by decide) (fun c_139 => ?_) (fun c_139 => ?_)
                            · skip
                              exact absurd c_139 (by decide)
                            · skip
                              refine lv_iload hx hb dX7_chain_142 (lv_at hl 7 rfl) ?_
                              refine lv_goto (tgt := 149) hx hb dX7_chain_144 (by decide) ?_
                              refine lv_istore (lv' := [(5, .int (nI k9)), (7, .int 1), (0, .ref (A 0)), (1, .int (nI a)), (2, .int (nI b)), (3, .int (nI sv)), (4, .int (nI j)), (6, .int (nI k9))]) hx hb dX7_chain_149 hl (by decide) rfl (fun ls hl => ?_)
                              refine lv_iinc (v := (nI k9) + (-1)) (lv' := [(6, .int ((nI k9) + (-1))), (5, .int (nI k9)), (7, .int 1), (0, .ref (A 0)), (1, .int (nI a)), (2, .int (nI b)), (3, .int (nI sv)), (4, .int (nI j))]) hx hb dX7_chain_151 hl (k := 7) rfl (rfl) (by decide) rfl (fun ls hl => ?_)
                              rw [fzd_1] at hl
                              refine lv_goto (tgt := 79) hx hb dX7_chain_154 (by decide) ?_
                              exact ih_79 k9 (nI k9) (by omega) (by omega) (SC_T (by omega) w1) _ _ hP hD hS ls (lv_sub hl [3, 4, 5, 6, 7, 1, 0] rfl)
              exact L_79 _ n (-1) (Nat.lt_succ_self _) (Nat.le_refl n) (SC_n _ n) _ _ hP hD hS ls (lv_sub hl [2, 3, 4, 5, 6, 1, 0] rfl)
        exact L_57 _ 1 a (upd fd 0 (nI a)) (Nat.lt_succ_self _) (⟨by decide, hl0⟩) (rfl) (up_s up_0 (F := fun z => nI (pC n rg bl G M a b z)) rfl) _ _ hP hD hS ls (lv_sub hl [2, 3, 4, 1, 0] rfl)
      · skip
        exact absurd ((nI_eq (b := 0) (by omega) (by decide)).mp c_30) hd
    · skip
      have d2 := bI_e0 (h_10.symm.trans c_13)
      exact absurd d2 (by rw [hasB_in hb0 hn]; decide)
