/-! new masts, vital stations: the reference -/
noncomputable abbrev dW (n : Nat) (rg bl : Int32) (G M : Nat → Int32) (h : Int32) (b : Nat) : Nat → Nat := dst (cE rg bl G M h b) (w100 M) n b
theorem dW_0 {n : Nat} {rg bl : Int32} {G M : Nat → Int32} {h : Int32} {b s : Nat} : dM n rg bl G M h b s = 0 ↔ dW n rg bl G M h b s = 0 := dst_0 (W := 32) (V := 100)
theorem dW_div {n : Nat} {rg bl : Int32} {G M : Nat → Int32} {h : Int32} {b s : Nat} (hn : n ≤ 20) (h0 : dM n rg bl G M h b s ≠ 0) : dW n rg bl G M h b s / 100 = dM n rg bl G M h b s / 32 := by
  obtain ⟨x, k, h1, h2, h3, h4⟩ := dst_pair (W := 32) (V := 100) (by omega) (by omega) h0
  have h3 : dM n rg bl G M h b s = 32 * x + k := h3
  have h4 : dW n rg bl G M h b s = 100 * x + k := h4
  omega
theorem dW_nxt {n : Nat} {rg bl : Int32} {G M : Nat → Int32} {h : Int32} {b s : Nat} (hn : n ≤ 20) (h0 : dM n rg bl G M h b s ≠ 0) : nxt (cE rg bl G M h b) (fun s => 32 * be M s + 1) (dM n rg bl G M h b) n s = fa_first (tgt (cE rg bl G M h b) (w100 M) (dW n rg bl G M h b) s) n := nxt_pair (W := 32) (V := 100) (by omega) (by omega) h0
theorem reB_h {M : Nat → Int32} {h : Int32} {t : Nat} (hh : 0 < h) : reB M h t = true := decide_eq_true (Or.inr hh)
set_option maxHeartbeats 4000000 in
set_option maxRecDepth 100000 in
theorem c_X7_newMasts_no (l : Launch) (D : va_G) (cI cB cO : ClassId) (A : Nat → Nat) (n : Nat) (rg : Int32) (bl : Int32) (G : Nat → Int32) (M : Nat → Int32) (hs : List Prf) (tL : Nat) (tc : Nat → Nat) (fk : Nat) (fc : Nat → Nat) (x y h : Int32) (hok : okS n rg bl G M hs tL tc fk fc) (hno : (hasB n x && (hasB n y && inB h 1 200)) = false) : Met l yX7_newMasts wsX7_newMasts (rmD 8) (mrPc D cI cB cO A [.ref (A 0), .int x, .int y, .int h] n rg bl G M hs tL tc fk fc) (mrQi A (fun (r : Int32) (u : Unit) => r = -2) (fun (u : Unit) H => MRI D cI cB cO A H n rg bl G M hs tL tc fk fc)) 0 0 (inW (bdW A)) := by
  refine Met.ofW (cc := cX7_newMasts) (maxL := 8) (ret := (some .int)) (by decide) rfl ?_
  intro p e s m args below meth c s₁ B hml hv
  obtain ⟨rfl, hI, hK, hN, hA⟩ := hv
  have hx := B.exec
  have hb := B.bytes
  have hr := B.returns
  have hts := atoms_spec (ws := wsX7_newMasts) B.pre
  have hown : s.vm.findClass RX7 = some m.cls := findClass_of_methodNamed B.named
  have hlocks := B.notSynchronized
  have hS : va_S (inW (bdW A)) s.heap s.heap [] := va_S.rf
  obtain ⟨mm, pp, fd, tx, rgd, rmd, wy, cvr, re, at0, fa, hsh, hP, hm, hpp, hsl, htx, hfd⟩ := hI
  have hD : va_D (inW (bdW A)) [(A 0, .inr (7, [.ref (A 1), .ref (A 2), .int (nI hs.length), .ref (A 3), .int (FZ fk), .ref (A 4), .int (nI tL), .ref (A 5), .ref (A 6), .int re, .int at0, .int fa, .ref (A 7), .ref (A 8), .long hsh])), (A 1, .inl (cI, 43, .inl mm)), (A 2, .inl (cI, 430, .inl pp)), (A 3, .inl (cI, 20, .inl fd)), (A 4, .inl (cI, 120, .inl tx)), (A 5, .inl (cI, 20, .inl rgd)), (A 6, .inl (cI, 20, .inl rmd)), (A 7, .inl (cI, 20, .inl wy)), (A 8, .inl (cI, 20, .inl cvr))] := da_D hA rfl
  have hl := lv_entry ([.ref (A 0), .int x, .int y, .int h]) (n := 8) (Nat.le_of_ble_eq_true rfl)
  rw [lg_entry_eq]
  generalize (lg_sl ([.ref (A 0), .int x, .int y, .int h]) ++ List.replicate (8 - (lg_sl ([.ref (A 0), .int x, .int y, .int h])).length) Slot.unset).toArray = ls at hl ⊢
  have hl : lv_has ls 8 [(0, .ref (A 0)), (1, .int x), (2, .int y), (3, .int h)] := hl
  obtain ⟨hokP, hokH, hL, hcc, hfk⟩ := id hok
  have hn : n ≤ 20 := hokP.2.1
  have hn2 : 2 ≤ n := hokP.1
  obtain ⟨-, -, hm0, hm1, hm2, hG, hM⟩ := id hm
  refine lv_aload_n hx hb dX7_newMasts_0 rfl (lv_at hl 0 rfl) ?_
  refine lv_iload_n hx hb dX7_newMasts_1 rfl (lv_at hl 1 rfl) ?_
  refine rd_calli hP hS (va_runV (As := [.int x]) (rest := []) ⟨hx, hb, hml, hown, hts⟩ (c_X7_isStation l D cI cB cO (A 0) (A 1) [.ref (A 2), .int (nI hs.length), .ref (A 3), .int (FZ fk), .ref (A 4), .int (nI tL), .ref (A 5), .ref (A 6), .int re, .int at0, .int fa, .ref (A 7), .ref (A 8), .long hsh] n mm rg bl G M x hm) (cwV 1 hts gX7_newMasts_X7_isStation rfl rfl rfl (by decide +kernel) ⟨Nat.le_of_ble_eq_true rfl, Nat.le_of_ble_eq_true rfl⟩) (rd_preV (r := (RX7, TX7, 15)) (ci := 7) hK (hP.pick [0, 1] rfl) hN (q0 := 0) rfl rfl) rfl rfl hl.1 rfl (lv_room (Nat.le_of_ble_eq_true rfl)) dX7_newMasts_2 ⟨Nat.le_refl _, Nat.le_refl _⟩) (fun r_2 H locs h_2 hP hS => ?_)
  refine lv_if_eq (tgt := 27) hx hb dX7_newMasts_5 (by decide) (fun c_5 => ?_) (fun c_5 => ?_)
  · skip
    have d1 := bI_e0 (h_2.symm.trans c_5)
    refine lv_bipush (v := (-2)) hx hb dX7_newMasts_27 (by decide) ?_
    have hI := mri_mk (D := D) (cI := cI) (cB := cB) (cO := cO) (A := A) n rg bl G M hs tL tc fk fc mm pp fd tx rgd rmd wy cvr re at0 fa hsh hP hm hpp hsl htx hfd
    refine W.iret (v := -2) hx hb hr ?_ hS.2.2 dX7_newMasts_29
    intro tS htS hWS
    refine ⟨⟨(-2), (), rfl, ?_, ?_⟩, ?_⟩
    · exact rfl
    · exact retM htS hI
    · exact hS.F htS
  · skip
    have d1 := bI_n0 (fun q => c_5 (h_2.trans q))
    refine lv_aload_n hx hb dX7_newMasts_8 rfl (lv_at hl 0 rfl) ?_
    refine lv_iload_n hx hb dX7_newMasts_9 rfl (lv_at hl 2 rfl) ?_
    refine rd_calli hP hS (va_runV (As := [.int y]) (rest := []) ⟨hx, hb, hml, hown, hts⟩ (c_X7_isStation l D cI cB cO (A 0) (A 1) [.ref (A 2), .int (nI hs.length), .ref (A 3), .int (FZ fk), .ref (A 4), .int (nI tL), .ref (A 5), .ref (A 6), .int re, .int at0, .int fa, .ref (A 7), .ref (A 8), .long hsh] n mm rg bl G M y hm) (cwV 1 hts gX7_newMasts_X7_isStation rfl rfl rfl (by decide +kernel) ⟨Nat.le_of_ble_eq_true rfl, Nat.le_of_ble_eq_true rfl⟩) (rd_preV (r := (RX7, TX7, 15)) (ci := 7) hK (hP.pick [0, 1] rfl) hN (q0 := 0) rfl rfl) rfl rfl hl.1 rfl (lv_room (Nat.le_of_ble_eq_true rfl)) dX7_newMasts_10 ⟨Nat.le_refl _, Nat.le_refl _⟩) (fun r_10 H locs h_10 hP hS => ?_)
    refine lv_if_eq (tgt := 27) hx hb dX7_newMasts_13 (by decide) (fun c_13 => ?_) (fun c_13 => ?_)
    · skip
      have d2 := bI_e0 (h_10.symm.trans c_13)
      refine lv_bipush (v := (-2)) hx hb dX7_newMasts_27 (by decide) ?_
      have hI := mri_mk (D := D) (cI := cI) (cB := cB) (cO := cO) (A := A) n rg bl G M hs tL tc fk fc mm pp fd tx rgd rmd wy cvr re at0 fa hsh hP hm hpp hsl htx hfd
      refine W.iret (v := -2) hx hb hr ?_ hS.2.2 dX7_newMasts_29
      intro tS htS hWS
      refine ⟨⟨(-2), (), rfl, ?_, ?_⟩, ?_⟩
      · exact rfl
      · exact retM htS hI
      · exact hS.F htS
    · skip
      have d2 := bI_n0 (fun q => c_13 (h_10.trans q))
      refine lv_iload_n hx hb dX7_newMasts_16 rfl (lv_at hl 3 rfl) ?_
      refine lv_iconst (v := 1) hx hb dX7_newMasts_17 (by decide) ?_
      refine lv_sipush (v := 200) hx hb dX7_newMasts_18 (by decide) ?_
      refine rd_calli hP hS (va_runS (As := [.int h, .int 1, .int 200]) (rest := []) ⟨hx, hb, hml, hown, hts⟩ (c_X7_in l D cI cB cO h 1 200 ) (va_cwS 3 hts gX7_newMasts_X7_in rfl rfl rfl (by decide +kernel) ⟨Nat.le_of_ble_eq_true rfl, Nat.le_of_ble_eq_true rfl⟩) (rd_preS hK (hP.pick [] rfl) hN) rfl rfl hl.1 rfl (lv_room (Nat.le_of_ble_eq_true rfl)) dX7_newMasts_21 ⟨Nat.le_refl _, Nat.le_refl _⟩) (fun r_21 H locs h_21 hP hS => ?_)
      refine lv_if_ne (tgt := 30) hx hb dX7_newMasts_24 (by decide) (fun c_24 => ?_) (fun c_24 => ?_)
      · skip
        have d3 := bI_n0 (fun q => c_24 (h_21.trans q))
        exact absurd hno (by rw [d1, d2, d3]; decide)
      · skip
        refine lv_bipush (v := (-2)) hx hb dX7_newMasts_27 (by decide) ?_
        have hI := mri_mk (D := D) (cI := cI) (cB := cB) (cO := cO) (A := A) n rg bl G M hs tL tc fk fc mm pp fd tx rgd rmd wy cvr re at0 fa hsh hP hm hpp hsl htx hfd
        refine W.iret (v := -2) hx hb hr ?_ hS.2.2 dX7_newMasts_29
        intro tS htS hWS
        refine ⟨⟨(-2), (), rfl, ?_, ?_⟩, ?_⟩
        · exact rfl
        · exact retM htS hI
        · exact hS.F htS
theorem kX7_newMasts_none_0 : ∀ w ∈ wsX70, w ∈ wsX7_newMasts := by decide +kernel
theorem kX7_newMasts_none_1 : (.fieldLink RX7 32 "SightRidgeModel" "way" "[I" : Cond) ∈ wsX7_newMasts := by decide +kernel
set_option maxHeartbeats 4000000 in
set_option maxRecDepth 100000 in
theorem c_X7_newMasts_none (l : Launch) (D : va_G) (cI cB cO : ClassId) (A : Nat → Nat) (n : Nat) (rg : Int32) (bl : Int32) (G : Nat → Int32) (M : Nat → Int32) (hs : List Prf) (tL : Nat) (tc : Nat → Nat) (fk : Nat) (fc : Nat → Nat) (a b : Nat) (h : Int32) (hok : okS n rg bl G M hs tL tc fk fc) (ha : a < n) (hb0 : b < n) (hy : inB h 1 200 = true) (hd : dM n rg bl G M h b a = 0) : Met l yX7_newMasts wsX7_newMasts (rmD 8) (mrPc D cI cB cO A [.ref (A 0), .int (nI a), .int (nI b), .int h] n rg bl G M hs tL tc fk fc) (mrQi A (fun (r : Int32) (u : Unit) => r = -1) (fun (u : Unit) H => MRI D cI cB cO A H n rg bl G M hs tL tc fk fc)) 0 0 (inW (bdW A)) := by
  refine Met.ofW (cc := cX7_newMasts) (maxL := 8) (ret := (some .int)) (by decide) rfl ?_
  intro p e s m args below meth c s₁ B hml hv
  obtain ⟨rfl, hI, hK, hN, hA⟩ := hv
  have hx := B.exec
  have hb := B.bytes
  have hr := B.returns
  have hts := atoms_spec (ws := wsX7_newMasts) B.pre
  have hown : s.vm.findClass RX7 = some m.cls := findClass_of_methodNamed B.named
  have hlocks := B.notSynchronized
  have hS : va_S (inW (bdW A)) s.heap s.heap [] := va_S.rf
  obtain ⟨mm, pp, fd, tx, rgd, rmd, wy, cvr, re, at0, fa, hsh, hP, hm, hpp, hsl, htx, hfd⟩ := hI
  have hD : va_D (inW (bdW A)) [(A 0, .inr (7, [.ref (A 1), .ref (A 2), .int (nI hs.length), .ref (A 3), .int (FZ fk), .ref (A 4), .int (nI tL), .ref (A 5), .ref (A 6), .int re, .int at0, .int fa, .ref (A 7), .ref (A 8), .long hsh])), (A 1, .inl (cI, 43, .inl mm)), (A 2, .inl (cI, 430, .inl pp)), (A 3, .inl (cI, 20, .inl fd)), (A 4, .inl (cI, 120, .inl tx)), (A 5, .inl (cI, 20, .inl rgd)), (A 6, .inl (cI, 20, .inl rmd)), (A 7, .inl (cI, 20, .inl wy)), (A 8, .inl (cI, 20, .inl cvr))] := da_D hA rfl
  have hl := lv_entry ([.ref (A 0), .int (nI a), .int (nI b), .int h]) (n := 8) (Nat.le_of_ble_eq_true rfl)
  rw [lg_entry_eq]
  generalize (lg_sl ([.ref (A 0), .int (nI a), .int (nI b), .int h]) ++ List.replicate (8 - (lg_sl ([.ref (A 0), .int (nI a), .int (nI b), .int h])).length) Slot.unset).toArray = ls at hl ⊢
  have hl : lv_has ls 8 [(0, .ref (A 0)), (1, .int (nI a)), (2, .int (nI b)), (3, .int h)] := hl
  obtain ⟨hokP, hokH, hL, hcc, hfk⟩ := id hok
  have hn : n ≤ 20 := hokP.2.1
  have hn2 : 2 ≤ n := hokP.1
  have hmh : MH n M := hokP.2.2.2.2.2
  have hh : 0 < h := in_pos hy
  obtain ⟨-, -, hm0, hm1, hm2, hG, hM⟩ := id hm
  refine lv_aload_n hx hb dX7_newMasts_0 rfl (lv_at hl 0 rfl) ?_
  refine lv_iload_n hx hb dX7_newMasts_1 rfl (lv_at hl 1 rfl) ?_
  refine rd_calli hP hS (va_runV (As := [.int (nI a)]) (rest := []) ⟨hx, hb, hml, hown, hts⟩ (c_X7_isStation l D cI cB cO (A 0) (A 1) [.ref (A 2), .int (nI hs.length), .ref (A 3), .int (FZ fk), .ref (A 4), .int (nI tL), .ref (A 5), .ref (A 6), .int re, .int at0, .int fa, .ref (A 7), .ref (A 8), .long hsh] n mm rg bl G M (nI a) hm) (cwV 1 hts gX7_newMasts_X7_isStation rfl rfl rfl (by decide +kernel) ⟨Nat.le_of_ble_eq_true rfl, Nat.le_of_ble_eq_true rfl⟩) (rd_preV (r := (RX7, TX7, 15)) (ci := 7) hK (hP.pick [0, 1] rfl) hN (q0 := 0) rfl rfl) rfl rfl hl.1 rfl (lv_room (Nat.le_of_ble_eq_true rfl)) dX7_newMasts_2 ⟨Nat.le_refl _, Nat.le_refl _⟩) (fun r_2 H locs h_2 hP hS => ?_)
  refine lv_if_eq (tgt := 27) hx hb dX7_newMasts_5 (by decide) (fun c_5 => ?_) (fun c_5 => ?_)
  · skip
    have d1 := bI_e0 (h_2.symm.trans c_5)
    exact absurd d1 (by rw [hasB_in ha hn]; decide)
  · skip
    refine lv_aload_n hx hb dX7_newMasts_8 rfl (lv_at hl 0 rfl) ?_
    refine lv_iload_n hx hb dX7_newMasts_9 rfl (lv_at hl 2 rfl) ?_
    refine rd_calli hP hS (va_runV (As := [.int (nI b)]) (rest := []) ⟨hx, hb, hml, hown, hts⟩ (c_X7_isStation l D cI cB cO (A 0) (A 1) [.ref (A 2), .int (nI hs.length), .ref (A 3), .int (FZ fk), .ref (A 4), .int (nI tL), .ref (A 5), .ref (A 6), .int re, .int at0, .int fa, .ref (A 7), .ref (A 8), .long hsh] n mm rg bl G M (nI b) hm) (cwV 1 hts gX7_newMasts_X7_isStation rfl rfl rfl (by decide +kernel) ⟨Nat.le_of_ble_eq_true rfl, Nat.le_of_ble_eq_true rfl⟩) (rd_preV (r := (RX7, TX7, 15)) (ci := 7) hK (hP.pick [0, 1] rfl) hN (q0 := 0) rfl rfl) rfl rfl hl.1 rfl (lv_room (Nat.le_of_ble_eq_true rfl)) dX7_newMasts_10 ⟨Nat.le_refl _, Nat.le_refl _⟩) (fun r_10 H locs h_10 hP hS => ?_)
    refine lv_if_eq (tgt := 27) hx hb dX7_newMasts_13 (by decide) (fun c_13 => ?_) (fun c_13 => ?_)
    · skip
      have d2 := bI_e0 (h_10.symm.trans c_13)
      exact absurd d2 (by rw [hasB_in hb0 hn]; decide)
    · skip
      refine lv_iload_n hx hb dX7_newMasts_16 rfl (lv_at hl 3 rfl) ?_
      refine lv_iconst (v := 1) hx hb dX7_newMasts_17 (by decide) ?_
      refine lv_sipush (v := 200) hx hb dX7_newMasts_18 (by decide) ?_
      refine rd_calli hP hS (va_runS (As := [.int h, .int 1, .int 200]) (rest := []) ⟨hx, hb, hml, hown, hts⟩ (c_X7_in l D cI cB cO h 1 200 ) (va_cwS 3 hts gX7_newMasts_X7_in rfl rfl rfl (by decide +kernel) ⟨Nat.le_of_ble_eq_true rfl, Nat.le_of_ble_eq_true rfl⟩) (rd_preS hK (hP.pick [] rfl) hN) rfl rfl hl.1 rfl (lv_room (Nat.le_of_ble_eq_true rfl)) dX7_newMasts_21 ⟨Nat.le_refl _, Nat.le_refl _⟩) (fun r_21 H locs h_21 hP hS => ?_)
      refine lv_if_ne (tgt := 30) hx hb dX7_newMasts_24 (by decide) (fun c_24 => ?_) (fun c_24 => ?_)
      · skip
        refine lv_aload_n hx hb dX7_newMasts_30 rfl (lv_at hl 0 rfl) ?_
        refine lv_iload_n hx hb dX7_newMasts_31 rfl (lv_at hl 2 rfl) ?_
        refine lv_iload_n hx hb dX7_newMasts_32 rfl (lv_at hl 3 rfl) ?_
        refine wv_callv (wc := [(A 0, .inr (7, [.ref (A 1), .ref (A 2), .int (nI hs.length), .ref (A 3), .int (FZ fk), .ref (A 4), .int (nI tL), .ref (A 5), .ref (A 6), .int re, .int at0, .int fa, .ref (A 7), .ref (A 8), .long hsh])), (A 1, .inl (cI, 43, .inl mm)), (A 7, .inl (cI, 20, .inl wy))]) hP hD hS [0, 1, 7] rfl rfl (va_runV (As := [.int (nI b), .int h]) (rest := []) ⟨hx, hb, hml, hown, hts⟩ (c_X7_prices l D cI cB cO (A 0) (A 1) (A 2) (A 3) (A 4) (A 5) (A 6) (A 7) (A 8) mm pp fd tx rgd rmd wy cvr (nI hs.length) (FZ fk) (nI tL) re at0 fa hsh n rg bl G M b h hm hmh hb0 hh) (cwV 2 hts gX7_newMasts_X7_prices rfl rfl rfl (by decide +kernel) ⟨Nat.le_of_ble_eq_true rfl, Nat.le_of_ble_eq_true rfl⟩) (wr_preV (wc := [(A 0, .inr (7, [.ref (A 1), .ref (A 2), .int (nI hs.length), .ref (A 3), .int (FZ fk), .ref (A 4), .int (nI tL), .ref (A 5), .ref (A 6), .int re, .int at0, .int fa, .ref (A 7), .ref (A 8), .long hsh])), (A 1, .inl (cI, 43, .inl mm)), (A 7, .inl (cI, 20, .inl wy))]) (r := (RX7, TX7, 15)) (ci := 7) hK (hP.pick [0, 1, 7] rfl) hN (wr_dsub hD [0, 1, 7] rfl rfl) (q0 := 0) rfl rfl) rfl rfl hl.1 rfl (lv_room (Nat.le_of_ble_eq_true rfl)) dX7_newMasts_33 ⟨Nat.le_refl _, Nat.le_refl _⟩) (fun uw => [(A 0, .inr (7, [.ref (A 1), .ref (A 2), .int (nI hs.length), .ref (A 3), .int (FZ fk), .ref (A 4), .int (nI tL), .ref (A 5), .ref (A 6), .int re, .int at0, .int fa, .ref (A 7), .ref (A 8), .long hsh])), (A 1, .inl (cI, 43, .inl mm)), (A 2, .inl (cI, 430, .inl pp)), (A 3, .inl (cI, 20, .inl fd)), (A 4, .inl (cI, 120, .inl tx)), (A 5, .inl (cI, 20, .inl rgd)), (A 6, .inl (cI, 20, .inl rmd)), (A 7, .inl (cI, 20, .inl uw)), (A 8, .inl (cI, 20, .inl cvr))]) (fun _ => rfl) (fun _ => rfl) (fun uw H locs huw hP hD hS => ?_)
        have hP : va_P D vwCl [(A 0, .inr (7, [.ref (A 1), .ref (A 2), .int (nI hs.length), .ref (A 3), .int (FZ fk), .ref (A 4), .int (nI tL), .ref (A 5), .ref (A 6), .int re, .int at0, .int fa, .ref (A 7), .ref (A 8), .long hsh])), (A 1, .inl (cI, 43, .inl mm)), (A 2, .inl (cI, 430, .inl pp)), (A 3, .inl (cI, 20, .inl fd)), (A 4, .inl (cI, 120, .inl tx)), (A 5, .inl (cI, 20, .inl rgd)), (A 6, .inl (cI, 20, .inl rmd)), (A 7, .inl (cI, 20, .inl uw)), (A 8, .inl (cI, 20, .inl cvr))] _ := hP
        have hD : va_D (inW (bdW A)) [(A 0, .inr (7, [.ref (A 1), .ref (A 2), .int (nI hs.length), .ref (A 3), .int (FZ fk), .ref (A 4), .int (nI tL), .ref (A 5), .ref (A 6), .int re, .int at0, .int fa, .ref (A 7), .ref (A 8), .long hsh])), (A 1, .inl (cI, 43, .inl mm)), (A 2, .inl (cI, 430, .inl pp)), (A 3, .inl (cI, 20, .inl fd)), (A 4, .inl (cI, 120, .inl tx)), (A 5, .inl (cI, 20, .inl rgd)), (A 6, .inl (cI, 20, .inl rmd)), (A 7, .inl (cI, 20, .inl uw)), (A 8, .inl (cI, 20, .inl cvr))] := hD
        refine lv_aload_n hx hb dX7_newMasts_36 rfl (lv_at hl 0 rfl) ?_
        refine va_get (D := D) (ci := 7) (v := .ref (A 7)) (C := RX7) (T := TX7) (N := 15) hx hb hts kX7_newMasts_none_0 hown hK hP 0 rfl rfl 12 (by decide) (hts (.fieldLink RX7 32 "SightRidgeModel" "way" "[I") kX7_newMasts_none_1) (fun _ h9 => h9) rfl dX7_newMasts_37 ?_
        refine lv_iload_n hx hb dX7_newMasts_40 rfl (lv_at hl 1 rfl) ?_
        refine va_iald hx hb hK hP 7 0 rfl rfl (i := nI a) (vp_in_nI (N := 20) (by omega) (by decide)) dX7_newMasts_41 ?_
        rw [nI_clamp (n := a) (by omega)]
        refine lv_topi (fun y_1 e_2 => ?_)
        have e_2 : nI (dW n rg bl G M h b a) = y_1 := (e_2.trans (huw a ha)).symm
        subst e_2
        refine lv_if_ne (tgt := 47) hx hb dX7_newMasts_42 (by decide) (fun c_42 => ?_) (fun c_42 => ?_)
        · skip
          exact absurd (congrArg nI (dW_0.mp hd)) c_42
        · skip
          refine lv_iconst (v := (-1)) hx hb dX7_newMasts_45 (by decide) ?_
          have hI := mri_mk (D := D) (cI := cI) (cB := cB) (cO := cO) (A := A) n rg bl G M hs tL tc fk fc mm pp fd tx rgd rmd uw cvr re at0 fa hsh hP hm hpp hsl htx hfd
          refine W.iret (v := -1) hx hb hr ?_ hS.2.2 dX7_newMasts_46
          intro tS htS hWS
          refine ⟨⟨(-1), (), rfl, ?_, ?_⟩, ?_⟩
          · exact rfl
          · exact retM htS hI
          · exact hS.F htS
      · skip
        have d3 := bI_e0 (h_21.symm.trans c_24)
        exact absurd d3 (by rw [hy]; decide)
theorem kX7_newMasts_ok_0 : ∀ w ∈ wsX70, w ∈ wsX7_newMasts := by decide +kernel
theorem kX7_newMasts_ok_1 : (.fieldLink RX7 32 "SightRidgeModel" "way" "[I" : Cond) ∈ wsX7_newMasts := by decide +kernel
theorem kX7_newMasts_ok_2 : (.fieldLink RX7 19 "SightRidgeModel" "finds" "I" : Cond) ∈ wsX7_newMasts := by decide +kernel
theorem kX7_newMasts_ok_3 : (.fieldLink RX7 16 "SightRidgeModel" "found" "[I" : Cond) ∈ wsX7_newMasts := by decide +kernel
theorem kX7_newMasts_ok_4 : (.fieldLink RX7 7 "SightRidgeModel" "m" "[I" : Cond) ∈ wsX7_newMasts := by decide +kernel
set_option maxHeartbeats 4000000 in
set_option maxRecDepth 100000 in
theorem c_X7_newMasts_ok (l : Launch) (D : va_G) (cI cB cO : ClassId) (A : Nat → Nat) (n : Nat) (rg : Int32) (bl : Int32) (G : Nat → Int32) (M : Nat → Int32) (hs : List Prf) (tL : Nat) (tc : Nat → Nat) (fk : Nat) (fc : Nat → Nat) (a b : Nat) (h : Int32) (hok : okS n rg bl G M hs tL tc fk fc) (ha : a < n) (hb0 : b < n) (hy : inB h 1 200 = true) (hd : dM n rg bl G M h b a ≠ 0) : Met l yX7_newMasts wsX7_newMasts (rmD 8) (mrPc D cI cB cO A [.ref (A 0), .int (nI a), .int (nI b), .int h] n rg bl G M hs tL tc fk fc) (mrQi A (fun (r : Int32) (u : Unit) => r = nI (dM n rg bl G M h b a / 32)) (fun (u : Unit) H => MRI D cI cB cO A H n rg bl G M hs tL tc (dM n rg bl G M h b a % 32 + 1) (pM n rg bl G M h a b))) 0 0 (inW (bdW A)) := by
  refine Met.ofW (cc := cX7_newMasts) (maxL := 8) (ret := (some .int)) (by decide) rfl ?_
  intro p e s m args below meth c s₁ B hml hv
  obtain ⟨rfl, hI, hK, hN, hA⟩ := hv
  have hx := B.exec
  have hb := B.bytes
  have hr := B.returns
  have hts := atoms_spec (ws := wsX7_newMasts) B.pre
  have hown : s.vm.findClass RX7 = some m.cls := findClass_of_methodNamed B.named
  have hlocks := B.notSynchronized
  have hS : va_S (inW (bdW A)) s.heap s.heap [] := va_S.rf
  obtain ⟨mm, pp, fd, tx, rgd, rmd, wy, cvr, re, at0, fa, hsh, hP, hm, hpp, hsl, htx, hfd⟩ := hI
  have hD : va_D (inW (bdW A)) [(A 0, .inr (7, [.ref (A 1), .ref (A 2), .int (nI hs.length), .ref (A 3), .int (FZ fk), .ref (A 4), .int (nI tL), .ref (A 5), .ref (A 6), .int re, .int at0, .int fa, .ref (A 7), .ref (A 8), .long hsh])), (A 1, .inl (cI, 43, .inl mm)), (A 2, .inl (cI, 430, .inl pp)), (A 3, .inl (cI, 20, .inl fd)), (A 4, .inl (cI, 120, .inl tx)), (A 5, .inl (cI, 20, .inl rgd)), (A 6, .inl (cI, 20, .inl rmd)), (A 7, .inl (cI, 20, .inl wy)), (A 8, .inl (cI, 20, .inl cvr))] := da_D hA rfl
  have hl := lv_entry ([.ref (A 0), .int (nI a), .int (nI b), .int h]) (n := 8) (Nat.le_of_ble_eq_true rfl)
  rw [lg_entry_eq]
  generalize (lg_sl ([.ref (A 0), .int (nI a), .int (nI b), .int h]) ++ List.replicate (8 - (lg_sl ([.ref (A 0), .int (nI a), .int (nI b), .int h])).length) Slot.unset).toArray = ls at hl ⊢
  have hl : lv_has ls 8 [(0, .ref (A 0)), (1, .int (nI a)), (2, .int (nI b)), (3, .int h)] := hl
  obtain ⟨hokP, hokH, hL, hcc, hfk⟩ := id hok
  have hn : n ≤ 20 := hokP.2.1
  have hn2 : 2 ≤ n := hokP.1
  have hmh : MH n M := hokP.2.2.2.2.2
  have hh : 0 < h := in_pos hy
  obtain ⟨hl0, hln⟩ := ln_rng (ln := fun c => c % 32) (wpos 32) (ln_W (W := 32) (by omega)) hd
  have hl0 : 0 < dM n rg bl G M h b a % 32 := hl0
  have hln : dM n rg bl G M h b a % 32 ≤ n := hln
  have hdw : dW n rg bl G M h b a ≠ 0 := fun q => hd (dW_0.mpr q)
  have hdr : dW n rg bl G M h b a ≤ 2020 := dM_rng hn
  obtain ⟨-, -, hm0, hm1, hm2, hG, hM⟩ := id hm
  refine lv_aload_n hx hb dX7_newMasts_0 rfl (lv_at hl 0 rfl) ?_
  refine lv_iload_n hx hb dX7_newMasts_1 rfl (lv_at hl 1 rfl) ?_
  refine rd_calli hP hS (va_runV (As := [.int (nI a)]) (rest := []) ⟨hx, hb, hml, hown, hts⟩ (c_X7_isStation l D cI cB cO (A 0) (A 1) [.ref (A 2), .int (nI hs.length), .ref (A 3), .int (FZ fk), .ref (A 4), .int (nI tL), .ref (A 5), .ref (A 6), .int re, .int at0, .int fa, .ref (A 7), .ref (A 8), .long hsh] n mm rg bl G M (nI a) hm) (cwV 1 hts gX7_newMasts_X7_isStation rfl rfl rfl (by decide +kernel) ⟨Nat.le_of_ble_eq_true rfl, Nat.le_of_ble_eq_true rfl⟩) (rd_preV (r := (RX7, TX7, 15)) (ci := 7) hK (hP.pick [0, 1] rfl) hN (q0 := 0) rfl rfl) rfl rfl hl.1 rfl (lv_room (Nat.le_of_ble_eq_true rfl)) dX7_newMasts_2 ⟨Nat.le_refl _, Nat.le_refl _⟩) (fun r_2 H locs h_2 hP hS => ?_)
  refine lv_if_eq (tgt := 27) hx hb dX7_newMasts_5 (by decide) (fun c_5 => ?_) (fun c_5 => ?_)
  · skip
    have d1 := bI_e0 (h_2.symm.trans c_5)
    exact absurd d1 (by rw [hasB_in ha hn]; decide)
  · skip
    refine lv_aload_n hx hb dX7_newMasts_8 rfl (lv_at hl 0 rfl) ?_
    refine lv_iload_n hx hb dX7_newMasts_9 rfl (lv_at hl 2 rfl) ?_
    refine rd_calli hP hS (va_runV (As := [.int (nI b)]) (rest := []) ⟨hx, hb, hml, hown, hts⟩ (c_X7_isStation l D cI cB cO (A 0) (A 1) [.ref (A 2), .int (nI hs.length), .ref (A 3), .int (FZ fk), .ref (A 4), .int (nI tL), .ref (A 5), .ref (A 6), .int re, .int at0, .int fa, .ref (A 7), .ref (A 8), .long hsh] n mm rg bl G M (nI b) hm) (cwV 1 hts gX7_newMasts_X7_isStation rfl rfl rfl (by decide +kernel) ⟨Nat.le_of_ble_eq_true rfl, Nat.le_of_ble_eq_true rfl⟩) (rd_preV (r := (RX7, TX7, 15)) (ci := 7) hK (hP.pick [0, 1] rfl) hN (q0 := 0) rfl rfl) rfl rfl hl.1 rfl (lv_room (Nat.le_of_ble_eq_true rfl)) dX7_newMasts_10 ⟨Nat.le_refl _, Nat.le_refl _⟩) (fun r_10 H locs h_10 hP hS => ?_)
    refine lv_if_eq (tgt := 27) hx hb dX7_newMasts_13 (by decide) (fun c_13 => ?_) (fun c_13 => ?_)
    · skip
      have d2 := bI_e0 (h_10.symm.trans c_13)
      exact absurd d2 (by rw [hasB_in hb0 hn]; decide)
    · skip
      refine lv_iload_n hx hb dX7_newMasts_16 rfl (lv_at hl 3 rfl) ?_
      refine lv_iconst (v := 1) hx hb dX7_newMasts_17 (by decide) ?_
      refine lv_sipush (v := 200) hx hb dX7_newMasts_18 (by decide) ?_
      refine rd_calli hP hS (va_runS (As := [.int h, .int 1, .int 200]) (rest := []) ⟨hx, hb, hml, hown, hts⟩ (c_X7_in l D cI cB cO h 1 200 ) (va_cwS 3 hts gX7_newMasts_X7_in rfl rfl rfl (by decide +kernel) ⟨Nat.le_of_ble_eq_true rfl, Nat.le_of_ble_eq_true rfl⟩) (rd_preS hK (hP.pick [] rfl) hN) rfl rfl hl.1 rfl (lv_room (Nat.le_of_ble_eq_true rfl)) dX7_newMasts_21 ⟨Nat.le_refl _, Nat.le_refl _⟩) (fun r_21 H locs h_21 hP hS => ?_)
      refine lv_if_ne (tgt := 30) hx hb dX7_newMasts_24 (by decide) (fun c_24 => ?_) (fun c_24 => ?_)
      · skip
        refine lv_aload_n hx hb dX7_newMasts_30 rfl (lv_at hl 0 rfl) ?_
        refine lv_iload_n hx hb dX7_newMasts_31 rfl (lv_at hl 2 rfl) ?_
        refine lv_iload_n hx hb dX7_newMasts_32 rfl (lv_at hl 3 rfl) ?_
        refine wv_callv (wc := [(A 0, .inr (7, [.ref (A 1), .ref (A 2), .int (nI hs.length), .ref (A 3), .int (FZ fk), .ref (A 4), .int (nI tL), .ref (A 5), .ref (A 6), .int re, .int at0, .int fa, .ref (A 7), .ref (A 8), .long hsh])), (A 1, .inl (cI, 43, .inl mm)), (A 7, .inl (cI, 20, .inl wy))]) hP hD hS [0, 1, 7] rfl rfl (va_runV (As := [.int (nI b), .int h]) (rest := []) ⟨hx, hb, hml, hown, hts⟩ (c_X7_prices l D cI cB cO (A 0) (A 1) (A 2) (A 3) (A 4) (A 5) (A 6) (A 7) (A 8) mm pp fd tx rgd rmd wy cvr (nI hs.length) (FZ fk) (nI tL) re at0 fa hsh n rg bl G M b h hm hmh hb0 hh) (cwV 2 hts gX7_newMasts_X7_prices rfl rfl rfl (by decide +kernel) ⟨Nat.le_of_ble_eq_true rfl, Nat.le_of_ble_eq_true rfl⟩) (wr_preV (wc := [(A 0, .inr (7, [.ref (A 1), .ref (A 2), .int (nI hs.length), .ref (A 3), .int (FZ fk), .ref (A 4), .int (nI tL), .ref (A 5), .ref (A 6), .int re, .int at0, .int fa, .ref (A 7), .ref (A 8), .long hsh])), (A 1, .inl (cI, 43, .inl mm)), (A 7, .inl (cI, 20, .inl wy))]) (r := (RX7, TX7, 15)) (ci := 7) hK (hP.pick [0, 1, 7] rfl) hN (wr_dsub hD [0, 1, 7] rfl rfl) (q0 := 0) rfl rfl) rfl rfl hl.1 rfl (lv_room (Nat.le_of_ble_eq_true rfl)) dX7_newMasts_33 ⟨Nat.le_refl _, Nat.le_refl _⟩) (fun uw => [(A 0, .inr (7, [.ref (A 1), .ref (A 2), .int (nI hs.length), .ref (A 3), .int (FZ fk), .ref (A 4), .int (nI tL), .ref (A 5), .ref (A 6), .int re, .int at0, .int fa, .ref (A 7), .ref (A 8), .long hsh])), (A 1, .inl (cI, 43, .inl mm)), (A 2, .inl (cI, 430, .inl pp)), (A 3, .inl (cI, 20, .inl fd)), (A 4, .inl (cI, 120, .inl tx)), (A 5, .inl (cI, 20, .inl rgd)), (A 6, .inl (cI, 20, .inl rmd)), (A 7, .inl (cI, 20, .inl uw)), (A 8, .inl (cI, 20, .inl cvr))]) (fun _ => rfl) (fun _ => rfl) (fun uw H locs huw hP hD hS => ?_)
        have hP : va_P D vwCl [(A 0, .inr (7, [.ref (A 1), .ref (A 2), .int (nI hs.length), .ref (A 3), .int (FZ fk), .ref (A 4), .int (nI tL), .ref (A 5), .ref (A 6), .int re, .int at0, .int fa, .ref (A 7), .ref (A 8), .long hsh])), (A 1, .inl (cI, 43, .inl mm)), (A 2, .inl (cI, 430, .inl pp)), (A 3, .inl (cI, 20, .inl fd)), (A 4, .inl (cI, 120, .inl tx)), (A 5, .inl (cI, 20, .inl rgd)), (A 6, .inl (cI, 20, .inl rmd)), (A 7, .inl (cI, 20, .inl uw)), (A 8, .inl (cI, 20, .inl cvr))] _ := hP
        have hD : va_D (inW (bdW A)) [(A 0, .inr (7, [.ref (A 1), .ref (A 2), .int (nI hs.length), .ref (A 3), .int (FZ fk), .ref (A 4), .int (nI tL), .ref (A 5), .ref (A 6), .int re, .int at0, .int fa, .ref (A 7), .ref (A 8), .long hsh])), (A 1, .inl (cI, 43, .inl mm)), (A 2, .inl (cI, 430, .inl pp)), (A 3, .inl (cI, 20, .inl fd)), (A 4, .inl (cI, 120, .inl tx)), (A 5, .inl (cI, 20, .inl rgd)), (A 6, .inl (cI, 20, .inl rmd)), (A 7, .inl (cI, 20, .inl uw)), (A 8, .inl (cI, 20, .inl cvr))] := hD
        refine lv_aload_n hx hb dX7_newMasts_36 rfl (lv_at hl 0 rfl) ?_
        refine va_get (D := D) (ci := 7) (v := .ref (A 7)) (C := RX7) (T := TX7) (N := 15) hx hb hts kX7_newMasts_ok_0 hown hK hP 0 rfl rfl 12 (by decide) (hts (.fieldLink RX7 32 "SightRidgeModel" "way" "[I") kX7_newMasts_ok_1) (fun _ h9 => h9) rfl dX7_newMasts_37 ?_
        refine lv_iload_n hx hb dX7_newMasts_40 rfl (lv_at hl 1 rfl) ?_
        refine va_iald hx hb hK hP 7 0 rfl rfl (i := nI a) (vp_in_nI (N := 20) (by omega) (by decide)) dX7_newMasts_41 ?_
        rw [nI_clamp (n := a) (by omega)]
        refine lv_topi (fun y_1 e_2 => ?_)
        have e_2 : nI (dW n rg bl G M h b a) = y_1 := (e_2.trans (huw a ha)).symm
        subst e_2
        refine lv_if_ne (tgt := 47) hx hb dX7_newMasts_42 (by decide) (fun c_42 => ?_) (fun c_42 => ?_)
        · skip
          refine lv_iload_n hx hb dX7_newMasts_47 rfl (lv_at hl 1 rfl) ?_
          refine lv_istore (lv' := [(4, .int (nI a)), (0, .ref (A 0)), (1, .int (nI a)), (2, .int (nI b)), (3, .int h)]) hx hb dX7_newMasts_48 hl (by decide) rfl (fun ls hl => ?_)
          refine lv_aload_n hx hb dX7_newMasts_50 rfl (lv_at hl 1 rfl) ?_
          refine lv_iconst (v := 1) hx hb dX7_newMasts_51 (by decide) ?_
          refine va_put (D := D) (ci := 7) (v := .int 1) (ty := .int) (C := RX7) (T := TX7) (N := 15) hx hb hts kX7_newMasts_ok_0 tyX7 tyX7_ok nmX7 hown hK hP hD hS 0 rfl rfl 4 (by decide) (hts (.fieldLink RX7 19 "SightRidgeModel" "finds" "I") kX7_newMasts_ok_2) (fun _ h9 => h9) rfl (by decide +kernel) rfl rfl (Nat.le_of_ble_eq_true rfl) dX7_newMasts_52 (fun H locs hP hD hS => ?_)
          have hP : va_P D vwCl [(A 0, .inr (7, [.ref (A 1), .ref (A 2), .int (nI hs.length), .ref (A 3), .int 1, .ref (A 4), .int (nI tL), .ref (A 5), .ref (A 6), .int re, .int at0, .int fa, .ref (A 7), .ref (A 8), .long hsh])), (A 1, .inl (cI, 43, .inl mm)), (A 2, .inl (cI, 430, .inl pp)), (A 3, .inl (cI, 20, .inl fd)), (A 4, .inl (cI, 120, .inl tx)), (A 5, .inl (cI, 20, .inl rgd)), (A 6, .inl (cI, 20, .inl rmd)), (A 7, .inl (cI, 20, .inl uw)), (A 8, .inl (cI, 20, .inl cvr))] _ := hP
          have hD : va_D (inW (bdW A)) [(A 0, .inr (7, [.ref (A 1), .ref (A 2), .int (nI hs.length), .ref (A 3), .int 1, .ref (A 4), .int (nI tL), .ref (A 5), .ref (A 6), .int re, .int at0, .int fa, .ref (A 7), .ref (A 8), .long hsh])), (A 1, .inl (cI, 43, .inl mm)), (A 2, .inl (cI, 430, .inl pp)), (A 3, .inl (cI, 20, .inl fd)), (A 4, .inl (cI, 120, .inl tx)), (A 5, .inl (cI, 20, .inl rgd)), (A 6, .inl (cI, 20, .inl rmd)), (A 7, .inl (cI, 20, .inl uw)), (A 8, .inl (cI, 20, .inl cvr))] := hD
          refine lv_aload_n hx hb dX7_newMasts_55 rfl (lv_at hl 1 rfl) ?_
          refine va_get (D := D) (ci := 7) (v := .ref (A 3)) (C := RX7) (T := TX7) (N := 15) hx hb hts kX7_newMasts_ok_0 hown hK hP 0 rfl rfl 3 (by decide) (hts (.fieldLink RX7 16 "SightRidgeModel" "found" "[I") kX7_newMasts_ok_3) (fun _ h9 => h9) rfl dX7_newMasts_56 ?_
          refine lv_iconst (v := 0) hx hb dX7_newMasts_59 (by decide) ?_
          refine lv_iload hx hb dX7_newMasts_60 (lv_at hl 0 rfl) ?_
          refine va_iast hx hb hK hP hD hS 3 0 rfl rfl (i := nI 0) (vp_in_nI (N := 20) (by decide) (by decide)) dX7_newMasts_62 (fun H locs hP hD hS => ?_)
          rw [nI_clamp (n := 0) (by decide)] at hP hD
          have hP : va_P D vwCl [(A 0, .inr (7, [.ref (A 1), .ref (A 2), .int (nI hs.length), .ref (A 3), .int 1, .ref (A 4), .int (nI tL), .ref (A 5), .ref (A 6), .int re, .int at0, .int fa, .ref (A 7), .ref (A 8), .long hsh])), (A 1, .inl (cI, 43, .inl mm)), (A 2, .inl (cI, 430, .inl pp)), (A 3, .inl (cI, 20, .inl (upd fd 0 (nI a)))), (A 4, .inl (cI, 120, .inl tx)), (A 5, .inl (cI, 20, .inl rgd)), (A 6, .inl (cI, 20, .inl rmd)), (A 7, .inl (cI, 20, .inl uw)), (A 8, .inl (cI, 20, .inl cvr))] _ := hP
          have hD : va_D (inW (bdW A)) [(A 0, .inr (7, [.ref (A 1), .ref (A 2), .int (nI hs.length), .ref (A 3), .int 1, .ref (A 4), .int (nI tL), .ref (A 5), .ref (A 6), .int re, .int at0, .int fa, .ref (A 7), .ref (A 8), .long hsh])), (A 1, .inl (cI, 43, .inl mm)), (A 2, .inl (cI, 430, .inl pp)), (A 3, .inl (cI, 20, .inl (upd fd 0 (nI a)))), (A 4, .inl (cI, 120, .inl tx)), (A 5, .inl (cI, 20, .inl rgd)), (A 6, .inl (cI, 20, .inl rmd)), (A 7, .inl (cI, 20, .inl uw)), (A 8, .inl (cI, 20, .inl cvr))] := hD
          have e9 : ([(A 0, .inr (7, [.ref (A 1), .ref (A 2), .int (nI hs.length), .ref (A 3), .int 1, .ref (A 4), .int (nI tL), .ref (A 5), .ref (A 6), .int re, .int at0, .int fa, .ref (A 7), .ref (A 8), .long hsh])), (A 1, .inl (cI, 43, .inl mm)), (A 2, .inl (cI, 430, .inl pp)), (A 3, .inl (cI, 20, .inl (upd fd 0 (nI a)))), (A 4, .inl (cI, 120, .inl tx)), (A 5, .inl (cI, 20, .inl rgd)), (A 6, .inl (cI, 20, .inl rmd)), (A 7, .inl (cI, 20, .inl uw)), (A 8, .inl (cI, 20, .inl cvr))] : va_W) = [(A 0, .inr (7, [.ref (A 1), .ref (A 2), .int (nI hs.length), .ref (A 3), .int (nI 1), .ref (A 4), .int (nI tL), .ref (A 5), .ref (A 6), .int re, .int at0, .int fa, .ref (A 7), .ref (A 8), .long hsh])), (A 1, .inl (cI, 43, .inl mm)), (A 2, .inl (cI, 430, .inl pp)), (A 3, .inl (cI, 20, .inl (upd fd 0 (nI a)))), (A 4, .inl (cI, 120, .inl tx)), (A 5, .inl (cI, 20, .inl rgd)), (A 6, .inl (cI, 20, .inl rmd)), (A 7, .inl (cI, 20, .inl uw)), (A 8, .inl (cI, 20, .inl cvr))] := congrArg (fun f9 : Int32 => ([(A 0, .inr (7, [.ref (A 1), .ref (A 2), .int (nI hs.length), .ref (A 3), .int f9, .ref (A 4), .int (nI tL), .ref (A 5), .ref (A 6), .int re, .int at0, .int fa, .ref (A 7), .ref (A 8), .long hsh])), (A 1, .inl (cI, 43, .inl mm)), (A 2, .inl (cI, 430, .inl pp)), (A 3, .inl (cI, 20, .inl (upd fd 0 (nI a)))), (A 4, .inl (cI, 120, .inl tx)), (A 5, .inl (cI, 20, .inl rgd)), (A 6, .inl (cI, 20, .inl rmd)), (A 7, .inl (cI, 20, .inl uw)), (A 8, .inl (cI, 20, .inl cvr))] : va_W)) (show 1 = nI 1 from rfl)
          have hP := va_P_eq e9 hP
          have hD := va_D_eq e9 hD
          have L_63 : ∀ (k_63 : Nat) (j : Nat) (sv : Nat) (uf : Nat → Int32), dM n rg bl G M h b a % 32 - j < k_63 → (0 < j ∧ j ≤ dM n rg bl G M h b a % 32) → (sv = (pM n rg bl G M h a b (j - 1))) → (∀ z, z < j → uf z = nI (pM n rg bl G M h a b z)) → ∀ (H : Heap) (locs : List Loc), va_P D vwCl [(A 0, .inr (7, [.ref (A 1), .ref (A 2), .int (nI hs.length), .ref (A 3), .int (nI j), .ref (A 4), .int (nI tL), .ref (A 5), .ref (A 6), .int re, .int at0, .int fa, .ref (A 7), .ref (A 8), .long hsh])), (A 1, .inl (cI, 43, .inl mm)), (A 2, .inl (cI, 430, .inl pp)), (A 3, .inl (cI, 20, .inl uf)), (A 4, .inl (cI, 120, .inl tx)), (A 5, .inl (cI, 20, .inl rgd)), (A 6, .inl (cI, 20, .inl rmd)), (A 7, .inl (cI, 20, .inl uw)), (A 8, .inl (cI, 20, .inl cvr))] H → va_D (inW (bdW A)) [(A 0, .inr (7, [.ref (A 1), .ref (A 2), .int (nI hs.length), .ref (A 3), .int (nI j), .ref (A 4), .int (nI tL), .ref (A 5), .ref (A 6), .int re, .int at0, .int fa, .ref (A 7), .ref (A 8), .long hsh])), (A 1, .inl (cI, 43, .inl mm)), (A 2, .inl (cI, 430, .inl pp)), (A 3, .inl (cI, 20, .inl uf)), (A 4, .inl (cI, 120, .inl tx)), (A 5, .inl (cI, 20, .inl rgd)), (A 6, .inl (cI, 20, .inl rmd)), (A 7, .inl (cI, 20, .inl uw)), (A 8, .inl (cI, 20, .inl cvr))] → va_S (inW (bdW A)) s.heap H locs → ∀ (ls : Array Slot), lv_has ls 8 [(0, .ref (A 0)), (1, .int (nI a)), (2, .int (nI b)), (3, .int h), (4, .int (nI sv))] → W p l e (rmD 8) s m ([.ref (A 0), .int (nI a), .int (nI b), .int h] : List Value).toArray below meth c H locs 0 0 (MQ below (mrQi A (fun (r : Int32) (u : Unit) => r = nI (dM n rg bl G M h b a / 32)) (fun (u : Unit) H => MRI D cI cB cO A H n rg bl G M hs tL tc (dM n rg bl G M h b a % 32 + 1) (pM n rg bl G M h a b))) ([.ref (A 0), .int (nI a), .int (nI b), .int h] : List Value).toArray s 0 0 (inW (bdW A))) (F0 m 63 ls []) := by
            intro k_63
            induction k_63 with
            | zero => intro j sv uf h9; exact absurd h9 (Nat.not_lt_zero _)
            | succ k_63 ih_63 =>
              intro j sv uf hm_63 hj hsv huf H locs hP hD hS ls hl
              refine lv_iload hx hb dX7_newMasts_63 (lv_at hl 4 rfl) ?_
              refine lv_iload_n hx hb dX7_newMasts_65 rfl (lv_at hl 2 rfl) ?_
              obtain ⟨hi1, hi2, hi3⟩ := pth_in (ln := fun c => c % 32) (wpos 32) (ln_W (W := 32) (by omega)) hd (j - 1) (by show j - 1 < dM n rg bl G M h b a % 32; omega)
              have hi1 : dM n rg bl G M h b sv ≠ 0 := by rw [hsv]; exact hi1
              have hi2 : dM n rg bl G M h b sv % 32 = dM n rg bl G M h b a % 32 - (j - 1) := by rw [hsv]; exact hi2
              have hsn : sv < n := dst_lt hi1
              refine lv_icmp_eq (tgt := 188) hx hb dX7_newMasts_66 (by decide) (fun c_66 => ?_) (fun c_66 => ?_)
              · skip
                have c1 : sv = b := (nI_eq (by omega) (by omega)).mp c_66
                have h9 : dM n rg bl G M h b sv % 32 = 1 := (ln_one (ln := fun c => c % 32) (wpos 32) (ln_W (W := 32) (by omega)) hi1).mpr c1
                have ej : j = dM n rg bl G M h b a % 32 := by omega
                have e9 : ([(A 0, .inr (7, [.ref (A 1), .ref (A 2), .int (nI hs.length), .ref (A 3), .int (nI j), .ref (A 4), .int (nI tL), .ref (A 5), .ref (A 6), .int re, .int at0, .int fa, .ref (A 7), .ref (A 8), .long hsh])), (A 1, .inl (cI, 43, .inl mm)), (A 2, .inl (cI, 430, .inl pp)), (A 3, .inl (cI, 20, .inl uf)), (A 4, .inl (cI, 120, .inl tx)), (A 5, .inl (cI, 20, .inl rgd)), (A 6, .inl (cI, 20, .inl rmd)), (A 7, .inl (cI, 20, .inl uw)), (A 8, .inl (cI, 20, .inl cvr))] : va_W) = [(A 0, .inr (7, [.ref (A 1), .ref (A 2), .int (nI hs.length), .ref (A 3), .int (FZ (dM n rg bl G M h b a % 32 + 1)), .ref (A 4), .int (nI tL), .ref (A 5), .ref (A 6), .int re, .int at0, .int fa, .ref (A 7), .ref (A 8), .long hsh])), (A 1, .inl (cI, 43, .inl mm)), (A 2, .inl (cI, 430, .inl pp)), (A 3, .inl (cI, 20, .inl uf)), (A 4, .inl (cI, 120, .inl tx)), (A 5, .inl (cI, 20, .inl rgd)), (A 6, .inl (cI, 20, .inl rmd)), (A 7, .inl (cI, 20, .inl uw)), (A 8, .inl (cI, 20, .inl cvr))] := congrArg (fun f9 : Int32 => ([(A 0, .inr (7, [.ref (A 1), .ref (A 2), .int (nI hs.length), .ref (A 3), .int f9, .ref (A 4), .int (nI tL), .ref (A 5), .ref (A 6), .int re, .int at0, .int fa, .ref (A 7), .ref (A 8), .long hsh])), (A 1, .inl (cI, 43, .inl mm)), (A 2, .inl (cI, 430, .inl pp)), (A 3, .inl (cI, 20, .inl uf)), (A 4, .inl (cI, 120, .inl tx)), (A 5, .inl (cI, 20, .inl rgd)), (A 6, .inl (cI, 20, .inl rmd)), (A 7, .inl (cI, 20, .inl uw)), (A 8, .inl (cI, 20, .inl cvr))] : va_W)) (show nI j = FZ (dM n rg bl G M h b a % 32 + 1) from (congrArg nI ej).trans (FZ_s _).symm)
                have hP := va_P_eq e9 hP
                have hD := va_D_eq e9 hD
                refine lv_aload_n hx hb dX7_newMasts_188 rfl (lv_at hl 0 rfl) ?_
                refine va_get (D := D) (ci := 7) (v := .ref (A 7)) (C := RX7) (T := TX7) (N := 15) hx hb hts kX7_newMasts_ok_0 hown hK hP 0 rfl rfl 12 (by decide) (hts (.fieldLink RX7 32 "SightRidgeModel" "way" "[I") kX7_newMasts_ok_1) (fun _ h9 => h9) rfl dX7_newMasts_189 ?_
                refine lv_iload_n hx hb dX7_newMasts_192 rfl (lv_at hl 1 rfl) ?_
                refine va_iald hx hb hK hP 7 0 rfl rfl (i := nI a) (vp_in_nI (N := 20) (by omega) (by decide)) dX7_newMasts_193 ?_
                rw [nI_clamp (n := a) (by omega)]
                refine lv_topi (fun y_3 e_4 => ?_)
                have e_4 : nI (dW n rg bl G M h b a) = y_3 := (e_4.trans (huw a ha)).symm
                subst e_4
                refine lv_bipush (v := 100) hx hb dX7_newMasts_194 (by decide) ?_
                refine lv_idiv hx hb dX7_newMasts_196 (by decide) ?_
                refine lv_topi (fun y_5 e_6 => ?_)
                have e_6 : nI (dM n rg bl G M h b a / 32) = y_5 := (e_6.trans ((pk_div (a := dW n rg bl G M h b a) (d := 100) (by omega) (by decide) (by decide)).trans (congrArg nI (dW_div hn hd)))).symm
                subst e_6
                have hI := mri_mk (D := D) (cI := cI) (cB := cB) (cO := cO) (A := A) n rg bl G M hs tL tc (dM n rg bl G M h b a % 32 + 1) (pM n rg bl G M h a b) mm pp uf tx rgd rmd uw cvr re at0 fa hsh hP hm hpp hsl htx (fun z hz => huf z (by omega))
                refine W.iret (v := nI (dM n rg bl G M h b a / 32)) hx hb hr ?_ hS.2.2 dX7_newMasts_197
                intro tS htS hWS
                refine ⟨⟨nI (dM n rg bl G M h b a / 32), (), rfl, ?_, ?_⟩, ?_⟩
                · exact rfl
                · exact retM htS hI
                · exact hS.F htS
              · skip
                have c1 : sv ≠ b := fun q => c_66 (by rw [q])
                have c0 : j < dM n rg bl G M h b a % 32 := Nat.lt_of_not_le (fun q => c1 ((ln_one (ln := fun c => c % 32) (wpos 32) (ln_W (W := 32) (by omega)) hi1).mp (by show dM n rg bl G M h b sv % 32 = 1; omega)))
                obtain ⟨hnx1, hnx2⟩ := nxt_ok (wpos 32) hi1 c1
                have hnx : nxt (cE rg bl G M h b) (fun s => 32 * be M s + 1) (dM n rg bl G M h b) n sv = (pM n rg bl G M h a b j) := by
                  rw [hsv]; conv => rhs; rw [show j = (j - 1) + 1 by omega]
                  rfl
                have hnp := dW_nxt hn hi1
                have hnx3 : fa_first (tgt (cE rg bl G M h b) (w100 M) (dW n rg bl G M h b) sv) n < n := by rw [← hnp]; exact hnx1
                have hds : dW n rg bl G M h b sv ≤ 2020 := dM_rng hn
                have hws := w100_le M sv
                refine lv_iconst (v := (-1)) hx hb dX7_newMasts_69 (by decide) ?_
                refine lv_istore (lv' := [(5, .int (-1)), (0, .ref (A 0)), (1, .int (nI a)), (2, .int (nI b)), (3, .int h), (4, .int (nI sv))]) hx hb dX7_newMasts_70 hl (by decide) rfl (fun ls hl => ?_)
                refine lv_aload_n hx hb dX7_newMasts_72 rfl (lv_at hl 1 rfl) ?_
                refine va_get (D := D) (ci := 7) (v := .ref (A 1)) (C := RX7) (T := TX7) (N := 15) hx hb hts kX7_newMasts_ok_0 hown hK hP 0 rfl rfl 0 (by decide) (hts (.fieldLink RX7 7 "SightRidgeModel" "m" "[I") kX7_newMasts_ok_4) (fun _ h9 => h9) rfl dX7_newMasts_73 ?_
                refine lv_iconst (v := 0) hx hb dX7_newMasts_76 (by decide) ?_
                refine va_iald hx hb hK hP 1 0 rfl rfl (i := nI 0) (vp_in_nI (N := 43) (by decide) (by decide)) dX7_newMasts_77 ?_
                rw [nI_clamp (n := 0) (by decide)]
                refine lv_topi (fun y_7 e_8 => ?_)
                have e_8 : nI n = y_7 := (e_8.trans (hm0)).symm
                subst e_8
                refine lv_iconst (v := 1) hx hb dX7_newMasts_78 (by decide) ?_
                refine lv_isub hx hb dX7_newMasts_79 ?_
                refine lv_topi (fun y_9 e_10 => ?_)
                have e_10 : FZ n = y_9 := (e_10.trans (rfl)).symm
                subst e_10
                refine lv_istore (lv' := [(6, .int (FZ n)), (5, .int (-1)), (0, .ref (A 0)), (1, .int (nI a)), (2, .int (nI b)), (3, .int h), (4, .int (nI sv))]) hx hb dX7_newMasts_80 hl (by decide) rfl (fun ls hl => ?_)
                have L_82 : ∀ (k_82 : Nat) (kq : Nat) (nv : Int32), kq < k_82 → (kq ≤ n) → (SC (tgt (cE rg bl G M h b) (w100 M) (dW n rg bl G M h b) sv) n kq nv) → ∀ (H : Heap) (locs : List Loc), va_P D vwCl [(A 0, .inr (7, [.ref (A 1), .ref (A 2), .int (nI hs.length), .ref (A 3), .int (nI j), .ref (A 4), .int (nI tL), .ref (A 5), .ref (A 6), .int re, .int at0, .int fa, .ref (A 7), .ref (A 8), .long hsh])), (A 1, .inl (cI, 43, .inl mm)), (A 2, .inl (cI, 430, .inl pp)), (A 3, .inl (cI, 20, .inl uf)), (A 4, .inl (cI, 120, .inl tx)), (A 5, .inl (cI, 20, .inl rgd)), (A 6, .inl (cI, 20, .inl rmd)), (A 7, .inl (cI, 20, .inl uw)), (A 8, .inl (cI, 20, .inl cvr))] H → va_D (inW (bdW A)) [(A 0, .inr (7, [.ref (A 1), .ref (A 2), .int (nI hs.length), .ref (A 3), .int (nI j), .ref (A 4), .int (nI tL), .ref (A 5), .ref (A 6), .int re, .int at0, .int fa, .ref (A 7), .ref (A 8), .long hsh])), (A 1, .inl (cI, 43, .inl mm)), (A 2, .inl (cI, 430, .inl pp)), (A 3, .inl (cI, 20, .inl uf)), (A 4, .inl (cI, 120, .inl tx)), (A 5, .inl (cI, 20, .inl rgd)), (A 6, .inl (cI, 20, .inl rmd)), (A 7, .inl (cI, 20, .inl uw)), (A 8, .inl (cI, 20, .inl cvr))] → va_S (inW (bdW A)) s.heap H locs → ∀ (ls : Array Slot), lv_has ls 8 [(0, .ref (A 0)), (1, .int (nI a)), (2, .int (nI b)), (3, .int h), (4, .int (nI sv)), (5, .int nv), (6, .int (FZ kq))] → W p l e (rmD 8) s m ([.ref (A 0), .int (nI a), .int (nI b), .int h] : List Value).toArray below meth c H locs 0 0 (MQ below (mrQi A (fun (r : Int32) (u : Unit) => r = nI (dM n rg bl G M h b a / 32)) (fun (u : Unit) H => MRI D cI cB cO A H n rg bl G M hs tL tc (dM n rg bl G M h b a % 32 + 1) (pM n rg bl G M h a b))) ([.ref (A 0), .int (nI a), .int (nI b), .int h] : List Value).toArray s 0 0 (inW (bdW A))) (F0 m 82 ls []) := by
                  intro k_82
                  induction k_82 with
                  | zero => intro kq nv h9; exact absurd h9 (Nat.not_lt_zero _)
                  | succ k_82 ih_82 =>
                    intro kq nv hm_82 hkq hsc H locs hP hD hS ls hl
                    refine lv_iload hx hb dX7_newMasts_82 (lv_at hl 6 rfl) ?_
                    refine lv_if_lt (tgt := 160) hx hb dX7_newMasts_84 (by decide) (fun c_84 => ?_) (fun c_84 => ?_)
                    · skip
                      have ek : kq = 0 := (FZ_lt (by omega)).mp c_84
                      subst ek
                      refine lv_iload hx hb dX7_newMasts_160 (lv_at hl 5 rfl) ?_
                      refine lv_topi (fun y_11 e_12 => ?_)
                      have e_12 : nI (nxt (cE rg bl G M h b) (fun s => 32 * be M s + 1) (dM n rg bl G M h b) n sv) = y_11 := (e_12.trans ((SC_end hsc hnx3).trans (congrArg nI hnp.symm))).symm
                      subst e_12
                      refine lv_istore (lv' := [(4, .int (nI (nxt (cE rg bl G M h b) (fun s => 32 * be M s + 1) (dM n rg bl G M h b) n sv))), (0, .ref (A 0)), (1, .int (nI a)), (2, .int (nI b)), (3, .int h), (5, .int nv), (6, .int (FZ 0))]) hx hb dX7_newMasts_162 hl (by decide) rfl (fun ls hl => ?_)
                      refine lv_aload_n hx hb dX7_newMasts_164 rfl (lv_at hl 1 rfl) ?_
                      refine va_get (D := D) (ci := 7) (v := .ref (A 3)) (C := RX7) (T := TX7) (N := 15) hx hb hts kX7_newMasts_ok_0 hown hK hP 0 rfl rfl 3 (by decide) (hts (.fieldLink RX7 16 "SightRidgeModel" "found" "[I") kX7_newMasts_ok_3) (fun _ h9 => h9) rfl dX7_newMasts_165 ?_
                      refine lv_aload_n hx hb dX7_newMasts_168 rfl (lv_at hl 1 rfl) ?_
                      refine va_get (D := D) (ci := 7) (v := .int (nI j)) (C := RX7) (T := TX7) (N := 15) hx hb hts kX7_newMasts_ok_0 hown hK hP 0 rfl rfl 4 (by decide) (hts (.fieldLink RX7 19 "SightRidgeModel" "finds" "I") kX7_newMasts_ok_2) (fun _ h9 => h9) rfl dX7_newMasts_169 ?_
                      refine lv_iload hx hb dX7_newMasts_172 (lv_at hl 0 rfl) ?_
                      refine va_iast hx hb hK hP hD hS 3 0 rfl rfl (i := nI j) (vp_in_nI (N := 20) (by omega) (by decide)) dX7_newMasts_174 (fun H locs hP hD hS => ?_)
                      rw [nI_clamp (n := j) (by omega)] at hP hD
                      have hP : va_P D vwCl [(A 0, .inr (7, [.ref (A 1), .ref (A 2), .int (nI hs.length), .ref (A 3), .int (nI j), .ref (A 4), .int (nI tL), .ref (A 5), .ref (A 6), .int re, .int at0, .int fa, .ref (A 7), .ref (A 8), .long hsh])), (A 1, .inl (cI, 43, .inl mm)), (A 2, .inl (cI, 430, .inl pp)), (A 3, .inl (cI, 20, .inl (upd uf j (nI (nxt (cE rg bl G M h b) (fun s => 32 * be M s + 1) (dM n rg bl G M h b) n sv))))), (A 4, .inl (cI, 120, .inl tx)), (A 5, .inl (cI, 20, .inl rgd)), (A 6, .inl (cI, 20, .inl rmd)), (A 7, .inl (cI, 20, .inl uw)), (A 8, .inl (cI, 20, .inl cvr))] _ := hP
                      have hD : va_D (inW (bdW A)) [(A 0, .inr (7, [.ref (A 1), .ref (A 2), .int (nI hs.length), .ref (A 3), .int (nI j), .ref (A 4), .int (nI tL), .ref (A 5), .ref (A 6), .int re, .int at0, .int fa, .ref (A 7), .ref (A 8), .long hsh])), (A 1, .inl (cI, 43, .inl mm)), (A 2, .inl (cI, 430, .inl pp)), (A 3, .inl (cI, 20, .inl (upd uf j (nI (nxt (cE rg bl G M h b) (fun s => 32 * be M s + 1) (dM n rg bl G M h b) n sv))))), (A 4, .inl (cI, 120, .inl tx)), (A 5, .inl (cI, 20, .inl rgd)), (A 6, .inl (cI, 20, .inl rmd)), (A 7, .inl (cI, 20, .inl uw)), (A 8, .inl (cI, 20, .inl cvr))] := hD
                      refine lv_aload_n hx hb dX7_newMasts_175 rfl (lv_at hl 1 rfl) ?_
                      refine lv_dup hx hb dX7_newMasts_176 rfl ?_
                      refine va_get (D := D) (ci := 7) (v := .int (nI j)) (C := RX7) (T := TX7) (N := 15) hx hb hts kX7_newMasts_ok_0 hown hK hP 0 rfl rfl 4 (by decide) (hts (.fieldLink RX7 19 "SightRidgeModel" "finds" "I") kX7_newMasts_ok_2) (fun _ h9 => h9) rfl dX7_newMasts_177 ?_
                      refine lv_iconst (v := 1) hx hb dX7_newMasts_180 (by decide) ?_
                      refine lv_iadd hx hb dX7_newMasts_181 ?_
                      refine lv_topi (fun y_13 e_14 => ?_)
                      have e_14 : nI (j + 1) = y_13 := (e_14.trans (nI_add j 1)).symm
                      subst e_14
                      refine va_put (D := D) (ci := 7) (v := .int (nI (j + 1))) (ty := .int) (C := RX7) (T := TX7) (N := 15) hx hb hts kX7_newMasts_ok_0 tyX7 tyX7_ok nmX7 hown hK hP hD hS 0 rfl rfl 4 (by decide) (hts (.fieldLink RX7 19 "SightRidgeModel" "finds" "I") kX7_newMasts_ok_2) (fun _ h9 => h9) rfl (by decide +kernel) rfl rfl (Nat.le_of_ble_eq_true rfl) dX7_newMasts_182 (fun H locs hP hD hS => ?_)
                      have hP : va_P D vwCl [(A 0, .inr (7, [.ref (A 1), .ref (A 2), .int (nI hs.length), .ref (A 3), .int (nI (j + 1)), .ref (A 4), .int (nI tL), .ref (A 5), .ref (A 6), .int re, .int at0, .int fa, .ref (A 7), .ref (A 8), .long hsh])), (A 1, .inl (cI, 43, .inl mm)), (A 2, .inl (cI, 430, .inl pp)), (A 3, .inl (cI, 20, .inl (upd uf j (nI (nxt (cE rg bl G M h b) (fun s => 32 * be M s + 1) (dM n rg bl G M h b) n sv))))), (A 4, .inl (cI, 120, .inl tx)), (A 5, .inl (cI, 20, .inl rgd)), (A 6, .inl (cI, 20, .inl rmd)), (A 7, .inl (cI, 20, .inl uw)), (A 8, .inl (cI, 20, .inl cvr))] _ := hP
                      have hD : va_D (inW (bdW A)) [(A 0, .inr (7, [.ref (A 1), .ref (A 2), .int (nI hs.length), .ref (A 3), .int (nI (j + 1)), .ref (A 4), .int (nI tL), .ref (A 5), .ref (A 6), .int re, .int at0, .int fa, .ref (A 7), .ref (A 8), .long hsh])), (A 1, .inl (cI, 43, .inl mm)), (A 2, .inl (cI, 430, .inl pp)), (A 3, .inl (cI, 20, .inl (upd uf j (nI (nxt (cE rg bl G M h b) (fun s => 32 * be M s + 1) (dM n rg bl G M h b) n sv))))), (A 4, .inl (cI, 120, .inl tx)), (A 5, .inl (cI, 20, .inl rgd)), (A 6, .inl (cI, 20, .inl rmd)), (A 7, .inl (cI, 20, .inl uw)), (A 8, .inl (cI, 20, .inl cvr))] := hD
                      refine lv_goto (tgt := 63) hx hb dX7_newMasts_185 (by decide) ?_
                      exact ih_63 (j + 1) (nxt (cE rg bl G M h b) (fun s => 32 * be M s + 1) (dM n rg bl G M h b) n sv) (upd uf j (nI (nxt (cE rg bl G M h b) (fun s => 32 * be M s + 1) (dM n rg bl G M h b) n sv))) (by omega) (⟨by omega, by omega⟩) (hnx) (up_s huf (F := fun z => nI (pM n rg bl G M h a b z)) (congrArg nI hnx)) _ _ hP hD hS ls (lv_sub hl [1, 2, 3, 4, 0] rfl)
                    · skip
                      obtain ⟨k9, rfl⟩ : ∃ k9, kq = k9 + 1 := ⟨kq - 1, by have : kq ≠ 0 := fun q => c_84 ((FZ_lt (by omega)).mpr q); omega⟩
                      rw [FZ_s] at hl
                      refine lv_aload_n hx hb dX7_newMasts_87 rfl (lv_at hl 0 rfl) ?_
                      refine va_get (D := D) (ci := 7) (v := .ref (A 7)) (C := RX7) (T := TX7) (N := 15) hx hb hts kX7_newMasts_ok_0 hown hK hP 0 rfl rfl 12 (by decide) (hts (.fieldLink RX7 32 "SightRidgeModel" "way" "[I") kX7_newMasts_ok_1) (fun _ h9 => h9) rfl dX7_newMasts_88 ?_
                      refine lv_iload hx hb dX7_newMasts_91 (lv_at hl 6 rfl) ?_
                      refine va_iald hx hb hK hP 7 0 rfl rfl (i := nI k9) (vp_in_nI (N := 20) (by omega) (by decide)) dX7_newMasts_93 ?_
                      rw [nI_clamp (n := k9) (by omega)]
                      have hd9 : dW n rg bl G M h b k9 ≤ 2020 := dM_rng hn
                      refine lv_topi (fun y_15 e_16 => ?_)
                      have e_16 : nI (dW n rg bl G M h b k9) = y_15 := (e_16.trans (huw k9 (by omega))).symm
                      subst e_16
                      refine lv_if_le (tgt := 137) hx hb dX7_newMasts_94 (by decide) (fun c_94 => ?_) (fun c_94 => ?_)
                      · skip
                        have w0 : dW n rg bl G M h b k9 = 0 := by have := (nI_leI (b := 0) (by omega) (by decide)).mp c_94; omega
                        have w1 : (tgt (cE rg bl G M h b) (w100 M) (dW n rg bl G M h b) sv) k9 = false := tgt_f2 (fun q => q.1 w0)
                        refine lv_iconst (v := 0) hx hb dX7_newMasts_137 (by decide) ?_
                        refine lv_istore (lv' := [(7, .int 0), (0, .ref (A 0)), (1, .int (nI a)), (2, .int (nI b)), (3, .int h), (4, .int (nI sv)), (5, .int nv), (6, .int (nI k9))]) hx hb dX7_newMasts_138 hl (by decide) rfl (fun ls hl => ?_)
                        refine lv_iload hx hb dX7_newMasts_140 (lv_at hl 0 rfl) ?_
                        refine lv_if_eq (tgt := 150) hx hb dX7_newMasts_142 (by decide) (fun c_142 => ?_) (fun c_142 => ?_)
                        · skip
                          refine lv_iload hx hb dX7_newMasts_150 (lv_at hl 6 rfl) ?_
                          refine lv_istore (lv' := [(5, .int nv), (7, .int 0), (0, .ref (A 0)), (1, .int (nI a)), (2, .int (nI b)), (3, .int h), (4, .int (nI sv)), (6, .int (nI k9))]) hx hb dX7_newMasts_152 hl (by decide) rfl (fun ls hl => ?_)
                          refine lv_iinc (v := (nI k9) + (-1)) (lv' := [(6, .int ((nI k9) + (-1))), (5, .int nv), (7, .int 0), (0, .ref (A 0)), (1, .int (nI a)), (2, .int (nI b)), (3, .int h), (4, .int (nI sv))]) hx hb dX7_newMasts_154 hl (k := 7) rfl (rfl) (by decide) rfl (fun ls hl => ?_)
                          rw [fzd_1] at hl
                          refine lv_goto (tgt := 82) hx hb dX7_newMasts_157 (by decide) ?_
                          exact ih_82 k9 nv (by omega) (by omega) (SC_F hsc w1) _ _ hP hD hS ls (lv_sub hl [3, 4, 5, 6, 7, 1, 0] rfl)
                        · skip
                          exact absurd (by decide) c_142
                      · skip
                        have c6 : dW n rg bl G M h b k9 ≠ 0 := fun q => c_94 (by rw [q]; decide)
                        refine lv_aload_n hx hb dX7_newMasts_97 rfl (lv_at hl 0 rfl) ?_
                        refine va_get (D := D) (ci := 7) (v := .ref (A 7)) (C := RX7) (T := TX7) (N := 15) hx hb hts kX7_newMasts_ok_0 hown hK hP 0 rfl rfl 12 (by decide) (hts (.fieldLink RX7 32 "SightRidgeModel" "way" "[I") kX7_newMasts_ok_1) (fun _ h9 => h9) rfl dX7_newMasts_98 ?_
                        refine lv_iload hx hb dX7_newMasts_101 (lv_at hl 6 rfl) ?_
                        refine va_iald hx hb hK hP 7 0 rfl rfl (i := nI k9) (vp_in_nI (N := 20) (by omega) (by decide)) dX7_newMasts_103 ?_
                        rw [nI_clamp (n := k9) (by omega)]
                        refine lv_topi (fun y_17 e_18 => ?_)
                        have e_18 : nI (dW n rg bl G M h b k9) = y_17 := (e_18.trans (huw k9 (by omega))).symm
                        subst e_18
                        refine lv_aload_n hx hb dX7_newMasts_104 rfl (lv_at hl 0 rfl) ?_
                        refine lv_iload hx hb dX7_newMasts_105 (lv_at hl 4 rfl) ?_
                        refine rd_calli hP hS (va_runV (As := [.int (nI sv)]) (rest := [.int (nI (dW n rg bl G M h b k9))]) ⟨hx, hb, hml, hown, hts⟩ (c_X7_price l D cI cB cO (A 0) (A 1) [.ref (A 2), .int (nI hs.length), .ref (A 3), .int (nI j), .ref (A 4), .int (nI tL), .ref (A 5), .ref (A 6), .int re, .int at0, .int fa, .ref (A 7), .ref (A 8), .long hsh] n mm rg bl G M sv hm hmh hsn) (cwV 1 hts gX7_newMasts_X7_price rfl rfl rfl (by decide +kernel) ⟨Nat.le_of_ble_eq_true rfl, Nat.le_of_ble_eq_true rfl⟩) (rd_preV (r := (RX7, TX7, 15)) (ci := 7) hK (hP.pick [0, 1] rfl) hN (q0 := 0) rfl rfl) rfl rfl hl.1 rfl (lv_room (Nat.le_of_ble_eq_true rfl)) dX7_newMasts_107 ⟨Nat.le_refl _, Nat.le_refl _⟩) (fun r_107 H locs h_107 hP hS => ?_)
                        subst h_107
                        refine lv_iadd hx hb dX7_newMasts_110 ?_
                        refine lv_topi (fun y_19 e_20 => ?_)
                        have e_20 : nI ((dW n rg bl G M h b k9) + (w100 M sv)) = y_19 := (e_20.trans (nI_add (dW n rg bl G M h b k9) (w100 M sv))).symm
                        subst e_20
                        refine lv_aload_n hx hb dX7_newMasts_111 rfl (lv_at hl 0 rfl) ?_
                        refine va_get (D := D) (ci := 7) (v := .ref (A 7)) (C := RX7) (T := TX7) (N := 15) hx hb hts kX7_newMasts_ok_0 hown hK hP 0 rfl rfl 12 (by decide) (hts (.fieldLink RX7 32 "SightRidgeModel" "way" "[I") kX7_newMasts_ok_1) (fun _ h9 => h9) rfl dX7_newMasts_112 ?_
                        refine lv_iload hx hb dX7_newMasts_115 (lv_at hl 4 rfl) ?_
                        refine va_iald hx hb hK hP 7 0 rfl rfl (i := nI sv) (vp_in_nI (N := 20) (by omega) (by decide)) dX7_newMasts_117 ?_
                        rw [nI_clamp (n := sv) (by omega)]
                        refine lv_topi (fun y_21 e_22 => ?_)
                        have e_22 : nI (dW n rg bl G M h b sv) = y_21 := (e_22.trans (huw sv hsn)).symm
                        subst e_22
                        refine lv_icmp_ne (tgt := 137) hx hb dX7_newMasts_118 (by decide) (fun c_118 => ?_) (fun c_118 => ?_)
                        · skip
                          have w1 : (tgt (cE rg bl G M h b) (w100 M) (dW n rg bl G M h b) sv) k9 = false := tgt_f2 (fun q => c_118 (congrArg nI (by have := q.2; omega)))
                          refine lv_iconst (v := 0) hx hb dX7_newMasts_137 (by decide) ?_
                          refine lv_istore (lv' := [(7, .int 0), (0, .ref (A 0)), (1, .int (nI a)), (2, .int (nI b)), (3, .int h), (4, .int (nI sv)), (5, .int nv), (6, .int (nI k9))]) hx hb dX7_newMasts_138 hl (by decide) rfl (fun ls hl => ?_)
                          refine lv_iload hx hb dX7_newMasts_140 (lv_at hl 0 rfl) ?_
                          refine lv_if_eq (tgt := 150) hx hb dX7_newMasts_142 (by decide) (fun c_142 => ?_) (fun c_142 => ?_)
                          · skip
                            refine lv_iload hx hb dX7_newMasts_150 (lv_at hl 6 rfl) ?_
                            refine lv_istore (lv' := [(5, .int nv), (7, .int 0), (0, .ref (A 0)), (1, .int (nI a)), (2, .int (nI b)), (3, .int h), (4, .int (nI sv)), (6, .int (nI k9))]) hx hb dX7_newMasts_152 hl (by decide) rfl (fun ls hl => ?_)
                            refine lv_iinc (v := (nI k9) + (-1)) (lv' := [(6, .int ((nI k9) + (-1))), (5, .int nv), (7, .int 0), (0, .ref (A 0)), (1, .int (nI a)), (2, .int (nI b)), (3, .int h), (4, .int (nI sv))]) hx hb dX7_newMasts_154 hl (k := 7) rfl (rfl) (by decide) rfl (fun ls hl => ?_)
                            rw [fzd_1] at hl
                            refine lv_goto (tgt := 82) hx hb dX7_newMasts_157 (by decide) ?_
                            exact ih_82 k9 nv (by omega) (by omega) (SC_F hsc w1) _ _ hP hD hS ls (lv_sub hl [3, 4, 5, 6, 7, 1, 0] rfl)
                          · skip
                            exact absurd (by decide) c_142
                        · skip
                          have c7 : dW n rg bl G M h b k9 + w100 M sv = dW n rg bl G M h b sv := (nI_eq (by omega) (by omega)).mp c_118
                          refine lv_aload_n hx hb dX7_newMasts_121 rfl (lv_at hl 0 rfl) ?_
                          refine lv_iload hx hb dX7_newMasts_122 (lv_at hl 4 rfl) ?_
                          refine lv_iload hx hb dX7_newMasts_124 (lv_at hl 6 rfl) ?_
                          refine lv_iload_n hx hb dX7_newMasts_126 rfl (lv_at hl 3 rfl) ?_
                          refine rd_calli hP hS (va_runV (As := [.int (nI sv), .int (nI k9), .int h]) (rest := []) ⟨hx, hb, hml, hown, hts⟩ (c_X7_wouldMeet l D cI cB cO (A 0) (A 1) [.ref (A 2), .int (nI hs.length), .ref (A 3), .int (nI j), .ref (A 4), .int (nI tL), .ref (A 5), .ref (A 6), .int re, .int at0, .int fa, .ref (A 7), .ref (A 8), .long hsh] n mm rg bl G M sv k9 h hm hmh hsn (by omega)) (cwV 3 hts gX7_newMasts_X7_wouldMeet rfl rfl rfl (by decide +kernel) ⟨Nat.le_of_ble_eq_true rfl, Nat.le_of_ble_eq_true rfl⟩) (rd_preV (r := (RX7, TX7, 15)) (ci := 7) hK (hP.pick [0, 1] rfl) hN (q0 := 0) rfl rfl) rfl rfl hl.1 rfl (lv_room (Nat.le_of_ble_eq_true rfl)) dX7_newMasts_127 ⟨Nat.le_refl _, Nat.le_refl _⟩) (fun r_127 H locs h_127 hP hS => ?_)
                          refine lv_if_eq (tgt := 137) hx hb dX7_newMasts_130 (by decide) (fun c_130 => ?_) (fun c_130 => ?_)
                          · skip
                            have d5 := bI_e0 (h_127.symm.trans c_130)
                            have w1 : (tgt (cE rg bl G M h b) (w100 M) (dW n rg bl G M h b) sv) k9 = false := tgt_f1 (EM_0 d5)
                            refine lv_iconst (v := 0) hx hb dX7_newMasts_137 (by decide) ?_
                            refine lv_istore (lv' := [(7, .int 0), (0, .ref (A 0)), (1, .int (nI a)), (2, .int (nI b)), (3, .int h), (4, .int (nI sv)), (5, .int nv), (6, .int (nI k9))]) hx hb dX7_newMasts_138 hl (by decide) rfl (fun ls hl => ?_)
                            refine lv_iload hx hb dX7_newMasts_140 (lv_at hl 0 rfl) ?_
                            refine lv_if_eq (tgt := 150) hx hb dX7_newMasts_142 (by decide) (fun c_142 => ?_) (fun c_142 => ?_)
                            · skip
                              refine lv_iload hx hb dX7_newMasts_150 (lv_at hl 6 rfl) ?_
                              refine lv_istore (lv' := [(5, .int nv), (7, .int 0), (0, .ref (A 0)), (1, .int (nI a)), (2, .int (nI b)), (3, .int h), (4, .int (nI sv)), (6, .int (nI k9))]) hx hb dX7_newMasts_152 hl (by decide) rfl (fun ls hl => ?_)
                              refine lv_iinc (v := (nI k9) + (-1)) (lv' := [(6, .int ((nI k9) + (-1))), (5, .int nv), (7, .int 0), (0, .ref (A 0)), (1, .int (nI a)), (2, .int (nI b)), (3, .int h), (4, .int (nI sv))]) hx hb dX7_newMasts_154 hl (k := 7) rfl (rfl) (by decide) rfl (fun ls hl => ?_)
                              rw [fzd_1] at hl
                              refine lv_goto (tgt := 82) hx hb dX7_newMasts_157 (by decide) ?_
                              exact ih_82 k9 nv (by omega) (by omega) (SC_F hsc w1) _ _ hP hD hS ls (lv_sub hl [3, 4, 5, 6, 7, 1, 0] rfl)
                            · skip
                              exact absurd (by decide) c_142
                          · skip
                            have d5 := bI_n0 (fun q => c_130 (h_127.trans q))
                            have w1 : (tgt (cE rg bl G M h b) (w100 M) (dW n rg bl G M h b) sv) k9 = true := tgt_iff.mpr ⟨EM_1 d5 (Or.inr (reB_h hh)), c6, by omega⟩
                            refine lv_iconst (v := 1) hx hb dX7_newMasts_133 (by decide) ?_
                            refine lv_goto (tgt := 138) hx hb dX7_newMasts_134 (by decide) ?_
                            refine lv_istore (lv' := [(7, .int 1), (0, .ref (A 0)), (1, .int (nI a)), (2, .int (nI b)), (3, .int h), (4, .int (nI sv)), (5, .int nv), (6, .int (nI k9))]) hx hb dX7_newMasts_138 hl (by decide) rfl (fun ls hl => ?_)
                            refine lv_iload hx hb dX7_newMasts_140 (lv_at hl 0 rfl) ?_
                            refine lv_if_eq (tgt := 150) hx hb dX7_newMasts_142 (by decide) (fun c_142 => ?_) (fun c_142 => ?_)
                            · skip
                              exact absurd c_142 (by decide)
                            · skip
                              refine lv_iload hx hb dX7_newMasts_145 (lv_at hl 7 rfl) ?_
                              refine lv_goto (tgt := 152) hx hb dX7_newMasts_147 (by decide) ?_
                              refine lv_istore (lv' := [(5, .int (nI k9)), (7, .int 1), (0, .ref (A 0)), (1, .int (nI a)), (2, .int (nI b)), (3, .int h), (4, .int (nI sv)), (6, .int (nI k9))]) hx hb dX7_newMasts_152 hl (by decide) rfl (fun ls hl => ?_)
                              refine lv_iinc (v := (nI k9) + (-1)) (lv' := [(6, .int ((nI k9) + (-1))), (5, .int (nI k9)), (7, .int 1), (0, .ref (A 0)), (1, .int (nI a)), (2, .int (nI b)), (3, .int h), (4, .int (nI sv))]) hx hb dX7_newMasts_154 hl (k := 7) rfl (rfl) (by decide) rfl (fun ls hl => ?_)
                              rw [fzd_1] at hl
                              refine lv_goto (tgt := 82) hx hb dX7_newMasts_157 (by decide) ?_
                              exact ih_82 k9 (nI k9) (by omega) (by omega) (SC_T (by omega) w1) _ _ hP hD hS ls (lv_sub hl [3, 4, 5, 6, 7, 1, 0] rfl)
                exact L_82 _ n (-1) (Nat.lt_succ_self _) (Nat.le_refl n) (SC_n _ n) _ _ hP hD hS ls (lv_sub hl [2, 3, 4, 5, 6, 1, 0] rfl)
          exact L_63 _ 1 a (upd fd 0 (nI a)) (Nat.lt_succ_self _) (⟨by decide, hl0⟩) (rfl) (up_s up_0 (F := fun z => nI (pM n rg bl G M h a b z)) rfl) _ _ hP hD hS ls (lv_sub hl [1, 2, 3, 4, 0] rfl)
        · skip
          exact absurd ((nI_eq (b := 0) (by omega) (by decide)).mp c_42) hdw
      · skip
        have d3 := bI_e0 (h_21.symm.trans c_24)
        exact absurd d3 (by rw [hy]; decide)
set_option maxHeartbeats 4000000 in
set_option maxRecDepth 100000 in
theorem c_X7_vital_no (l : Launch) (D : va_G) (cI cB cO : ClassId) (A : Nat → Nat) (n : Nat) (rg : Int32) (bl : Int32) (G : Nat → Int32) (M : Nat → Int32) (hs : List Prf) (tL : Nat) (tc : Nat → Nat) (fk : Nat) (fc : Nat → Nat) (x y : Int32) (hok : okS n rg bl G M hs tL tc fk fc) (hno : (hasB n x && hasB n y) = false) : Met l yX7_vital wsX7_vital (rmD 8) (mrPc D cI cB cO A [.ref (A 0), .int x, .int y] n rg bl G M hs tL tc fk fc) (mrQi A (fun (r : Int32) (u : Unit) => r = -2) (fun (u : Unit) H => MRI D cI cB cO A H n rg bl G M hs tL tc fk fc)) 0 0 (inW (bdW A)) := by
  refine Met.ofW (cc := cX7_vital) (maxL := 6) (ret := (some .int)) (by decide) rfl ?_
  intro p e s m args below meth c s₁ B hml hv
  obtain ⟨rfl, hI, hK, hN, hA⟩ := hv
  have hx := B.exec
  have hb := B.bytes
  have hr := B.returns
  have hts := atoms_spec (ws := wsX7_vital) B.pre
  have hown : s.vm.findClass RX7 = some m.cls := findClass_of_methodNamed B.named
  have hlocks := B.notSynchronized
  have hS : va_S (inW (bdW A)) s.heap s.heap [] := va_S.rf
  obtain ⟨mm, pp, fd, tx, rgd, rmd, wy, cvr, re, at0, fa, hsh, hP, hm, hpp, hsl, htx, hfd⟩ := hI
  have hD : va_D (inW (bdW A)) [(A 0, .inr (7, [.ref (A 1), .ref (A 2), .int (nI hs.length), .ref (A 3), .int (FZ fk), .ref (A 4), .int (nI tL), .ref (A 5), .ref (A 6), .int re, .int at0, .int fa, .ref (A 7), .ref (A 8), .long hsh])), (A 1, .inl (cI, 43, .inl mm)), (A 2, .inl (cI, 430, .inl pp)), (A 3, .inl (cI, 20, .inl fd)), (A 4, .inl (cI, 120, .inl tx)), (A 5, .inl (cI, 20, .inl rgd)), (A 6, .inl (cI, 20, .inl rmd)), (A 7, .inl (cI, 20, .inl wy)), (A 8, .inl (cI, 20, .inl cvr))] := da_D hA rfl
  have hl := lv_entry ([.ref (A 0), .int x, .int y]) (n := 6) (Nat.le_of_ble_eq_true rfl)
  rw [lg_entry_eq]
  generalize (lg_sl ([.ref (A 0), .int x, .int y]) ++ List.replicate (6 - (lg_sl ([.ref (A 0), .int x, .int y])).length) Slot.unset).toArray = ls at hl ⊢
  have hl : lv_has ls 6 [(0, .ref (A 0)), (1, .int x), (2, .int y)] := hl
  obtain ⟨hokP, hokH, hL, hcc, hfk⟩ := id hok
  have hn : n ≤ 20 := hokP.2.1
  have hn2 : 2 ≤ n := hokP.1
  obtain ⟨-, -, hm0, hm1, hm2, hG, hM⟩ := id hm
  refine lv_aload_n hx hb dX7_vital_0 rfl (lv_at hl 0 rfl) ?_
  refine lv_iload_n hx hb dX7_vital_1 rfl (lv_at hl 1 rfl) ?_
  refine rd_calli hP hS (va_runV (As := [.int x]) (rest := []) ⟨hx, hb, hml, hown, hts⟩ (c_X7_isStation l D cI cB cO (A 0) (A 1) [.ref (A 2), .int (nI hs.length), .ref (A 3), .int (FZ fk), .ref (A 4), .int (nI tL), .ref (A 5), .ref (A 6), .int re, .int at0, .int fa, .ref (A 7), .ref (A 8), .long hsh] n mm rg bl G M x hm) (cwV 1 hts gX7_vital_X7_isStation rfl rfl rfl (by decide +kernel) ⟨Nat.le_of_ble_eq_true rfl, Nat.le_of_ble_eq_true rfl⟩) (rd_preV (r := (RX7, TX7, 15)) (ci := 7) hK (hP.pick [0, 1] rfl) hN (q0 := 0) rfl rfl) rfl rfl hl.1 rfl (lv_room (Nat.le_of_ble_eq_true rfl)) dX7_vital_2 ⟨Nat.le_refl _, Nat.le_refl _⟩) (fun r_2 H locs h_2 hP hS => ?_)
  refine lv_if_eq (tgt := 16) hx hb dX7_vital_5 (by decide) (fun c_5 => ?_) (fun c_5 => ?_)
  · skip
    have d1 := bI_e0 (h_2.symm.trans c_5)
    refine lv_bipush (v := (-2)) hx hb dX7_vital_16 (by decide) ?_
    have hI := mri_mk (D := D) (cI := cI) (cB := cB) (cO := cO) (A := A) n rg bl G M hs tL tc fk fc mm pp fd tx rgd rmd wy cvr re at0 fa hsh hP hm hpp hsl htx hfd
    refine W.iret (v := -2) hx hb hr ?_ hS.2.2 dX7_vital_18
    intro tS htS hWS
    refine ⟨⟨(-2), (), rfl, ?_, ?_⟩, ?_⟩
    · exact rfl
    · exact retM htS hI
    · exact hS.F htS
  · skip
    have d1 := bI_n0 (fun q => c_5 (h_2.trans q))
    refine lv_aload_n hx hb dX7_vital_8 rfl (lv_at hl 0 rfl) ?_
    refine lv_iload_n hx hb dX7_vital_9 rfl (lv_at hl 2 rfl) ?_
    refine rd_calli hP hS (va_runV (As := [.int y]) (rest := []) ⟨hx, hb, hml, hown, hts⟩ (c_X7_isStation l D cI cB cO (A 0) (A 1) [.ref (A 2), .int (nI hs.length), .ref (A 3), .int (FZ fk), .ref (A 4), .int (nI tL), .ref (A 5), .ref (A 6), .int re, .int at0, .int fa, .ref (A 7), .ref (A 8), .long hsh] n mm rg bl G M y hm) (cwV 1 hts gX7_vital_X7_isStation rfl rfl rfl (by decide +kernel) ⟨Nat.le_of_ble_eq_true rfl, Nat.le_of_ble_eq_true rfl⟩) (rd_preV (r := (RX7, TX7, 15)) (ci := 7) hK (hP.pick [0, 1] rfl) hN (q0 := 0) rfl rfl) rfl rfl hl.1 rfl (lv_room (Nat.le_of_ble_eq_true rfl)) dX7_vital_10 ⟨Nat.le_refl _, Nat.le_refl _⟩) (fun r_10 H locs h_10 hP hS => ?_)
    refine lv_if_ne (tgt := 19) hx hb dX7_vital_13 (by decide) (fun c_13 => ?_) (fun c_13 => ?_)
    · skip
      have d2 := bI_n0 (fun q => c_13 (h_10.trans q))
      exact absurd hno (by rw [d1, d2]; decide)
    · skip
      refine lv_bipush (v := (-2)) hx hb dX7_vital_16 (by decide) ?_
      have hI := mri_mk (D := D) (cI := cI) (cB := cB) (cO := cO) (A := A) n rg bl G M hs tL tc fk fc mm pp fd tx rgd rmd wy cvr re at0 fa hsh hP hm hpp hsl htx hfd
      refine W.iret (v := -2) hx hb hr ?_ hS.2.2 dX7_vital_18
      intro tS htS hWS
      refine ⟨⟨(-2), (), rfl, ?_, ?_⟩, ?_⟩
      · exact rfl
      · exact retM htS hI
      · exact hS.F htS
set_option maxHeartbeats 4000000 in
set_option maxRecDepth 100000 in
theorem c_X7_vital_none (l : Launch) (D : va_G) (cI cB cO : ClassId) (A : Nat → Nat) (n : Nat) (rg : Int32) (bl : Int32) (G : Nat → Int32) (M : Nat → Int32) (hs : List Prf) (tL : Nat) (tc : Nat → Nat) (fk : Nat) (fc : Nat → Nat) (a b : Nat) (hok : okS n rg bl G M hs tL tc fk fc) (ha : a < n) (hb0 : b < n) (hd : joB (lkB G rg bl (hT G M 0)) (reB M 0) n a b = false) : Met l yX7_vital wsX7_vital (rmD 8) (mrPc D cI cB cO A [.ref (A 0), .int (nI a), .int (nI b)] n rg bl G M hs tL tc fk fc) (mrQi A (fun (r : Int32) (u : Unit) => r = -3) (fun (u : Unit) H => MRI D cI cB cO A H n rg bl G M hs tL tc fk fc)) 0 0 (inW (bdW A)) := by
  refine Met.ofW (cc := cX7_vital) (maxL := 6) (ret := (some .int)) (by decide) rfl ?_
  intro p e s m args below meth c s₁ B hml hv
  obtain ⟨rfl, hI, hK, hN, hA⟩ := hv
  have hx := B.exec
  have hb := B.bytes
  have hr := B.returns
  have hts := atoms_spec (ws := wsX7_vital) B.pre
  have hown : s.vm.findClass RX7 = some m.cls := findClass_of_methodNamed B.named
  have hlocks := B.notSynchronized
  have hS : va_S (inW (bdW A)) s.heap s.heap [] := va_S.rf
  obtain ⟨mm, pp, fd, tx, rgd, rmd, wy, cvr, re, at0, fa, hsh, hP, hm, hpp, hsl, htx, hfd⟩ := hI
  have hD : va_D (inW (bdW A)) [(A 0, .inr (7, [.ref (A 1), .ref (A 2), .int (nI hs.length), .ref (A 3), .int (FZ fk), .ref (A 4), .int (nI tL), .ref (A 5), .ref (A 6), .int re, .int at0, .int fa, .ref (A 7), .ref (A 8), .long hsh])), (A 1, .inl (cI, 43, .inl mm)), (A 2, .inl (cI, 430, .inl pp)), (A 3, .inl (cI, 20, .inl fd)), (A 4, .inl (cI, 120, .inl tx)), (A 5, .inl (cI, 20, .inl rgd)), (A 6, .inl (cI, 20, .inl rmd)), (A 7, .inl (cI, 20, .inl wy)), (A 8, .inl (cI, 20, .inl cvr))] := da_D hA rfl
  have hl := lv_entry ([.ref (A 0), .int (nI a), .int (nI b)]) (n := 6) (Nat.le_of_ble_eq_true rfl)
  rw [lg_entry_eq]
  generalize (lg_sl ([.ref (A 0), .int (nI a), .int (nI b)]) ++ List.replicate (6 - (lg_sl ([.ref (A 0), .int (nI a), .int (nI b)])).length) Slot.unset).toArray = ls at hl ⊢
  have hl : lv_has ls 6 [(0, .ref (A 0)), (1, .int (nI a)), (2, .int (nI b))] := hl
  obtain ⟨hokP, hokH, hL, hcc, hfk⟩ := id hok
  have hn : n ≤ 20 := hokP.2.1
  have hn2 : 2 ≤ n := hokP.1
  have hmh : MH n M := hokP.2.2.2.2.2
  obtain ⟨-, -, hm0, hm1, hm2, hG, hM⟩ := id hm
  refine lv_aload_n hx hb dX7_vital_0 rfl (lv_at hl 0 rfl) ?_
  refine lv_iload_n hx hb dX7_vital_1 rfl (lv_at hl 1 rfl) ?_
  refine rd_calli hP hS (va_runV (As := [.int (nI a)]) (rest := []) ⟨hx, hb, hml, hown, hts⟩ (c_X7_isStation l D cI cB cO (A 0) (A 1) [.ref (A 2), .int (nI hs.length), .ref (A 3), .int (FZ fk), .ref (A 4), .int (nI tL), .ref (A 5), .ref (A 6), .int re, .int at0, .int fa, .ref (A 7), .ref (A 8), .long hsh] n mm rg bl G M (nI a) hm) (cwV 1 hts gX7_vital_X7_isStation rfl rfl rfl (by decide +kernel) ⟨Nat.le_of_ble_eq_true rfl, Nat.le_of_ble_eq_true rfl⟩) (rd_preV (r := (RX7, TX7, 15)) (ci := 7) hK (hP.pick [0, 1] rfl) hN (q0 := 0) rfl rfl) rfl rfl hl.1 rfl (lv_room (Nat.le_of_ble_eq_true rfl)) dX7_vital_2 ⟨Nat.le_refl _, Nat.le_refl _⟩) (fun r_2 H locs h_2 hP hS => ?_)
  refine lv_if_eq (tgt := 16) hx hb dX7_vital_5 (by decide) (fun c_5 => ?_) (fun c_5 => ?_)
  · skip
    have d1 := bI_e0 (h_2.symm.trans c_5)
    exact absurd d1 (by rw [hasB_in ha hn]; decide)
  · skip
    refine lv_aload_n hx hb dX7_vital_8 rfl (lv_at hl 0 rfl) ?_
    refine lv_iload_n hx hb dX7_vital_9 rfl (lv_at hl 2 rfl) ?_
    refine rd_calli hP hS (va_runV (As := [.int (nI b)]) (rest := []) ⟨hx, hb, hml, hown, hts⟩ (c_X7_isStation l D cI cB cO (A 0) (A 1) [.ref (A 2), .int (nI hs.length), .ref (A 3), .int (FZ fk), .ref (A 4), .int (nI tL), .ref (A 5), .ref (A 6), .int re, .int at0, .int fa, .ref (A 7), .ref (A 8), .long hsh] n mm rg bl G M (nI b) hm) (cwV 1 hts gX7_vital_X7_isStation rfl rfl rfl (by decide +kernel) ⟨Nat.le_of_ble_eq_true rfl, Nat.le_of_ble_eq_true rfl⟩) (rd_preV (r := (RX7, TX7, 15)) (ci := 7) hK (hP.pick [0, 1] rfl) hN (q0 := 0) rfl rfl) rfl rfl hl.1 rfl (lv_room (Nat.le_of_ble_eq_true rfl)) dX7_vital_10 ⟨Nat.le_refl _, Nat.le_refl _⟩) (fun r_10 H locs h_10 hP hS => ?_)
    refine lv_if_ne (tgt := 19) hx hb dX7_vital_13 (by decide) (fun c_13 => ?_) (fun c_13 => ?_)
    · skip
      refine lv_aload_n hx hb dX7_vital_19 rfl (lv_at hl 0 rfl) ?_
      refine lv_iload_n hx hb dX7_vital_20 rfl (lv_at hl 1 rfl) ?_
      refine lv_iload_n hx hb dX7_vital_21 rfl (lv_at hl 2 rfl) ?_
      refine wv_calli (wc := [(A 0, .inr (7, [.ref (A 1), .ref (A 2), .int (nI hs.length), .ref (A 3), .int (FZ fk), .ref (A 4), .int (nI tL), .ref (A 5), .ref (A 6), .int re, .int at0, .int fa, .ref (A 7), .ref (A 8), .long hsh])), (A 1, .inl (cI, 43, .inl mm)), (A 7, .inl (cI, 20, .inl wy))]) hP hD hS [0, 1, 7] rfl rfl (va_runV (As := [.int (nI a), .int (nI b)]) (rest := []) ⟨hx, hb, hml, hown, hts⟩ (c_X7_isChained l D cI cB cO (A 0) (A 1) (A 2) (A 3) (A 4) (A 5) (A 6) (A 7) (A 8) mm pp fd tx rgd rmd wy cvr (nI hs.length) (FZ fk) (nI tL) re at0 fa hsh n rg bl G M a b hm hmh ha hb0) (cwV 2 hts gX7_vital_X7_isChained rfl rfl rfl (by decide +kernel) ⟨Nat.le_of_ble_eq_true rfl, Nat.le_of_ble_eq_true rfl⟩) (wr_preV (wc := [(A 0, .inr (7, [.ref (A 1), .ref (A 2), .int (nI hs.length), .ref (A 3), .int (FZ fk), .ref (A 4), .int (nI tL), .ref (A 5), .ref (A 6), .int re, .int at0, .int fa, .ref (A 7), .ref (A 8), .long hsh])), (A 1, .inl (cI, 43, .inl mm)), (A 7, .inl (cI, 20, .inl wy))]) (r := (RX7, TX7, 15)) (ci := 7) hK (hP.pick [0, 1, 7] rfl) hN (wr_dsub hD [0, 1, 7] rfl rfl) (q0 := 0) rfl rfl) rfl rfl hl.1 rfl (lv_room (Nat.le_of_ble_eq_true rfl)) dX7_vital_22 ⟨Nat.le_refl _, Nat.le_refl _⟩) (fun uw => [(A 0, .inr (7, [.ref (A 1), .ref (A 2), .int (nI hs.length), .ref (A 3), .int (FZ fk), .ref (A 4), .int (nI tL), .ref (A 5), .ref (A 6), .int re, .int at0, .int fa, .ref (A 7), .ref (A 8), .long hsh])), (A 1, .inl (cI, 43, .inl mm)), (A 2, .inl (cI, 430, .inl pp)), (A 3, .inl (cI, 20, .inl fd)), (A 4, .inl (cI, 120, .inl tx)), (A 5, .inl (cI, 20, .inl rgd)), (A 6, .inl (cI, 20, .inl rmd)), (A 7, .inl (cI, 20, .inl uw)), (A 8, .inl (cI, 20, .inl cvr))]) (fun _ => rfl) (fun _ => rfl) (fun r_22 uw H locs h_22 hP hD hS => ?_)
      have hP : va_P D vwCl [(A 0, .inr (7, [.ref (A 1), .ref (A 2), .int (nI hs.length), .ref (A 3), .int (FZ fk), .ref (A 4), .int (nI tL), .ref (A 5), .ref (A 6), .int re, .int at0, .int fa, .ref (A 7), .ref (A 8), .long hsh])), (A 1, .inl (cI, 43, .inl mm)), (A 2, .inl (cI, 430, .inl pp)), (A 3, .inl (cI, 20, .inl fd)), (A 4, .inl (cI, 120, .inl tx)), (A 5, .inl (cI, 20, .inl rgd)), (A 6, .inl (cI, 20, .inl rmd)), (A 7, .inl (cI, 20, .inl uw)), (A 8, .inl (cI, 20, .inl cvr))] _ := hP
      have hD : va_D (inW (bdW A)) [(A 0, .inr (7, [.ref (A 1), .ref (A 2), .int (nI hs.length), .ref (A 3), .int (FZ fk), .ref (A 4), .int (nI tL), .ref (A 5), .ref (A 6), .int re, .int at0, .int fa, .ref (A 7), .ref (A 8), .long hsh])), (A 1, .inl (cI, 43, .inl mm)), (A 2, .inl (cI, 430, .inl pp)), (A 3, .inl (cI, 20, .inl fd)), (A 4, .inl (cI, 120, .inl tx)), (A 5, .inl (cI, 20, .inl rgd)), (A 6, .inl (cI, 20, .inl rmd)), (A 7, .inl (cI, 20, .inl uw)), (A 8, .inl (cI, 20, .inl cvr))] := hD
      refine lv_if_ne (tgt := 31) hx hb dX7_vital_25 (by decide) (fun c_25 => ?_) (fun c_25 => ?_)
      · skip
        exact absurd (h_22.trans (congrArg bI hd)) c_25
      · skip
        refine lv_bipush (v := (-3)) hx hb dX7_vital_28 (by decide) ?_
        have hI := mri_mk (D := D) (cI := cI) (cB := cB) (cO := cO) (A := A) n rg bl G M hs tL tc fk fc mm pp fd tx rgd rmd uw cvr re at0 fa hsh hP hm hpp hsl htx hfd
        refine W.iret (v := -3) hx hb hr ?_ hS.2.2 dX7_vital_30
        intro tS htS hWS
        refine ⟨⟨(-3), (), rfl, ?_, ?_⟩, ?_⟩
        · exact rfl
        · exact retM htS hI
        · exact hS.F htS
    · skip
      have d2 := bI_e0 (h_10.symm.trans c_13)
      exact absurd d2 (by rw [hasB_in hb0 hn]; decide)
theorem kX7_vital_ok_0 : ∀ w ∈ wsX70, w ∈ wsX7_vital := by decide +kernel
theorem kX7_vital_ok_1 : (.fieldLink RX7 7 "SightRidgeModel" "m" "[I" : Cond) ∈ wsX7_vital := by decide +kernel
set_option maxHeartbeats 4000000 in
set_option maxRecDepth 100000 in
theorem c_X7_vital_ok (l : Launch) (D : va_G) (cI cB cO : ClassId) (A : Nat → Nat) (n : Nat) (rg : Int32) (bl : Int32) (G : Nat → Int32) (M : Nat → Int32) (hs : List Prf) (tL : Nat) (tc : Nat → Nat) (fk : Nat) (fc : Nat → Nat) (a b : Nat) (hok : okS n rg bl G M hs tL tc fk fc) (ha : a < n) (hb0 : b < n) (hd : joB (lkB G rg bl (hT G M 0)) (reB M 0) n a b = true) : Met l yX7_vital wsX7_vital (rmD 8) (mrPc D cI cB cO A [.ref (A 0), .int (nI a), .int (nI b)] n rg bl G M hs tL tc fk fc) (mrQi A (fun (r : Int32) (u : Unit) => r = nI (vS n rg bl G M a b)) (fun (u : Unit) H => MRI D cI cB cO A H n rg bl G M hs tL tc (fb_ct (fun z => (vS n rg bl G M a b).testBit z) 20 + 1) (nthB (fun z => (vS n rg bl G M a b).testBit z) 20))) 0 0 (inW (bdW A)) := by
  refine Met.ofW (cc := cX7_vital) (maxL := 6) (ret := (some .int)) (by decide) rfl ?_
  intro p e s m args below meth c s₁ B hml hv
  obtain ⟨rfl, hI, hK, hN, hA⟩ := hv
  have hx := B.exec
  have hb := B.bytes
  have hr := B.returns
  have hts := atoms_spec (ws := wsX7_vital) B.pre
  have hown : s.vm.findClass RX7 = some m.cls := findClass_of_methodNamed B.named
  have hlocks := B.notSynchronized
  have hS : va_S (inW (bdW A)) s.heap s.heap [] := va_S.rf
  obtain ⟨mm, pp, fd, tx, rgd, rmd, wy, cvr, re, at0, fa, hsh, hP, hm, hpp, hsl, htx, hfd⟩ := hI
  have hD : va_D (inW (bdW A)) [(A 0, .inr (7, [.ref (A 1), .ref (A 2), .int (nI hs.length), .ref (A 3), .int (FZ fk), .ref (A 4), .int (nI tL), .ref (A 5), .ref (A 6), .int re, .int at0, .int fa, .ref (A 7), .ref (A 8), .long hsh])), (A 1, .inl (cI, 43, .inl mm)), (A 2, .inl (cI, 430, .inl pp)), (A 3, .inl (cI, 20, .inl fd)), (A 4, .inl (cI, 120, .inl tx)), (A 5, .inl (cI, 20, .inl rgd)), (A 6, .inl (cI, 20, .inl rmd)), (A 7, .inl (cI, 20, .inl wy)), (A 8, .inl (cI, 20, .inl cvr))] := da_D hA rfl
  have hl := lv_entry ([.ref (A 0), .int (nI a), .int (nI b)]) (n := 6) (Nat.le_of_ble_eq_true rfl)
  rw [lg_entry_eq]
  generalize (lg_sl ([.ref (A 0), .int (nI a), .int (nI b)]) ++ List.replicate (6 - (lg_sl ([.ref (A 0), .int (nI a), .int (nI b)])).length) Slot.unset).toArray = ls at hl ⊢
  have hl : lv_has ls 6 [(0, .ref (A 0)), (1, .int (nI a)), (2, .int (nI b))] := hl
  obtain ⟨hokP, hokH, hL, hcc, hfk⟩ := id hok
  have hn : n ≤ 20 := hokP.2.1
  have hn2 : 2 ≤ n := hokP.1
  have hmh : MH n M := hokP.2.2.2.2.2
  obtain ⟨-, -, hm0, hm1, hm2, hG, hM⟩ := id hm
  refine lv_aload_n hx hb dX7_vital_0 rfl (lv_at hl 0 rfl) ?_
  refine lv_iload_n hx hb dX7_vital_1 rfl (lv_at hl 1 rfl) ?_
  refine rd_calli hP hS (va_runV (As := [.int (nI a)]) (rest := []) ⟨hx, hb, hml, hown, hts⟩ (c_X7_isStation l D cI cB cO (A 0) (A 1) [.ref (A 2), .int (nI hs.length), .ref (A 3), .int (FZ fk), .ref (A 4), .int (nI tL), .ref (A 5), .ref (A 6), .int re, .int at0, .int fa, .ref (A 7), .ref (A 8), .long hsh] n mm rg bl G M (nI a) hm) (cwV 1 hts gX7_vital_X7_isStation rfl rfl rfl (by decide +kernel) ⟨Nat.le_of_ble_eq_true rfl, Nat.le_of_ble_eq_true rfl⟩) (rd_preV (r := (RX7, TX7, 15)) (ci := 7) hK (hP.pick [0, 1] rfl) hN (q0 := 0) rfl rfl) rfl rfl hl.1 rfl (lv_room (Nat.le_of_ble_eq_true rfl)) dX7_vital_2 ⟨Nat.le_refl _, Nat.le_refl _⟩) (fun r_2 H locs h_2 hP hS => ?_)
  refine lv_if_eq (tgt := 16) hx hb dX7_vital_5 (by decide) (fun c_5 => ?_) (fun c_5 => ?_)
  · skip
    have d1 := bI_e0 (h_2.symm.trans c_5)
    exact absurd d1 (by rw [hasB_in ha hn]; decide)
  · skip
    refine lv_aload_n hx hb dX7_vital_8 rfl (lv_at hl 0 rfl) ?_
    refine lv_iload_n hx hb dX7_vital_9 rfl (lv_at hl 2 rfl) ?_
    refine rd_calli hP hS (va_runV (As := [.int (nI b)]) (rest := []) ⟨hx, hb, hml, hown, hts⟩ (c_X7_isStation l D cI cB cO (A 0) (A 1) [.ref (A 2), .int (nI hs.length), .ref (A 3), .int (FZ fk), .ref (A 4), .int (nI tL), .ref (A 5), .ref (A 6), .int re, .int at0, .int fa, .ref (A 7), .ref (A 8), .long hsh] n mm rg bl G M (nI b) hm) (cwV 1 hts gX7_vital_X7_isStation rfl rfl rfl (by decide +kernel) ⟨Nat.le_of_ble_eq_true rfl, Nat.le_of_ble_eq_true rfl⟩) (rd_preV (r := (RX7, TX7, 15)) (ci := 7) hK (hP.pick [0, 1] rfl) hN (q0 := 0) rfl rfl) rfl rfl hl.1 rfl (lv_room (Nat.le_of_ble_eq_true rfl)) dX7_vital_10 ⟨Nat.le_refl _, Nat.le_refl _⟩) (fun r_10 H locs h_10 hP hS => ?_)
    refine lv_if_ne (tgt := 19) hx hb dX7_vital_13 (by decide) (fun c_13 => ?_) (fun c_13 => ?_)
    · skip
      refine lv_aload_n hx hb dX7_vital_19 rfl (lv_at hl 0 rfl) ?_
      refine lv_iload_n hx hb dX7_vital_20 rfl (lv_at hl 1 rfl) ?_
      refine lv_iload_n hx hb dX7_vital_21 rfl (lv_at hl 2 rfl) ?_
      refine wv_calli (wc := [(A 0, .inr (7, [.ref (A 1), .ref (A 2), .int (nI hs.length), .ref (A 3), .int (FZ fk), .ref (A 4), .int (nI tL), .ref (A 5), .ref (A 6), .int re, .int at0, .int fa, .ref (A 7), .ref (A 8), .long hsh])), (A 1, .inl (cI, 43, .inl mm)), (A 7, .inl (cI, 20, .inl wy))]) hP hD hS [0, 1, 7] rfl rfl (va_runV (As := [.int (nI a), .int (nI b)]) (rest := []) ⟨hx, hb, hml, hown, hts⟩ (c_X7_isChained l D cI cB cO (A 0) (A 1) (A 2) (A 3) (A 4) (A 5) (A 6) (A 7) (A 8) mm pp fd tx rgd rmd wy cvr (nI hs.length) (FZ fk) (nI tL) re at0 fa hsh n rg bl G M a b hm hmh ha hb0) (cwV 2 hts gX7_vital_X7_isChained rfl rfl rfl (by decide +kernel) ⟨Nat.le_of_ble_eq_true rfl, Nat.le_of_ble_eq_true rfl⟩) (wr_preV (wc := [(A 0, .inr (7, [.ref (A 1), .ref (A 2), .int (nI hs.length), .ref (A 3), .int (FZ fk), .ref (A 4), .int (nI tL), .ref (A 5), .ref (A 6), .int re, .int at0, .int fa, .ref (A 7), .ref (A 8), .long hsh])), (A 1, .inl (cI, 43, .inl mm)), (A 7, .inl (cI, 20, .inl wy))]) (r := (RX7, TX7, 15)) (ci := 7) hK (hP.pick [0, 1, 7] rfl) hN (wr_dsub hD [0, 1, 7] rfl rfl) (q0 := 0) rfl rfl) rfl rfl hl.1 rfl (lv_room (Nat.le_of_ble_eq_true rfl)) dX7_vital_22 ⟨Nat.le_refl _, Nat.le_refl _⟩) (fun uw => [(A 0, .inr (7, [.ref (A 1), .ref (A 2), .int (nI hs.length), .ref (A 3), .int (FZ fk), .ref (A 4), .int (nI tL), .ref (A 5), .ref (A 6), .int re, .int at0, .int fa, .ref (A 7), .ref (A 8), .long hsh])), (A 1, .inl (cI, 43, .inl mm)), (A 2, .inl (cI, 430, .inl pp)), (A 3, .inl (cI, 20, .inl fd)), (A 4, .inl (cI, 120, .inl tx)), (A 5, .inl (cI, 20, .inl rgd)), (A 6, .inl (cI, 20, .inl rmd)), (A 7, .inl (cI, 20, .inl uw)), (A 8, .inl (cI, 20, .inl cvr))]) (fun _ => rfl) (fun _ => rfl) (fun r_22 uw H locs h_22 hP hD hS => ?_)
      have hP : va_P D vwCl [(A 0, .inr (7, [.ref (A 1), .ref (A 2), .int (nI hs.length), .ref (A 3), .int (FZ fk), .ref (A 4), .int (nI tL), .ref (A 5), .ref (A 6), .int re, .int at0, .int fa, .ref (A 7), .ref (A 8), .long hsh])), (A 1, .inl (cI, 43, .inl mm)), (A 2, .inl (cI, 430, .inl pp)), (A 3, .inl (cI, 20, .inl fd)), (A 4, .inl (cI, 120, .inl tx)), (A 5, .inl (cI, 20, .inl rgd)), (A 6, .inl (cI, 20, .inl rmd)), (A 7, .inl (cI, 20, .inl uw)), (A 8, .inl (cI, 20, .inl cvr))] _ := hP
      have hD : va_D (inW (bdW A)) [(A 0, .inr (7, [.ref (A 1), .ref (A 2), .int (nI hs.length), .ref (A 3), .int (FZ fk), .ref (A 4), .int (nI tL), .ref (A 5), .ref (A 6), .int re, .int at0, .int fa, .ref (A 7), .ref (A 8), .long hsh])), (A 1, .inl (cI, 43, .inl mm)), (A 2, .inl (cI, 430, .inl pp)), (A 3, .inl (cI, 20, .inl fd)), (A 4, .inl (cI, 120, .inl tx)), (A 5, .inl (cI, 20, .inl rgd)), (A 6, .inl (cI, 20, .inl rmd)), (A 7, .inl (cI, 20, .inl uw)), (A 8, .inl (cI, 20, .inl cvr))] := hD
      refine lv_if_ne (tgt := 31) hx hb dX7_vital_25 (by decide) (fun c_25 => ?_) (fun c_25 => ?_)
      · skip
        refine lv_iconst (v := 0) hx hb dX7_vital_31 (by decide) ?_
        refine lv_istore_n (lv' := [(3, .int 0), (0, .ref (A 0)), (1, .int (nI a)), (2, .int (nI b))]) hx hb dX7_vital_32 rfl hl (by decide) rfl (fun ls hl => ?_)
        refine lv_iconst (v := 0) hx hb dX7_vital_33 (by decide) ?_
        refine lv_istore (lv' := [(4, .int 0), (3, .int 0), (0, .ref (A 0)), (1, .int (nI a)), (2, .int (nI b))]) hx hb dX7_vital_34 hl (by decide) rfl (fun ls hl => ?_)
        have L_36 : ∀ (k_36 : Nat) (i : Nat) (v : Int32) (uv : Nat → Int32), n - i < k_36 → (i ≤ n) → (v = nI (bs (viB (lkB G rg bl (hT G M 0)) (reB M 0) n a b) i)) → ∀ (H : Heap) (locs : List Loc), va_P D vwCl [(A 0, .inr (7, [.ref (A 1), .ref (A 2), .int (nI hs.length), .ref (A 3), .int (FZ fk), .ref (A 4), .int (nI tL), .ref (A 5), .ref (A 6), .int re, .int at0, .int fa, .ref (A 7), .ref (A 8), .long hsh])), (A 1, .inl (cI, 43, .inl mm)), (A 2, .inl (cI, 430, .inl pp)), (A 3, .inl (cI, 20, .inl fd)), (A 4, .inl (cI, 120, .inl tx)), (A 5, .inl (cI, 20, .inl rgd)), (A 6, .inl (cI, 20, .inl rmd)), (A 7, .inl (cI, 20, .inl uv)), (A 8, .inl (cI, 20, .inl cvr))] H → va_D (inW (bdW A)) [(A 0, .inr (7, [.ref (A 1), .ref (A 2), .int (nI hs.length), .ref (A 3), .int (FZ fk), .ref (A 4), .int (nI tL), .ref (A 5), .ref (A 6), .int re, .int at0, .int fa, .ref (A 7), .ref (A 8), .long hsh])), (A 1, .inl (cI, 43, .inl mm)), (A 2, .inl (cI, 430, .inl pp)), (A 3, .inl (cI, 20, .inl fd)), (A 4, .inl (cI, 120, .inl tx)), (A 5, .inl (cI, 20, .inl rgd)), (A 6, .inl (cI, 20, .inl rmd)), (A 7, .inl (cI, 20, .inl uv)), (A 8, .inl (cI, 20, .inl cvr))] → va_S (inW (bdW A)) s.heap H locs → ∀ (ls : Array Slot), lv_has ls 6 [(0, .ref (A 0)), (1, .int (nI a)), (2, .int (nI b)), (3, .int v), (4, .int (nI i))] → W p l e (rmD 8) s m ([.ref (A 0), .int (nI a), .int (nI b)] : List Value).toArray below meth c H locs 0 0 (MQ below (mrQi A (fun (r : Int32) (u : Unit) => r = nI (vS n rg bl G M a b)) (fun (u : Unit) H => MRI D cI cB cO A H n rg bl G M hs tL tc (fb_ct (fun z => (vS n rg bl G M a b).testBit z) 20 + 1) (nthB (fun z => (vS n rg bl G M a b).testBit z) 20))) ([.ref (A 0), .int (nI a), .int (nI b)] : List Value).toArray s 0 0 (inW (bdW A))) (F0 m 36 ls []) := by
          intro k_36
          induction k_36 with
          | zero => intro i v uv h9; exact absurd h9 (Nat.not_lt_zero _)
          | succ k_36 ih_36 =>
            intro i v uv hm_36 hi hv H locs hP hD hS ls hl
            refine lv_iload hx hb dX7_vital_36 (lv_at hl 4 rfl) ?_
            refine lv_aload_n hx hb dX7_vital_38 rfl (lv_at hl 0 rfl) ?_
            refine va_get (D := D) (ci := 7) (v := .ref (A 1)) (C := RX7) (T := TX7) (N := 15) hx hb hts kX7_vital_ok_0 hown hK hP 0 rfl rfl 0 (by decide) (hts (.fieldLink RX7 7 "SightRidgeModel" "m" "[I") kX7_vital_ok_1) (fun _ h9 => h9) rfl dX7_vital_39 ?_
            refine lv_iconst (v := 0) hx hb dX7_vital_42 (by decide) ?_
            refine va_iald hx hb hK hP 1 0 rfl rfl (i := nI 0) (vp_in_nI (N := 43) (by decide) (by decide)) dX7_vital_43 ?_
            rw [nI_clamp (n := 0) (by decide)]
            refine lv_topi (fun y_1 e_2 => ?_)
            have e_2 : nI n = y_1 := (e_2.trans (hm0)).symm
            subst e_2
            refine lv_icmp_ge (tgt := 125) hx hb dX7_vital_44 (by decide) (fun c_44 => ?_) (fun c_44 => ?_)
            · skip
              have c0 : n ≤ i := ge_t (by omega) c_44
              have ei : i = n := by omega
              have hv9 : v = nI (vS n rg bl G M a b) := by rw [ei] at hv; exact hv
              refine lv_aload_n hx hb dX7_vital_125 rfl (lv_at hl 0 rfl) ?_
              refine lv_iload_n hx hb dX7_vital_126 rfl (lv_at hl 3 rfl) ?_
              refine lv_topi (fun y_3 e_4 => ?_)
              have e_4 : nI (vS n rg bl G M a b) = y_3 := (e_4.trans (hv9)).symm
              subst e_4
              refine wv_callv (wc := [(A 0, .inr (7, [.ref (A 1), .ref (A 2), .int (nI hs.length), .ref (A 3), .int (FZ fk), .ref (A 4), .int (nI tL), .ref (A 5), .ref (A 6), .int re, .int at0, .int fa, .ref (A 7), .ref (A 8), .long hsh])), (A 1, .inl (cI, 43, .inl mm)), (A 3, .inl (cI, 20, .inl fd))]) hP hD hS [0, 1, 3] rfl rfl (va_runV (As := [.int (nI (vS n rg bl G M a b))]) (rest := []) ⟨hx, hb, hml, hown, hts⟩ (c_X7_findsSet l D cI cB cO (A 0) (A 1) (A 2) (A 3) (A 4) (A 5) (A 6) (A 7) (A 8) mm pp fd tx rgd rmd uv cvr (nI hs.length) (FZ fk) (nI tL) re at0 fa hsh n rg bl G M (vS n rg bl G M a b) hm (bs_lt _ n)) (cwV 1 hts gX7_vital_X7_findsSet rfl rfl rfl (by decide +kernel) ⟨Nat.le_of_ble_eq_true rfl, Nat.le_of_ble_eq_true rfl⟩) (wr_preV (wc := [(A 0, .inr (7, [.ref (A 1), .ref (A 2), .int (nI hs.length), .ref (A 3), .int (FZ fk), .ref (A 4), .int (nI tL), .ref (A 5), .ref (A 6), .int re, .int at0, .int fa, .ref (A 7), .ref (A 8), .long hsh])), (A 1, .inl (cI, 43, .inl mm)), (A 3, .inl (cI, 20, .inl fd))]) (r := (RX7, TX7, 15)) (ci := 7) hK (hP.pick [0, 1, 3] rfl) hN (wr_dsub hD [0, 1, 3] rfl rfl) (q0 := 0) rfl rfl) rfl rfl hl.1 rfl (lv_room (Nat.le_of_ble_eq_true rfl)) dX7_vital_127 ⟨Nat.le_refl _, Nat.le_refl _⟩) (fun uk => [(A 0, .inr (7, [.ref (A 1), .ref (A 2), .int (nI hs.length), .ref (A 3), .int (nI (fb_ct (fun z => (vS n rg bl G M a b).testBit z) 20)), .ref (A 4), .int (nI tL), .ref (A 5), .ref (A 6), .int re, .int at0, .int fa, .ref (A 7), .ref (A 8), .long hsh])), (A 1, .inl (cI, 43, .inl mm)), (A 2, .inl (cI, 430, .inl pp)), (A 3, .inl (cI, 20, .inl uk)), (A 4, .inl (cI, 120, .inl tx)), (A 5, .inl (cI, 20, .inl rgd)), (A 6, .inl (cI, 20, .inl rmd)), (A 7, .inl (cI, 20, .inl uv)), (A 8, .inl (cI, 20, .inl cvr))]) (fun _ => rfl) (fun _ => rfl) (fun uk H locs huk hP hD hS => ?_)
              have e9 : ([(A 0, .inr (7, [.ref (A 1), .ref (A 2), .int (nI hs.length), .ref (A 3), .int (nI (fb_ct (fun z => (vS n rg bl G M a b).testBit z) 20)), .ref (A 4), .int (nI tL), .ref (A 5), .ref (A 6), .int re, .int at0, .int fa, .ref (A 7), .ref (A 8), .long hsh])), (A 1, .inl (cI, 43, .inl mm)), (A 2, .inl (cI, 430, .inl pp)), (A 3, .inl (cI, 20, .inl uk)), (A 4, .inl (cI, 120, .inl tx)), (A 5, .inl (cI, 20, .inl rgd)), (A 6, .inl (cI, 20, .inl rmd)), (A 7, .inl (cI, 20, .inl uv)), (A 8, .inl (cI, 20, .inl cvr))] : va_W) = [(A 0, .inr (7, [.ref (A 1), .ref (A 2), .int (nI hs.length), .ref (A 3), .int (FZ (fb_ct (fun z => (vS n rg bl G M a b).testBit z) 20 + 1)), .ref (A 4), .int (nI tL), .ref (A 5), .ref (A 6), .int re, .int at0, .int fa, .ref (A 7), .ref (A 8), .long hsh])), (A 1, .inl (cI, 43, .inl mm)), (A 2, .inl (cI, 430, .inl pp)), (A 3, .inl (cI, 20, .inl uk)), (A 4, .inl (cI, 120, .inl tx)), (A 5, .inl (cI, 20, .inl rgd)), (A 6, .inl (cI, 20, .inl rmd)), (A 7, .inl (cI, 20, .inl uv)), (A 8, .inl (cI, 20, .inl cvr))] := congrArg (fun f9 : Int32 => ([(A 0, .inr (7, [.ref (A 1), .ref (A 2), .int (nI hs.length), .ref (A 3), .int f9, .ref (A 4), .int (nI tL), .ref (A 5), .ref (A 6), .int re, .int at0, .int fa, .ref (A 7), .ref (A 8), .long hsh])), (A 1, .inl (cI, 43, .inl mm)), (A 2, .inl (cI, 430, .inl pp)), (A 3, .inl (cI, 20, .inl uk)), (A 4, .inl (cI, 120, .inl tx)), (A 5, .inl (cI, 20, .inl rgd)), (A 6, .inl (cI, 20, .inl rmd)), (A 7, .inl (cI, 20, .inl uv)), (A 8, .inl (cI, 20, .inl cvr))] : va_W)) (show nI (fb_ct (fun z => (vS n rg bl G M a b).testBit z) 20) = FZ (fb_ct (fun z => (vS n rg bl G M a b).testBit z) 20 + 1) from (FZ_s _).symm)
              have hP := va_P_eq e9 hP
              have hD := va_D_eq e9 hD
              have hP : va_P D vwCl [(A 0, .inr (7, [.ref (A 1), .ref (A 2), .int (nI hs.length), .ref (A 3), .int (FZ (fb_ct (fun z => (vS n rg bl G M a b).testBit z) 20 + 1)), .ref (A 4), .int (nI tL), .ref (A 5), .ref (A 6), .int re, .int at0, .int fa, .ref (A 7), .ref (A 8), .long hsh])), (A 1, .inl (cI, 43, .inl mm)), (A 2, .inl (cI, 430, .inl pp)), (A 3, .inl (cI, 20, .inl uk)), (A 4, .inl (cI, 120, .inl tx)), (A 5, .inl (cI, 20, .inl rgd)), (A 6, .inl (cI, 20, .inl rmd)), (A 7, .inl (cI, 20, .inl uv)), (A 8, .inl (cI, 20, .inl cvr))] _ := hP
              have hD : va_D (inW (bdW A)) [(A 0, .inr (7, [.ref (A 1), .ref (A 2), .int (nI hs.length), .ref (A 3), .int (FZ (fb_ct (fun z => (vS n rg bl G M a b).testBit z) 20 + 1)), .ref (A 4), .int (nI tL), .ref (A 5), .ref (A 6), .int re, .int at0, .int fa, .ref (A 7), .ref (A 8), .long hsh])), (A 1, .inl (cI, 43, .inl mm)), (A 2, .inl (cI, 430, .inl pp)), (A 3, .inl (cI, 20, .inl uk)), (A 4, .inl (cI, 120, .inl tx)), (A 5, .inl (cI, 20, .inl rgd)), (A 6, .inl (cI, 20, .inl rmd)), (A 7, .inl (cI, 20, .inl uv)), (A 8, .inl (cI, 20, .inl cvr))] := hD
              refine lv_iload_n hx hb dX7_vital_130 rfl (lv_at hl 3 rfl) ?_
              have hI := mri_mk (D := D) (cI := cI) (cB := cB) (cO := cO) (A := A) n rg bl G M hs tL tc (fb_ct (fun z => (vS n rg bl G M a b).testBit z) 20 + 1) (nthB (fun z => (vS n rg bl G M a b).testBit z) 20) mm pp uk tx rgd rmd uv cvr re at0 fa hsh hP hm hpp hsl htx (fun j hj => huk j (Nat.lt_of_succ_lt_succ hj))
              refine W.iret (v := v) hx hb hr ?_ hS.2.2 dX7_vital_131
              intro tS htS hWS
              refine ⟨⟨v, (), rfl, ?_, ?_⟩, ?_⟩
              · exact hv9
              · exact retM htS hI
              · exact hS.F htS
            · skip
              have c0 : i < n := ge_f (by omega) c_44
              refine lv_aload_n hx hb dX7_vital_47 rfl (lv_at hl 0 rfl) ?_
              refine va_get (D := D) (ci := 7) (v := .ref (A 1)) (C := RX7) (T := TX7) (N := 15) hx hb hts kX7_vital_ok_0 hown hK hP 0 rfl rfl 0 (by decide) (hts (.fieldLink RX7 7 "SightRidgeModel" "m" "[I") kX7_vital_ok_1) (fun _ h9 => h9) rfl dX7_vital_48 ?_
              refine lv_bipush (v := 23) hx hb dX7_vital_51 (by decide) ?_
              refine lv_iload hx hb dX7_vital_53 (lv_at hl 4 rfl) ?_
              refine lv_iadd hx hb dX7_vital_55 ?_
              refine lv_topi (fun y_5 e_6 => ?_)
              have e_6 : nI (23 + i) = y_5 := (e_6.trans (nI_add 23 i)).symm
              subst e_6
              refine va_iald hx hb hK hP 1 0 rfl rfl (i := nI (23 + i)) (vp_in_nI (N := 43) (by omega) (by decide)) dX7_vital_56 ?_
              rw [nI_clamp (n := 23 + i) (by omega)]
              refine lv_topi (fun y_7 e_8 => ?_)
              have e_8 : M i = y_7 := (e_8.trans (hM i c0)).symm
              subst e_8
              refine lv_istore (lv' := [(5, .int (M i)), (0, .ref (A 0)), (1, .int (nI a)), (2, .int (nI b)), (3, .int v), (4, .int (nI i))]) hx hb dX7_vital_57 hl (by decide) rfl (fun ls hl => ?_)
              refine lv_iload hx hb dX7_vital_59 (lv_at hl 5 rfl) ?_
              refine lv_iload_n hx hb dX7_vital_61 rfl (lv_at hl 2 rfl) ?_
              refine lv_icmp_eq (tgt := 119) hx hb dX7_vital_62 (by decide) (fun c_62 => ?_) (fun c_62 => ?_)
              · skip
                have c1 : i = a := (nI_eq (by omega) (by omega)).mp c_62
                have c9 : (viB (lkB G rg bl (hT G M 0)) (reB M 0) n a b) i = false := vi_F (fun z => z.1 c1)
                refine lv_iinc (v := nI (i + 1)) (lv' := [(4, .int (nI (i + 1))), (5, .int (M i)), (0, .ref (A 0)), (1, .int (nI a)), (2, .int (nI b)), (3, .int v)]) hx hb dX7_vital_119 hl (k := 5) rfl (inc1 _) (by decide) rfl (fun ls hl => ?_)
                refine lv_goto (tgt := 36) hx hb dX7_vital_122 (by decide) ?_
                exact ih_36 (i + 1) v uv (by omega) (by omega) (by subst hv; first | exact bs_orT (by omega) c9 | exact (or0 _).trans (bs_orF c9) | exact bs_orF c9 | fail) _ _ hP hD hS ls (lv_sub hl [2, 3, 4, 5, 0] rfl)
              · skip
                have c1 : ¬ i = a := fun z => c_62 (by rw [z])
                refine lv_iload hx hb dX7_vital_65 (lv_at hl 5 rfl) ?_
                refine lv_iload_n hx hb dX7_vital_67 rfl (lv_at hl 3 rfl) ?_
                refine lv_icmp_eq (tgt := 119) hx hb dX7_vital_68 (by decide) (fun c_68 => ?_) (fun c_68 => ?_)
                · skip
                  have c2 : i = b := (nI_eq (by omega) (by omega)).mp c_68
                  have c9 : (viB (lkB G rg bl (hT G M 0)) (reB M 0) n a b) i = false := vi_F (fun z => z.2.1 c2)
                  refine lv_iinc (v := nI (i + 1)) (lv' := [(4, .int (nI (i + 1))), (5, .int (M i)), (0, .ref (A 0)), (1, .int (nI a)), (2, .int (nI b)), (3, .int v)]) hx hb dX7_vital_119 hl (k := 5) rfl (inc1 _) (by decide) rfl (fun ls hl => ?_)
                  refine lv_goto (tgt := 36) hx hb dX7_vital_122 (by decide) ?_
                  exact ih_36 (i + 1) v uv (by omega) (by omega) (by subst hv; first | exact bs_orT (by omega) c9 | exact (or0 _).trans (bs_orF c9) | exact bs_orF c9 | fail) _ _ hP hD hS ls (lv_sub hl [2, 3, 4, 5, 0] rfl)
                · skip
                  have c2 : ¬ i = b := fun z => c_68 (by rw [z])
                  refine lv_iload hx hb dX7_vital_71 (lv_at hl 0 rfl) ?_
                  refine lv_if_le (tgt := 119) hx hb dX7_vital_73 (by decide) (fun c_73 => ?_) (fun c_73 => ?_)
                  · skip
                    have c3 : M i = 0 := MH_no hmh c0 c_73
                    have c9 : (viB (lkB G rg bl (hT G M 0)) (reB M 0) n a b) i = false := vi_F (fun z => by have := of_decide_eq_true z.2.2; exact this.elim (fun q => q c3) (by decide))
                    refine lv_iinc (v := nI (i + 1)) (lv' := [(4, .int (nI (i + 1))), (5, .int (M i)), (0, .ref (A 0)), (1, .int (nI a)), (2, .int (nI b)), (3, .int v)]) hx hb dX7_vital_119 hl (k := 5) rfl (inc1 _) (by decide) rfl (fun ls hl => ?_)
                    refine lv_goto (tgt := 36) hx hb dX7_vital_122 (by decide) ?_
                    exact ih_36 (i + 1) v uv (by omega) (by omega) (by subst hv; first | exact bs_orT (by omega) c9 | exact (or0 _).trans (bs_orF c9) | exact bs_orF c9 | fail) _ _ hP hD hS ls (lv_sub hl [2, 3, 4, 5, 0] rfl)
                  · skip
                    have c3 : reB M 0 i = true := decide_eq_true (Or.inl (MH_yes c_73))
                    refine lv_aload_n hx hb dX7_vital_76 rfl (lv_at hl 1 rfl) ?_
                    refine va_get (D := D) (ci := 7) (v := .ref (A 1)) (C := RX7) (T := TX7) (N := 15) hx hb hts kX7_vital_ok_0 hown hK hP 0 rfl rfl 0 (by decide) (hts (.fieldLink RX7 7 "SightRidgeModel" "m" "[I") kX7_vital_ok_1) (fun _ h9 => h9) rfl dX7_vital_77 ?_
                    refine lv_bipush (v := 23) hx hb dX7_vital_80 (by decide) ?_
                    refine lv_iload hx hb dX7_vital_82 (lv_at hl 5 rfl) ?_
                    refine lv_iadd hx hb dX7_vital_84 ?_
                    refine lv_topi (fun y_9 e_10 => ?_)
                    have e_10 : nI (23 + i) = y_9 := (e_10.trans (nI_add 23 i)).symm
                    subst e_10
                    refine lv_iconst (v := 0) hx hb dX7_vital_85 (by decide) ?_
                    refine va_iast hx hb hK hP hD hS 1 0 rfl rfl (i := nI (23 + i)) (vp_in_nI (N := 43) (by omega) (by decide)) dX7_vital_86 (fun H locs hP hD hS => ?_)
                    rw [nI_clamp (n := 23 + i) (by omega)] at hP hD
                    have hP : va_P D vwCl [(A 0, .inr (7, [.ref (A 1), .ref (A 2), .int (nI hs.length), .ref (A 3), .int (FZ fk), .ref (A 4), .int (nI tL), .ref (A 5), .ref (A 6), .int re, .int at0, .int fa, .ref (A 7), .ref (A 8), .long hsh])), (A 1, .inl (cI, 43, .inl (upd mm (23 + i) 0))), (A 2, .inl (cI, 430, .inl pp)), (A 3, .inl (cI, 20, .inl fd)), (A 4, .inl (cI, 120, .inl tx)), (A 5, .inl (cI, 20, .inl rgd)), (A 6, .inl (cI, 20, .inl rmd)), (A 7, .inl (cI, 20, .inl uv)), (A 8, .inl (cI, 20, .inl cvr))] _ := hP
                    have hD : va_D (inW (bdW A)) [(A 0, .inr (7, [.ref (A 1), .ref (A 2), .int (nI hs.length), .ref (A 3), .int (FZ fk), .ref (A 4), .int (nI tL), .ref (A 5), .ref (A 6), .int re, .int at0, .int fa, .ref (A 7), .ref (A 8), .long hsh])), (A 1, .inl (cI, 43, .inl (upd mm (23 + i) 0))), (A 2, .inl (cI, 430, .inl pp)), (A 3, .inl (cI, 20, .inl fd)), (A 4, .inl (cI, 120, .inl tx)), (A 5, .inl (cI, 20, .inl rgd)), (A 6, .inl (cI, 20, .inl rmd)), (A 7, .inl (cI, 20, .inl uv)), (A 8, .inl (cI, 20, .inl cvr))] := hD
                    refine lv_iload_n hx hb dX7_vital_87 rfl (lv_at hl 4 rfl) ?_
                    refine lv_aload_n hx hb dX7_vital_88 rfl (lv_at hl 1 rfl) ?_
                    refine lv_iload_n hx hb dX7_vital_89 rfl (lv_at hl 2 rfl) ?_
                    refine lv_iload_n hx hb dX7_vital_90 rfl (lv_at hl 3 rfl) ?_
                    refine wv_calli (wc := [(A 0, .inr (7, [.ref (A 1), .ref (A 2), .int (nI hs.length), .ref (A 3), .int (FZ fk), .ref (A 4), .int (nI tL), .ref (A 5), .ref (A 6), .int re, .int at0, .int fa, .ref (A 7), .ref (A 8), .long hsh])), (A 1, .inl (cI, 43, .inl (upd mm (23 + i) 0))), (A 7, .inl (cI, 20, .inl uv))]) hP hD hS [0, 1, 7] rfl rfl (va_runV (As := [.int (nI a), .int (nI b)]) (rest := [.int v]) ⟨hx, hb, hml, hown, hts⟩ (c_X7_isChained l D cI cB cO (A 0) (A 1) (A 2) (A 3) (A 4) (A 5) (A 6) (A 7) (A 8) (upd mm (23 + i) 0) pp fd tx rgd rmd uv cvr (nI hs.length) (FZ fk) (nI tL) re at0 fa hsh n rg bl G (upd M i 0) a b (mok_mask hm c0) (mh_mask hmh) ha hb0) (cwV 2 hts gX7_vital_X7_isChained rfl rfl rfl (by decide +kernel) ⟨Nat.le_of_ble_eq_true rfl, Nat.le_of_ble_eq_true rfl⟩) (wr_preV (wc := [(A 0, .inr (7, [.ref (A 1), .ref (A 2), .int (nI hs.length), .ref (A 3), .int (FZ fk), .ref (A 4), .int (nI tL), .ref (A 5), .ref (A 6), .int re, .int at0, .int fa, .ref (A 7), .ref (A 8), .long hsh])), (A 1, .inl (cI, 43, .inl (upd mm (23 + i) 0))), (A 7, .inl (cI, 20, .inl uv))]) (r := (RX7, TX7, 15)) (ci := 7) hK (hP.pick [0, 1, 7] rfl) hN (wr_dsub hD [0, 1, 7] rfl rfl) (q0 := 0) rfl rfl) rfl rfl hl.1 rfl (lv_room (Nat.le_of_ble_eq_true rfl)) dX7_vital_91 ⟨Nat.le_refl _, Nat.le_refl _⟩) (fun ux => [(A 0, .inr (7, [.ref (A 1), .ref (A 2), .int (nI hs.length), .ref (A 3), .int (FZ fk), .ref (A 4), .int (nI tL), .ref (A 5), .ref (A 6), .int re, .int at0, .int fa, .ref (A 7), .ref (A 8), .long hsh])), (A 1, .inl (cI, 43, .inl (upd mm (23 + i) 0))), (A 2, .inl (cI, 430, .inl pp)), (A 3, .inl (cI, 20, .inl fd)), (A 4, .inl (cI, 120, .inl tx)), (A 5, .inl (cI, 20, .inl rgd)), (A 6, .inl (cI, 20, .inl rmd)), (A 7, .inl (cI, 20, .inl ux)), (A 8, .inl (cI, 20, .inl cvr))]) (fun _ => rfl) (fun _ => rfl) (fun r_91 ux H locs h_91 hP hD hS => ?_)
                    have hP : va_P D vwCl [(A 0, .inr (7, [.ref (A 1), .ref (A 2), .int (nI hs.length), .ref (A 3), .int (FZ fk), .ref (A 4), .int (nI tL), .ref (A 5), .ref (A 6), .int re, .int at0, .int fa, .ref (A 7), .ref (A 8), .long hsh])), (A 1, .inl (cI, 43, .inl (upd mm (23 + i) 0))), (A 2, .inl (cI, 430, .inl pp)), (A 3, .inl (cI, 20, .inl fd)), (A 4, .inl (cI, 120, .inl tx)), (A 5, .inl (cI, 20, .inl rgd)), (A 6, .inl (cI, 20, .inl rmd)), (A 7, .inl (cI, 20, .inl ux)), (A 8, .inl (cI, 20, .inl cvr))] _ := hP
                    have hD : va_D (inW (bdW A)) [(A 0, .inr (7, [.ref (A 1), .ref (A 2), .int (nI hs.length), .ref (A 3), .int (FZ fk), .ref (A 4), .int (nI tL), .ref (A 5), .ref (A 6), .int re, .int at0, .int fa, .ref (A 7), .ref (A 8), .long hsh])), (A 1, .inl (cI, 43, .inl (upd mm (23 + i) 0))), (A 2, .inl (cI, 430, .inl pp)), (A 3, .inl (cI, 20, .inl fd)), (A 4, .inl (cI, 120, .inl tx)), (A 5, .inl (cI, 20, .inl rgd)), (A 6, .inl (cI, 20, .inl rmd)), (A 7, .inl (cI, 20, .inl ux)), (A 8, .inl (cI, 20, .inl cvr))] := hD
                    rw [viM (fun q => c1 q.symm) (fun q => c2 q.symm)] at h_91
                    refine lv_if_eq (tgt := 101) hx hb dX7_vital_94 (by decide) (fun c_94 => ?_) (fun c_94 => ?_)
                    · skip
                      have c4 := bI_e0 (h_91.symm.trans c_94)
                      have c9 : (viB (lkB G rg bl (hT G M 0)) (reB M 0) n a b) i = true := vi_T c1 c2 c3 c4
                      refine lv_iconst (v := 1) hx hb dX7_vital_101 (by decide) ?_
                      refine lv_iload hx hb dX7_vital_102 (lv_at hl 5 rfl) ?_
                      refine lv_ishl hx hb dX7_vital_104 ?_
                      refine lv_ior hx hb dX7_vital_105 ?_
                      refine lv_istore_n (lv' := [(3, .int (v ||| (1 <<< ((nI i) &&& 31)))), (5, .int (M i)), (0, .ref (A 0)), (1, .int (nI a)), (2, .int (nI b)), (4, .int (nI i))]) hx hb dX7_vital_106 rfl hl (by decide) rfl (fun ls hl => ?_)
                      refine lv_aload_n hx hb dX7_vital_107 rfl (lv_at hl 2 rfl) ?_
                      refine va_get (D := D) (ci := 7) (v := .ref (A 1)) (C := RX7) (T := TX7) (N := 15) hx hb hts kX7_vital_ok_0 hown hK hP 0 rfl rfl 0 (by decide) (hts (.fieldLink RX7 7 "SightRidgeModel" "m" "[I") kX7_vital_ok_1) (fun _ h9 => h9) rfl dX7_vital_108 ?_
                      refine lv_bipush (v := 23) hx hb dX7_vital_111 (by decide) ?_
                      refine lv_iload hx hb dX7_vital_113 (lv_at hl 5 rfl) ?_
                      refine lv_iadd hx hb dX7_vital_115 ?_
                      refine lv_topi (fun y_11 e_12 => ?_)
                      have e_12 : nI (23 + i) = y_11 := (e_12.trans (nI_add 23 i)).symm
                      subst e_12
                      refine lv_iload hx hb dX7_vital_116 (lv_at hl 1 rfl) ?_
                      refine va_iast hx hb hK hP hD hS 1 0 rfl rfl (i := nI (23 + i)) (vp_in_nI (N := 43) (by omega) (by decide)) dX7_vital_118 (fun H locs hP hD hS => ?_)
                      rw [nI_clamp (n := 23 + i) (by omega)] at hP hD
                      have hP : va_P D vwCl [(A 0, .inr (7, [.ref (A 1), .ref (A 2), .int (nI hs.length), .ref (A 3), .int (FZ fk), .ref (A 4), .int (nI tL), .ref (A 5), .ref (A 6), .int re, .int at0, .int fa, .ref (A 7), .ref (A 8), .long hsh])), (A 1, .inl (cI, 43, .inl (upd (upd mm (23 + i) 0) (23 + i) (M i)))), (A 2, .inl (cI, 430, .inl pp)), (A 3, .inl (cI, 20, .inl fd)), (A 4, .inl (cI, 120, .inl tx)), (A 5, .inl (cI, 20, .inl rgd)), (A 6, .inl (cI, 20, .inl rmd)), (A 7, .inl (cI, 20, .inl ux)), (A 8, .inl (cI, 20, .inl cvr))] _ := hP
                      have hD : va_D (inW (bdW A)) [(A 0, .inr (7, [.ref (A 1), .ref (A 2), .int (nI hs.length), .ref (A 3), .int (FZ fk), .ref (A 4), .int (nI tL), .ref (A 5), .ref (A 6), .int re, .int at0, .int fa, .ref (A 7), .ref (A 8), .long hsh])), (A 1, .inl (cI, 43, .inl (upd (upd mm (23 + i) 0) (23 + i) (M i)))), (A 2, .inl (cI, 430, .inl pp)), (A 3, .inl (cI, 20, .inl fd)), (A 4, .inl (cI, 120, .inl tx)), (A 5, .inl (cI, 20, .inl rgd)), (A 6, .inl (cI, 20, .inl rmd)), (A 7, .inl (cI, 20, .inl ux)), (A 8, .inl (cI, 20, .inl cvr))] := hD
                      have e9 : ([(A 0, .inr (7, [.ref (A 1), .ref (A 2), .int (nI hs.length), .ref (A 3), .int (FZ fk), .ref (A 4), .int (nI tL), .ref (A 5), .ref (A 6), .int re, .int at0, .int fa, .ref (A 7), .ref (A 8), .long hsh])), (A 1, .inl (cI, 43, .inl (upd (upd mm (23 + i) 0) (23 + i) (M i)))), (A 2, .inl (cI, 430, .inl pp)), (A 3, .inl (cI, 20, .inl fd)), (A 4, .inl (cI, 120, .inl tx)), (A 5, .inl (cI, 20, .inl rgd)), (A 6, .inl (cI, 20, .inl rmd)), (A 7, .inl (cI, 20, .inl ux)), (A 8, .inl (cI, 20, .inl cvr))] : va_W) = [(A 0, .inr (7, [.ref (A 1), .ref (A 2), .int (nI hs.length), .ref (A 3), .int (FZ fk), .ref (A 4), .int (nI tL), .ref (A 5), .ref (A 6), .int re, .int at0, .int fa, .ref (A 7), .ref (A 8), .long hsh])), (A 1, .inl (cI, 43, .inl mm)), (A 2, .inl (cI, 430, .inl pp)), (A 3, .inl (cI, 20, .inl fd)), (A 4, .inl (cI, 120, .inl tx)), (A 5, .inl (cI, 20, .inl rgd)), (A 6, .inl (cI, 20, .inl rmd)), (A 7, .inl (cI, 20, .inl ux)), (A 8, .inl (cI, 20, .inl cvr))] := congrArg (fun f9 : Nat → Int32 => ([(A 0, .inr (7, [.ref (A 1), .ref (A 2), .int (nI hs.length), .ref (A 3), .int (FZ fk), .ref (A 4), .int (nI tL), .ref (A 5), .ref (A 6), .int re, .int at0, .int fa, .ref (A 7), .ref (A 8), .long hsh])), (A 1, .inl (cI, 43, .inl f9)), (A 2, .inl (cI, 430, .inl pp)), (A 3, .inl (cI, 20, .inl fd)), (A 4, .inl (cI, 120, .inl tx)), (A 5, .inl (cI, 20, .inl rgd)), (A 6, .inl (cI, 20, .inl rmd)), (A 7, .inl (cI, 20, .inl ux)), (A 8, .inl (cI, 20, .inl cvr))] : va_W)) (show upd (upd mm (23 + i) 0) (23 + i) (M i) = mm from upd_back (hM i c0))
                      have hP := va_P_eq e9 hP
                      have hD := va_D_eq e9 hD
                      refine lv_iinc (v := nI (i + 1)) (lv' := [(4, .int (nI (i + 1))), (3, .int (v ||| (1 <<< ((nI i) &&& 31)))), (5, .int (M i)), (0, .ref (A 0)), (1, .int (nI a)), (2, .int (nI b))]) hx hb dX7_vital_119 hl (k := 5) rfl (inc1 _) (by decide) rfl (fun ls hl => ?_)
                      refine lv_goto (tgt := 36) hx hb dX7_vital_122 (by decide) ?_
                      exact ih_36 (i + 1) (v ||| (1 <<< ((nI i) &&& 31))) ux (by omega) (by omega) (by subst hv; first | exact bs_orT (by omega) c9 | exact (or0 _).trans (bs_orF c9) | exact bs_orF c9 | fail) _ _ hP hD hS ls (lv_sub hl [3, 4, 5, 1, 0] rfl)
                    · skip
                      have c4 := bI_n0 (fun q => c_94 (h_91.trans q))
                      have c9 : (viB (lkB G rg bl (hT G M 0)) (reB M 0) n a b) i = false := vi_J c4
                      refine lv_iconst (v := 0) hx hb dX7_vital_97 (by decide) ?_
                      refine lv_goto (tgt := 105) hx hb dX7_vital_98 (by decide) ?_
                      refine lv_ior hx hb dX7_vital_105 ?_
                      refine lv_istore_n (lv' := [(3, .int (v ||| 0)), (5, .int (M i)), (0, .ref (A 0)), (1, .int (nI a)), (2, .int (nI b)), (4, .int (nI i))]) hx hb dX7_vital_106 rfl hl (by decide) rfl (fun ls hl => ?_)
                      refine lv_aload_n hx hb dX7_vital_107 rfl (lv_at hl 2 rfl) ?_
                      refine va_get (D := D) (ci := 7) (v := .ref (A 1)) (C := RX7) (T := TX7) (N := 15) hx hb hts kX7_vital_ok_0 hown hK hP 0 rfl rfl 0 (by decide) (hts (.fieldLink RX7 7 "SightRidgeModel" "m" "[I") kX7_vital_ok_1) (fun _ h9 => h9) rfl dX7_vital_108 ?_
                      refine lv_bipush (v := 23) hx hb dX7_vital_111 (by decide) ?_
                      refine lv_iload hx hb dX7_vital_113 (lv_at hl 5 rfl) ?_
                      refine lv_iadd hx hb dX7_vital_115 ?_
                      refine lv_topi (fun y_13 e_14 => ?_)
                      have e_14 : nI (23 + i) = y_13 := (e_14.trans (nI_add 23 i)).symm
                      subst e_14
                      refine lv_iload hx hb dX7_vital_116 (lv_at hl 1 rfl) ?_
                      refine va_iast hx hb hK hP hD hS 1 0 rfl rfl (i := nI (23 + i)) (vp_in_nI (N := 43) (by omega) (by decide)) dX7_vital_118 (fun H locs hP hD hS => ?_)
                      rw [nI_clamp (n := 23 + i) (by omega)] at hP hD
                      have hP : va_P D vwCl [(A 0, .inr (7, [.ref (A 1), .ref (A 2), .int (nI hs.length), .ref (A 3), .int (FZ fk), .ref (A 4), .int (nI tL), .ref (A 5), .ref (A 6), .int re, .int at0, .int fa, .ref (A 7), .ref (A 8), .long hsh])), (A 1, .inl (cI, 43, .inl (upd (upd mm (23 + i) 0) (23 + i) (M i)))), (A 2, .inl (cI, 430, .inl pp)), (A 3, .inl (cI, 20, .inl fd)), (A 4, .inl (cI, 120, .inl tx)), (A 5, .inl (cI, 20, .inl rgd)), (A 6, .inl (cI, 20, .inl rmd)), (A 7, .inl (cI, 20, .inl ux)), (A 8, .inl (cI, 20, .inl cvr))] _ := hP
                      have hD : va_D (inW (bdW A)) [(A 0, .inr (7, [.ref (A 1), .ref (A 2), .int (nI hs.length), .ref (A 3), .int (FZ fk), .ref (A 4), .int (nI tL), .ref (A 5), .ref (A 6), .int re, .int at0, .int fa, .ref (A 7), .ref (A 8), .long hsh])), (A 1, .inl (cI, 43, .inl (upd (upd mm (23 + i) 0) (23 + i) (M i)))), (A 2, .inl (cI, 430, .inl pp)), (A 3, .inl (cI, 20, .inl fd)), (A 4, .inl (cI, 120, .inl tx)), (A 5, .inl (cI, 20, .inl rgd)), (A 6, .inl (cI, 20, .inl rmd)), (A 7, .inl (cI, 20, .inl ux)), (A 8, .inl (cI, 20, .inl cvr))] := hD
                      have e9 : ([(A 0, .inr (7, [.ref (A 1), .ref (A 2), .int (nI hs.length), .ref (A 3), .int (FZ fk), .ref (A 4), .int (nI tL), .ref (A 5), .ref (A 6), .int re, .int at0, .int fa, .ref (A 7), .ref (A 8), .long hsh])), (A 1, .inl (cI, 43, .inl (upd (upd mm (23 + i) 0) (23 + i) (M i)))), (A 2, .inl (cI, 430, .inl pp)), (A 3, .inl (cI, 20, .inl fd)), (A 4, .inl (cI, 120, .inl tx)), (A 5, .inl (cI, 20, .inl rgd)), (A 6, .inl (cI, 20, .inl rmd)), (A 7, .inl (cI, 20, .inl ux)), (A 8, .inl (cI, 20, .inl cvr))] : va_W) = [(A 0, .inr (7, [.ref (A 1), .ref (A 2), .int (nI hs.length), .ref (A 3), .int (FZ fk), .ref (A 4), .int (nI tL), .ref (A 5), .ref (A 6), .int re, .int at0, .int fa, .ref (A 7), .ref (A 8), .long hsh])), (A 1, .inl (cI, 43, .inl mm)), (A 2, .inl (cI, 430, .inl pp)), (A 3, .inl (cI, 20, .inl fd)), (A 4, .inl (cI, 120, .inl tx)), (A 5, .inl (cI, 20, .inl rgd)), (A 6, .inl (cI, 20, .inl rmd)), (A 7, .inl (cI, 20, .inl ux)), (A 8, .inl (cI, 20, .inl cvr))] := congrArg (fun f9 : Nat → Int32 => ([(A 0, .inr (7, [.ref (A 1), .ref (A 2), .int (nI hs.length), .ref (A 3), .int (FZ fk), .ref (A 4), .int (nI tL), .ref (A 5), .ref (A 6), .int re, .int at0, .int fa, .ref (A 7), .ref (A 8), .long hsh])), (A 1, .inl (cI, 43, .inl f9)), (A 2, .inl (cI, 430, .inl pp)), (A 3, .inl (cI, 20, .inl fd)), (A 4, .inl (cI, 120, .inl tx)), (A 5, .inl (cI, 20, .inl rgd)), (A 6, .inl (cI, 20, .inl rmd)), (A 7, .inl (cI, 20, .inl ux)), (A 8, .inl (cI, 20, .inl cvr))] : va_W)) (show upd (upd mm (23 + i) 0) (23 + i) (M i) = mm from upd_back (hM i c0))
                      have hP := va_P_eq e9 hP
                      have hD := va_D_eq e9 hD
                      refine lv_iinc (v := nI (i + 1)) (lv' := [(4, .int (nI (i + 1))), (3, .int (v ||| 0)), (5, .int (M i)), (0, .ref (A 0)), (1, .int (nI a)), (2, .int (nI b))]) hx hb dX7_vital_119 hl (k := 5) rfl (inc1 _) (by decide) rfl (fun ls hl => ?_)
                      refine lv_goto (tgt := 36) hx hb dX7_vital_122 (by decide) ?_
                      exact ih_36 (i + 1) (v ||| 0) ux (by omega) (by omega) (by subst hv; first | exact bs_orT (by omega) c9 | exact (or0 _).trans (bs_orF c9) | exact bs_orF c9 | fail) _ _ hP hD hS ls (lv_sub hl [3, 4, 5, 1, 0] rfl)
        exact L_36 _ 0 0 uw (Nat.lt_succ_self _) (by omega) (rfl) _ _ hP hD hS ls (lv_sub hl [2, 3, 4, 1, 0] rfl)
      · skip
        exact absurd ((congrArg bI hd).symm.trans (h_22.symm.trans c_25)) (by decide)
    · skip
      have d2 := bI_e0 (h_10.symm.trans c_13)
      exact absurd d2 (by rw [hasB_in hb0 hn]; decide)
