/-! the law: what holds all along, and its calls -/
abbrev AL (s : State) : Nat → Prop := fun q => s.heap.size ≤ q
def LC (p : Program) (s : State) (m : MethodId) (meth : Method) (c : Code) (b L : Nat) (xs : Nat → Int32) (D : va_G) (cI cB cO : ClassId) (A B : Nat → Nat) : Prop :=
  p.tables.exec = Jvm.exec ∧ c.code = cL_law ∧ c.maxLocals = 4 ∧ s.vm.findClass RL = some m.cls ∧ (∀ w ∈ wsL_law, w.before #[Value.ref b] s = true) ∧ va_X b L xs s s.heap ∧ b < s.heap.size ∧ L ≤ 2048 ∧ va_K D vwCl (tyL cI cB cO) s ∧ NW s ∧ va_D (fun _ => True) (adW A) ∧ va_D (fun _ => True) (bdW B) ∧ (∀ q, inW (adW A) q → AL s q) ∧ (∀ q, inW (bdW B) q → AL s q) ∧ ∀ q, inW (adW A) q → inW (bdW B) q → False
theorem SRq.recv {D : va_G} {cI cB cO : ClassId} {A : Nat → Nat} {H : Heap} {S : StT} {s : State} {tys : List (ClassId × FieldType)} (hK : va_K D vwCl tys s) (h : SRq D cI cB cO A H S) : ∃ cell : Cell, H[A 0]? = some cell ∧ cell.vm.isStatics = false ∧ s.vm.findClass RX6 = some cell.cls := by
  obtain ⟨fg, fm, dn, dr, db, dg, dm, jx, pn, pr, pb, pg, pm, ta, tf, lt, ff, rs, rr, rt, rl, rp, rc, cv, cb, hP, hf⟩ := h
  exact va_recv (q := (RX6, TX6, 7)) (ci := 6) (q0 := 0) hK hP rfl rfl
theorem MRq.recv {D : va_G} {cI cB cO : ClassId} {A : Nat → Nat} {H : Heap} {S : StT} {s : State} {tys : List (ClassId × FieldType)} (hK : va_K D vwCl tys s) (h : MRq D cI cB cO A H S) : ∃ cell : Cell, H[A 0]? = some cell ∧ cell.vm.isStatics = false ∧ s.vm.findClass RX7 = some cell.cls := by
  obtain ⟨mm, pp, fd, tx, rgd, rmd, wy, cvr, re, at0, fa, hsh, hP, hf⟩ := h
  exact va_recv (q := (RX7, TX7, 15)) (ci := 7) (q0 := 0) hK hP rfl rfl
theorem law_preX {D : va_G} {cI cB cO : ClassId} {A : Nat → Nat} {H : Heap} {S : StT} {s : State} {As : List Value} (hK : va_K D vwCl (tyL cI cB cO) s) (hI : SRq D cI cB cO A H S) (hN : NW s) (hA : va_D (fun _ => True) (adW A)) : PreV s H RX6 (A 0) (va_Pc (.ref (A 0) :: As) (fun U => SRq D cI cB cO A U.heap S ∧ va_K D vwCl (tyL cI cB cO) U ∧ NW U ∧ va_D (fun _ => True) (adW A))) As :=
  ⟨fun a U g mk q => by obtain ⟨q0, qI, qK, qN, qD⟩ := q; exact ⟨q0, qI, va_K.moved (u := U) (U := U.calling g mk a) (Vm.Alike.refl U.vm) qK, NW.same (u := U) (U := U.calling g mk a) rfl qN, qD⟩, hI.recv hK, fun U hU hW => ⟨rfl, by rw [hU]; exact hI, va_K.moved hW.alike hK, hN.warm hW, hA⟩⟩
theorem law_preM {D : va_G} {cI cB cO : ClassId} {A : Nat → Nat} {H : Heap} {S : StT} {s : State} {As : List Value} (hK : va_K D vwCl (tyL cI cB cO) s) (hI : MRq D cI cB cO A H S) (hN : NW s) (hA : va_D (fun _ => True) (bdW A)) : PreV s H RX7 (A 0) (va_Pc (.ref (A 0) :: As) (fun U => MRq D cI cB cO A U.heap S ∧ va_K D vwCl (tyL cI cB cO) U ∧ NW U ∧ va_D (fun _ => True) (bdW A))) As :=
  ⟨fun a U g mk q => by obtain ⟨q0, qI, qK, qN, qD⟩ := q; exact ⟨q0, qI, va_K.moved (u := U) (U := U.calling g mk a) (Vm.Alike.refl U.vm) qK, NW.same (u := U) (U := U.calling g mk a) rfl qN, qD⟩, hI.recv hK, fun U hU hW => ⟨rfl, by rw [hU]; exact hI, va_K.moved hW.alike hK, hN.warm hW, hA⟩⟩
section LAWC
variable {p : Program} {l : Launch} {e : Env} {R : Room} {s : State} {m : MethodId} {args : Array Value} {below : List Frame} {meth : Method} {c : Code} {H : Heap} {locs : List Loc} {cells slots : Nat} {Q : State → Prop}
  {st0 rest : List Value} {ls : Array Slot} {pc : Nat} {A0 A1 : Nat → Prop} {H0 : Heap}
theorem law_calli {v : Int32} {WO WK : Heap → Prop} {a : Array Value} (hS : va_S A0 H0 H locs) (hin : ∀ q, A1 q → A0 q) (hk : ∀ H1 : Heap, (∀ q : Nat, q < H.size → ¬ A1 q → H1[q]? = H[q]?) → WK H1)
    (hr : va_Run p l e R s m args below meth c H locs cells slots 0 0 (F0 m pc ls st0) rest (va_Qi (fun (z : Int32) (_ : Unit) => z = v) (fun _ t => WO t.heap) A1 a) A1)
    (kk : ∀ (H1 : Heap) (locs1 : List Loc), WO H1 → WK H1 → va_S A0 H0 H1 locs1 → W p l e R s m args below meth c H1 locs1 cells slots Q (F0 m (pc + 3) ls (.int v :: rest))) : W p l e R s m args below meth c H locs cells slots Q (F0 m pc ls st0) :=
  va_calli hr hS (fun q _ h => hin q h) (fun q h => hin q h) (fun r u t H1 locs1 ht _ hp hB _ hk1 hS1 => by
    subst hp
    exact kk H1 locs1 (by rw [← ht]; exact hB) (hk H1 hk1) hS1)
theorem law_calll {v : Int64} {WO WK : Heap → Prop} {a : Array Value} (hS : va_S A0 H0 H locs) (hin : ∀ q, A1 q → A0 q) (hk : ∀ H1 : Heap, (∀ q : Nat, q < H.size → ¬ A1 q → H1[q]? = H[q]?) → WK H1)
    (hr : va_Run p l e R s m args below meth c H locs cells slots 0 0 (F0 m pc ls st0) rest (va_Ql (fun (z : Int64) (_ : Unit) => z = v) (fun _ t => WO t.heap) A1 a) A1)
    (kk : ∀ (H1 : Heap) (locs1 : List Loc), WO H1 → WK H1 → va_S A0 H0 H1 locs1 → W p l e R s m args below meth c H1 locs1 cells slots Q (F0 m (pc + 3) ls (.long v :: rest))) : W p l e R s m args below meth c H locs cells slots Q (F0 m pc ls st0) :=
  va_calll hr hS (fun q _ h => hin q h) (fun q h => hin q h) (fun r u t H1 locs1 ht _ hp hB _ hk1 hS1 => by
    subst hp
    exact kk H1 locs1 (by rw [← ht]; exact hB) (hk H1 hk1) hS1)
end LAWC
theorem cmp_self (v : Int64) : lg_cmp v v = 0 := by simp [lg_cmp]
set_option maxHeartbeats 4000000 in
set_option maxRecDepth 100000 in
theorem law_reset {p : Program} {l : Launch} {e : Env} {s : State} {m : MethodId} {below : List Frame} {meth : Method} {c : Code} {b L : Nat} {xs : Nat → Int32} {D : va_G} {cI cB cO : ClassId} {A B : Nat → Nat} {Q : State → Prop} (C0 : LC p s m meth c b L xs D cI cB cO A B) {S : StT} (ok : okQ S) {H : Heap} {locs : List Loc} {i : Nat} (hi : i + 4 ≤ L) (hI : SRq D cI cB cO A H S) (hJ : MRq D cI cB cO B H S) (hS : va_S (AL s) s.heap H locs) {ls : Array Slot} (hl : lv_has ls 4 [(0, .ref b), (1, .ref (A 0)), (2, .ref (B 0)), (3, .int (nI i))])
    (kk : ∀ (S1 : StT) (H1 : Heap) (locs1 : List Loc), okQ S1 → SRq D cI cB cO A H1 S1 → MRq D cI cB cO B H1 S1 → va_S (AL s) s.heap H1 locs1 → W p l e room_1 s m #[Value.ref b] below meth c H1 locs1 60 1543 Q (F0 m 895 ls [])) : W p l e room_1 s m #[Value.ref b] below meth c H locs 60 1543 Q (F0 m 160 ls []) := by
  obtain ⟨hx, hb, hml, hown, hts, hXs, hbl, hL, hK, hN, hAd, hBd, hinA, hinB, hdis⟩ := C0
  have hbA : ¬ AL s b := Nat.not_le.mpr hbl
  obtain ⟨v, S1, ok1, ⟨d1, hd1, hX⟩, ⟨d2, hd2, hM⟩⟩ := pr_reset l D cI cB cO A B S ok (xs (i + 1)) (xs (i + 2))
  refine lv_aload_n hx hb dL_law_160 rfl (lv_at hl 1 rfl) ?_
  refine lv_aload_n hx hb dL_law_161 rfl (lv_at hl 0 rfl) ?_
  refine lv_iload_n hx hb dL_law_162 rfl (lv_at hl 3 rfl) ?_
  refine lv_iconst (v := 1) hx hb dL_law_163 (by decide) ?_
  refine lv_iadd hx hb dL_law_164 ?_
  refine lv_topi (fun y_161 e_161 => ?_)
  have e_161 : nI (i + 1) = y_161 := (e_161.trans (nI_add i 1)).symm
  subst e_161
  refine va_sld hx hb hXs hbl hbA hS (vp_in_nI (N := L) (n := i + 1) (by omega) (by omega)) dL_law_165 ?_
  rw [nI_clamp (n := i + 1) (by omega)]
  refine lv_aload_n hx hb dL_law_166 rfl (lv_at hl 0 rfl) ?_
  refine lv_iload_n hx hb dL_law_167 rfl (lv_at hl 3 rfl) ?_
  refine lv_iconst (v := 2) hx hb dL_law_168 (by decide) ?_
  refine lv_iadd hx hb dL_law_169 ?_
  refine lv_topi (fun y_166 e_166 => ?_)
  have e_166 : nI (i + 2) = y_166 := (e_166.trans (nI_add i 2)).symm
  subst e_166
  refine va_sld hx hb hXs hbl hbA hS (vp_in_nI (N := L) (n := i + 2) (by omega) (by omega)) dL_law_170 ?_
  rw [nI_clamp (n := i + 2) (by omega)]
  refine law_calli (WO := fun H => SRq D cI cB cO A H S1) (WK := fun H => MRq D cI cB cO B H S) hS hinA (fun H1 h1 => hJ.kept (fun q hq hz => h1 q hz (fun hw => hdis q hw hq))) (va_runV (As := [.int (xs (i + 1)), .int (xs (i + 2))]) (rest := []) ⟨hx, hb, hml, hown, hts⟩ hX (cwV 2 hts gL_law_X6_reset rfl rfl rfl (by decide +kernel) ⟨(show d1 + 1 ≤ 2048 by omega), (show 8 + (3 + 11) + 40 * d1 ≤ 84000 by omega)⟩) (law_preX hK hI hN hAd) rfl rfl hl.1 rfl (lv_room (Nat.le_of_ble_eq_true rfl)) dL_law_171 ⟨Nat.le_of_ble_eq_true rfl, Nat.le_of_ble_eq_true rfl⟩) (fun H1 locs1 hI1 hJ1 hS => ?_)
  refine lv_aload_n hx hb dL_law_174 rfl (lv_at hl 2 rfl) ?_
  refine lv_aload_n hx hb dL_law_175 rfl (lv_at hl 0 rfl) ?_
  refine lv_iload_n hx hb dL_law_176 rfl (lv_at hl 3 rfl) ?_
  refine lv_iconst (v := 1) hx hb dL_law_177 (by decide) ?_
  refine lv_iadd hx hb dL_law_178 ?_
  refine lv_topi (fun y_175 e_175 => ?_)
  have e_175 : nI (i + 1) = y_175 := (e_175.trans (nI_add i 1)).symm
  subst e_175
  refine va_sld hx hb hXs hbl hbA hS (vp_in_nI (N := L) (n := i + 1) (by omega) (by omega)) dL_law_179 ?_
  rw [nI_clamp (n := i + 1) (by omega)]
  refine lv_aload_n hx hb dL_law_180 rfl (lv_at hl 0 rfl) ?_
  refine lv_iload_n hx hb dL_law_181 rfl (lv_at hl 3 rfl) ?_
  refine lv_iconst (v := 2) hx hb dL_law_182 (by decide) ?_
  refine lv_iadd hx hb dL_law_183 ?_
  refine lv_topi (fun y_180 e_180 => ?_)
  have e_180 : nI (i + 2) = y_180 := (e_180.trans (nI_add i 2)).symm
  subst e_180
  refine va_sld hx hb hXs hbl hbA hS (vp_in_nI (N := L) (n := i + 2) (by omega) (by omega)) dL_law_184 ?_
  rw [nI_clamp (n := i + 2) (by omega)]
  refine law_calli (WO := fun H => MRq D cI cB cO B H S1) (WK := fun H => SRq D cI cB cO A H S1) hS hinB (fun H1 h1 => hI1.kept (fun q hq hz => h1 q hz (fun hw => hdis q hq hw))) (va_runV (As := [.int (xs (i + 1)), .int (xs (i + 2))]) (rest := [.int v]) ⟨hx, hb, hml, hown, hts⟩ hM (cwV 2 hts gL_law_X7_reset rfl rfl rfl (by decide +kernel) ⟨(show d2 + 1 ≤ 2048 by omega), (show 8 + (4 + 11) + 40 * d2 ≤ 84000 by omega)⟩) (law_preM hK hJ1 hN hBd) rfl rfl hl.1 rfl (lv_room (Nat.le_of_ble_eq_true rfl)) dL_law_185 ⟨Nat.le_of_ble_eq_true rfl, Nat.le_of_ble_eq_true rfl⟩) (fun H2 locs2 hJ2 hI2 hS => ?_)
  refine lv_icmp_eq (tgt := 895) hx hb dL_law_188 (by decide) (fun c_9 => ?_) (fun c_9 => ?_)
  · exact kk S1 H2 locs2 ok1 hI2 hJ2 hS
  · exact absurd rfl c_9
set_option maxHeartbeats 4000000 in
set_option maxRecDepth 100000 in
theorem law_setGround {p : Program} {l : Launch} {e : Env} {s : State} {m : MethodId} {below : List Frame} {meth : Method} {c : Code} {b L : Nat} {xs : Nat → Int32} {D : va_G} {cI cB cO : ClassId} {A B : Nat → Nat} {Q : State → Prop} (C0 : LC p s m meth c b L xs D cI cB cO A B) {S : StT} (ok : okQ S) {H : Heap} {locs : List Loc} {i : Nat} (hi : i + 4 ≤ L) (hI : SRq D cI cB cO A H S) (hJ : MRq D cI cB cO B H S) (hS : va_S (AL s) s.heap H locs) {ls : Array Slot} (hl : lv_has ls 4 [(0, .ref b), (1, .ref (A 0)), (2, .ref (B 0)), (3, .int (nI i))])
    (kk : ∀ (S1 : StT) (H1 : Heap) (locs1 : List Loc), okQ S1 → SRq D cI cB cO A H1 S1 → MRq D cI cB cO B H1 S1 → va_S (AL s) s.heap H1 locs1 → W p l e room_1 s m #[Value.ref b] below meth c H1 locs1 60 1543 Q (F0 m 895 ls [])) : W p l e room_1 s m #[Value.ref b] below meth c H locs 60 1543 Q (F0 m 193 ls []) := by
  obtain ⟨hx, hb, hml, hown, hts, hXs, hbl, hL, hK, hN, hAd, hBd, hinA, hinB, hdis⟩ := C0
  have hbA : ¬ AL s b := Nat.not_le.mpr hbl
  obtain ⟨v, S1, ok1, ⟨d1, hd1, hX⟩, ⟨d2, hd2, hM⟩⟩ := pr_setGround l D cI cB cO A B S ok (xs (i + 1)) (xs (i + 2))
  refine lv_aload_n hx hb dL_law_193 rfl (lv_at hl 1 rfl) ?_
  refine lv_aload_n hx hb dL_law_194 rfl (lv_at hl 0 rfl) ?_
  refine lv_iload_n hx hb dL_law_195 rfl (lv_at hl 3 rfl) ?_
  refine lv_iconst (v := 1) hx hb dL_law_196 (by decide) ?_
  refine lv_iadd hx hb dL_law_197 ?_
  refine lv_topi (fun y_194 e_194 => ?_)
  have e_194 : nI (i + 1) = y_194 := (e_194.trans (nI_add i 1)).symm
  subst e_194
  refine va_sld hx hb hXs hbl hbA hS (vp_in_nI (N := L) (n := i + 1) (by omega) (by omega)) dL_law_198 ?_
  rw [nI_clamp (n := i + 1) (by omega)]
  refine lv_aload_n hx hb dL_law_199 rfl (lv_at hl 0 rfl) ?_
  refine lv_iload_n hx hb dL_law_200 rfl (lv_at hl 3 rfl) ?_
  refine lv_iconst (v := 2) hx hb dL_law_201 (by decide) ?_
  refine lv_iadd hx hb dL_law_202 ?_
  refine lv_topi (fun y_199 e_199 => ?_)
  have e_199 : nI (i + 2) = y_199 := (e_199.trans (nI_add i 2)).symm
  subst e_199
  refine va_sld hx hb hXs hbl hbA hS (vp_in_nI (N := L) (n := i + 2) (by omega) (by omega)) dL_law_203 ?_
  rw [nI_clamp (n := i + 2) (by omega)]
  refine law_calli (WO := fun H => SRq D cI cB cO A H S1) (WK := fun H => MRq D cI cB cO B H S) hS hinA (fun H1 h1 => hJ.kept (fun q hq hz => h1 q hz (fun hw => hdis q hw hq))) (va_runV (As := [.int (xs (i + 1)), .int (xs (i + 2))]) (rest := []) ⟨hx, hb, hml, hown, hts⟩ hX (cwV 2 hts gL_law_X6_setGround rfl rfl rfl (by decide +kernel) ⟨(show d1 + 1 ≤ 2048 by omega), (show 8 + (4 + 11) + 40 * d1 ≤ 84000 by omega)⟩) (law_preX hK hI hN hAd) rfl rfl hl.1 rfl (lv_room (Nat.le_of_ble_eq_true rfl)) dL_law_204 ⟨Nat.le_of_ble_eq_true rfl, Nat.le_of_ble_eq_true rfl⟩) (fun H1 locs1 hI1 hJ1 hS => ?_)
  refine lv_aload_n hx hb dL_law_207 rfl (lv_at hl 2 rfl) ?_
  refine lv_aload_n hx hb dL_law_208 rfl (lv_at hl 0 rfl) ?_
  refine lv_iload_n hx hb dL_law_209 rfl (lv_at hl 3 rfl) ?_
  refine lv_iconst (v := 1) hx hb dL_law_210 (by decide) ?_
  refine lv_iadd hx hb dL_law_211 ?_
  refine lv_topi (fun y_208 e_208 => ?_)
  have e_208 : nI (i + 1) = y_208 := (e_208.trans (nI_add i 1)).symm
  subst e_208
  refine va_sld hx hb hXs hbl hbA hS (vp_in_nI (N := L) (n := i + 1) (by omega) (by omega)) dL_law_212 ?_
  rw [nI_clamp (n := i + 1) (by omega)]
  refine lv_aload_n hx hb dL_law_213 rfl (lv_at hl 0 rfl) ?_
  refine lv_iload_n hx hb dL_law_214 rfl (lv_at hl 3 rfl) ?_
  refine lv_iconst (v := 2) hx hb dL_law_215 (by decide) ?_
  refine lv_iadd hx hb dL_law_216 ?_
  refine lv_topi (fun y_213 e_213 => ?_)
  have e_213 : nI (i + 2) = y_213 := (e_213.trans (nI_add i 2)).symm
  subst e_213
  refine va_sld hx hb hXs hbl hbA hS (vp_in_nI (N := L) (n := i + 2) (by omega) (by omega)) dL_law_217 ?_
  rw [nI_clamp (n := i + 2) (by omega)]
  refine law_calli (WO := fun H => MRq D cI cB cO B H S1) (WK := fun H => SRq D cI cB cO A H S1) hS hinB (fun H1 h1 => hI1.kept (fun q hq hz => h1 q hz (fun hw => hdis q hq hw))) (va_runV (As := [.int (xs (i + 1)), .int (xs (i + 2))]) (rest := [.int v]) ⟨hx, hb, hml, hown, hts⟩ hM (cwV 2 hts gL_law_X7_setGround rfl rfl rfl (by decide +kernel) ⟨(show d2 + 1 ≤ 2048 by omega), (show 8 + (4 + 11) + 40 * d2 ≤ 84000 by omega)⟩) (law_preM hK hJ1 hN hBd) rfl rfl hl.1 rfl (lv_room (Nat.le_of_ble_eq_true rfl)) dL_law_218 ⟨Nat.le_of_ble_eq_true rfl, Nat.le_of_ble_eq_true rfl⟩) (fun H2 locs2 hJ2 hI2 hS => ?_)
  refine lv_icmp_eq (tgt := 895) hx hb dL_law_221 (by decide) (fun c_9 => ?_) (fun c_9 => ?_)
  · exact kk S1 H2 locs2 ok1 hI2 hJ2 hS
  · exact absurd rfl c_9
set_option maxHeartbeats 4000000 in
set_option maxRecDepth 100000 in
theorem law_slope {p : Program} {l : Launch} {e : Env} {s : State} {m : MethodId} {below : List Frame} {meth : Method} {c : Code} {b L : Nat} {xs : Nat → Int32} {D : va_G} {cI cB cO : ClassId} {A B : Nat → Nat} {Q : State → Prop} (C0 : LC p s m meth c b L xs D cI cB cO A B) {S : StT} (ok : okQ S) {H : Heap} {locs : List Loc} {i : Nat} (hi : i + 4 ≤ L) (hI : SRq D cI cB cO A H S) (hJ : MRq D cI cB cO B H S) (hS : va_S (AL s) s.heap H locs) {ls : Array Slot} (hl : lv_has ls 4 [(0, .ref b), (1, .ref (A 0)), (2, .ref (B 0)), (3, .int (nI i))])
    (kk : ∀ (S1 : StT) (H1 : Heap) (locs1 : List Loc), okQ S1 → SRq D cI cB cO A H1 S1 → MRq D cI cB cO B H1 S1 → va_S (AL s) s.heap H1 locs1 → W p l e room_1 s m #[Value.ref b] below meth c H1 locs1 60 1543 Q (F0 m 895 ls [])) : W p l e room_1 s m #[Value.ref b] below meth c H locs 60 1543 Q (F0 m 226 ls []) := by
  obtain ⟨hx, hb, hml, hown, hts, hXs, hbl, hL, hK, hN, hAd, hBd, hinA, hinB, hdis⟩ := C0
  have hbA : ¬ AL s b := Nat.not_le.mpr hbl
  obtain ⟨v, S1, ok1, ⟨d1, hd1, hX⟩, ⟨d2, hd2, hM⟩⟩ := pr_slope l D cI cB cO A B S ok (xs (i + 1)) (xs (i + 2))
  refine lv_aload_n hx hb dL_law_226 rfl (lv_at hl 1 rfl) ?_
  refine lv_aload_n hx hb dL_law_227 rfl (lv_at hl 0 rfl) ?_
  refine lv_iload_n hx hb dL_law_228 rfl (lv_at hl 3 rfl) ?_
  refine lv_iconst (v := 1) hx hb dL_law_229 (by decide) ?_
  refine lv_iadd hx hb dL_law_230 ?_
  refine lv_topi (fun y_227 e_227 => ?_)
  have e_227 : nI (i + 1) = y_227 := (e_227.trans (nI_add i 1)).symm
  subst e_227
  refine va_sld hx hb hXs hbl hbA hS (vp_in_nI (N := L) (n := i + 1) (by omega) (by omega)) dL_law_231 ?_
  rw [nI_clamp (n := i + 1) (by omega)]
  refine lv_aload_n hx hb dL_law_232 rfl (lv_at hl 0 rfl) ?_
  refine lv_iload_n hx hb dL_law_233 rfl (lv_at hl 3 rfl) ?_
  refine lv_iconst (v := 2) hx hb dL_law_234 (by decide) ?_
  refine lv_iadd hx hb dL_law_235 ?_
  refine lv_topi (fun y_232 e_232 => ?_)
  have e_232 : nI (i + 2) = y_232 := (e_232.trans (nI_add i 2)).symm
  subst e_232
  refine va_sld hx hb hXs hbl hbA hS (vp_in_nI (N := L) (n := i + 2) (by omega) (by omega)) dL_law_236 ?_
  rw [nI_clamp (n := i + 2) (by omega)]
  refine law_calli (WO := fun H => SRq D cI cB cO A H S1) (WK := fun H => MRq D cI cB cO B H S) hS hinA (fun H1 h1 => hJ.kept (fun q hq hz => h1 q hz (fun hw => hdis q hw hq))) (va_runV (As := [.int (xs (i + 1)), .int (xs (i + 2))]) (rest := []) ⟨hx, hb, hml, hown, hts⟩ hX (cwV 2 hts gL_law_X6_slope rfl rfl rfl (by decide +kernel) ⟨(show d1 + 1 ≤ 2048 by omega), (show 8 + (3 + 11) + 40 * d1 ≤ 84000 by omega)⟩) (law_preX hK hI hN hAd) rfl rfl hl.1 rfl (lv_room (Nat.le_of_ble_eq_true rfl)) dL_law_237 ⟨Nat.le_of_ble_eq_true rfl, Nat.le_of_ble_eq_true rfl⟩) (fun H1 locs1 hI1 hJ1 hS => ?_)
  refine lv_aload_n hx hb dL_law_240 rfl (lv_at hl 2 rfl) ?_
  refine lv_aload_n hx hb dL_law_241 rfl (lv_at hl 0 rfl) ?_
  refine lv_iload_n hx hb dL_law_242 rfl (lv_at hl 3 rfl) ?_
  refine lv_iconst (v := 1) hx hb dL_law_243 (by decide) ?_
  refine lv_iadd hx hb dL_law_244 ?_
  refine lv_topi (fun y_241 e_241 => ?_)
  have e_241 : nI (i + 1) = y_241 := (e_241.trans (nI_add i 1)).symm
  subst e_241
  refine va_sld hx hb hXs hbl hbA hS (vp_in_nI (N := L) (n := i + 1) (by omega) (by omega)) dL_law_245 ?_
  rw [nI_clamp (n := i + 1) (by omega)]
  refine lv_aload_n hx hb dL_law_246 rfl (lv_at hl 0 rfl) ?_
  refine lv_iload_n hx hb dL_law_247 rfl (lv_at hl 3 rfl) ?_
  refine lv_iconst (v := 2) hx hb dL_law_248 (by decide) ?_
  refine lv_iadd hx hb dL_law_249 ?_
  refine lv_topi (fun y_246 e_246 => ?_)
  have e_246 : nI (i + 2) = y_246 := (e_246.trans (nI_add i 2)).symm
  subst e_246
  refine va_sld hx hb hXs hbl hbA hS (vp_in_nI (N := L) (n := i + 2) (by omega) (by omega)) dL_law_250 ?_
  rw [nI_clamp (n := i + 2) (by omega)]
  refine law_calli (WO := fun H => MRq D cI cB cO B H S1) (WK := fun H => SRq D cI cB cO A H S1) hS hinB (fun H1 h1 => hI1.kept (fun q hq hz => h1 q hz (fun hw => hdis q hq hw))) (va_runV (As := [.int (xs (i + 1)), .int (xs (i + 2))]) (rest := [.int v]) ⟨hx, hb, hml, hown, hts⟩ hM (cwV 2 hts gL_law_X7_slope rfl rfl rfl (by decide +kernel) ⟨(show d2 + 1 ≤ 2048 by omega), (show 8 + (6 + 11) + 40 * d2 ≤ 84000 by omega)⟩) (law_preM hK hJ1 hN hBd) rfl rfl hl.1 rfl (lv_room (Nat.le_of_ble_eq_true rfl)) dL_law_251 ⟨Nat.le_of_ble_eq_true rfl, Nat.le_of_ble_eq_true rfl⟩) (fun H2 locs2 hJ2 hI2 hS => ?_)
  refine lv_icmp_eq (tgt := 895) hx hb dL_law_254 (by decide) (fun c_9 => ?_) (fun c_9 => ?_)
  · exact kk S1 H2 locs2 ok1 hI2 hJ2 hS
  · exact absurd rfl c_9
set_option maxHeartbeats 4000000 in
set_option maxRecDepth 100000 in
theorem law_mast {p : Program} {l : Launch} {e : Env} {s : State} {m : MethodId} {below : List Frame} {meth : Method} {c : Code} {b L : Nat} {xs : Nat → Int32} {D : va_G} {cI cB cO : ClassId} {A B : Nat → Nat} {Q : State → Prop} (C0 : LC p s m meth c b L xs D cI cB cO A B) {S : StT} (ok : okQ S) {H : Heap} {locs : List Loc} {i : Nat} (hi : i + 4 ≤ L) (hI : SRq D cI cB cO A H S) (hJ : MRq D cI cB cO B H S) (hS : va_S (AL s) s.heap H locs) {ls : Array Slot} (hl : lv_has ls 4 [(0, .ref b), (1, .ref (A 0)), (2, .ref (B 0)), (3, .int (nI i))])
    (kk : ∀ (S1 : StT) (H1 : Heap) (locs1 : List Loc), okQ S1 → SRq D cI cB cO A H1 S1 → MRq D cI cB cO B H1 S1 → va_S (AL s) s.heap H1 locs1 → W p l e room_1 s m #[Value.ref b] below meth c H1 locs1 60 1543 Q (F0 m 895 ls [])) : W p l e room_1 s m #[Value.ref b] below meth c H locs 60 1543 Q (F0 m 259 ls []) := by
  obtain ⟨hx, hb, hml, hown, hts, hXs, hbl, hL, hK, hN, hAd, hBd, hinA, hinB, hdis⟩ := C0
  have hbA : ¬ AL s b := Nat.not_le.mpr hbl
  obtain ⟨v, S1, ok1, ⟨d1, hd1, hX⟩, ⟨d2, hd2, hM⟩⟩ := pr_mast l D cI cB cO A B S ok (xs (i + 1)) (xs (i + 2))
  refine lv_aload_n hx hb dL_law_259 rfl (lv_at hl 1 rfl) ?_
  refine lv_aload_n hx hb dL_law_260 rfl (lv_at hl 0 rfl) ?_
  refine lv_iload_n hx hb dL_law_261 rfl (lv_at hl 3 rfl) ?_
  refine lv_iconst (v := 1) hx hb dL_law_262 (by decide) ?_
  refine lv_iadd hx hb dL_law_263 ?_
  refine lv_topi (fun y_260 e_260 => ?_)
  have e_260 : nI (i + 1) = y_260 := (e_260.trans (nI_add i 1)).symm
  subst e_260
  refine va_sld hx hb hXs hbl hbA hS (vp_in_nI (N := L) (n := i + 1) (by omega) (by omega)) dL_law_264 ?_
  rw [nI_clamp (n := i + 1) (by omega)]
  refine lv_aload_n hx hb dL_law_265 rfl (lv_at hl 0 rfl) ?_
  refine lv_iload_n hx hb dL_law_266 rfl (lv_at hl 3 rfl) ?_
  refine lv_iconst (v := 2) hx hb dL_law_267 (by decide) ?_
  refine lv_iadd hx hb dL_law_268 ?_
  refine lv_topi (fun y_265 e_265 => ?_)
  have e_265 : nI (i + 2) = y_265 := (e_265.trans (nI_add i 2)).symm
  subst e_265
  refine va_sld hx hb hXs hbl hbA hS (vp_in_nI (N := L) (n := i + 2) (by omega) (by omega)) dL_law_269 ?_
  rw [nI_clamp (n := i + 2) (by omega)]
  refine law_calli (WO := fun H => SRq D cI cB cO A H S1) (WK := fun H => MRq D cI cB cO B H S) hS hinA (fun H1 h1 => hJ.kept (fun q hq hz => h1 q hz (fun hw => hdis q hw hq))) (va_runV (As := [.int (xs (i + 1)), .int (xs (i + 2))]) (rest := []) ⟨hx, hb, hml, hown, hts⟩ hX (cwV 2 hts gL_law_X6_mast rfl rfl rfl (by decide +kernel) ⟨(show d1 + 1 ≤ 2048 by omega), (show 8 + (4 + 11) + 40 * d1 ≤ 84000 by omega)⟩) (law_preX hK hI hN hAd) rfl rfl hl.1 rfl (lv_room (Nat.le_of_ble_eq_true rfl)) dL_law_270 ⟨Nat.le_of_ble_eq_true rfl, Nat.le_of_ble_eq_true rfl⟩) (fun H1 locs1 hI1 hJ1 hS => ?_)
  refine lv_aload_n hx hb dL_law_273 rfl (lv_at hl 2 rfl) ?_
  refine lv_aload_n hx hb dL_law_274 rfl (lv_at hl 0 rfl) ?_
  refine lv_iload_n hx hb dL_law_275 rfl (lv_at hl 3 rfl) ?_
  refine lv_iconst (v := 1) hx hb dL_law_276 (by decide) ?_
  refine lv_iadd hx hb dL_law_277 ?_
  refine lv_topi (fun y_274 e_274 => ?_)
  have e_274 : nI (i + 1) = y_274 := (e_274.trans (nI_add i 1)).symm
  subst e_274
  refine va_sld hx hb hXs hbl hbA hS (vp_in_nI (N := L) (n := i + 1) (by omega) (by omega)) dL_law_278 ?_
  rw [nI_clamp (n := i + 1) (by omega)]
  refine lv_aload_n hx hb dL_law_279 rfl (lv_at hl 0 rfl) ?_
  refine lv_iload_n hx hb dL_law_280 rfl (lv_at hl 3 rfl) ?_
  refine lv_iconst (v := 2) hx hb dL_law_281 (by decide) ?_
  refine lv_iadd hx hb dL_law_282 ?_
  refine lv_topi (fun y_279 e_279 => ?_)
  have e_279 : nI (i + 2) = y_279 := (e_279.trans (nI_add i 2)).symm
  subst e_279
  refine va_sld hx hb hXs hbl hbA hS (vp_in_nI (N := L) (n := i + 2) (by omega) (by omega)) dL_law_283 ?_
  rw [nI_clamp (n := i + 2) (by omega)]
  refine law_calli (WO := fun H => MRq D cI cB cO B H S1) (WK := fun H => SRq D cI cB cO A H S1) hS hinB (fun H1 h1 => hI1.kept (fun q hq hz => h1 q hz (fun hw => hdis q hq hw))) (va_runV (As := [.int (xs (i + 1)), .int (xs (i + 2))]) (rest := [.int v]) ⟨hx, hb, hml, hown, hts⟩ hM (cwV 2 hts gL_law_X7_mast rfl rfl rfl (by decide +kernel) ⟨(show d2 + 1 ≤ 2048 by omega), (show 8 + (4 + 11) + 40 * d2 ≤ 84000 by omega)⟩) (law_preM hK hJ1 hN hBd) rfl rfl hl.1 rfl (lv_room (Nat.le_of_ble_eq_true rfl)) dL_law_284 ⟨Nat.le_of_ble_eq_true rfl, Nat.le_of_ble_eq_true rfl⟩) (fun H2 locs2 hJ2 hI2 hS => ?_)
  refine lv_icmp_eq (tgt := 895) hx hb dL_law_287 (by decide) (fun c_9 => ?_) (fun c_9 => ?_)
  · exact kk S1 H2 locs2 ok1 hI2 hJ2 hS
  · exact absurd rfl c_9
set_option maxHeartbeats 4000000 in
set_option maxRecDepth 100000 in
theorem law_reverse {p : Program} {l : Launch} {e : Env} {s : State} {m : MethodId} {below : List Frame} {meth : Method} {c : Code} {b L : Nat} {xs : Nat → Int32} {D : va_G} {cI cB cO : ClassId} {A B : Nat → Nat} {Q : State → Prop} (C0 : LC p s m meth c b L xs D cI cB cO A B) {S : StT} (ok : okQ S) {H : Heap} {locs : List Loc} {i : Nat} (hi : i + 4 ≤ L) (hI : SRq D cI cB cO A H S) (hJ : MRq D cI cB cO B H S) (hS : va_S (AL s) s.heap H locs) {ls : Array Slot} (hl : lv_has ls 4 [(0, .ref b), (1, .ref (A 0)), (2, .ref (B 0)), (3, .int (nI i))])
    (kk : ∀ (S1 : StT) (H1 : Heap) (locs1 : List Loc), okQ S1 → SRq D cI cB cO A H1 S1 → MRq D cI cB cO B H1 S1 → va_S (AL s) s.heap H1 locs1 → W p l e room_1 s m #[Value.ref b] below meth c H1 locs1 60 1543 Q (F0 m 895 ls [])) : W p l e room_1 s m #[Value.ref b] below meth c H locs 60 1543 Q (F0 m 292 ls []) := by
  obtain ⟨hx, hb, hml, hown, hts, hXs, hbl, hL, hK, hN, hAd, hBd, hinA, hinB, hdis⟩ := C0
  have hbA : ¬ AL s b := Nat.not_le.mpr hbl
  obtain ⟨v, S1, ok1, ⟨d1, hd1, hX⟩, ⟨d2, hd2, hM⟩⟩ := pr_reverse l D cI cB cO A B S ok 
  refine lv_aload_n hx hb dL_law_292 rfl (lv_at hl 1 rfl) ?_
  refine law_calli (WO := fun H => SRq D cI cB cO A H S1) (WK := fun H => MRq D cI cB cO B H S) hS hinA (fun H1 h1 => hJ.kept (fun q hq hz => h1 q hz (fun hw => hdis q hw hq))) (va_runV (As := []) (rest := []) ⟨hx, hb, hml, hown, hts⟩ hX (cwV 0 hts gL_law_X6_reverse rfl rfl rfl (by decide +kernel) ⟨(show d1 + 1 ≤ 2048 by omega), (show 8 + (1 + 11) + 40 * d1 ≤ 84000 by omega)⟩) (law_preX hK hI hN hAd) rfl rfl hl.1 rfl (lv_room (Nat.le_of_ble_eq_true rfl)) dL_law_293 ⟨Nat.le_of_ble_eq_true rfl, Nat.le_of_ble_eq_true rfl⟩) (fun H1 locs1 hI1 hJ1 hS => ?_)
  refine lv_aload_n hx hb dL_law_296 rfl (lv_at hl 2 rfl) ?_
  refine law_calli (WO := fun H => MRq D cI cB cO B H S1) (WK := fun H => SRq D cI cB cO A H S1) hS hinB (fun H1 h1 => hI1.kept (fun q hq hz => h1 q hz (fun hw => hdis q hq hw))) (va_runV (As := []) (rest := [.int v]) ⟨hx, hb, hml, hown, hts⟩ hM (cwV 0 hts gL_law_X7_reverse rfl rfl rfl (by decide +kernel) ⟨(show d2 + 1 ≤ 2048 by omega), (show 8 + (6 + 11) + 40 * d2 ≤ 84000 by omega)⟩) (law_preM hK hJ1 hN hBd) rfl rfl hl.1 rfl (lv_room (Nat.le_of_ble_eq_true rfl)) dL_law_297 ⟨Nat.le_of_ble_eq_true rfl, Nat.le_of_ble_eq_true rfl⟩) (fun H2 locs2 hJ2 hI2 hS => ?_)
  refine lv_icmp_eq (tgt := 895) hx hb dL_law_300 (by decide) (fun c_9 => ?_) (fun c_9 => ?_)
  · exact kk S1 H2 locs2 ok1 hI2 hJ2 hS
  · exact absurd rfl c_9
set_option maxHeartbeats 4000000 in
set_option maxRecDepth 100000 in
theorem law_setRange {p : Program} {l : Launch} {e : Env} {s : State} {m : MethodId} {below : List Frame} {meth : Method} {c : Code} {b L : Nat} {xs : Nat → Int32} {D : va_G} {cI cB cO : ClassId} {A B : Nat → Nat} {Q : State → Prop} (C0 : LC p s m meth c b L xs D cI cB cO A B) {S : StT} (ok : okQ S) {H : Heap} {locs : List Loc} {i : Nat} (hi : i + 4 ≤ L) (hI : SRq D cI cB cO A H S) (hJ : MRq D cI cB cO B H S) (hS : va_S (AL s) s.heap H locs) {ls : Array Slot} (hl : lv_has ls 4 [(0, .ref b), (1, .ref (A 0)), (2, .ref (B 0)), (3, .int (nI i))])
    (kk : ∀ (S1 : StT) (H1 : Heap) (locs1 : List Loc), okQ S1 → SRq D cI cB cO A H1 S1 → MRq D cI cB cO B H1 S1 → va_S (AL s) s.heap H1 locs1 → W p l e room_1 s m #[Value.ref b] below meth c H1 locs1 60 1543 Q (F0 m 895 ls [])) : W p l e room_1 s m #[Value.ref b] below meth c H locs 60 1543 Q (F0 m 305 ls []) := by
  obtain ⟨hx, hb, hml, hown, hts, hXs, hbl, hL, hK, hN, hAd, hBd, hinA, hinB, hdis⟩ := C0
  have hbA : ¬ AL s b := Nat.not_le.mpr hbl
  obtain ⟨v, S1, ok1, ⟨d1, hd1, hX⟩, ⟨d2, hd2, hM⟩⟩ := pr_setRange l D cI cB cO A B S ok (xs (i + 1))
  refine lv_aload_n hx hb dL_law_305 rfl (lv_at hl 1 rfl) ?_
  refine lv_aload_n hx hb dL_law_306 rfl (lv_at hl 0 rfl) ?_
  refine lv_iload_n hx hb dL_law_307 rfl (lv_at hl 3 rfl) ?_
  refine lv_iconst (v := 1) hx hb dL_law_308 (by decide) ?_
  refine lv_iadd hx hb dL_law_309 ?_
  refine lv_topi (fun y_306 e_306 => ?_)
  have e_306 : nI (i + 1) = y_306 := (e_306.trans (nI_add i 1)).symm
  subst e_306
  refine va_sld hx hb hXs hbl hbA hS (vp_in_nI (N := L) (n := i + 1) (by omega) (by omega)) dL_law_310 ?_
  rw [nI_clamp (n := i + 1) (by omega)]
  refine law_calli (WO := fun H => SRq D cI cB cO A H S1) (WK := fun H => MRq D cI cB cO B H S) hS hinA (fun H1 h1 => hJ.kept (fun q hq hz => h1 q hz (fun hw => hdis q hw hq))) (va_runV (As := [.int (xs (i + 1))]) (rest := []) ⟨hx, hb, hml, hown, hts⟩ hX (cwV 1 hts gL_law_X6_setRange rfl rfl rfl (by decide +kernel) ⟨(show d1 + 1 ≤ 2048 by omega), (show 8 + (3 + 11) + 40 * d1 ≤ 84000 by omega)⟩) (law_preX hK hI hN hAd) rfl rfl hl.1 rfl (lv_room (Nat.le_of_ble_eq_true rfl)) dL_law_311 ⟨Nat.le_of_ble_eq_true rfl, Nat.le_of_ble_eq_true rfl⟩) (fun H1 locs1 hI1 hJ1 hS => ?_)
  refine lv_aload_n hx hb dL_law_314 rfl (lv_at hl 2 rfl) ?_
  refine lv_aload_n hx hb dL_law_315 rfl (lv_at hl 0 rfl) ?_
  refine lv_iload_n hx hb dL_law_316 rfl (lv_at hl 3 rfl) ?_
  refine lv_iconst (v := 1) hx hb dL_law_317 (by decide) ?_
  refine lv_iadd hx hb dL_law_318 ?_
  refine lv_topi (fun y_315 e_315 => ?_)
  have e_315 : nI (i + 1) = y_315 := (e_315.trans (nI_add i 1)).symm
  subst e_315
  refine va_sld hx hb hXs hbl hbA hS (vp_in_nI (N := L) (n := i + 1) (by omega) (by omega)) dL_law_319 ?_
  rw [nI_clamp (n := i + 1) (by omega)]
  refine law_calli (WO := fun H => MRq D cI cB cO B H S1) (WK := fun H => SRq D cI cB cO A H S1) hS hinB (fun H1 h1 => hI1.kept (fun q hq hz => h1 q hz (fun hw => hdis q hq hw))) (va_runV (As := [.int (xs (i + 1))]) (rest := [.int v]) ⟨hx, hb, hml, hown, hts⟩ hM (cwV 1 hts gL_law_X7_setRange rfl rfl rfl (by decide +kernel) ⟨(show d2 + 1 ≤ 2048 by omega), (show 8 + (3 + 11) + 40 * d2 ≤ 84000 by omega)⟩) (law_preM hK hJ1 hN hBd) rfl rfl hl.1 rfl (lv_room (Nat.le_of_ble_eq_true rfl)) dL_law_320 ⟨Nat.le_of_ble_eq_true rfl, Nat.le_of_ble_eq_true rfl⟩) (fun H2 locs2 hJ2 hI2 hS => ?_)
  refine lv_icmp_eq (tgt := 895) hx hb dL_law_323 (by decide) (fun c_9 => ?_) (fun c_9 => ?_)
  · exact kk S1 H2 locs2 ok1 hI2 hJ2 hS
  · exact absurd rfl c_9
set_option maxHeartbeats 4000000 in
set_option maxRecDepth 100000 in
theorem law_setBulge {p : Program} {l : Launch} {e : Env} {s : State} {m : MethodId} {below : List Frame} {meth : Method} {c : Code} {b L : Nat} {xs : Nat → Int32} {D : va_G} {cI cB cO : ClassId} {A B : Nat → Nat} {Q : State → Prop} (C0 : LC p s m meth c b L xs D cI cB cO A B) {S : StT} (ok : okQ S) {H : Heap} {locs : List Loc} {i : Nat} (hi : i + 4 ≤ L) (hI : SRq D cI cB cO A H S) (hJ : MRq D cI cB cO B H S) (hS : va_S (AL s) s.heap H locs) {ls : Array Slot} (hl : lv_has ls 4 [(0, .ref b), (1, .ref (A 0)), (2, .ref (B 0)), (3, .int (nI i))])
    (kk : ∀ (S1 : StT) (H1 : Heap) (locs1 : List Loc), okQ S1 → SRq D cI cB cO A H1 S1 → MRq D cI cB cO B H1 S1 → va_S (AL s) s.heap H1 locs1 → W p l e room_1 s m #[Value.ref b] below meth c H1 locs1 60 1543 Q (F0 m 895 ls [])) : W p l e room_1 s m #[Value.ref b] below meth c H locs 60 1543 Q (F0 m 328 ls []) := by
  obtain ⟨hx, hb, hml, hown, hts, hXs, hbl, hL, hK, hN, hAd, hBd, hinA, hinB, hdis⟩ := C0
  have hbA : ¬ AL s b := Nat.not_le.mpr hbl
  obtain ⟨v, S1, ok1, ⟨d1, hd1, hX⟩, ⟨d2, hd2, hM⟩⟩ := pr_setBulge l D cI cB cO A B S ok (xs (i + 1))
  refine lv_aload_n hx hb dL_law_328 rfl (lv_at hl 1 rfl) ?_
  refine lv_aload_n hx hb dL_law_329 rfl (lv_at hl 0 rfl) ?_
  refine lv_iload_n hx hb dL_law_330 rfl (lv_at hl 3 rfl) ?_
  refine lv_iconst (v := 1) hx hb dL_law_331 (by decide) ?_
  refine lv_iadd hx hb dL_law_332 ?_
  refine lv_topi (fun y_329 e_329 => ?_)
  have e_329 : nI (i + 1) = y_329 := (e_329.trans (nI_add i 1)).symm
  subst e_329
  refine va_sld hx hb hXs hbl hbA hS (vp_in_nI (N := L) (n := i + 1) (by omega) (by omega)) dL_law_333 ?_
  rw [nI_clamp (n := i + 1) (by omega)]
  refine law_calli (WO := fun H => SRq D cI cB cO A H S1) (WK := fun H => MRq D cI cB cO B H S) hS hinA (fun H1 h1 => hJ.kept (fun q hq hz => h1 q hz (fun hw => hdis q hw hq))) (va_runV (As := [.int (xs (i + 1))]) (rest := []) ⟨hx, hb, hml, hown, hts⟩ hX (cwV 1 hts gL_law_X6_setBulge rfl rfl rfl (by decide +kernel) ⟨(show d1 + 1 ≤ 2048 by omega), (show 8 + (3 + 11) + 40 * d1 ≤ 84000 by omega)⟩) (law_preX hK hI hN hAd) rfl rfl hl.1 rfl (lv_room (Nat.le_of_ble_eq_true rfl)) dL_law_334 ⟨Nat.le_of_ble_eq_true rfl, Nat.le_of_ble_eq_true rfl⟩) (fun H1 locs1 hI1 hJ1 hS => ?_)
  refine lv_aload_n hx hb dL_law_337 rfl (lv_at hl 2 rfl) ?_
  refine lv_aload_n hx hb dL_law_338 rfl (lv_at hl 0 rfl) ?_
  refine lv_iload_n hx hb dL_law_339 rfl (lv_at hl 3 rfl) ?_
  refine lv_iconst (v := 1) hx hb dL_law_340 (by decide) ?_
  refine lv_iadd hx hb dL_law_341 ?_
  refine lv_topi (fun y_338 e_338 => ?_)
  have e_338 : nI (i + 1) = y_338 := (e_338.trans (nI_add i 1)).symm
  subst e_338
  refine va_sld hx hb hXs hbl hbA hS (vp_in_nI (N := L) (n := i + 1) (by omega) (by omega)) dL_law_342 ?_
  rw [nI_clamp (n := i + 1) (by omega)]
  refine law_calli (WO := fun H => MRq D cI cB cO B H S1) (WK := fun H => SRq D cI cB cO A H S1) hS hinB (fun H1 h1 => hI1.kept (fun q hq hz => h1 q hz (fun hw => hdis q hq hw))) (va_runV (As := [.int (xs (i + 1))]) (rest := [.int v]) ⟨hx, hb, hml, hown, hts⟩ hM (cwV 1 hts gL_law_X7_setBulge rfl rfl rfl (by decide +kernel) ⟨(show d2 + 1 ≤ 2048 by omega), (show 8 + (3 + 11) + 40 * d2 ≤ 84000 by omega)⟩) (law_preM hK hJ1 hN hBd) rfl rfl hl.1 rfl (lv_room (Nat.le_of_ble_eq_true rfl)) dL_law_343 ⟨Nat.le_of_ble_eq_true rfl, Nat.le_of_ble_eq_true rfl⟩) (fun H2 locs2 hJ2 hI2 hS => ?_)
  refine lv_icmp_eq (tgt := 895) hx hb dL_law_346 (by decide) (fun c_9 => ?_) (fun c_9 => ?_)
  · exact kk S1 H2 locs2 ok1 hI2 hJ2 hS
  · exact absurd rfl c_9
set_option maxHeartbeats 4000000 in
set_option maxRecDepth 100000 in
theorem law_undo {p : Program} {l : Launch} {e : Env} {s : State} {m : MethodId} {below : List Frame} {meth : Method} {c : Code} {b L : Nat} {xs : Nat → Int32} {D : va_G} {cI cB cO : ClassId} {A B : Nat → Nat} {Q : State → Prop} (C0 : LC p s m meth c b L xs D cI cB cO A B) {S : StT} (ok : okQ S) {H : Heap} {locs : List Loc} {i : Nat} (hi : i + 4 ≤ L) (hI : SRq D cI cB cO A H S) (hJ : MRq D cI cB cO B H S) (hS : va_S (AL s) s.heap H locs) {ls : Array Slot} (hl : lv_has ls 4 [(0, .ref b), (1, .ref (A 0)), (2, .ref (B 0)), (3, .int (nI i))])
    (kk : ∀ (S1 : StT) (H1 : Heap) (locs1 : List Loc), okQ S1 → SRq D cI cB cO A H1 S1 → MRq D cI cB cO B H1 S1 → va_S (AL s) s.heap H1 locs1 → W p l e room_1 s m #[Value.ref b] below meth c H1 locs1 60 1543 Q (F0 m 895 ls [])) : W p l e room_1 s m #[Value.ref b] below meth c H locs 60 1543 Q (F0 m 351 ls []) := by
  obtain ⟨hx, hb, hml, hown, hts, hXs, hbl, hL, hK, hN, hAd, hBd, hinA, hinB, hdis⟩ := C0
  have hbA : ¬ AL s b := Nat.not_le.mpr hbl
  obtain ⟨v, S1, ok1, ⟨d1, hd1, hX⟩, ⟨d2, hd2, hM⟩⟩ := pr_undo l D cI cB cO A B S ok 
  refine lv_aload_n hx hb dL_law_351 rfl (lv_at hl 1 rfl) ?_
  refine law_calli (WO := fun H => SRq D cI cB cO A H S1) (WK := fun H => MRq D cI cB cO B H S) hS hinA (fun H1 h1 => hJ.kept (fun q hq hz => h1 q hz (fun hw => hdis q hw hq))) (va_runV (As := []) (rest := []) ⟨hx, hb, hml, hown, hts⟩ hX (cwV 0 hts gL_law_X6_undo rfl rfl rfl (by decide +kernel) ⟨(show d1 + 1 ≤ 2048 by omega), (show 8 + (1 + 11) + 40 * d1 ≤ 84000 by omega)⟩) (law_preX hK hI hN hAd) rfl rfl hl.1 rfl (lv_room (Nat.le_of_ble_eq_true rfl)) dL_law_352 ⟨Nat.le_of_ble_eq_true rfl, Nat.le_of_ble_eq_true rfl⟩) (fun H1 locs1 hI1 hJ1 hS => ?_)
  refine lv_aload_n hx hb dL_law_355 rfl (lv_at hl 2 rfl) ?_
  refine law_calli (WO := fun H => MRq D cI cB cO B H S1) (WK := fun H => SRq D cI cB cO A H S1) hS hinB (fun H1 h1 => hI1.kept (fun q hq hz => h1 q hz (fun hw => hdis q hq hw))) (va_runV (As := []) (rest := [.int v]) ⟨hx, hb, hml, hown, hts⟩ hM (cwV 0 hts gL_law_X7_undo rfl rfl rfl (by decide +kernel) ⟨(show d2 + 1 ≤ 2048 by omega), (show 8 + (2 + 11) + 40 * d2 ≤ 84000 by omega)⟩) (law_preM hK hJ1 hN hBd) rfl rfl hl.1 rfl (lv_room (Nat.le_of_ble_eq_true rfl)) dL_law_356 ⟨Nat.le_of_ble_eq_true rfl, Nat.le_of_ble_eq_true rfl⟩) (fun H2 locs2 hJ2 hI2 hS => ?_)
  refine lv_icmp_eq (tgt := 895) hx hb dL_law_359 (by decide) (fun c_9 => ?_) (fun c_9 => ?_)
  · exact kk S1 H2 locs2 ok1 hI2 hJ2 hS
  · exact absurd rfl c_9
set_option maxHeartbeats 4000000 in
set_option maxRecDepth 100000 in
theorem law_type {p : Program} {l : Launch} {e : Env} {s : State} {m : MethodId} {below : List Frame} {meth : Method} {c : Code} {b L : Nat} {xs : Nat → Int32} {D : va_G} {cI cB cO : ClassId} {A B : Nat → Nat} {Q : State → Prop} (C0 : LC p s m meth c b L xs D cI cB cO A B) {S : StT} (ok : okQ S) {H : Heap} {locs : List Loc} {i : Nat} (hi : i + 4 ≤ L) (hI : SRq D cI cB cO A H S) (hJ : MRq D cI cB cO B H S) (hS : va_S (AL s) s.heap H locs) {ls : Array Slot} (hl : lv_has ls 4 [(0, .ref b), (1, .ref (A 0)), (2, .ref (B 0)), (3, .int (nI i))])
    (kk : ∀ (S1 : StT) (H1 : Heap) (locs1 : List Loc), okQ S1 → SRq D cI cB cO A H1 S1 → MRq D cI cB cO B H1 S1 → va_S (AL s) s.heap H1 locs1 → W p l e room_1 s m #[Value.ref b] below meth c H1 locs1 60 1543 Q (F0 m 895 ls [])) : W p l e room_1 s m #[Value.ref b] below meth c H locs 60 1543 Q (F0 m 364 ls []) := by
  obtain ⟨hx, hb, hml, hown, hts, hXs, hbl, hL, hK, hN, hAd, hBd, hinA, hinB, hdis⟩ := C0
  have hbA : ¬ AL s b := Nat.not_le.mpr hbl
  obtain ⟨v, S1, ok1, ⟨d1, hd1, hX⟩, ⟨d2, hd2, hM⟩⟩ := pr_type l D cI cB cO A B S ok (xs (i + 1))
  refine lv_aload_n hx hb dL_law_364 rfl (lv_at hl 1 rfl) ?_
  refine lv_aload_n hx hb dL_law_365 rfl (lv_at hl 0 rfl) ?_
  refine lv_iload_n hx hb dL_law_366 rfl (lv_at hl 3 rfl) ?_
  refine lv_iconst (v := 1) hx hb dL_law_367 (by decide) ?_
  refine lv_iadd hx hb dL_law_368 ?_
  refine lv_topi (fun y_365 e_365 => ?_)
  have e_365 : nI (i + 1) = y_365 := (e_365.trans (nI_add i 1)).symm
  subst e_365
  refine va_sld hx hb hXs hbl hbA hS (vp_in_nI (N := L) (n := i + 1) (by omega) (by omega)) dL_law_369 ?_
  rw [nI_clamp (n := i + 1) (by omega)]
  refine law_calli (WO := fun H => SRq D cI cB cO A H S1) (WK := fun H => MRq D cI cB cO B H S) hS hinA (fun H1 h1 => hJ.kept (fun q hq hz => h1 q hz (fun hw => hdis q hw hq))) (va_runV (As := [.int (xs (i + 1))]) (rest := []) ⟨hx, hb, hml, hown, hts⟩ hX (cwV 1 hts gL_law_X6_type rfl rfl rfl (by decide +kernel) ⟨(show d1 + 1 ≤ 2048 by omega), (show 8 + (2 + 11) + 40 * d1 ≤ 84000 by omega)⟩) (law_preX hK hI hN hAd) rfl rfl hl.1 rfl (lv_room (Nat.le_of_ble_eq_true rfl)) dL_law_370 ⟨Nat.le_of_ble_eq_true rfl, Nat.le_of_ble_eq_true rfl⟩) (fun H1 locs1 hI1 hJ1 hS => ?_)
  refine lv_aload_n hx hb dL_law_373 rfl (lv_at hl 2 rfl) ?_
  refine lv_aload_n hx hb dL_law_374 rfl (lv_at hl 0 rfl) ?_
  refine lv_iload_n hx hb dL_law_375 rfl (lv_at hl 3 rfl) ?_
  refine lv_iconst (v := 1) hx hb dL_law_376 (by decide) ?_
  refine lv_iadd hx hb dL_law_377 ?_
  refine lv_topi (fun y_374 e_374 => ?_)
  have e_374 : nI (i + 1) = y_374 := (e_374.trans (nI_add i 1)).symm
  subst e_374
  refine va_sld hx hb hXs hbl hbA hS (vp_in_nI (N := L) (n := i + 1) (by omega) (by omega)) dL_law_378 ?_
  rw [nI_clamp (n := i + 1) (by omega)]
  refine law_calli (WO := fun H => MRq D cI cB cO B H S1) (WK := fun H => SRq D cI cB cO A H S1) hS hinB (fun H1 h1 => hI1.kept (fun q hq hz => h1 q hz (fun hw => hdis q hq hw))) (va_runV (As := [.int (xs (i + 1))]) (rest := [.int v]) ⟨hx, hb, hml, hown, hts⟩ hM (cwV 1 hts gL_law_X7_type rfl rfl rfl (by decide +kernel) ⟨(show d2 + 1 ≤ 2048 by omega), (show 8 + (2 + 11) + 40 * d2 ≤ 84000 by omega)⟩) (law_preM hK hJ1 hN hBd) rfl rfl hl.1 rfl (lv_room (Nat.le_of_ble_eq_true rfl)) dL_law_379 ⟨Nat.le_of_ble_eq_true rfl, Nat.le_of_ble_eq_true rfl⟩) (fun H2 locs2 hJ2 hI2 hS => ?_)
  refine lv_icmp_eq (tgt := 895) hx hb dL_law_382 (by decide) (fun c_9 => ?_) (fun c_9 => ?_)
  · exact kk S1 H2 locs2 ok1 hI2 hJ2 hS
  · exact absurd rfl c_9
set_option maxHeartbeats 4000000 in
set_option maxRecDepth 100000 in
theorem law_clearText {p : Program} {l : Launch} {e : Env} {s : State} {m : MethodId} {below : List Frame} {meth : Method} {c : Code} {b L : Nat} {xs : Nat → Int32} {D : va_G} {cI cB cO : ClassId} {A B : Nat → Nat} {Q : State → Prop} (C0 : LC p s m meth c b L xs D cI cB cO A B) {S : StT} (ok : okQ S) {H : Heap} {locs : List Loc} {i : Nat} (hi : i + 4 ≤ L) (hI : SRq D cI cB cO A H S) (hJ : MRq D cI cB cO B H S) (hS : va_S (AL s) s.heap H locs) {ls : Array Slot} (hl : lv_has ls 4 [(0, .ref b), (1, .ref (A 0)), (2, .ref (B 0)), (3, .int (nI i))])
    (kk : ∀ (S1 : StT) (H1 : Heap) (locs1 : List Loc), okQ S1 → SRq D cI cB cO A H1 S1 → MRq D cI cB cO B H1 S1 → va_S (AL s) s.heap H1 locs1 → W p l e room_1 s m #[Value.ref b] below meth c H1 locs1 60 1543 Q (F0 m 895 ls [])) : W p l e room_1 s m #[Value.ref b] below meth c H locs 60 1543 Q (F0 m 387 ls []) := by
  obtain ⟨hx, hb, hml, hown, hts, hXs, hbl, hL, hK, hN, hAd, hBd, hinA, hinB, hdis⟩ := C0
  have hbA : ¬ AL s b := Nat.not_le.mpr hbl
  obtain ⟨v, S1, ok1, ⟨d1, hd1, hX⟩, ⟨d2, hd2, hM⟩⟩ := pr_clearText l D cI cB cO A B S ok 
  refine lv_aload_n hx hb dL_law_387 rfl (lv_at hl 1 rfl) ?_
  refine law_calli (WO := fun H => SRq D cI cB cO A H S1) (WK := fun H => MRq D cI cB cO B H S) hS hinA (fun H1 h1 => hJ.kept (fun q hq hz => h1 q hz (fun hw => hdis q hw hq))) (va_runV (As := []) (rest := []) ⟨hx, hb, hml, hown, hts⟩ hX (cwV 0 hts gL_law_X6_clearText rfl rfl rfl (by decide +kernel) ⟨(show d1 + 1 ≤ 2048 by omega), (show 8 + (2 + 11) + 40 * d1 ≤ 84000 by omega)⟩) (law_preX hK hI hN hAd) rfl rfl hl.1 rfl (lv_room (Nat.le_of_ble_eq_true rfl)) dL_law_388 ⟨Nat.le_of_ble_eq_true rfl, Nat.le_of_ble_eq_true rfl⟩) (fun H1 locs1 hI1 hJ1 hS => ?_)
  refine lv_aload_n hx hb dL_law_391 rfl (lv_at hl 2 rfl) ?_
  refine law_calli (WO := fun H => MRq D cI cB cO B H S1) (WK := fun H => SRq D cI cB cO A H S1) hS hinB (fun H1 h1 => hI1.kept (fun q hq hz => h1 q hz (fun hw => hdis q hq hw))) (va_runV (As := []) (rest := [.int v]) ⟨hx, hb, hml, hown, hts⟩ hM (cwV 0 hts gL_law_X7_clearText rfl rfl rfl (by decide +kernel) ⟨(show d2 + 1 ≤ 2048 by omega), (show 8 + (2 + 11) + 40 * d2 ≤ 84000 by omega)⟩) (law_preM hK hJ1 hN hBd) rfl rfl hl.1 rfl (lv_room (Nat.le_of_ble_eq_true rfl)) dL_law_392 ⟨Nat.le_of_ble_eq_true rfl, Nat.le_of_ble_eq_true rfl⟩) (fun H2 locs2 hJ2 hI2 hS => ?_)
  refine lv_icmp_eq (tgt := 895) hx hb dL_law_395 (by decide) (fun c_9 => ?_) (fun c_9 => ?_)
  · exact kk S1 H2 locs2 ok1 hI2 hJ2 hS
  · exact absurd rfl c_9
set_option maxHeartbeats 4000000 in
set_option maxRecDepth 100000 in
theorem law_fault {p : Program} {l : Launch} {e : Env} {s : State} {m : MethodId} {below : List Frame} {meth : Method} {c : Code} {b L : Nat} {xs : Nat → Int32} {D : va_G} {cI cB cO : ClassId} {A B : Nat → Nat} {Q : State → Prop} (C0 : LC p s m meth c b L xs D cI cB cO A B) {S : StT} (ok : okQ S) {H : Heap} {locs : List Loc} {i : Nat} (hi : i + 4 ≤ L) (hI : SRq D cI cB cO A H S) (hJ : MRq D cI cB cO B H S) (hS : va_S (AL s) s.heap H locs) {ls : Array Slot} (hl : lv_has ls 4 [(0, .ref b), (1, .ref (A 0)), (2, .ref (B 0)), (3, .int (nI i))])
    (kk : ∀ (S1 : StT) (H1 : Heap) (locs1 : List Loc), okQ S1 → SRq D cI cB cO A H1 S1 → MRq D cI cB cO B H1 S1 → va_S (AL s) s.heap H1 locs1 → W p l e room_1 s m #[Value.ref b] below meth c H1 locs1 60 1543 Q (F0 m 895 ls [])) : W p l e room_1 s m #[Value.ref b] below meth c H locs 60 1543 Q (F0 m 400 ls []) := by
  obtain ⟨hx, hb, hml, hown, hts, hXs, hbl, hL, hK, hN, hAd, hBd, hinA, hinB, hdis⟩ := C0
  have hbA : ¬ AL s b := Nat.not_le.mpr hbl
  obtain ⟨v, S1, ok1, ⟨d1, hd1, hX⟩, ⟨d2, hd2, hM⟩⟩ := pr_fault l D cI cB cO A B S ok 
  refine lv_aload_n hx hb dL_law_400 rfl (lv_at hl 1 rfl) ?_
  refine law_calli (WO := fun H => SRq D cI cB cO A H S1) (WK := fun H => MRq D cI cB cO B H S) hS hinA (fun H1 h1 => hJ.kept (fun q hq hz => h1 q hz (fun hw => hdis q hw hq))) (va_runV (As := []) (rest := []) ⟨hx, hb, hml, hown, hts⟩ hX (cwV 0 hts gL_law_X6_fault rfl rfl rfl (by decide +kernel) ⟨(show d1 + 1 ≤ 2048 by omega), (show 8 + (1 + 11) + 40 * d1 ≤ 84000 by omega)⟩) (law_preX hK hI hN hAd) rfl rfl hl.1 rfl (lv_room (Nat.le_of_ble_eq_true rfl)) dL_law_401 ⟨Nat.le_of_ble_eq_true rfl, Nat.le_of_ble_eq_true rfl⟩) (fun H1 locs1 hI1 hJ1 hS => ?_)
  refine lv_aload_n hx hb dL_law_404 rfl (lv_at hl 2 rfl) ?_
  refine law_calli (WO := fun H => MRq D cI cB cO B H S1) (WK := fun H => SRq D cI cB cO A H S1) hS hinB (fun H1 h1 => hI1.kept (fun q hq hz => h1 q hz (fun hw => hdis q hq hw))) (va_runV (As := []) (rest := [.int v]) ⟨hx, hb, hml, hown, hts⟩ hM (cwV 0 hts gL_law_X7_fault rfl rfl rfl (by decide +kernel) ⟨(show d2 + 1 ≤ 2048 by omega), (show 8 + (2 + 11) + 40 * d2 ≤ 84000 by omega)⟩) (law_preM hK hJ1 hN hBd) rfl rfl hl.1 rfl (lv_room (Nat.le_of_ble_eq_true rfl)) dL_law_405 ⟨Nat.le_of_ble_eq_true rfl, Nat.le_of_ble_eq_true rfl⟩) (fun H2 locs2 hJ2 hI2 hS => ?_)
  refine lv_icmp_eq (tgt := 895) hx hb dL_law_408 (by decide) (fun c_9 => ?_) (fun c_9 => ?_)
  · exact kk S1 H2 locs2 ok1 hI2 hJ2 hS
  · exact absurd rfl c_9
set_option maxHeartbeats 4000000 in
set_option maxRecDepth 100000 in
theorem law_load {p : Program} {l : Launch} {e : Env} {s : State} {m : MethodId} {below : List Frame} {meth : Method} {c : Code} {b L : Nat} {xs : Nat → Int32} {D : va_G} {cI cB cO : ClassId} {A B : Nat → Nat} {Q : State → Prop} (C0 : LC p s m meth c b L xs D cI cB cO A B) {S : StT} (ok : okQ S) {H : Heap} {locs : List Loc} {i : Nat} (hi : i + 4 ≤ L) (hI : SRq D cI cB cO A H S) (hJ : MRq D cI cB cO B H S) (hS : va_S (AL s) s.heap H locs) {ls : Array Slot} (hl : lv_has ls 4 [(0, .ref b), (1, .ref (A 0)), (2, .ref (B 0)), (3, .int (nI i))])
    (kk : ∀ (S1 : StT) (H1 : Heap) (locs1 : List Loc), okQ S1 → SRq D cI cB cO A H1 S1 → MRq D cI cB cO B H1 S1 → va_S (AL s) s.heap H1 locs1 → W p l e room_1 s m #[Value.ref b] below meth c H1 locs1 60 1543 Q (F0 m 895 ls [])) : W p l e room_1 s m #[Value.ref b] below meth c H locs 60 1543 Q (F0 m 413 ls []) := by
  obtain ⟨hx, hb, hml, hown, hts, hXs, hbl, hL, hK, hN, hAd, hBd, hinA, hinB, hdis⟩ := C0
  have hbA : ¬ AL s b := Nat.not_le.mpr hbl
  obtain ⟨v, S1, ok1, ⟨d1, hd1, hX⟩, ⟨d2, hd2, hM⟩⟩ := pr_load l D cI cB cO A B S ok 
  refine lv_aload_n hx hb dL_law_413 rfl (lv_at hl 1 rfl) ?_
  refine law_calli (WO := fun H => SRq D cI cB cO A H S1) (WK := fun H => MRq D cI cB cO B H S) hS hinA (fun H1 h1 => hJ.kept (fun q hq hz => h1 q hz (fun hw => hdis q hw hq))) (va_runV (As := []) (rest := []) ⟨hx, hb, hml, hown, hts⟩ hX (cwV 0 hts gL_law_X6_load rfl rfl rfl (by decide +kernel) ⟨(show d1 + 1 ≤ 2048 by omega), (show 8 + (1 + 11) + 40 * d1 ≤ 84000 by omega)⟩) (law_preX hK hI hN hAd) rfl rfl hl.1 rfl (lv_room (Nat.le_of_ble_eq_true rfl)) dL_law_414 ⟨Nat.le_of_ble_eq_true rfl, Nat.le_of_ble_eq_true rfl⟩) (fun H1 locs1 hI1 hJ1 hS => ?_)
  refine lv_aload_n hx hb dL_law_417 rfl (lv_at hl 2 rfl) ?_
  refine law_calli (WO := fun H => MRq D cI cB cO B H S1) (WK := fun H => SRq D cI cB cO A H S1) hS hinB (fun H1 h1 => hI1.kept (fun q hq hz => h1 q hz (fun hw => hdis q hq hw))) (va_runV (As := []) (rest := [.int v]) ⟨hx, hb, hml, hown, hts⟩ hM (cwV 0 hts gL_law_X7_load rfl rfl rfl (by decide +kernel) ⟨(show d2 + 1 ≤ 2048 by omega), (show 8 + (2 + 11) + 40 * d2 ≤ 84000 by omega)⟩) (law_preM hK hJ1 hN hBd) rfl rfl hl.1 rfl (lv_room (Nat.le_of_ble_eq_true rfl)) dL_law_418 ⟨Nat.le_of_ble_eq_true rfl, Nat.le_of_ble_eq_true rfl⟩) (fun H2 locs2 hJ2 hI2 hS => ?_)
  refine lv_icmp_eq (tgt := 895) hx hb dL_law_421 (by decide) (fun c_9 => ?_) (fun c_9 => ?_)
  · exact kk S1 H2 locs2 ok1 hI2 hJ2 hS
  · exact absurd rfl c_9
set_option maxHeartbeats 4000000 in
set_option maxRecDepth 100000 in
theorem law_station {p : Program} {l : Launch} {e : Env} {s : State} {m : MethodId} {below : List Frame} {meth : Method} {c : Code} {b L : Nat} {xs : Nat → Int32} {D : va_G} {cI cB cO : ClassId} {A B : Nat → Nat} {Q : State → Prop} (C0 : LC p s m meth c b L xs D cI cB cO A B) {S : StT} (ok : okQ S) {H : Heap} {locs : List Loc} {i : Nat} (hi : i + 4 ≤ L) (hI : SRq D cI cB cO A H S) (hJ : MRq D cI cB cO B H S) (hS : va_S (AL s) s.heap H locs) {ls : Array Slot} (hl : lv_has ls 4 [(0, .ref b), (1, .ref (A 0)), (2, .ref (B 0)), (3, .int (nI i))])
    (kk : ∀ (S1 : StT) (H1 : Heap) (locs1 : List Loc), okQ S1 → SRq D cI cB cO A H1 S1 → MRq D cI cB cO B H1 S1 → va_S (AL s) s.heap H1 locs1 → W p l e room_1 s m #[Value.ref b] below meth c H1 locs1 60 1543 Q (F0 m 895 ls [])) : W p l e room_1 s m #[Value.ref b] below meth c H locs 60 1543 Q (F0 m 426 ls []) := by
  obtain ⟨hx, hb, hml, hown, hts, hXs, hbl, hL, hK, hN, hAd, hBd, hinA, hinB, hdis⟩ := C0
  have hbA : ¬ AL s b := Nat.not_le.mpr hbl
  obtain ⟨v, S1, ok1, ⟨d1, hd1, hX⟩, ⟨d2, hd2, hM⟩⟩ := pr_station l D cI cB cO A B S ok (xs (i + 1)) (xs (i + 2))
  refine lv_aload_n hx hb dL_law_426 rfl (lv_at hl 1 rfl) ?_
  refine lv_aload_n hx hb dL_law_427 rfl (lv_at hl 0 rfl) ?_
  refine lv_iload_n hx hb dL_law_428 rfl (lv_at hl 3 rfl) ?_
  refine lv_iconst (v := 1) hx hb dL_law_429 (by decide) ?_
  refine lv_iadd hx hb dL_law_430 ?_
  refine lv_topi (fun y_427 e_427 => ?_)
  have e_427 : nI (i + 1) = y_427 := (e_427.trans (nI_add i 1)).symm
  subst e_427
  refine va_sld hx hb hXs hbl hbA hS (vp_in_nI (N := L) (n := i + 1) (by omega) (by omega)) dL_law_431 ?_
  rw [nI_clamp (n := i + 1) (by omega)]
  refine lv_aload_n hx hb dL_law_432 rfl (lv_at hl 0 rfl) ?_
  refine lv_iload_n hx hb dL_law_433 rfl (lv_at hl 3 rfl) ?_
  refine lv_iconst (v := 2) hx hb dL_law_434 (by decide) ?_
  refine lv_iadd hx hb dL_law_435 ?_
  refine lv_topi (fun y_432 e_432 => ?_)
  have e_432 : nI (i + 2) = y_432 := (e_432.trans (nI_add i 2)).symm
  subst e_432
  refine va_sld hx hb hXs hbl hbA hS (vp_in_nI (N := L) (n := i + 2) (by omega) (by omega)) dL_law_436 ?_
  rw [nI_clamp (n := i + 2) (by omega)]
  refine law_calli (WO := fun H => SRq D cI cB cO A H S1) (WK := fun H => MRq D cI cB cO B H S) hS hinA (fun H1 h1 => hJ.kept (fun q hq hz => h1 q hz (fun hw => hdis q hw hq))) (va_runV (As := [.int (xs (i + 1)), .int (xs (i + 2))]) (rest := []) ⟨hx, hb, hml, hown, hts⟩ hX (cwV 2 hts gL_law_X6_station rfl rfl rfl (by decide +kernel) ⟨(show d1 + 1 ≤ 2048 by omega), (show 8 + (3 + 11) + 40 * d1 ≤ 84000 by omega)⟩) (law_preX hK hI hN hAd) rfl rfl hl.1 rfl (lv_room (Nat.le_of_ble_eq_true rfl)) dL_law_437 ⟨Nat.le_of_ble_eq_true rfl, Nat.le_of_ble_eq_true rfl⟩) (fun H1 locs1 hI1 hJ1 hS => ?_)
  refine lv_aload_n hx hb dL_law_440 rfl (lv_at hl 2 rfl) ?_
  refine lv_aload_n hx hb dL_law_441 rfl (lv_at hl 0 rfl) ?_
  refine lv_iload_n hx hb dL_law_442 rfl (lv_at hl 3 rfl) ?_
  refine lv_iconst (v := 1) hx hb dL_law_443 (by decide) ?_
  refine lv_iadd hx hb dL_law_444 ?_
  refine lv_topi (fun y_441 e_441 => ?_)
  have e_441 : nI (i + 1) = y_441 := (e_441.trans (nI_add i 1)).symm
  subst e_441
  refine va_sld hx hb hXs hbl hbA hS (vp_in_nI (N := L) (n := i + 1) (by omega) (by omega)) dL_law_445 ?_
  rw [nI_clamp (n := i + 1) (by omega)]
  refine lv_aload_n hx hb dL_law_446 rfl (lv_at hl 0 rfl) ?_
  refine lv_iload_n hx hb dL_law_447 rfl (lv_at hl 3 rfl) ?_
  refine lv_iconst (v := 2) hx hb dL_law_448 (by decide) ?_
  refine lv_iadd hx hb dL_law_449 ?_
  refine lv_topi (fun y_446 e_446 => ?_)
  have e_446 : nI (i + 2) = y_446 := (e_446.trans (nI_add i 2)).symm
  subst e_446
  refine va_sld hx hb hXs hbl hbA hS (vp_in_nI (N := L) (n := i + 2) (by omega) (by omega)) dL_law_450 ?_
  rw [nI_clamp (n := i + 2) (by omega)]
  refine law_calli (WO := fun H => MRq D cI cB cO B H S1) (WK := fun H => SRq D cI cB cO A H S1) hS hinB (fun H1 h1 => hI1.kept (fun q hq hz => h1 q hz (fun hw => hdis q hq hw))) (va_runV (As := [.int (xs (i + 1)), .int (xs (i + 2))]) (rest := [.int v]) ⟨hx, hb, hml, hown, hts⟩ hM (cwV 2 hts gL_law_X7_station_ rfl rfl rfl (by decide +kernel) ⟨(show d2 + 1 ≤ 2048 by omega), (show 8 + (3 + 11) + 40 * d2 ≤ 84000 by omega)⟩) (law_preM hK hJ1 hN hBd) rfl rfl hl.1 rfl (lv_room (Nat.le_of_ble_eq_true rfl)) dL_law_451 ⟨Nat.le_of_ble_eq_true rfl, Nat.le_of_ble_eq_true rfl⟩) (fun H2 locs2 hJ2 hI2 hS => ?_)
  refine lv_icmp_eq (tgt := 895) hx hb dL_law_454 (by decide) (fun c_9 => ?_) (fun c_9 => ?_)
  · exact kk S1 H2 locs2 ok1 hI2 hJ2 hS
  · exact absurd rfl c_9
set_option maxHeartbeats 4000000 in
set_option maxRecDepth 100000 in
theorem law_sees {p : Program} {l : Launch} {e : Env} {s : State} {m : MethodId} {below : List Frame} {meth : Method} {c : Code} {b L : Nat} {xs : Nat → Int32} {D : va_G} {cI cB cO : ClassId} {A B : Nat → Nat} {Q : State → Prop} (C0 : LC p s m meth c b L xs D cI cB cO A B) {S : StT} (ok : okQ S) {H : Heap} {locs : List Loc} {i : Nat} (hi : i + 4 ≤ L) (hI : SRq D cI cB cO A H S) (hJ : MRq D cI cB cO B H S) (hS : va_S (AL s) s.heap H locs) {ls : Array Slot} (hl : lv_has ls 4 [(0, .ref b), (1, .ref (A 0)), (2, .ref (B 0)), (3, .int (nI i))])
    (kk : ∀ (S1 : StT) (H1 : Heap) (locs1 : List Loc), okQ S1 → SRq D cI cB cO A H1 S1 → MRq D cI cB cO B H1 S1 → va_S (AL s) s.heap H1 locs1 → W p l e room_1 s m #[Value.ref b] below meth c H1 locs1 60 1543 Q (F0 m 895 ls [])) : W p l e room_1 s m #[Value.ref b] below meth c H locs 60 1543 Q (F0 m 459 ls []) := by
  obtain ⟨hx, hb, hml, hown, hts, hXs, hbl, hL, hK, hN, hAd, hBd, hinA, hinB, hdis⟩ := C0
  have hbA : ¬ AL s b := Nat.not_le.mpr hbl
  obtain ⟨v, S1, ok1, ⟨d1, hd1, hX⟩, ⟨d2, hd2, hM⟩⟩ := pr_sees l D cI cB cO A B S ok (xs (i + 1)) (xs (i + 2))
  refine lv_aload_n hx hb dL_law_459 rfl (lv_at hl 1 rfl) ?_
  refine lv_aload_n hx hb dL_law_460 rfl (lv_at hl 0 rfl) ?_
  refine lv_iload_n hx hb dL_law_461 rfl (lv_at hl 3 rfl) ?_
  refine lv_iconst (v := 1) hx hb dL_law_462 (by decide) ?_
  refine lv_iadd hx hb dL_law_463 ?_
  refine lv_topi (fun y_460 e_460 => ?_)
  have e_460 : nI (i + 1) = y_460 := (e_460.trans (nI_add i 1)).symm
  subst e_460
  refine va_sld hx hb hXs hbl hbA hS (vp_in_nI (N := L) (n := i + 1) (by omega) (by omega)) dL_law_464 ?_
  rw [nI_clamp (n := i + 1) (by omega)]
  refine lv_aload_n hx hb dL_law_465 rfl (lv_at hl 0 rfl) ?_
  refine lv_iload_n hx hb dL_law_466 rfl (lv_at hl 3 rfl) ?_
  refine lv_iconst (v := 2) hx hb dL_law_467 (by decide) ?_
  refine lv_iadd hx hb dL_law_468 ?_
  refine lv_topi (fun y_465 e_465 => ?_)
  have e_465 : nI (i + 2) = y_465 := (e_465.trans (nI_add i 2)).symm
  subst e_465
  refine va_sld hx hb hXs hbl hbA hS (vp_in_nI (N := L) (n := i + 2) (by omega) (by omega)) dL_law_469 ?_
  rw [nI_clamp (n := i + 2) (by omega)]
  refine law_calli (WO := fun H => SRq D cI cB cO A H S1) (WK := fun H => MRq D cI cB cO B H S) hS hinA (fun H1 h1 => hJ.kept (fun q hq hz => h1 q hz (fun hw => hdis q hw hq))) (va_runV (As := [.int (xs (i + 1)), .int (xs (i + 2))]) (rest := []) ⟨hx, hb, hml, hown, hts⟩ hX (cwV 2 hts gL_law_X6_sees rfl rfl rfl (by decide +kernel) ⟨(show d1 + 1 ≤ 2048 by omega), (show 8 + (3 + 11) + 40 * d1 ≤ 84000 by omega)⟩) (law_preX hK hI hN hAd) rfl rfl hl.1 rfl (lv_room (Nat.le_of_ble_eq_true rfl)) dL_law_470 ⟨Nat.le_of_ble_eq_true rfl, Nat.le_of_ble_eq_true rfl⟩) (fun H1 locs1 hI1 hJ1 hS => ?_)
  refine lv_aload_n hx hb dL_law_473 rfl (lv_at hl 2 rfl) ?_
  refine lv_aload_n hx hb dL_law_474 rfl (lv_at hl 0 rfl) ?_
  refine lv_iload_n hx hb dL_law_475 rfl (lv_at hl 3 rfl) ?_
  refine lv_iconst (v := 1) hx hb dL_law_476 (by decide) ?_
  refine lv_iadd hx hb dL_law_477 ?_
  refine lv_topi (fun y_474 e_474 => ?_)
  have e_474 : nI (i + 1) = y_474 := (e_474.trans (nI_add i 1)).symm
  subst e_474
  refine va_sld hx hb hXs hbl hbA hS (vp_in_nI (N := L) (n := i + 1) (by omega) (by omega)) dL_law_478 ?_
  rw [nI_clamp (n := i + 1) (by omega)]
  refine lv_aload_n hx hb dL_law_479 rfl (lv_at hl 0 rfl) ?_
  refine lv_iload_n hx hb dL_law_480 rfl (lv_at hl 3 rfl) ?_
  refine lv_iconst (v := 2) hx hb dL_law_481 (by decide) ?_
  refine lv_iadd hx hb dL_law_482 ?_
  refine lv_topi (fun y_479 e_479 => ?_)
  have e_479 : nI (i + 2) = y_479 := (e_479.trans (nI_add i 2)).symm
  subst e_479
  refine va_sld hx hb hXs hbl hbA hS (vp_in_nI (N := L) (n := i + 2) (by omega) (by omega)) dL_law_483 ?_
  rw [nI_clamp (n := i + 2) (by omega)]
  refine law_calli (WO := fun H => MRq D cI cB cO B H S1) (WK := fun H => SRq D cI cB cO A H S1) hS hinB (fun H1 h1 => hI1.kept (fun q hq hz => h1 q hz (fun hw => hdis q hq hw))) (va_runV (As := [.int (xs (i + 1)), .int (xs (i + 2))]) (rest := [.int v]) ⟨hx, hb, hml, hown, hts⟩ hM (cwV 2 hts gL_law_X7_sees rfl rfl rfl (by decide +kernel) ⟨(show d2 + 1 ≤ 2048 by omega), (show 8 + (3 + 11) + 40 * d2 ≤ 84000 by omega)⟩) (law_preM hK hJ1 hN hBd) rfl rfl hl.1 rfl (lv_room (Nat.le_of_ble_eq_true rfl)) dL_law_484 ⟨Nat.le_of_ble_eq_true rfl, Nat.le_of_ble_eq_true rfl⟩) (fun H2 locs2 hJ2 hI2 hS => ?_)
  refine lv_icmp_eq (tgt := 895) hx hb dL_law_487 (by decide) (fun c_9 => ?_) (fun c_9 => ?_)
  · exact kk S1 H2 locs2 ok1 hI2 hJ2 hS
  · exact absurd rfl c_9
set_option maxHeartbeats 4000000 in
set_option maxRecDepth 100000 in
theorem law_obstacle {p : Program} {l : Launch} {e : Env} {s : State} {m : MethodId} {below : List Frame} {meth : Method} {c : Code} {b L : Nat} {xs : Nat → Int32} {D : va_G} {cI cB cO : ClassId} {A B : Nat → Nat} {Q : State → Prop} (C0 : LC p s m meth c b L xs D cI cB cO A B) {S : StT} (ok : okQ S) {H : Heap} {locs : List Loc} {i : Nat} (hi : i + 4 ≤ L) (hI : SRq D cI cB cO A H S) (hJ : MRq D cI cB cO B H S) (hS : va_S (AL s) s.heap H locs) {ls : Array Slot} (hl : lv_has ls 4 [(0, .ref b), (1, .ref (A 0)), (2, .ref (B 0)), (3, .int (nI i))])
    (kk : ∀ (S1 : StT) (H1 : Heap) (locs1 : List Loc), okQ S1 → SRq D cI cB cO A H1 S1 → MRq D cI cB cO B H1 S1 → va_S (AL s) s.heap H1 locs1 → W p l e room_1 s m #[Value.ref b] below meth c H1 locs1 60 1543 Q (F0 m 895 ls [])) : W p l e room_1 s m #[Value.ref b] below meth c H locs 60 1543 Q (F0 m 492 ls []) := by
  obtain ⟨hx, hb, hml, hown, hts, hXs, hbl, hL, hK, hN, hAd, hBd, hinA, hinB, hdis⟩ := C0
  have hbA : ¬ AL s b := Nat.not_le.mpr hbl
  obtain ⟨v, S1, ok1, ⟨d1, hd1, hX⟩, ⟨d2, hd2, hM⟩⟩ := pr_obstacle l D cI cB cO A B S ok (xs (i + 1)) (xs (i + 2)) (xs (i + 3))
  refine lv_aload_n hx hb dL_law_492 rfl (lv_at hl 1 rfl) ?_
  refine lv_aload_n hx hb dL_law_493 rfl (lv_at hl 0 rfl) ?_
  refine lv_iload_n hx hb dL_law_494 rfl (lv_at hl 3 rfl) ?_
  refine lv_iconst (v := 1) hx hb dL_law_495 (by decide) ?_
  refine lv_iadd hx hb dL_law_496 ?_
  refine lv_topi (fun y_493 e_493 => ?_)
  have e_493 : nI (i + 1) = y_493 := (e_493.trans (nI_add i 1)).symm
  subst e_493
  refine va_sld hx hb hXs hbl hbA hS (vp_in_nI (N := L) (n := i + 1) (by omega) (by omega)) dL_law_497 ?_
  rw [nI_clamp (n := i + 1) (by omega)]
  refine lv_aload_n hx hb dL_law_498 rfl (lv_at hl 0 rfl) ?_
  refine lv_iload_n hx hb dL_law_499 rfl (lv_at hl 3 rfl) ?_
  refine lv_iconst (v := 2) hx hb dL_law_500 (by decide) ?_
  refine lv_iadd hx hb dL_law_501 ?_
  refine lv_topi (fun y_498 e_498 => ?_)
  have e_498 : nI (i + 2) = y_498 := (e_498.trans (nI_add i 2)).symm
  subst e_498
  refine va_sld hx hb hXs hbl hbA hS (vp_in_nI (N := L) (n := i + 2) (by omega) (by omega)) dL_law_502 ?_
  rw [nI_clamp (n := i + 2) (by omega)]
  refine lv_aload_n hx hb dL_law_503 rfl (lv_at hl 0 rfl) ?_
  refine lv_iload_n hx hb dL_law_504 rfl (lv_at hl 3 rfl) ?_
  refine lv_iconst (v := 3) hx hb dL_law_505 (by decide) ?_
  refine lv_iadd hx hb dL_law_506 ?_
  refine lv_topi (fun y_503 e_503 => ?_)
  have e_503 : nI (i + 3) = y_503 := (e_503.trans (nI_add i 3)).symm
  subst e_503
  refine va_sld hx hb hXs hbl hbA hS (vp_in_nI (N := L) (n := i + 3) (by omega) (by omega)) dL_law_507 ?_
  rw [nI_clamp (n := i + 3) (by omega)]
  refine law_calli (WO := fun H => SRq D cI cB cO A H S1) (WK := fun H => MRq D cI cB cO B H S) hS hinA (fun H1 h1 => hJ.kept (fun q hq hz => h1 q hz (fun hw => hdis q hw hq))) (va_runV (As := [.int (xs (i + 1)), .int (xs (i + 2)), .int (xs (i + 3))]) (rest := []) ⟨hx, hb, hml, hown, hts⟩ hX (cwV 3 hts gL_law_X6_obstacle rfl rfl rfl (by decide +kernel) ⟨(show d1 + 1 ≤ 2048 by omega), (show 8 + (5 + 11) + 40 * d1 ≤ 84000 by omega)⟩) (law_preX hK hI hN hAd) rfl rfl hl.1 rfl (lv_room (Nat.le_of_ble_eq_true rfl)) dL_law_508 ⟨Nat.le_of_ble_eq_true rfl, Nat.le_of_ble_eq_true rfl⟩) (fun H1 locs1 hI1 hJ1 hS => ?_)
  refine lv_aload_n hx hb dL_law_511 rfl (lv_at hl 2 rfl) ?_
  refine lv_aload_n hx hb dL_law_512 rfl (lv_at hl 0 rfl) ?_
  refine lv_iload_n hx hb dL_law_513 rfl (lv_at hl 3 rfl) ?_
  refine lv_iconst (v := 1) hx hb dL_law_514 (by decide) ?_
  refine lv_iadd hx hb dL_law_515 ?_
  refine lv_topi (fun y_512 e_512 => ?_)
  have e_512 : nI (i + 1) = y_512 := (e_512.trans (nI_add i 1)).symm
  subst e_512
  refine va_sld hx hb hXs hbl hbA hS (vp_in_nI (N := L) (n := i + 1) (by omega) (by omega)) dL_law_516 ?_
  rw [nI_clamp (n := i + 1) (by omega)]
  refine lv_aload_n hx hb dL_law_517 rfl (lv_at hl 0 rfl) ?_
  refine lv_iload_n hx hb dL_law_518 rfl (lv_at hl 3 rfl) ?_
  refine lv_iconst (v := 2) hx hb dL_law_519 (by decide) ?_
  refine lv_iadd hx hb dL_law_520 ?_
  refine lv_topi (fun y_517 e_517 => ?_)
  have e_517 : nI (i + 2) = y_517 := (e_517.trans (nI_add i 2)).symm
  subst e_517
  refine va_sld hx hb hXs hbl hbA hS (vp_in_nI (N := L) (n := i + 2) (by omega) (by omega)) dL_law_521 ?_
  rw [nI_clamp (n := i + 2) (by omega)]
  refine lv_aload_n hx hb dL_law_522 rfl (lv_at hl 0 rfl) ?_
  refine lv_iload_n hx hb dL_law_523 rfl (lv_at hl 3 rfl) ?_
  refine lv_iconst (v := 3) hx hb dL_law_524 (by decide) ?_
  refine lv_iadd hx hb dL_law_525 ?_
  refine lv_topi (fun y_522 e_522 => ?_)
  have e_522 : nI (i + 3) = y_522 := (e_522.trans (nI_add i 3)).symm
  subst e_522
  refine va_sld hx hb hXs hbl hbA hS (vp_in_nI (N := L) (n := i + 3) (by omega) (by omega)) dL_law_526 ?_
  rw [nI_clamp (n := i + 3) (by omega)]
  refine law_calli (WO := fun H => MRq D cI cB cO B H S1) (WK := fun H => SRq D cI cB cO A H S1) hS hinB (fun H1 h1 => hI1.kept (fun q hq hz => h1 q hz (fun hw => hdis q hq hw))) (va_runV (As := [.int (xs (i + 1)), .int (xs (i + 2)), .int (xs (i + 3))]) (rest := [.int v]) ⟨hx, hb, hml, hown, hts⟩ hM (cwV 3 hts gL_law_X7_obstacle rfl rfl rfl (by decide +kernel) ⟨(show d2 + 1 ≤ 2048 by omega), (show 8 + (11 + 11) + 40 * d2 ≤ 84000 by omega)⟩) (law_preM hK hJ1 hN hBd) rfl rfl hl.1 rfl (lv_room (Nat.le_of_ble_eq_true rfl)) dL_law_527 ⟨Nat.le_of_ble_eq_true rfl, Nat.le_of_ble_eq_true rfl⟩) (fun H2 locs2 hJ2 hI2 hS => ?_)
  refine lv_icmp_eq (tgt := 895) hx hb dL_law_530 (by decide) (fun c_9 => ?_) (fun c_9 => ?_)
  · exact kk S1 H2 locs2 ok1 hI2 hJ2 hS
  · exact absurd rfl c_9
set_option maxHeartbeats 4000000 in
set_option maxRecDepth 100000 in
theorem law_neededMast {p : Program} {l : Launch} {e : Env} {s : State} {m : MethodId} {below : List Frame} {meth : Method} {c : Code} {b L : Nat} {xs : Nat → Int32} {D : va_G} {cI cB cO : ClassId} {A B : Nat → Nat} {Q : State → Prop} (C0 : LC p s m meth c b L xs D cI cB cO A B) {S : StT} (ok : okQ S) {H : Heap} {locs : List Loc} {i : Nat} (hi : i + 4 ≤ L) (hI : SRq D cI cB cO A H S) (hJ : MRq D cI cB cO B H S) (hS : va_S (AL s) s.heap H locs) {ls : Array Slot} (hl : lv_has ls 4 [(0, .ref b), (1, .ref (A 0)), (2, .ref (B 0)), (3, .int (nI i))])
    (kk : ∀ (S1 : StT) (H1 : Heap) (locs1 : List Loc), okQ S1 → SRq D cI cB cO A H1 S1 → MRq D cI cB cO B H1 S1 → va_S (AL s) s.heap H1 locs1 → W p l e room_1 s m #[Value.ref b] below meth c H1 locs1 60 1543 Q (F0 m 895 ls [])) : W p l e room_1 s m #[Value.ref b] below meth c H locs 60 1543 Q (F0 m 535 ls []) := by
  obtain ⟨hx, hb, hml, hown, hts, hXs, hbl, hL, hK, hN, hAd, hBd, hinA, hinB, hdis⟩ := C0
  have hbA : ¬ AL s b := Nat.not_le.mpr hbl
  obtain ⟨v, S1, ok1, ⟨d1, hd1, hX⟩, ⟨d2, hd2, hM⟩⟩ := pr_neededMast l D cI cB cO A B S ok (xs (i + 1)) (xs (i + 2))
  refine lv_aload_n hx hb dL_law_535 rfl (lv_at hl 1 rfl) ?_
  refine lv_aload_n hx hb dL_law_536 rfl (lv_at hl 0 rfl) ?_
  refine lv_iload_n hx hb dL_law_537 rfl (lv_at hl 3 rfl) ?_
  refine lv_iconst (v := 1) hx hb dL_law_538 (by decide) ?_
  refine lv_iadd hx hb dL_law_539 ?_
  refine lv_topi (fun y_536 e_536 => ?_)
  have e_536 : nI (i + 1) = y_536 := (e_536.trans (nI_add i 1)).symm
  subst e_536
  refine va_sld hx hb hXs hbl hbA hS (vp_in_nI (N := L) (n := i + 1) (by omega) (by omega)) dL_law_540 ?_
  rw [nI_clamp (n := i + 1) (by omega)]
  refine lv_aload_n hx hb dL_law_541 rfl (lv_at hl 0 rfl) ?_
  refine lv_iload_n hx hb dL_law_542 rfl (lv_at hl 3 rfl) ?_
  refine lv_iconst (v := 2) hx hb dL_law_543 (by decide) ?_
  refine lv_iadd hx hb dL_law_544 ?_
  refine lv_topi (fun y_541 e_541 => ?_)
  have e_541 : nI (i + 2) = y_541 := (e_541.trans (nI_add i 2)).symm
  subst e_541
  refine va_sld hx hb hXs hbl hbA hS (vp_in_nI (N := L) (n := i + 2) (by omega) (by omega)) dL_law_545 ?_
  rw [nI_clamp (n := i + 2) (by omega)]
  refine law_calli (WO := fun H => SRq D cI cB cO A H S1) (WK := fun H => MRq D cI cB cO B H S) hS hinA (fun H1 h1 => hJ.kept (fun q hq hz => h1 q hz (fun hw => hdis q hw hq))) (va_runV (As := [.int (xs (i + 1)), .int (xs (i + 2))]) (rest := []) ⟨hx, hb, hml, hown, hts⟩ hX (cwV 2 hts gL_law_X6_neededMast rfl rfl rfl (by decide +kernel) ⟨(show d1 + 1 ≤ 2048 by omega), (show 8 + (4 + 11) + 40 * d1 ≤ 84000 by omega)⟩) (law_preX hK hI hN hAd) rfl rfl hl.1 rfl (lv_room (Nat.le_of_ble_eq_true rfl)) dL_law_546 ⟨Nat.le_of_ble_eq_true rfl, Nat.le_of_ble_eq_true rfl⟩) (fun H1 locs1 hI1 hJ1 hS => ?_)
  refine lv_aload_n hx hb dL_law_549 rfl (lv_at hl 2 rfl) ?_
  refine lv_aload_n hx hb dL_law_550 rfl (lv_at hl 0 rfl) ?_
  refine lv_iload_n hx hb dL_law_551 rfl (lv_at hl 3 rfl) ?_
  refine lv_iconst (v := 1) hx hb dL_law_552 (by decide) ?_
  refine lv_iadd hx hb dL_law_553 ?_
  refine lv_topi (fun y_550 e_550 => ?_)
  have e_550 : nI (i + 1) = y_550 := (e_550.trans (nI_add i 1)).symm
  subst e_550
  refine va_sld hx hb hXs hbl hbA hS (vp_in_nI (N := L) (n := i + 1) (by omega) (by omega)) dL_law_554 ?_
  rw [nI_clamp (n := i + 1) (by omega)]
  refine lv_aload_n hx hb dL_law_555 rfl (lv_at hl 0 rfl) ?_
  refine lv_iload_n hx hb dL_law_556 rfl (lv_at hl 3 rfl) ?_
  refine lv_iconst (v := 2) hx hb dL_law_557 (by decide) ?_
  refine lv_iadd hx hb dL_law_558 ?_
  refine lv_topi (fun y_555 e_555 => ?_)
  have e_555 : nI (i + 2) = y_555 := (e_555.trans (nI_add i 2)).symm
  subst e_555
  refine va_sld hx hb hXs hbl hbA hS (vp_in_nI (N := L) (n := i + 2) (by omega) (by omega)) dL_law_559 ?_
  rw [nI_clamp (n := i + 2) (by omega)]
  refine law_calli (WO := fun H => MRq D cI cB cO B H S1) (WK := fun H => SRq D cI cB cO A H S1) hS hinB (fun H1 h1 => hI1.kept (fun q hq hz => h1 q hz (fun hw => hdis q hq hw))) (va_runV (As := [.int (xs (i + 1)), .int (xs (i + 2))]) (rest := [.int v]) ⟨hx, hb, hml, hown, hts⟩ hM (cwV 2 hts gL_law_X7_neededMast rfl rfl rfl (by decide +kernel) ⟨(show d2 + 1 ≤ 2048 by omega), (show 8 + (4 + 11) + 40 * d2 ≤ 84000 by omega)⟩) (law_preM hK hJ1 hN hBd) rfl rfl hl.1 rfl (lv_room (Nat.le_of_ble_eq_true rfl)) dL_law_560 ⟨Nat.le_of_ble_eq_true rfl, Nat.le_of_ble_eq_true rfl⟩) (fun H2 locs2 hJ2 hI2 hS => ?_)
  refine lv_icmp_eq (tgt := 895) hx hb dL_law_563 (by decide) (fun c_9 => ?_) (fun c_9 => ?_)
  · exact kk S1 H2 locs2 ok1 hI2 hJ2 hS
  · exact absurd rfl c_9
set_option maxHeartbeats 4000000 in
set_option maxRecDepth 100000 in
theorem law_growth {p : Program} {l : Launch} {e : Env} {s : State} {m : MethodId} {below : List Frame} {meth : Method} {c : Code} {b L : Nat} {xs : Nat → Int32} {D : va_G} {cI cB cO : ClassId} {A B : Nat → Nat} {Q : State → Prop} (C0 : LC p s m meth c b L xs D cI cB cO A B) {S : StT} (ok : okQ S) {H : Heap} {locs : List Loc} {i : Nat} (hi : i + 4 ≤ L) (hI : SRq D cI cB cO A H S) (hJ : MRq D cI cB cO B H S) (hS : va_S (AL s) s.heap H locs) {ls : Array Slot} (hl : lv_has ls 4 [(0, .ref b), (1, .ref (A 0)), (2, .ref (B 0)), (3, .int (nI i))])
    (kk : ∀ (S1 : StT) (H1 : Heap) (locs1 : List Loc), okQ S1 → SRq D cI cB cO A H1 S1 → MRq D cI cB cO B H1 S1 → va_S (AL s) s.heap H1 locs1 → W p l e room_1 s m #[Value.ref b] below meth c H1 locs1 60 1543 Q (F0 m 895 ls [])) : W p l e room_1 s m #[Value.ref b] below meth c H locs 60 1543 Q (F0 m 568 ls []) := by
  obtain ⟨hx, hb, hml, hown, hts, hXs, hbl, hL, hK, hN, hAd, hBd, hinA, hinB, hdis⟩ := C0
  have hbA : ¬ AL s b := Nat.not_le.mpr hbl
  obtain ⟨v, S1, ok1, ⟨d1, hd1, hX⟩, ⟨d2, hd2, hM⟩⟩ := pr_growth l D cI cB cO A B S ok (xs (i + 1)) (xs (i + 2)) (xs (i + 3))
  refine lv_aload_n hx hb dL_law_568 rfl (lv_at hl 1 rfl) ?_
  refine lv_aload_n hx hb dL_law_569 rfl (lv_at hl 0 rfl) ?_
  refine lv_iload_n hx hb dL_law_570 rfl (lv_at hl 3 rfl) ?_
  refine lv_iconst (v := 1) hx hb dL_law_571 (by decide) ?_
  refine lv_iadd hx hb dL_law_572 ?_
  refine lv_topi (fun y_569 e_569 => ?_)
  have e_569 : nI (i + 1) = y_569 := (e_569.trans (nI_add i 1)).symm
  subst e_569
  refine va_sld hx hb hXs hbl hbA hS (vp_in_nI (N := L) (n := i + 1) (by omega) (by omega)) dL_law_573 ?_
  rw [nI_clamp (n := i + 1) (by omega)]
  refine lv_aload_n hx hb dL_law_574 rfl (lv_at hl 0 rfl) ?_
  refine lv_iload_n hx hb dL_law_575 rfl (lv_at hl 3 rfl) ?_
  refine lv_iconst (v := 2) hx hb dL_law_576 (by decide) ?_
  refine lv_iadd hx hb dL_law_577 ?_
  refine lv_topi (fun y_574 e_574 => ?_)
  have e_574 : nI (i + 2) = y_574 := (e_574.trans (nI_add i 2)).symm
  subst e_574
  refine va_sld hx hb hXs hbl hbA hS (vp_in_nI (N := L) (n := i + 2) (by omega) (by omega)) dL_law_578 ?_
  rw [nI_clamp (n := i + 2) (by omega)]
  refine lv_aload_n hx hb dL_law_579 rfl (lv_at hl 0 rfl) ?_
  refine lv_iload_n hx hb dL_law_580 rfl (lv_at hl 3 rfl) ?_
  refine lv_iconst (v := 3) hx hb dL_law_581 (by decide) ?_
  refine lv_iadd hx hb dL_law_582 ?_
  refine lv_topi (fun y_579 e_579 => ?_)
  have e_579 : nI (i + 3) = y_579 := (e_579.trans (nI_add i 3)).symm
  subst e_579
  refine va_sld hx hb hXs hbl hbA hS (vp_in_nI (N := L) (n := i + 3) (by omega) (by omega)) dL_law_583 ?_
  rw [nI_clamp (n := i + 3) (by omega)]
  refine law_calli (WO := fun H => SRq D cI cB cO A H S1) (WK := fun H => MRq D cI cB cO B H S) hS hinA (fun H1 h1 => hJ.kept (fun q hq hz => h1 q hz (fun hw => hdis q hw hq))) (va_runV (As := [.int (xs (i + 1)), .int (xs (i + 2)), .int (xs (i + 3))]) (rest := []) ⟨hx, hb, hml, hown, hts⟩ hX (cwV 3 hts gL_law_X6_growth rfl rfl rfl (by decide +kernel) ⟨(show d1 + 1 ≤ 2048 by omega), (show 8 + (8 + 11) + 40 * d1 ≤ 84000 by omega)⟩) (law_preX hK hI hN hAd) rfl rfl hl.1 rfl (lv_room (Nat.le_of_ble_eq_true rfl)) dL_law_584 ⟨Nat.le_of_ble_eq_true rfl, Nat.le_of_ble_eq_true rfl⟩) (fun H1 locs1 hI1 hJ1 hS => ?_)
  refine lv_aload_n hx hb dL_law_587 rfl (lv_at hl 2 rfl) ?_
  refine lv_aload_n hx hb dL_law_588 rfl (lv_at hl 0 rfl) ?_
  refine lv_iload_n hx hb dL_law_589 rfl (lv_at hl 3 rfl) ?_
  refine lv_iconst (v := 1) hx hb dL_law_590 (by decide) ?_
  refine lv_iadd hx hb dL_law_591 ?_
  refine lv_topi (fun y_588 e_588 => ?_)
  have e_588 : nI (i + 1) = y_588 := (e_588.trans (nI_add i 1)).symm
  subst e_588
  refine va_sld hx hb hXs hbl hbA hS (vp_in_nI (N := L) (n := i + 1) (by omega) (by omega)) dL_law_592 ?_
  rw [nI_clamp (n := i + 1) (by omega)]
  refine lv_aload_n hx hb dL_law_593 rfl (lv_at hl 0 rfl) ?_
  refine lv_iload_n hx hb dL_law_594 rfl (lv_at hl 3 rfl) ?_
  refine lv_iconst (v := 2) hx hb dL_law_595 (by decide) ?_
  refine lv_iadd hx hb dL_law_596 ?_
  refine lv_topi (fun y_593 e_593 => ?_)
  have e_593 : nI (i + 2) = y_593 := (e_593.trans (nI_add i 2)).symm
  subst e_593
  refine va_sld hx hb hXs hbl hbA hS (vp_in_nI (N := L) (n := i + 2) (by omega) (by omega)) dL_law_597 ?_
  rw [nI_clamp (n := i + 2) (by omega)]
  refine lv_aload_n hx hb dL_law_598 rfl (lv_at hl 0 rfl) ?_
  refine lv_iload_n hx hb dL_law_599 rfl (lv_at hl 3 rfl) ?_
  refine lv_iconst (v := 3) hx hb dL_law_600 (by decide) ?_
  refine lv_iadd hx hb dL_law_601 ?_
  refine lv_topi (fun y_598 e_598 => ?_)
  have e_598 : nI (i + 3) = y_598 := (e_598.trans (nI_add i 3)).symm
  subst e_598
  refine va_sld hx hb hXs hbl hbA hS (vp_in_nI (N := L) (n := i + 3) (by omega) (by omega)) dL_law_602 ?_
  rw [nI_clamp (n := i + 3) (by omega)]
  refine law_calli (WO := fun H => MRq D cI cB cO B H S1) (WK := fun H => SRq D cI cB cO A H S1) hS hinB (fun H1 h1 => hI1.kept (fun q hq hz => h1 q hz (fun hw => hdis q hq hw))) (va_runV (As := [.int (xs (i + 1)), .int (xs (i + 2)), .int (xs (i + 3))]) (rest := [.int v]) ⟨hx, hb, hml, hown, hts⟩ hM (cwV 3 hts gL_law_X7_growth rfl rfl rfl (by decide +kernel) ⟨(show d2 + 1 ≤ 2048 by omega), (show 8 + (8 + 11) + 40 * d2 ≤ 84000 by omega)⟩) (law_preM hK hJ1 hN hBd) rfl rfl hl.1 rfl (lv_room (Nat.le_of_ble_eq_true rfl)) dL_law_603 ⟨Nat.le_of_ble_eq_true rfl, Nat.le_of_ble_eq_true rfl⟩) (fun H2 locs2 hJ2 hI2 hS => ?_)
  refine lv_icmp_eq (tgt := 895) hx hb dL_law_606 (by decide) (fun c_9 => ?_) (fun c_9 => ?_)
  · exact kk S1 H2 locs2 ok1 hI2 hJ2 hS
  · exact absurd rfl c_9
set_option maxHeartbeats 4000000 in
set_option maxRecDepth 100000 in
theorem law_shadow {p : Program} {l : Launch} {e : Env} {s : State} {m : MethodId} {below : List Frame} {meth : Method} {c : Code} {b L : Nat} {xs : Nat → Int32} {D : va_G} {cI cB cO : ClassId} {A B : Nat → Nat} {Q : State → Prop} (C0 : LC p s m meth c b L xs D cI cB cO A B) {S : StT} (ok : okQ S) {H : Heap} {locs : List Loc} {i : Nat} (hi : i + 4 ≤ L) (hI : SRq D cI cB cO A H S) (hJ : MRq D cI cB cO B H S) (hS : va_S (AL s) s.heap H locs) {ls : Array Slot} (hl : lv_has ls 4 [(0, .ref b), (1, .ref (A 0)), (2, .ref (B 0)), (3, .int (nI i))])
    (kk : ∀ (S1 : StT) (H1 : Heap) (locs1 : List Loc), okQ S1 → SRq D cI cB cO A H1 S1 → MRq D cI cB cO B H1 S1 → va_S (AL s) s.heap H1 locs1 → W p l e room_1 s m #[Value.ref b] below meth c H1 locs1 60 1543 Q (F0 m 895 ls [])) : W p l e room_1 s m #[Value.ref b] below meth c H locs 60 1543 Q (F0 m 611 ls []) := by
  obtain ⟨hx, hb, hml, hown, hts, hXs, hbl, hL, hK, hN, hAd, hBd, hinA, hinB, hdis⟩ := C0
  have hbA : ¬ AL s b := Nat.not_le.mpr hbl
  obtain ⟨v, S1, ok1, ⟨d1, hd1, hX⟩, ⟨d2, hd2, hM⟩⟩ := pr_shadow l D cI cB cO A B S ok (xs (i + 1)) (xs (i + 2)) (xs (i + 3))
  refine lv_aload_n hx hb dL_law_611 rfl (lv_at hl 1 rfl) ?_
  refine lv_aload_n hx hb dL_law_612 rfl (lv_at hl 0 rfl) ?_
  refine lv_iload_n hx hb dL_law_613 rfl (lv_at hl 3 rfl) ?_
  refine lv_iconst (v := 1) hx hb dL_law_614 (by decide) ?_
  refine lv_iadd hx hb dL_law_615 ?_
  refine lv_topi (fun y_612 e_612 => ?_)
  have e_612 : nI (i + 1) = y_612 := (e_612.trans (nI_add i 1)).symm
  subst e_612
  refine va_sld hx hb hXs hbl hbA hS (vp_in_nI (N := L) (n := i + 1) (by omega) (by omega)) dL_law_616 ?_
  rw [nI_clamp (n := i + 1) (by omega)]
  refine lv_aload_n hx hb dL_law_617 rfl (lv_at hl 0 rfl) ?_
  refine lv_iload_n hx hb dL_law_618 rfl (lv_at hl 3 rfl) ?_
  refine lv_iconst (v := 2) hx hb dL_law_619 (by decide) ?_
  refine lv_iadd hx hb dL_law_620 ?_
  refine lv_topi (fun y_617 e_617 => ?_)
  have e_617 : nI (i + 2) = y_617 := (e_617.trans (nI_add i 2)).symm
  subst e_617
  refine va_sld hx hb hXs hbl hbA hS (vp_in_nI (N := L) (n := i + 2) (by omega) (by omega)) dL_law_621 ?_
  rw [nI_clamp (n := i + 2) (by omega)]
  refine lv_aload_n hx hb dL_law_622 rfl (lv_at hl 0 rfl) ?_
  refine lv_iload_n hx hb dL_law_623 rfl (lv_at hl 3 rfl) ?_
  refine lv_iconst (v := 3) hx hb dL_law_624 (by decide) ?_
  refine lv_iadd hx hb dL_law_625 ?_
  refine lv_topi (fun y_622 e_622 => ?_)
  have e_622 : nI (i + 3) = y_622 := (e_622.trans (nI_add i 3)).symm
  subst e_622
  refine va_sld hx hb hXs hbl hbA hS (vp_in_nI (N := L) (n := i + 3) (by omega) (by omega)) dL_law_626 ?_
  rw [nI_clamp (n := i + 3) (by omega)]
  refine law_calli (WO := fun H => SRq D cI cB cO A H S1) (WK := fun H => MRq D cI cB cO B H S) hS hinA (fun H1 h1 => hJ.kept (fun q hq hz => h1 q hz (fun hw => hdis q hw hq))) (va_runV (As := [.int (xs (i + 1)), .int (xs (i + 2)), .int (xs (i + 3))]) (rest := []) ⟨hx, hb, hml, hown, hts⟩ hX (cwV 3 hts gL_law_X6_shadow rfl rfl rfl (by decide +kernel) ⟨(show d1 + 1 ≤ 2048 by omega), (show 8 + (6 + 11) + 40 * d1 ≤ 84000 by omega)⟩) (law_preX hK hI hN hAd) rfl rfl hl.1 rfl (lv_room (Nat.le_of_ble_eq_true rfl)) dL_law_627 ⟨Nat.le_of_ble_eq_true rfl, Nat.le_of_ble_eq_true rfl⟩) (fun H1 locs1 hI1 hJ1 hS => ?_)
  refine lv_aload_n hx hb dL_law_630 rfl (lv_at hl 2 rfl) ?_
  refine lv_aload_n hx hb dL_law_631 rfl (lv_at hl 0 rfl) ?_
  refine lv_iload_n hx hb dL_law_632 rfl (lv_at hl 3 rfl) ?_
  refine lv_iconst (v := 1) hx hb dL_law_633 (by decide) ?_
  refine lv_iadd hx hb dL_law_634 ?_
  refine lv_topi (fun y_631 e_631 => ?_)
  have e_631 : nI (i + 1) = y_631 := (e_631.trans (nI_add i 1)).symm
  subst e_631
  refine va_sld hx hb hXs hbl hbA hS (vp_in_nI (N := L) (n := i + 1) (by omega) (by omega)) dL_law_635 ?_
  rw [nI_clamp (n := i + 1) (by omega)]
  refine lv_aload_n hx hb dL_law_636 rfl (lv_at hl 0 rfl) ?_
  refine lv_iload_n hx hb dL_law_637 rfl (lv_at hl 3 rfl) ?_
  refine lv_iconst (v := 2) hx hb dL_law_638 (by decide) ?_
  refine lv_iadd hx hb dL_law_639 ?_
  refine lv_topi (fun y_636 e_636 => ?_)
  have e_636 : nI (i + 2) = y_636 := (e_636.trans (nI_add i 2)).symm
  subst e_636
  refine va_sld hx hb hXs hbl hbA hS (vp_in_nI (N := L) (n := i + 2) (by omega) (by omega)) dL_law_640 ?_
  rw [nI_clamp (n := i + 2) (by omega)]
  refine lv_aload_n hx hb dL_law_641 rfl (lv_at hl 0 rfl) ?_
  refine lv_iload_n hx hb dL_law_642 rfl (lv_at hl 3 rfl) ?_
  refine lv_iconst (v := 3) hx hb dL_law_643 (by decide) ?_
  refine lv_iadd hx hb dL_law_644 ?_
  refine lv_topi (fun y_641 e_641 => ?_)
  have e_641 : nI (i + 3) = y_641 := (e_641.trans (nI_add i 3)).symm
  subst e_641
  refine va_sld hx hb hXs hbl hbA hS (vp_in_nI (N := L) (n := i + 3) (by omega) (by omega)) dL_law_645 ?_
  rw [nI_clamp (n := i + 3) (by omega)]
  refine law_calli (WO := fun H => MRq D cI cB cO B H S1) (WK := fun H => SRq D cI cB cO A H S1) hS hinB (fun H1 h1 => hI1.kept (fun q hq hz => h1 q hz (fun hw => hdis q hq hw))) (va_runV (As := [.int (xs (i + 1)), .int (xs (i + 2)), .int (xs (i + 3))]) (rest := [.int v]) ⟨hx, hb, hml, hown, hts⟩ hM (cwV 3 hts gL_law_X7_shadow rfl rfl rfl (by decide +kernel) ⟨(show d2 + 1 ≤ 2048 by omega), (show 8 + (10 + 11) + 40 * d2 ≤ 84000 by omega)⟩) (law_preM hK hJ1 hN hBd) rfl rfl hl.1 rfl (lv_room (Nat.le_of_ble_eq_true rfl)) dL_law_646 ⟨Nat.le_of_ble_eq_true rfl, Nat.le_of_ble_eq_true rfl⟩) (fun H2 locs2 hJ2 hI2 hS => ?_)
  refine lv_icmp_eq (tgt := 895) hx hb dL_law_649 (by decide) (fun c_9 => ?_) (fun c_9 => ?_)
  · exact kk S1 H2 locs2 ok1 hI2 hJ2 hS
  · exact absurd rfl c_9
set_option maxHeartbeats 4000000 in
set_option maxRecDepth 100000 in
theorem law_farthest {p : Program} {l : Launch} {e : Env} {s : State} {m : MethodId} {below : List Frame} {meth : Method} {c : Code} {b L : Nat} {xs : Nat → Int32} {D : va_G} {cI cB cO : ClassId} {A B : Nat → Nat} {Q : State → Prop} (C0 : LC p s m meth c b L xs D cI cB cO A B) {S : StT} (ok : okQ S) {H : Heap} {locs : List Loc} {i : Nat} (hi : i + 4 ≤ L) (hI : SRq D cI cB cO A H S) (hJ : MRq D cI cB cO B H S) (hS : va_S (AL s) s.heap H locs) {ls : Array Slot} (hl : lv_has ls 4 [(0, .ref b), (1, .ref (A 0)), (2, .ref (B 0)), (3, .int (nI i))])
    (kk : ∀ (S1 : StT) (H1 : Heap) (locs1 : List Loc), okQ S1 → SRq D cI cB cO A H1 S1 → MRq D cI cB cO B H1 S1 → va_S (AL s) s.heap H1 locs1 → W p l e room_1 s m #[Value.ref b] below meth c H1 locs1 60 1543 Q (F0 m 895 ls [])) : W p l e room_1 s m #[Value.ref b] below meth c H locs 60 1543 Q (F0 m 654 ls []) := by
  obtain ⟨hx, hb, hml, hown, hts, hXs, hbl, hL, hK, hN, hAd, hBd, hinA, hinB, hdis⟩ := C0
  have hbA : ¬ AL s b := Nat.not_le.mpr hbl
  obtain ⟨v, S1, ok1, ⟨d1, hd1, hX⟩, ⟨d2, hd2, hM⟩⟩ := pr_farthest l D cI cB cO A B S ok 
  refine lv_aload_n hx hb dL_law_654 rfl (lv_at hl 1 rfl) ?_
  refine law_calli (WO := fun H => SRq D cI cB cO A H S1) (WK := fun H => MRq D cI cB cO B H S) hS hinA (fun H1 h1 => hJ.kept (fun q hq hz => h1 q hz (fun hw => hdis q hw hq))) (va_runV (As := []) (rest := []) ⟨hx, hb, hml, hown, hts⟩ hX (cwV 0 hts gL_law_X6_farthest rfl rfl rfl (by decide +kernel) ⟨(show d1 + 1 ≤ 2048 by omega), (show 8 + (5 + 11) + 40 * d1 ≤ 84000 by omega)⟩) (law_preX hK hI hN hAd) rfl rfl hl.1 rfl (lv_room (Nat.le_of_ble_eq_true rfl)) dL_law_655 ⟨Nat.le_of_ble_eq_true rfl, Nat.le_of_ble_eq_true rfl⟩) (fun H1 locs1 hI1 hJ1 hS => ?_)
  refine lv_aload_n hx hb dL_law_658 rfl (lv_at hl 2 rfl) ?_
  refine law_calli (WO := fun H => MRq D cI cB cO B H S1) (WK := fun H => SRq D cI cB cO A H S1) hS hinB (fun H1 h1 => hI1.kept (fun q hq hz => h1 q hz (fun hw => hdis q hq hw))) (va_runV (As := []) (rest := [.int v]) ⟨hx, hb, hml, hown, hts⟩ hM (cwV 0 hts gL_law_X7_farthest rfl rfl rfl (by decide +kernel) ⟨(show d2 + 1 ≤ 2048 by omega), (show 8 + (6 + 11) + 40 * d2 ≤ 84000 by omega)⟩) (law_preM hK hJ1 hN hBd) rfl rfl hl.1 rfl (lv_room (Nat.le_of_ble_eq_true rfl)) dL_law_659 ⟨Nat.le_of_ble_eq_true rfl, Nat.le_of_ble_eq_true rfl⟩) (fun H2 locs2 hJ2 hI2 hS => ?_)
  refine lv_icmp_eq (tgt := 895) hx hb dL_law_662 (by decide) (fun c_9 => ?_) (fun c_9 => ?_)
  · exact kk S1 H2 locs2 ok1 hI2 hJ2 hS
  · exact absurd rfl c_9
set_option maxHeartbeats 4000000 in
set_option maxRecDepth 100000 in
theorem law_chain {p : Program} {l : Launch} {e : Env} {s : State} {m : MethodId} {below : List Frame} {meth : Method} {c : Code} {b L : Nat} {xs : Nat → Int32} {D : va_G} {cI cB cO : ClassId} {A B : Nat → Nat} {Q : State → Prop} (C0 : LC p s m meth c b L xs D cI cB cO A B) {S : StT} (ok : okQ S) {H : Heap} {locs : List Loc} {i : Nat} (hi : i + 4 ≤ L) (hI : SRq D cI cB cO A H S) (hJ : MRq D cI cB cO B H S) (hS : va_S (AL s) s.heap H locs) {ls : Array Slot} (hl : lv_has ls 4 [(0, .ref b), (1, .ref (A 0)), (2, .ref (B 0)), (3, .int (nI i))])
    (kk : ∀ (S1 : StT) (H1 : Heap) (locs1 : List Loc), okQ S1 → SRq D cI cB cO A H1 S1 → MRq D cI cB cO B H1 S1 → va_S (AL s) s.heap H1 locs1 → W p l e room_1 s m #[Value.ref b] below meth c H1 locs1 60 1543 Q (F0 m 895 ls [])) : W p l e room_1 s m #[Value.ref b] below meth c H locs 60 1543 Q (F0 m 667 ls []) := by
  obtain ⟨hx, hb, hml, hown, hts, hXs, hbl, hL, hK, hN, hAd, hBd, hinA, hinB, hdis⟩ := C0
  have hbA : ¬ AL s b := Nat.not_le.mpr hbl
  obtain ⟨v, S1, ok1, ⟨d1, hd1, hX⟩, ⟨d2, hd2, hM⟩⟩ := pr_chain l D cI cB cO A B S ok (xs (i + 1)) (xs (i + 2))
  refine lv_aload_n hx hb dL_law_667 rfl (lv_at hl 1 rfl) ?_
  refine lv_aload_n hx hb dL_law_668 rfl (lv_at hl 0 rfl) ?_
  refine lv_iload_n hx hb dL_law_669 rfl (lv_at hl 3 rfl) ?_
  refine lv_iconst (v := 1) hx hb dL_law_670 (by decide) ?_
  refine lv_iadd hx hb dL_law_671 ?_
  refine lv_topi (fun y_668 e_668 => ?_)
  have e_668 : nI (i + 1) = y_668 := (e_668.trans (nI_add i 1)).symm
  subst e_668
  refine va_sld hx hb hXs hbl hbA hS (vp_in_nI (N := L) (n := i + 1) (by omega) (by omega)) dL_law_672 ?_
  rw [nI_clamp (n := i + 1) (by omega)]
  refine lv_aload_n hx hb dL_law_673 rfl (lv_at hl 0 rfl) ?_
  refine lv_iload_n hx hb dL_law_674 rfl (lv_at hl 3 rfl) ?_
  refine lv_iconst (v := 2) hx hb dL_law_675 (by decide) ?_
  refine lv_iadd hx hb dL_law_676 ?_
  refine lv_topi (fun y_673 e_673 => ?_)
  have e_673 : nI (i + 2) = y_673 := (e_673.trans (nI_add i 2)).symm
  subst e_673
  refine va_sld hx hb hXs hbl hbA hS (vp_in_nI (N := L) (n := i + 2) (by omega) (by omega)) dL_law_677 ?_
  rw [nI_clamp (n := i + 2) (by omega)]
  refine law_calli (WO := fun H => SRq D cI cB cO A H S1) (WK := fun H => MRq D cI cB cO B H S) hS hinA (fun H1 h1 => hJ.kept (fun q hq hz => h1 q hz (fun hw => hdis q hw hq))) (va_runV (As := [.int (xs (i + 1)), .int (xs (i + 2))]) (rest := []) ⟨hx, hb, hml, hown, hts⟩ hX (cwV 2 hts gL_law_X6_chain rfl rfl rfl (by decide +kernel) ⟨(show d1 + 1 ≤ 2048 by omega), (show 8 + (3 + 11) + 40 * d1 ≤ 84000 by omega)⟩) (law_preX hK hI hN hAd) rfl rfl hl.1 rfl (lv_room (Nat.le_of_ble_eq_true rfl)) dL_law_678 ⟨Nat.le_of_ble_eq_true rfl, Nat.le_of_ble_eq_true rfl⟩) (fun H1 locs1 hI1 hJ1 hS => ?_)
  refine lv_aload_n hx hb dL_law_681 rfl (lv_at hl 2 rfl) ?_
  refine lv_aload_n hx hb dL_law_682 rfl (lv_at hl 0 rfl) ?_
  refine lv_iload_n hx hb dL_law_683 rfl (lv_at hl 3 rfl) ?_
  refine lv_iconst (v := 1) hx hb dL_law_684 (by decide) ?_
  refine lv_iadd hx hb dL_law_685 ?_
  refine lv_topi (fun y_682 e_682 => ?_)
  have e_682 : nI (i + 1) = y_682 := (e_682.trans (nI_add i 1)).symm
  subst e_682
  refine va_sld hx hb hXs hbl hbA hS (vp_in_nI (N := L) (n := i + 1) (by omega) (by omega)) dL_law_686 ?_
  rw [nI_clamp (n := i + 1) (by omega)]
  refine lv_aload_n hx hb dL_law_687 rfl (lv_at hl 0 rfl) ?_
  refine lv_iload_n hx hb dL_law_688 rfl (lv_at hl 3 rfl) ?_
  refine lv_iconst (v := 2) hx hb dL_law_689 (by decide) ?_
  refine lv_iadd hx hb dL_law_690 ?_
  refine lv_topi (fun y_687 e_687 => ?_)
  have e_687 : nI (i + 2) = y_687 := (e_687.trans (nI_add i 2)).symm
  subst e_687
  refine va_sld hx hb hXs hbl hbA hS (vp_in_nI (N := L) (n := i + 2) (by omega) (by omega)) dL_law_691 ?_
  rw [nI_clamp (n := i + 2) (by omega)]
  refine law_calli (WO := fun H => MRq D cI cB cO B H S1) (WK := fun H => SRq D cI cB cO A H S1) hS hinB (fun H1 h1 => hI1.kept (fun q hq hz => h1 q hz (fun hw => hdis q hq hw))) (va_runV (As := [.int (xs (i + 1)), .int (xs (i + 2))]) (rest := [.int v]) ⟨hx, hb, hml, hown, hts⟩ hM (cwV 2 hts gL_law_X7_chain rfl rfl rfl (by decide +kernel) ⟨(show d2 + 1 ≤ 2048 by omega), (show 8 + (8 + 11) + 40 * d2 ≤ 84000 by omega)⟩) (law_preM hK hJ1 hN hBd) rfl rfl hl.1 rfl (lv_room (Nat.le_of_ble_eq_true rfl)) dL_law_692 ⟨Nat.le_of_ble_eq_true rfl, Nat.le_of_ble_eq_true rfl⟩) (fun H2 locs2 hJ2 hI2 hS => ?_)
  refine lv_icmp_eq (tgt := 895) hx hb dL_law_695 (by decide) (fun c_9 => ?_) (fun c_9 => ?_)
  · exact kk S1 H2 locs2 ok1 hI2 hJ2 hS
  · exact absurd rfl c_9
set_option maxHeartbeats 4000000 in
set_option maxRecDepth 100000 in
theorem law_newMasts {p : Program} {l : Launch} {e : Env} {s : State} {m : MethodId} {below : List Frame} {meth : Method} {c : Code} {b L : Nat} {xs : Nat → Int32} {D : va_G} {cI cB cO : ClassId} {A B : Nat → Nat} {Q : State → Prop} (C0 : LC p s m meth c b L xs D cI cB cO A B) {S : StT} (ok : okQ S) {H : Heap} {locs : List Loc} {i : Nat} (hi : i + 4 ≤ L) (hI : SRq D cI cB cO A H S) (hJ : MRq D cI cB cO B H S) (hS : va_S (AL s) s.heap H locs) {ls : Array Slot} (hl : lv_has ls 4 [(0, .ref b), (1, .ref (A 0)), (2, .ref (B 0)), (3, .int (nI i))])
    (kk : ∀ (S1 : StT) (H1 : Heap) (locs1 : List Loc), okQ S1 → SRq D cI cB cO A H1 S1 → MRq D cI cB cO B H1 S1 → va_S (AL s) s.heap H1 locs1 → W p l e room_1 s m #[Value.ref b] below meth c H1 locs1 60 1543 Q (F0 m 895 ls [])) : W p l e room_1 s m #[Value.ref b] below meth c H locs 60 1543 Q (F0 m 700 ls []) := by
  obtain ⟨hx, hb, hml, hown, hts, hXs, hbl, hL, hK, hN, hAd, hBd, hinA, hinB, hdis⟩ := C0
  have hbA : ¬ AL s b := Nat.not_le.mpr hbl
  obtain ⟨v, S1, ok1, ⟨d1, hd1, hX⟩, ⟨d2, hd2, hM⟩⟩ := pr_newMasts l D cI cB cO A B S ok (xs (i + 1)) (xs (i + 2)) (xs (i + 3))
  refine lv_aload_n hx hb dL_law_700 rfl (lv_at hl 1 rfl) ?_
  refine lv_aload_n hx hb dL_law_701 rfl (lv_at hl 0 rfl) ?_
  refine lv_iload_n hx hb dL_law_702 rfl (lv_at hl 3 rfl) ?_
  refine lv_iconst (v := 1) hx hb dL_law_703 (by decide) ?_
  refine lv_iadd hx hb dL_law_704 ?_
  refine lv_topi (fun y_701 e_701 => ?_)
  have e_701 : nI (i + 1) = y_701 := (e_701.trans (nI_add i 1)).symm
  subst e_701
  refine va_sld hx hb hXs hbl hbA hS (vp_in_nI (N := L) (n := i + 1) (by omega) (by omega)) dL_law_705 ?_
  rw [nI_clamp (n := i + 1) (by omega)]
  refine lv_aload_n hx hb dL_law_706 rfl (lv_at hl 0 rfl) ?_
  refine lv_iload_n hx hb dL_law_707 rfl (lv_at hl 3 rfl) ?_
  refine lv_iconst (v := 2) hx hb dL_law_708 (by decide) ?_
  refine lv_iadd hx hb dL_law_709 ?_
  refine lv_topi (fun y_706 e_706 => ?_)
  have e_706 : nI (i + 2) = y_706 := (e_706.trans (nI_add i 2)).symm
  subst e_706
  refine va_sld hx hb hXs hbl hbA hS (vp_in_nI (N := L) (n := i + 2) (by omega) (by omega)) dL_law_710 ?_
  rw [nI_clamp (n := i + 2) (by omega)]
  refine lv_aload_n hx hb dL_law_711 rfl (lv_at hl 0 rfl) ?_
  refine lv_iload_n hx hb dL_law_712 rfl (lv_at hl 3 rfl) ?_
  refine lv_iconst (v := 3) hx hb dL_law_713 (by decide) ?_
  refine lv_iadd hx hb dL_law_714 ?_
  refine lv_topi (fun y_711 e_711 => ?_)
  have e_711 : nI (i + 3) = y_711 := (e_711.trans (nI_add i 3)).symm
  subst e_711
  refine va_sld hx hb hXs hbl hbA hS (vp_in_nI (N := L) (n := i + 3) (by omega) (by omega)) dL_law_715 ?_
  rw [nI_clamp (n := i + 3) (by omega)]
  refine law_calli (WO := fun H => SRq D cI cB cO A H S1) (WK := fun H => MRq D cI cB cO B H S) hS hinA (fun H1 h1 => hJ.kept (fun q hq hz => h1 q hz (fun hw => hdis q hw hq))) (va_runV (As := [.int (xs (i + 1)), .int (xs (i + 2)), .int (xs (i + 3))]) (rest := []) ⟨hx, hb, hml, hown, hts⟩ hX (cwV 3 hts gL_law_X6_newMasts rfl rfl rfl (by decide +kernel) ⟨(show d1 + 1 ≤ 2048 by omega), (show 8 + (4 + 11) + 40 * d1 ≤ 84000 by omega)⟩) (law_preX hK hI hN hAd) rfl rfl hl.1 rfl (lv_room (Nat.le_of_ble_eq_true rfl)) dL_law_716 ⟨Nat.le_of_ble_eq_true rfl, Nat.le_of_ble_eq_true rfl⟩) (fun H1 locs1 hI1 hJ1 hS => ?_)
  refine lv_aload_n hx hb dL_law_719 rfl (lv_at hl 2 rfl) ?_
  refine lv_aload_n hx hb dL_law_720 rfl (lv_at hl 0 rfl) ?_
  refine lv_iload_n hx hb dL_law_721 rfl (lv_at hl 3 rfl) ?_
  refine lv_iconst (v := 1) hx hb dL_law_722 (by decide) ?_
  refine lv_iadd hx hb dL_law_723 ?_
  refine lv_topi (fun y_720 e_720 => ?_)
  have e_720 : nI (i + 1) = y_720 := (e_720.trans (nI_add i 1)).symm
  subst e_720
  refine va_sld hx hb hXs hbl hbA hS (vp_in_nI (N := L) (n := i + 1) (by omega) (by omega)) dL_law_724 ?_
  rw [nI_clamp (n := i + 1) (by omega)]
  refine lv_aload_n hx hb dL_law_725 rfl (lv_at hl 0 rfl) ?_
  refine lv_iload_n hx hb dL_law_726 rfl (lv_at hl 3 rfl) ?_
  refine lv_iconst (v := 2) hx hb dL_law_727 (by decide) ?_
  refine lv_iadd hx hb dL_law_728 ?_
  refine lv_topi (fun y_725 e_725 => ?_)
  have e_725 : nI (i + 2) = y_725 := (e_725.trans (nI_add i 2)).symm
  subst e_725
  refine va_sld hx hb hXs hbl hbA hS (vp_in_nI (N := L) (n := i + 2) (by omega) (by omega)) dL_law_729 ?_
  rw [nI_clamp (n := i + 2) (by omega)]
  refine lv_aload_n hx hb dL_law_730 rfl (lv_at hl 0 rfl) ?_
  refine lv_iload_n hx hb dL_law_731 rfl (lv_at hl 3 rfl) ?_
  refine lv_iconst (v := 3) hx hb dL_law_732 (by decide) ?_
  refine lv_iadd hx hb dL_law_733 ?_
  refine lv_topi (fun y_730 e_730 => ?_)
  have e_730 : nI (i + 3) = y_730 := (e_730.trans (nI_add i 3)).symm
  subst e_730
  refine va_sld hx hb hXs hbl hbA hS (vp_in_nI (N := L) (n := i + 3) (by omega) (by omega)) dL_law_734 ?_
  rw [nI_clamp (n := i + 3) (by omega)]
  refine law_calli (WO := fun H => MRq D cI cB cO B H S1) (WK := fun H => SRq D cI cB cO A H S1) hS hinB (fun H1 h1 => hI1.kept (fun q hq hz => h1 q hz (fun hw => hdis q hq hw))) (va_runV (As := [.int (xs (i + 1)), .int (xs (i + 2)), .int (xs (i + 3))]) (rest := [.int v]) ⟨hx, hb, hml, hown, hts⟩ hM (cwV 3 hts gL_law_X7_newMasts rfl rfl rfl (by decide +kernel) ⟨(show d2 + 1 ≤ 2048 by omega), (show 8 + (8 + 11) + 40 * d2 ≤ 84000 by omega)⟩) (law_preM hK hJ1 hN hBd) rfl rfl hl.1 rfl (lv_room (Nat.le_of_ble_eq_true rfl)) dL_law_735 ⟨Nat.le_of_ble_eq_true rfl, Nat.le_of_ble_eq_true rfl⟩) (fun H2 locs2 hJ2 hI2 hS => ?_)
  refine lv_icmp_eq (tgt := 895) hx hb dL_law_738 (by decide) (fun c_9 => ?_) (fun c_9 => ?_)
  · exact kk S1 H2 locs2 ok1 hI2 hJ2 hS
  · exact absurd rfl c_9
set_option maxHeartbeats 4000000 in
set_option maxRecDepth 100000 in
theorem law_vital {p : Program} {l : Launch} {e : Env} {s : State} {m : MethodId} {below : List Frame} {meth : Method} {c : Code} {b L : Nat} {xs : Nat → Int32} {D : va_G} {cI cB cO : ClassId} {A B : Nat → Nat} {Q : State → Prop} (C0 : LC p s m meth c b L xs D cI cB cO A B) {S : StT} (ok : okQ S) {H : Heap} {locs : List Loc} {i : Nat} (hi : i + 4 ≤ L) (hI : SRq D cI cB cO A H S) (hJ : MRq D cI cB cO B H S) (hS : va_S (AL s) s.heap H locs) {ls : Array Slot} (hl : lv_has ls 4 [(0, .ref b), (1, .ref (A 0)), (2, .ref (B 0)), (3, .int (nI i))])
    (kk : ∀ (S1 : StT) (H1 : Heap) (locs1 : List Loc), okQ S1 → SRq D cI cB cO A H1 S1 → MRq D cI cB cO B H1 S1 → va_S (AL s) s.heap H1 locs1 → W p l e room_1 s m #[Value.ref b] below meth c H1 locs1 60 1543 Q (F0 m 895 ls [])) : W p l e room_1 s m #[Value.ref b] below meth c H locs 60 1543 Q (F0 m 743 ls []) := by
  obtain ⟨hx, hb, hml, hown, hts, hXs, hbl, hL, hK, hN, hAd, hBd, hinA, hinB, hdis⟩ := C0
  have hbA : ¬ AL s b := Nat.not_le.mpr hbl
  obtain ⟨v, S1, ok1, ⟨d1, hd1, hX⟩, ⟨d2, hd2, hM⟩⟩ := pr_vital l D cI cB cO A B S ok (xs (i + 1)) (xs (i + 2))
  refine lv_aload_n hx hb dL_law_743 rfl (lv_at hl 1 rfl) ?_
  refine lv_aload_n hx hb dL_law_744 rfl (lv_at hl 0 rfl) ?_
  refine lv_iload_n hx hb dL_law_745 rfl (lv_at hl 3 rfl) ?_
  refine lv_iconst (v := 1) hx hb dL_law_746 (by decide) ?_
  refine lv_iadd hx hb dL_law_747 ?_
  refine lv_topi (fun y_744 e_744 => ?_)
  have e_744 : nI (i + 1) = y_744 := (e_744.trans (nI_add i 1)).symm
  subst e_744
  refine va_sld hx hb hXs hbl hbA hS (vp_in_nI (N := L) (n := i + 1) (by omega) (by omega)) dL_law_748 ?_
  rw [nI_clamp (n := i + 1) (by omega)]
  refine lv_aload_n hx hb dL_law_749 rfl (lv_at hl 0 rfl) ?_
  refine lv_iload_n hx hb dL_law_750 rfl (lv_at hl 3 rfl) ?_
  refine lv_iconst (v := 2) hx hb dL_law_751 (by decide) ?_
  refine lv_iadd hx hb dL_law_752 ?_
  refine lv_topi (fun y_749 e_749 => ?_)
  have e_749 : nI (i + 2) = y_749 := (e_749.trans (nI_add i 2)).symm
  subst e_749
  refine va_sld hx hb hXs hbl hbA hS (vp_in_nI (N := L) (n := i + 2) (by omega) (by omega)) dL_law_753 ?_
  rw [nI_clamp (n := i + 2) (by omega)]
  refine law_calli (WO := fun H => SRq D cI cB cO A H S1) (WK := fun H => MRq D cI cB cO B H S) hS hinA (fun H1 h1 => hJ.kept (fun q hq hz => h1 q hz (fun hw => hdis q hw hq))) (va_runV (As := [.int (xs (i + 1)), .int (xs (i + 2))]) (rest := []) ⟨hx, hb, hml, hown, hts⟩ hX (cwV 2 hts gL_law_X6_vital rfl rfl rfl (by decide +kernel) ⟨(show d1 + 1 ≤ 2048 by omega), (show 8 + (4 + 11) + 40 * d1 ≤ 84000 by omega)⟩) (law_preX hK hI hN hAd) rfl rfl hl.1 rfl (lv_room (Nat.le_of_ble_eq_true rfl)) dL_law_754 ⟨Nat.le_of_ble_eq_true rfl, Nat.le_of_ble_eq_true rfl⟩) (fun H1 locs1 hI1 hJ1 hS => ?_)
  refine lv_aload_n hx hb dL_law_757 rfl (lv_at hl 2 rfl) ?_
  refine lv_aload_n hx hb dL_law_758 rfl (lv_at hl 0 rfl) ?_
  refine lv_iload_n hx hb dL_law_759 rfl (lv_at hl 3 rfl) ?_
  refine lv_iconst (v := 1) hx hb dL_law_760 (by decide) ?_
  refine lv_iadd hx hb dL_law_761 ?_
  refine lv_topi (fun y_758 e_758 => ?_)
  have e_758 : nI (i + 1) = y_758 := (e_758.trans (nI_add i 1)).symm
  subst e_758
  refine va_sld hx hb hXs hbl hbA hS (vp_in_nI (N := L) (n := i + 1) (by omega) (by omega)) dL_law_762 ?_
  rw [nI_clamp (n := i + 1) (by omega)]
  refine lv_aload_n hx hb dL_law_763 rfl (lv_at hl 0 rfl) ?_
  refine lv_iload_n hx hb dL_law_764 rfl (lv_at hl 3 rfl) ?_
  refine lv_iconst (v := 2) hx hb dL_law_765 (by decide) ?_
  refine lv_iadd hx hb dL_law_766 ?_
  refine lv_topi (fun y_763 e_763 => ?_)
  have e_763 : nI (i + 2) = y_763 := (e_763.trans (nI_add i 2)).symm
  subst e_763
  refine va_sld hx hb hXs hbl hbA hS (vp_in_nI (N := L) (n := i + 2) (by omega) (by omega)) dL_law_767 ?_
  rw [nI_clamp (n := i + 2) (by omega)]
  refine law_calli (WO := fun H => MRq D cI cB cO B H S1) (WK := fun H => SRq D cI cB cO A H S1) hS hinB (fun H1 h1 => hI1.kept (fun q hq hz => h1 q hz (fun hw => hdis q hq hw))) (va_runV (As := [.int (xs (i + 1)), .int (xs (i + 2))]) (rest := [.int v]) ⟨hx, hb, hml, hown, hts⟩ hM (cwV 2 hts gL_law_X7_vital rfl rfl rfl (by decide +kernel) ⟨(show d2 + 1 ≤ 2048 by omega), (show 8 + (6 + 11) + 40 * d2 ≤ 84000 by omega)⟩) (law_preM hK hJ1 hN hBd) rfl rfl hl.1 rfl (lv_room (Nat.le_of_ble_eq_true rfl)) dL_law_768 ⟨Nat.le_of_ble_eq_true rfl, Nat.le_of_ble_eq_true rfl⟩) (fun H2 locs2 hJ2 hI2 hS => ?_)
  refine lv_icmp_eq (tgt := 895) hx hb dL_law_771 (by decide) (fun c_9 => ?_) (fun c_9 => ?_)
  · exact kk S1 H2 locs2 ok1 hI2 hJ2 hS
  · exact absurd rfl c_9
set_option maxHeartbeats 4000000 in
set_option maxRecDepth 100000 in
theorem law_finding {p : Program} {l : Launch} {e : Env} {s : State} {m : MethodId} {below : List Frame} {meth : Method} {c : Code} {b L : Nat} {xs : Nat → Int32} {D : va_G} {cI cB cO : ClassId} {A B : Nat → Nat} {Q : State → Prop} (C0 : LC p s m meth c b L xs D cI cB cO A B) {S : StT} (ok : okQ S) {H : Heap} {locs : List Loc} {i : Nat} (hi : i + 4 ≤ L) (hI : SRq D cI cB cO A H S) (hJ : MRq D cI cB cO B H S) (hS : va_S (AL s) s.heap H locs) {ls : Array Slot} (hl : lv_has ls 4 [(0, .ref b), (1, .ref (A 0)), (2, .ref (B 0)), (3, .int (nI i))])
    (kk : ∀ (S1 : StT) (H1 : Heap) (locs1 : List Loc), okQ S1 → SRq D cI cB cO A H1 S1 → MRq D cI cB cO B H1 S1 → va_S (AL s) s.heap H1 locs1 → W p l e room_1 s m #[Value.ref b] below meth c H1 locs1 60 1543 Q (F0 m 895 ls [])) : W p l e room_1 s m #[Value.ref b] below meth c H locs 60 1543 Q (F0 m 776 ls []) := by
  obtain ⟨hx, hb, hml, hown, hts, hXs, hbl, hL, hK, hN, hAd, hBd, hinA, hinB, hdis⟩ := C0
  have hbA : ¬ AL s b := Nat.not_le.mpr hbl
  obtain ⟨v, S1, ok1, ⟨d1, hd1, hX⟩, ⟨d2, hd2, hM⟩⟩ := pr_finding l D cI cB cO A B S ok (xs (i + 1))
  refine lv_aload_n hx hb dL_law_776 rfl (lv_at hl 1 rfl) ?_
  refine lv_aload_n hx hb dL_law_777 rfl (lv_at hl 0 rfl) ?_
  refine lv_iload_n hx hb dL_law_778 rfl (lv_at hl 3 rfl) ?_
  refine lv_iconst (v := 1) hx hb dL_law_779 (by decide) ?_
  refine lv_iadd hx hb dL_law_780 ?_
  refine lv_topi (fun y_777 e_777 => ?_)
  have e_777 : nI (i + 1) = y_777 := (e_777.trans (nI_add i 1)).symm
  subst e_777
  refine va_sld hx hb hXs hbl hbA hS (vp_in_nI (N := L) (n := i + 1) (by omega) (by omega)) dL_law_781 ?_
  rw [nI_clamp (n := i + 1) (by omega)]
  refine law_calli (WO := fun H => SRq D cI cB cO A H S1) (WK := fun H => MRq D cI cB cO B H S) hS hinA (fun H1 h1 => hJ.kept (fun q hq hz => h1 q hz (fun hw => hdis q hw hq))) (va_runV (As := [.int (xs (i + 1))]) (rest := []) ⟨hx, hb, hml, hown, hts⟩ hX (cwV 1 hts gL_law_X6_finding rfl rfl rfl (by decide +kernel) ⟨(show d1 + 1 ≤ 2048 by omega), (show 8 + (2 + 11) + 40 * d1 ≤ 84000 by omega)⟩) (law_preX hK hI hN hAd) rfl rfl hl.1 rfl (lv_room (Nat.le_of_ble_eq_true rfl)) dL_law_782 ⟨Nat.le_of_ble_eq_true rfl, Nat.le_of_ble_eq_true rfl⟩) (fun H1 locs1 hI1 hJ1 hS => ?_)
  refine lv_aload_n hx hb dL_law_785 rfl (lv_at hl 2 rfl) ?_
  refine lv_aload_n hx hb dL_law_786 rfl (lv_at hl 0 rfl) ?_
  refine lv_iload_n hx hb dL_law_787 rfl (lv_at hl 3 rfl) ?_
  refine lv_iconst (v := 1) hx hb dL_law_788 (by decide) ?_
  refine lv_iadd hx hb dL_law_789 ?_
  refine lv_topi (fun y_786 e_786 => ?_)
  have e_786 : nI (i + 1) = y_786 := (e_786.trans (nI_add i 1)).symm
  subst e_786
  refine va_sld hx hb hXs hbl hbA hS (vp_in_nI (N := L) (n := i + 1) (by omega) (by omega)) dL_law_790 ?_
  rw [nI_clamp (n := i + 1) (by omega)]
  refine law_calli (WO := fun H => MRq D cI cB cO B H S1) (WK := fun H => SRq D cI cB cO A H S1) hS hinB (fun H1 h1 => hI1.kept (fun q hq hz => h1 q hz (fun hw => hdis q hq hw))) (va_runV (As := [.int (xs (i + 1))]) (rest := [.int v]) ⟨hx, hb, hml, hown, hts⟩ hM (cwV 1 hts gL_law_X7_finding rfl rfl rfl (by decide +kernel) ⟨(show d2 + 1 ≤ 2048 by omega), (show 8 + (2 + 11) + 40 * d2 ≤ 84000 by omega)⟩) (law_preM hK hJ1 hN hBd) rfl rfl hl.1 rfl (lv_room (Nat.le_of_ble_eq_true rfl)) dL_law_791 ⟨Nat.le_of_ble_eq_true rfl, Nat.le_of_ble_eq_true rfl⟩) (fun H2 locs2 hJ2 hI2 hS => ?_)
  refine lv_icmp_eq (tgt := 895) hx hb dL_law_794 (by decide) (fun c_9 => ?_) (fun c_9 => ?_)
  · exact kk S1 H2 locs2 ok1 hI2 hJ2 hS
  · exact absurd rfl c_9
set_option maxHeartbeats 4000000 in
set_option maxRecDepth 100000 in
theorem law_groups {p : Program} {l : Launch} {e : Env} {s : State} {m : MethodId} {below : List Frame} {meth : Method} {c : Code} {b L : Nat} {xs : Nat → Int32} {D : va_G} {cI cB cO : ClassId} {A B : Nat → Nat} {Q : State → Prop} (C0 : LC p s m meth c b L xs D cI cB cO A B) {S : StT} (ok : okQ S) {H : Heap} {locs : List Loc} {i : Nat} (hi : i + 4 ≤ L) (hI : SRq D cI cB cO A H S) (hJ : MRq D cI cB cO B H S) (hS : va_S (AL s) s.heap H locs) {ls : Array Slot} (hl : lv_has ls 4 [(0, .ref b), (1, .ref (A 0)), (2, .ref (B 0)), (3, .int (nI i))])
    (kk : ∀ (S1 : StT) (H1 : Heap) (locs1 : List Loc), okQ S1 → SRq D cI cB cO A H1 S1 → MRq D cI cB cO B H1 S1 → va_S (AL s) s.heap H1 locs1 → W p l e room_1 s m #[Value.ref b] below meth c H1 locs1 60 1543 Q (F0 m 895 ls [])) : W p l e room_1 s m #[Value.ref b] below meth c H locs 60 1543 Q (F0 m 799 ls []) := by
  obtain ⟨hx, hb, hml, hown, hts, hXs, hbl, hL, hK, hN, hAd, hBd, hinA, hinB, hdis⟩ := C0
  have hbA : ¬ AL s b := Nat.not_le.mpr hbl
  obtain ⟨v, S1, ok1, ⟨d1, hd1, hX⟩, ⟨d2, hd2, hM⟩⟩ := pr_groups l D cI cB cO A B S ok 
  refine lv_aload_n hx hb dL_law_799 rfl (lv_at hl 1 rfl) ?_
  refine law_calli (WO := fun H => SRq D cI cB cO A H S1) (WK := fun H => MRq D cI cB cO B H S) hS hinA (fun H1 h1 => hJ.kept (fun q hq hz => h1 q hz (fun hw => hdis q hw hq))) (va_runV (As := []) (rest := []) ⟨hx, hb, hml, hown, hts⟩ hX (cwV 0 hts gL_law_X6_groups rfl rfl rfl (by decide +kernel) ⟨(show d1 + 1 ≤ 2048 by omega), (show 8 + (1 + 11) + 40 * d1 ≤ 84000 by omega)⟩) (law_preX hK hI hN hAd) rfl rfl hl.1 rfl (lv_room (Nat.le_of_ble_eq_true rfl)) dL_law_800 ⟨Nat.le_of_ble_eq_true rfl, Nat.le_of_ble_eq_true rfl⟩) (fun H1 locs1 hI1 hJ1 hS => ?_)
  refine lv_aload_n hx hb dL_law_803 rfl (lv_at hl 2 rfl) ?_
  refine law_calli (WO := fun H => MRq D cI cB cO B H S1) (WK := fun H => SRq D cI cB cO A H S1) hS hinB (fun H1 h1 => hI1.kept (fun q hq hz => h1 q hz (fun hw => hdis q hq hw))) (va_runV (As := []) (rest := [.int v]) ⟨hx, hb, hml, hown, hts⟩ hM (cwV 0 hts gL_law_X7_groups rfl rfl rfl (by decide +kernel) ⟨(show d2 + 1 ≤ 2048 by omega), (show 8 + (6 + 11) + 40 * d2 ≤ 84000 by omega)⟩) (law_preM hK hJ1 hN hBd) rfl rfl hl.1 rfl (lv_room (Nat.le_of_ble_eq_true rfl)) dL_law_804 ⟨Nat.le_of_ble_eq_true rfl, Nat.le_of_ble_eq_true rfl⟩) (fun H2 locs2 hJ2 hI2 hS => ?_)
  refine lv_icmp_eq (tgt := 895) hx hb dL_law_807 (by decide) (fun c_9 => ?_) (fun c_9 => ?_)
  · exact kk S1 H2 locs2 ok1 hI2 hJ2 hS
  · exact absurd rfl c_9
set_option maxHeartbeats 4000000 in
set_option maxRecDepth 100000 in
theorem law_watch {p : Program} {l : Launch} {e : Env} {s : State} {m : MethodId} {below : List Frame} {meth : Method} {c : Code} {b L : Nat} {xs : Nat → Int32} {D : va_G} {cI cB cO : ClassId} {A B : Nat → Nat} {Q : State → Prop} (C0 : LC p s m meth c b L xs D cI cB cO A B) {S : StT} (ok : okQ S) {H : Heap} {locs : List Loc} {i : Nat} (hi : i + 4 ≤ L) (hI : SRq D cI cB cO A H S) (hJ : MRq D cI cB cO B H S) (hS : va_S (AL s) s.heap H locs) {ls : Array Slot} (hl : lv_has ls 4 [(0, .ref b), (1, .ref (A 0)), (2, .ref (B 0)), (3, .int (nI i))])
    (kk : ∀ (S1 : StT) (H1 : Heap) (locs1 : List Loc), okQ S1 → SRq D cI cB cO A H1 S1 → MRq D cI cB cO B H1 S1 → va_S (AL s) s.heap H1 locs1 → W p l e room_1 s m #[Value.ref b] below meth c H1 locs1 60 1543 Q (F0 m 895 ls [])) : W p l e room_1 s m #[Value.ref b] below meth c H locs 60 1543 Q (F0 m 812 ls []) := by
  obtain ⟨hx, hb, hml, hown, hts, hXs, hbl, hL, hK, hN, hAd, hBd, hinA, hinB, hdis⟩ := C0
  have hbA : ¬ AL s b := Nat.not_le.mpr hbl
  obtain ⟨v, S1, ok1, ⟨d1, hd1, hX⟩, ⟨d2, hd2, hM⟩⟩ := pr_watch l D cI cB cO A B S ok (xs (i + 1))
  refine lv_aload_n hx hb dL_law_812 rfl (lv_at hl 1 rfl) ?_
  refine lv_aload_n hx hb dL_law_813 rfl (lv_at hl 0 rfl) ?_
  refine lv_iload_n hx hb dL_law_814 rfl (lv_at hl 3 rfl) ?_
  refine lv_iconst (v := 1) hx hb dL_law_815 (by decide) ?_
  refine lv_iadd hx hb dL_law_816 ?_
  refine lv_topi (fun y_813 e_813 => ?_)
  have e_813 : nI (i + 1) = y_813 := (e_813.trans (nI_add i 1)).symm
  subst e_813
  refine va_sld hx hb hXs hbl hbA hS (vp_in_nI (N := L) (n := i + 1) (by omega) (by omega)) dL_law_817 ?_
  rw [nI_clamp (n := i + 1) (by omega)]
  refine law_calli (WO := fun H => SRq D cI cB cO A H S1) (WK := fun H => MRq D cI cB cO B H S) hS hinA (fun H1 h1 => hJ.kept (fun q hq hz => h1 q hz (fun hw => hdis q hw hq))) (va_runV (As := [.int (xs (i + 1))]) (rest := []) ⟨hx, hb, hml, hown, hts⟩ hX (cwV 1 hts gL_law_X6_watch rfl rfl rfl (by decide +kernel) ⟨(show d1 + 1 ≤ 2048 by omega), (show 8 + (3 + 11) + 40 * d1 ≤ 84000 by omega)⟩) (law_preX hK hI hN hAd) rfl rfl hl.1 rfl (lv_room (Nat.le_of_ble_eq_true rfl)) dL_law_818 ⟨Nat.le_of_ble_eq_true rfl, Nat.le_of_ble_eq_true rfl⟩) (fun H1 locs1 hI1 hJ1 hS => ?_)
  refine lv_aload_n hx hb dL_law_821 rfl (lv_at hl 2 rfl) ?_
  refine lv_aload_n hx hb dL_law_822 rfl (lv_at hl 0 rfl) ?_
  refine lv_iload_n hx hb dL_law_823 rfl (lv_at hl 3 rfl) ?_
  refine lv_iconst (v := 1) hx hb dL_law_824 (by decide) ?_
  refine lv_iadd hx hb dL_law_825 ?_
  refine lv_topi (fun y_822 e_822 => ?_)
  have e_822 : nI (i + 1) = y_822 := (e_822.trans (nI_add i 1)).symm
  subst e_822
  refine va_sld hx hb hXs hbl hbA hS (vp_in_nI (N := L) (n := i + 1) (by omega) (by omega)) dL_law_826 ?_
  rw [nI_clamp (n := i + 1) (by omega)]
  refine law_calli (WO := fun H => MRq D cI cB cO B H S1) (WK := fun H => SRq D cI cB cO A H S1) hS hinB (fun H1 h1 => hI1.kept (fun q hq hz => h1 q hz (fun hw => hdis q hq hw))) (va_runV (As := [.int (xs (i + 1))]) (rest := [.int v]) ⟨hx, hb, hml, hown, hts⟩ hM (cwV 1 hts gL_law_X7_watch rfl rfl rfl (by decide +kernel) ⟨(show d2 + 1 ≤ 2048 by omega), (show 8 + (6 + 11) + 40 * d2 ≤ 84000 by omega)⟩) (law_preM hK hJ1 hN hBd) rfl rfl hl.1 rfl (lv_room (Nat.le_of_ble_eq_true rfl)) dL_law_827 ⟨Nat.le_of_ble_eq_true rfl, Nat.le_of_ble_eq_true rfl⟩) (fun H2 locs2 hJ2 hI2 hS => ?_)
  refine lv_icmp_eq (tgt := 895) hx hb dL_law_830 (by decide) (fun c_9 => ?_) (fun c_9 => ?_)
  · exact kk S1 H2 locs2 ok1 hI2 hJ2 hS
  · exact absurd rfl c_9
set_option maxHeartbeats 4000000 in
set_option maxRecDepth 100000 in
theorem law_watched {p : Program} {l : Launch} {e : Env} {s : State} {m : MethodId} {below : List Frame} {meth : Method} {c : Code} {b L : Nat} {xs : Nat → Int32} {D : va_G} {cI cB cO : ClassId} {A B : Nat → Nat} {Q : State → Prop} (C0 : LC p s m meth c b L xs D cI cB cO A B) {S : StT} (ok : okQ S) {H : Heap} {locs : List Loc} {i : Nat} (hi : i + 4 ≤ L) (hI : SRq D cI cB cO A H S) (hJ : MRq D cI cB cO B H S) (hS : va_S (AL s) s.heap H locs) {ls : Array Slot} (hl : lv_has ls 4 [(0, .ref b), (1, .ref (A 0)), (2, .ref (B 0)), (3, .int (nI i))])
    (kk : ∀ (S1 : StT) (H1 : Heap) (locs1 : List Loc), okQ S1 → SRq D cI cB cO A H1 S1 → MRq D cI cB cO B H1 S1 → va_S (AL s) s.heap H1 locs1 → W p l e room_1 s m #[Value.ref b] below meth c H1 locs1 60 1543 Q (F0 m 895 ls [])) : W p l e room_1 s m #[Value.ref b] below meth c H locs 60 1543 Q (F0 m 835 ls []) := by
  obtain ⟨hx, hb, hml, hown, hts, hXs, hbl, hL, hK, hN, hAd, hBd, hinA, hinB, hdis⟩ := C0
  have hbA : ¬ AL s b := Nat.not_le.mpr hbl
  obtain ⟨v, S1, ok1, ⟨d1, hd1, hX⟩, ⟨d2, hd2, hM⟩⟩ := pr_watched l D cI cB cO A B S ok (xs (i + 1))
  refine lv_aload_n hx hb dL_law_835 rfl (lv_at hl 1 rfl) ?_
  refine lv_aload_n hx hb dL_law_836 rfl (lv_at hl 0 rfl) ?_
  refine lv_iload_n hx hb dL_law_837 rfl (lv_at hl 3 rfl) ?_
  refine lv_iconst (v := 1) hx hb dL_law_838 (by decide) ?_
  refine lv_iadd hx hb dL_law_839 ?_
  refine lv_topi (fun y_836 e_836 => ?_)
  have e_836 : nI (i + 1) = y_836 := (e_836.trans (nI_add i 1)).symm
  subst e_836
  refine va_sld hx hb hXs hbl hbA hS (vp_in_nI (N := L) (n := i + 1) (by omega) (by omega)) dL_law_840 ?_
  rw [nI_clamp (n := i + 1) (by omega)]
  refine law_calli (WO := fun H => SRq D cI cB cO A H S1) (WK := fun H => MRq D cI cB cO B H S) hS hinA (fun H1 h1 => hJ.kept (fun q hq hz => h1 q hz (fun hw => hdis q hw hq))) (va_runV (As := [.int (xs (i + 1))]) (rest := []) ⟨hx, hb, hml, hown, hts⟩ hX (cwV 1 hts gL_law_X6_watched rfl rfl rfl (by decide +kernel) ⟨(show d1 + 1 ≤ 2048 by omega), (show 8 + (4 + 11) + 40 * d1 ≤ 84000 by omega)⟩) (law_preX hK hI hN hAd) rfl rfl hl.1 rfl (lv_room (Nat.le_of_ble_eq_true rfl)) dL_law_841 ⟨Nat.le_of_ble_eq_true rfl, Nat.le_of_ble_eq_true rfl⟩) (fun H1 locs1 hI1 hJ1 hS => ?_)
  refine lv_aload_n hx hb dL_law_844 rfl (lv_at hl 2 rfl) ?_
  refine lv_aload_n hx hb dL_law_845 rfl (lv_at hl 0 rfl) ?_
  refine lv_iload_n hx hb dL_law_846 rfl (lv_at hl 3 rfl) ?_
  refine lv_iconst (v := 1) hx hb dL_law_847 (by decide) ?_
  refine lv_iadd hx hb dL_law_848 ?_
  refine lv_topi (fun y_845 e_845 => ?_)
  have e_845 : nI (i + 1) = y_845 := (e_845.trans (nI_add i 1)).symm
  subst e_845
  refine va_sld hx hb hXs hbl hbA hS (vp_in_nI (N := L) (n := i + 1) (by omega) (by omega)) dL_law_849 ?_
  rw [nI_clamp (n := i + 1) (by omega)]
  refine law_calli (WO := fun H => MRq D cI cB cO B H S1) (WK := fun H => SRq D cI cB cO A H S1) hS hinB (fun H1 h1 => hI1.kept (fun q hq hz => h1 q hz (fun hw => hdis q hq hw))) (va_runV (As := [.int (xs (i + 1))]) (rest := [.int v]) ⟨hx, hb, hml, hown, hts⟩ hM (cwV 1 hts gL_law_X7_watched rfl rfl rfl (by decide +kernel) ⟨(show d2 + 1 ≤ 2048 by omega), (show 8 + (5 + 11) + 40 * d2 ≤ 84000 by omega)⟩) (law_preM hK hJ1 hN hBd) rfl rfl hl.1 rfl (lv_room (Nat.le_of_ble_eq_true rfl)) dL_law_850 ⟨Nat.le_of_ble_eq_true rfl, Nat.le_of_ble_eq_true rfl⟩) (fun H2 locs2 hJ2 hI2 hS => ?_)
  refine lv_icmp_eq (tgt := 895) hx hb dL_law_853 (by decide) (fun c_9 => ?_) (fun c_9 => ?_)
  · exact kk S1 H2 locs2 ok1 hI2 hJ2 hS
  · exact absurd rfl c_9
set_option maxHeartbeats 4000000 in
set_option maxRecDepth 100000 in
theorem law_count {p : Program} {l : Launch} {e : Env} {s : State} {m : MethodId} {below : List Frame} {meth : Method} {c : Code} {b L : Nat} {xs : Nat → Int32} {D : va_G} {cI cB cO : ClassId} {A B : Nat → Nat} {Q : State → Prop} (C0 : LC p s m meth c b L xs D cI cB cO A B) {S : StT} (ok : okQ S) {H : Heap} {locs : List Loc} {i : Nat} (hi : i + 4 ≤ L) (hI : SRq D cI cB cO A H S) (hJ : MRq D cI cB cO B H S) (hS : va_S (AL s) s.heap H locs) {ls : Array Slot} (hl : lv_has ls 4 [(0, .ref b), (1, .ref (A 0)), (2, .ref (B 0)), (3, .int (nI i))])
    (kk : ∀ (S1 : StT) (H1 : Heap) (locs1 : List Loc), okQ S1 → SRq D cI cB cO A H1 S1 → MRq D cI cB cO B H1 S1 → va_S (AL s) s.heap H1 locs1 → W p l e room_1 s m #[Value.ref b] below meth c H1 locs1 60 1543 Q (F0 m 895 ls [])) : W p l e room_1 s m #[Value.ref b] below meth c H locs 60 1543 Q (F0 m 858 ls []) := by
  obtain ⟨hx, hb, hml, hown, hts, hXs, hbl, hL, hK, hN, hAd, hBd, hinA, hinB, hdis⟩ := C0
  have hbA : ¬ AL s b := Nat.not_le.mpr hbl
  obtain ⟨v, S1, ok1, ⟨d1, hd1, hX⟩, ⟨d2, hd2, hM⟩⟩ := pr_count l D cI cB cO A B S ok (xs (i + 1))
  refine lv_aload_n hx hb dL_law_858 rfl (lv_at hl 1 rfl) ?_
  refine lv_aload_n hx hb dL_law_859 rfl (lv_at hl 0 rfl) ?_
  refine lv_iload_n hx hb dL_law_860 rfl (lv_at hl 3 rfl) ?_
  refine lv_iconst (v := 1) hx hb dL_law_861 (by decide) ?_
  refine lv_iadd hx hb dL_law_862 ?_
  refine lv_topi (fun y_859 e_859 => ?_)
  have e_859 : nI (i + 1) = y_859 := (e_859.trans (nI_add i 1)).symm
  subst e_859
  refine va_sld hx hb hXs hbl hbA hS (vp_in_nI (N := L) (n := i + 1) (by omega) (by omega)) dL_law_863 ?_
  rw [nI_clamp (n := i + 1) (by omega)]
  refine law_calli (WO := fun H => SRq D cI cB cO A H S1) (WK := fun H => MRq D cI cB cO B H S) hS hinA (fun H1 h1 => hJ.kept (fun q hq hz => h1 q hz (fun hw => hdis q hw hq))) (va_runV (As := [.int (xs (i + 1))]) (rest := []) ⟨hx, hb, hml, hown, hts⟩ hX (cwV 1 hts gL_law_X6_count rfl rfl rfl (by decide +kernel) ⟨(show d1 + 1 ≤ 2048 by omega), (show 8 + (2 + 11) + 40 * d1 ≤ 84000 by omega)⟩) (law_preX hK hI hN hAd) rfl rfl hl.1 rfl (lv_room (Nat.le_of_ble_eq_true rfl)) dL_law_864 ⟨Nat.le_of_ble_eq_true rfl, Nat.le_of_ble_eq_true rfl⟩) (fun H1 locs1 hI1 hJ1 hS => ?_)
  refine lv_aload_n hx hb dL_law_867 rfl (lv_at hl 2 rfl) ?_
  refine lv_aload_n hx hb dL_law_868 rfl (lv_at hl 0 rfl) ?_
  refine lv_iload_n hx hb dL_law_869 rfl (lv_at hl 3 rfl) ?_
  refine lv_iconst (v := 1) hx hb dL_law_870 (by decide) ?_
  refine lv_iadd hx hb dL_law_871 ?_
  refine lv_topi (fun y_868 e_868 => ?_)
  have e_868 : nI (i + 1) = y_868 := (e_868.trans (nI_add i 1)).symm
  subst e_868
  refine va_sld hx hb hXs hbl hbA hS (vp_in_nI (N := L) (n := i + 1) (by omega) (by omega)) dL_law_872 ?_
  rw [nI_clamp (n := i + 1) (by omega)]
  refine law_calli (WO := fun H => MRq D cI cB cO B H S1) (WK := fun H => SRq D cI cB cO A H S1) hS hinB (fun H1 h1 => hI1.kept (fun q hq hz => h1 q hz (fun hw => hdis q hq hw))) (va_runV (As := [.int (xs (i + 1))]) (rest := [.int v]) ⟨hx, hb, hml, hown, hts⟩ hM (cwV 1 hts gL_law_X7_count rfl rfl rfl (by decide +kernel) ⟨(show d2 + 1 ≤ 2048 by omega), (show 8 + (2 + 11) + 40 * d2 ≤ 84000 by omega)⟩) (law_preM hK hJ1 hN hBd) rfl rfl hl.1 rfl (lv_room (Nat.le_of_ble_eq_true rfl)) dL_law_873 ⟨Nat.le_of_ble_eq_true rfl, Nat.le_of_ble_eq_true rfl⟩) (fun H2 locs2 hJ2 hI2 hS => ?_)
  refine lv_icmp_eq (tgt := 895) hx hb dL_law_876 (by decide) (fun c_9 => ?_) (fun c_9 => ?_)
  · exact kk S1 H2 locs2 ok1 hI2 hJ2 hS
  · exact absurd rfl c_9
set_option maxHeartbeats 4000000 in
set_option maxRecDepth 100000 in
theorem law_digest {p : Program} {l : Launch} {e : Env} {s : State} {m : MethodId} {below : List Frame} {meth : Method} {c : Code} {b L : Nat} {xs : Nat → Int32} {D : va_G} {cI cB cO : ClassId} {A B : Nat → Nat} {Q : State → Prop} (C0 : LC p s m meth c b L xs D cI cB cO A B) {S : StT} (ok : okQ S) {H : Heap} {locs : List Loc} {i : Nat} (hi : i + 4 ≤ L) (hI : SRq D cI cB cO A H S) (hJ : MRq D cI cB cO B H S) (hS : va_S (AL s) s.heap H locs) {ls : Array Slot} (hl : lv_has ls 4 [(0, .ref b), (1, .ref (A 0)), (2, .ref (B 0)), (3, .int (nI i))])
    (kk : ∀ (S1 : StT) (H1 : Heap) (locs1 : List Loc), okQ S1 → SRq D cI cB cO A H1 S1 → MRq D cI cB cO B H1 S1 → va_S (AL s) s.heap H1 locs1 → W p l e room_1 s m #[Value.ref b] below meth c H1 locs1 60 1543 Q (F0 m 895 ls [])) : W p l e room_1 s m #[Value.ref b] below meth c H locs 60 1543 Q (F0 m 881 ls []) := by
  obtain ⟨hx, hb, hml, hown, hts, hXs, hbl, hL, hK, hN, hAd, hBd, hinA, hinB, hdis⟩ := C0
  have hbA : ¬ AL s b := Nat.not_le.mpr hbl
  obtain ⟨v, S1, ok1, ⟨d1, hd1, hX⟩, ⟨d2, hd2, hM⟩⟩ := pr_digest l D cI cB cO A B S ok 
  refine lv_aload_n hx hb dL_law_881 rfl (lv_at hl 1 rfl) ?_
  refine law_calll (WO := fun H => SRq D cI cB cO A H S1) (WK := fun H => MRq D cI cB cO B H S) hS hinA (fun H1 h1 => hJ.kept (fun q hq hz => h1 q hz (fun hw => hdis q hw hq))) (va_runV (As := []) (rest := []) ⟨hx, hb, hml, hown, hts⟩ hX (cwV 0 hts gL_law_X6_digest rfl rfl rfl (by decide +kernel) ⟨(show d1 + 1 ≤ 2048 by omega), (show 8 + (5 + 11) + 40 * d1 ≤ 84000 by omega)⟩) (law_preX hK hI hN hAd) rfl rfl hl.1 rfl (lv_room (Nat.le_of_ble_eq_true rfl)) dL_law_882 ⟨Nat.le_of_ble_eq_true rfl, Nat.le_of_ble_eq_true rfl⟩) (fun H1 locs1 hI1 hJ1 hS => ?_)
  refine lv_aload_n hx hb dL_law_885 rfl (lv_at hl 2 rfl) ?_
  refine law_calll (WO := fun H => MRq D cI cB cO B H S1) (WK := fun H => SRq D cI cB cO A H S1) hS hinB (fun H1 h1 => hI1.kept (fun q hq hz => h1 q hz (fun hw => hdis q hq hw))) (va_runV (As := []) (rest := [.long v]) ⟨hx, hb, hml, hown, hts⟩ hM (cwV 0 hts gL_law_X7_digest rfl rfl rfl (by decide +kernel) ⟨(show d2 + 1 ≤ 2048 by omega), (show 8 + (2 + 11) + 40 * d2 ≤ 84000 by omega)⟩) (law_preM hK hJ1 hN hBd) rfl rfl hl.1 rfl (lv_room (Nat.le_of_ble_eq_true rfl)) dL_law_886 ⟨Nat.le_of_ble_eq_true rfl, Nat.le_of_ble_eq_true rfl⟩) (fun H2 locs2 hJ2 hI2 hS => ?_)
  refine W.lcmp hx hb dL_law_889 ?_
  rw [cmp_self]
  refine lv_if_eq (tgt := 895) hx hb dL_law_890 (by decide) (fun c_9 => ?_) (fun c_9 => ?_)
  · exact kk S1 H2 locs2 ok1 hI2 hJ2 hS
  · exact absurd rfl c_9
