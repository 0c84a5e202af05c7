/-! THE CLAIM OUT OF ONE WALK OF THE LAW'S BODY. Your part is whole_start (and what it stands on); all else here is the same for every law, but numbers. -/
def R_law : String := "SightRidgeLaw"
def lw_P (b : Addr) (xs : List Int32) (args : Array Value) (s : State) : Prop := args = #[.ref b] ∧ s.IntsAt b xs ∧ xs.length ≤ 260 ∧ (Jvm.Cond.and given_1 narrow_1).before args s = true
def lw_Q (_ : Array Value) (s : State) (o : Outcome) (t : State) : Prop := o = .returned (some (.int 1)) ∧ Framed s o t [] 600000 7302250
def lw_Z (below : List Frame) (a : Array Value) (s : State) : State → Prop := fun t => ∃ o, t.status = .running ∧ Ended t below o ∧ lw_Q a s o t
/-- the law's own end, with 1 on the stack, nothing written that was there before, its room as the claim has it -/
theorem lw_ret {p : Program} {l : Launch} {e : Env} {s : State} {m : MethodId} {below : List Frame} {meth : Method} {c : Code} {b : Nat} (hx : p.tables.exec = Jvm.exec) (hb : c.code = code) (hr : meth.sig.returnType = ret) (hlocks : meth.locks = false) {pc : Nat} {H : Heap} {ls : Array Slot} (hdg : decode code pc = .ok (.ireturn, 1)) : W p l e room_1 s m #[Value.ref b] below meth c H [] 600000 7302250 (lw_Z below #[Value.ref b] s) (F0 m pc ls [.int 1]) := by
  intro T hT X
  obtain ⟨fs, hret, hrun, hended, hW, hframe⟩ := X.leave (v := some (.int 1)) (hlocks := hlocks) (fun h => by rw [hr] at h; cases h)
  have hmeth' : T.vm.method? m = some meth := X.method'
  refine ⟨T.setFrames fs, ?_, .returned (some (.int 1)), hrun, hended, rfl, ⟨_, rfl⟩, hW, hframe⟩
  jvm_step X.here [X.here.top, hx, hb, hdg, hmeth', hr, ret, narrow_b1]
  (try refine ⟨rfl, ?_⟩); (try refine ⟨rfl, ?_⟩)
  first | (intro acts; rw [hret _ acts rfl rfl rfl]) | rw [hret _ _ rfl rfl rfl]
  exact Steps.refl _
/-- what holds at the law's entry: the machine, the code, the tables' words (any of lw_tbl by 'hts w (by decide +kernel)'), the script of L ints xs at the cell b, what the Statement gives of the start (any of its parts by flat_of_before) -/
def lw_At (p : Program) (s : State) (m : MethodId) (meth : Method) (c : Code) (b L : Nat) (xs : Nat → Int32) : Prop :=
  p.tables.exec = Jvm.exec ∧ c.code = code ∧ meth.sig.returnType = ret ∧ c.maxLocals = 5 ∧ s.vm.findClass R_law = some m.cls ∧ (∀ w ∈ lw_tbl, w.before #[Value.ref b] s = true) ∧ va_X b L xs s s.heap ∧ b < s.heap.size ∧ meth.locks = false ∧ (Jvm.Cond.and given_1 narrow_1).before #[Value.ref b] s = true
theorem far_two : A_farthest 2 19 0 (fun _ => 0) (fun _ => 0) = 1 :=
  have hc : conB (fun _ => 0) (fun _ => 0) 19 0 0 1 = true := con_01 ⟨19, by decide, by decide, rfl⟩
  far_eq (d := 1) (v := 1) (by decide) hc (Or.inr ⟨0, 1, ⟨by decide, by decide, hc, Or.inr ⟨rfl, by decide⟩⟩, by decide, rfl, rfl, fun x y q => by have h1 := q.1; have h2 := q.2.1; omega⟩) trivial
abbrev AL (s : State) : Nat → Prop := fun q => s.heap.size ≤ q
theorem gr_preS {b L : Nat} {xs : Nat → Int32} {s : State} {H0 H : Heap} {locs : List Loc} {A0 : Nat → Prop} {As : List Value} {D : va_G} {tys : List (ClassId × FieldType)} {wc : va_W} (hK : va_K D vwCl tys s) (hP : va_P D vwCl wc H) (hD : va_D A0 wc) (hN : NW s) (hX : va_X b L xs s H0) (hbl : b < H0.size) (hbA : ¬ A0 b) (hS : va_S A0 H0 H locs) :
    PreS s H (va_Pc As (fun U => va_P D vwCl wc U.heap ∧ va_K D vwCl tys U ∧ NW U ∧ va_D (fun _ => True) wc ∧ va_X b L xs U U.heap ∧ b < U.heap.size)) As :=
  ⟨fun a U g mk q => by obtain ⟨q0, qP, qK, qN, qD, qX, qb⟩ := q; exact ⟨q0, qP, va_K.moved (u := U) (U := U.calling g mk a) (Vm.Alike.refl U.vm) qK, NW.same (u := U) (U := U.calling g mk a) rfl qN, qD, va_X.moved (u := U) (U := U.calling g mk a) (Vm.Alike.refl U.vm) qX, qb⟩,
   fun U hU hW => ⟨rfl, by rw [hU]; exact hP, va_K.moved hW.alike hK, hN.warm hW, hD.weaken (fun _ _ _ _ => trivial), by rw [hU]; exact (hX.kept (hS.2.1 b hbl hbA)).moved hW.alike, by rw [hU]; exact Nat.lt_of_lt_of_le hbl hS.1⟩⟩
theorem it_preS {s : State} {H : Heap} {A0 : Nat → Prop} {As : List Value} {D : va_G} {tys : List (ClassId × FieldType)} {wc : va_W} (hK : va_K D vwCl tys s) (hP : va_P D vwCl wc H) (hD : va_D A0 wc) (hN : NW s) :
    PreS s H (va_Pc As (fun U => U.heap.size = H.size ∧ va_P D vwCl wc U.heap ∧ va_K D vwCl tys U ∧ NW U ∧ va_D (fun _ => True) wc)) As :=
  ⟨fun a U g mk q => by obtain ⟨q0, q1, qP, qK, qN, qD⟩ := q; exact ⟨q0, q1, qP, va_K.moved (u := U) (U := U.calling g mk a) (Vm.Alike.refl U.vm) qK, NW.same (u := U) (U := U.calling g mk a) rfl qN, qD⟩,
   fun U hU hW => ⟨rfl, by rw [hU], by rw [hU]; exact hP, va_K.moved hW.alike hK, hN.warm hW, hD.weaken (fun _ _ _ _ => trivial)⟩⟩
section LAWG
variable {p : Program} {l : Launch} {e : Env} {R : Room} {s : State} {m : MethodId} {args : Array Value} {below : List Frame} {meth : Method} {c : Code} {H : Heap} {locs : List Loc} {cells slots mc ms : Nat} {Q : State → Prop}
  {st0 rest : List Value} {ls : Array Slot} {pc : Nat} {A0 : Nat → Prop} {H0 : Heap} {D : va_G} {wc : va_W}
theorem it_calli {S : Type} {post : Int32 → S → Prop} {wo : S → va_W} {a : Array Value} (hP : va_P D vwCl wc H) (hD : va_D A0 wc) (hS : va_S A0 H0 H locs) (hA : ∀ q, H0.size ≤ q → A0 q) (ha : ∀ r u, post r u → (wo u).map Prod.fst = wc.map Prod.fst)
    (hr : va_Run p l e R s m args below meth c H locs cells slots mc ms (F0 m pc ls st0) rest (va_Qi post (fun u t => va_P D vwCl (wo u) t.heap) (va_A wc H.size) a) (va_A wc H.size))
    (kk : ∀ (r : Int32) (u : S) (H1 : Heap) (locs1 : List Loc), post r u → va_P D vwCl (wo u) H1 → va_D A0 (wo u) → va_S A0 H0 H1 locs1 → W p l e R s m args below meth c H1 locs1 (cells + mc) (slots + ms) Q (F0 m (pc + 3) ls (.int r :: rest))) : W p l e R s m args below meth c H locs cells slots Q (F0 m pc ls st0) :=
  have hf : ∀ q, va_A wc H.size q → A0 q := fun q h => h.elim (fun w => wz_in (pre := []) hD q w) (fun w => hA q (Nat.le_trans hS.1 w))
  va_calli hr hS (fun q _ h => hf q h) hf (fun r u t H1 locs1 ht _ hp hB _ hk hS1 => by
    obtain ⟨h1, h2⟩ := wz_join (pre := []) hP hD (fun q h9 h8 => hk q h9 (fun w => w.elim h8 (fun z => by omega))) (by rw [← ht]; exact hB) (ha r u hp)
    exact kk r u H1 locs1 hp h1 h2 hS1)
end LAWG
theorem kL_law_0 : (.arrayClass .int : Cond) ∈ wsL_law := by decide +kernel
set_option maxHeartbeats 16000000 in
set_option maxRecDepth 100000 in
theorem whole_start {p : Program} {e : Env} {s : State} {m : MethodId} {below : List Frame} {meth : Method} {c : Code} (l : Launch) (hflags : l.flags = flags0) {b L : Nat} {xs : Nat → Int32} (hL : L ≤ 260) (C0 : lw_At p s m meth c b L xs) : W p l e room_1 s m #[Value.ref b] below meth c s.heap [] 0 0 (lw_Z below #[Value.ref b] s) (entryFrame m ([Value.ref b] : List Value).toArray 5) := by
  obtain ⟨hx, hb, hr, hml, hown, hts0, hXs, hbl, hlocks, hgv⟩ := id C0
  have hown : s.vm.findClass RL = some m.cls := hown
  have hts : ∀ w ∈ wsL_law, w.before #[Value.ref b] s = true := fun w h => hts0 w (wsL_law_in w h)
  have hA : ∀ q : Nat, s.heap.size ≤ q → AL s q := fun _ h => h
  have hbW : ¬ AL s b := Nat.not_le.mpr hbl
  obtain ⟨c0, iS0, hKn0⟩ := u_known (C := RX0) (T := TX0) (N := 2) (n := 2) hts inlX0 (hts (.instantiable RX0 2) wi_0)
  obtain ⟨c1, iS1, hKn1⟩ := u_known (C := RX1) (T := TX1) (N := 2) (n := 2) hts inlX1 (hts (.instantiable RX1 2) wi_1)
  obtain ⟨c2, iS2, hKn2⟩ := u_known (C := RX2) (T := TX2) (N := 3) (n := 3) hts inlX2 (hts (.instantiable RX2 3) wi_2)
  obtain ⟨c3, iS3, hKn3⟩ := u_known (C := RX3) (T := TX3) (N := 5) (n := 5) hts inlX3 (hts (.instantiable RX3 5) wi_3)
  obtain ⟨c4, iS4, hKn4⟩ := u_known (C := RX4) (T := TX4) (N := 6) (n := 6) hts inlX4 (hts (.instantiable RX4 6) wi_4)
  obtain ⟨c5, iS5, hKn5⟩ := u_known (C := RX5) (T := TX5) (N := 4) (n := 4) hts inlX5 (hts (.instantiable RX5 4) wi_5)
  obtain ⟨c6, iS6, hKn6⟩ := u_known (C := RX6) (T := TX6) (N := 7) (n := 7) hts inlX6 (hts (.instantiable RX6 7) wi_6)
  obtain ⟨dC, dI, hKc0⟩ : ∃ (dC : Nat → ClassId) (dI : Nat → Nat → Nat), ∀ (k : Nat) (q : vw_C), vwCl[k]? = some q → u_Kn s q.1 q.2.1 q.2.2 (dC k) (dI k) := by
    refine ⟨fun k => [c0, c1, c2, c3, c4, c5, c6].getD k c0, fun k => [iS0, iS1, iS2, iS3, iS4, iS5, iS6].getD k iS0, ?_⟩
    intro k q hq
    match k, hq with
    | 0, hq => cases hq; exact hKn0
    | 1, hq => cases hq; exact hKn1
    | 2, hq => cases hq; exact hKn2
    | 3, hq => cases hq; exact hKn3
    | 4, hq => cases hq; exact hKn4
    | 5, hq => cases hq; exact hKn5
    | 6, hq => cases hq; exact hKn6
    | k + 7, hq => simp [vwCl] at hq
  have hN : NW s := ⟨va_Nw.of rfl (hts0 _ wn_0), va_Nw.of rfl (hts0 _ wn_1), va_Nw.of rfl (hts0 _ wn_2), va_Nw.of rfl (hts0 _ wn_3), va_Nw.of rfl (hts0 _ wn_4), va_Nw.of rfl (hts0 _ wn_5), va_Nw.of rfl (hts0 _ wn_6), va_Nw.of rfl (hts0 _ wn_7), va_Nw.of rfl (hts0 _ wn_8)⟩
  have hAO : va_AO RX3 s := va_AO.of (hts0 _ wao)
  obtain ⟨D, eD⟩ : ∃ D : va_G, D = (dC, dI) := ⟨_, rfl⟩
  have hS : va_S (AL s) s.heap s.heap [] := va_S.rf
  have hK : va_K D vwCl [] s := by rw [eD]; exact ⟨hKc0, fun k q h => by simp at h⟩
  have hP : va_P D vwCl [] s.heap := fun k q h => by simp at h
  have hD : va_D (AL s) [] := ⟨fun i j p q h => by simp at h, fun k q h => by simp at h⟩
  have hl := lv_entry ([.ref b]) (n := 5) (Nat.le_of_ble_eq_true rfl)
  rw [lg_entry_eq]
  generalize (lg_sl ([.ref b]) ++ List.replicate (5 - (lg_sl ([.ref b])).length) Slot.unset).toArray = ls at hl ⊢
  have hl : lv_has ls 5 [(0, .ref b)] := hl
  refine va_new (ci := 6) (fs := [.null, .null, .null, .null, .null, .null, .null]) (C := RX6) (T := TX6) (N := 7) hx hb hts inlX6 tyX6 tyX6_ok hown (hts _ wc_6) (hts _ wi_6) (hts _ wz_6) hK hP hD hS hA rfl (fun j hj => by rcases (show j = 0 ∨ j = 1 ∨ j = 2 ∨ j = 3 ∨ j = 4 ∨ j = 5 ∨ j = 6 by omega) with rfl | rfl | rfl | rfl | rfl | rfl | rfl <;> rfl) (Nat.le_of_ble_eq_true rfl) (Nat.le_of_ble_eq_true rfl) dL_law_0 (fun q0v H hP hD hS => ?_)
  have hP : va_P D vwCl [(q0v, .inr (6, [.null, .null, .null, .null, .null, .null, .null]))] H := hP
  have hD : va_D (AL s) [(q0v, .inr (6, [.null, .null, .null, .null, .null, .null, .null]))] := hD
  refine W.widen (k := 1) (n := 7) (by omega) (by omega) ?_
  refine lv_dup hx hb dL_law_3 rfl ?_
  have hPc := hP
  have hDc := hD
  have hKc := hK
  have hFc := va_free (wc := [(q0v, .inr (6, [.null, .null, .null, .null, .null, .null, .null]))]) hD hS hA [0] rfl
  refine va_callv (va_runI (As := []) (rest := [.ref q0v]) ⟨hx, hb, hml, hown, hts⟩ (c_X6_init l D q0v H.size) (cwI 0 hts gL_law_X6_init rfl rfl rfl (hts _ wz_6) (hts _ wm_6) (hts _ wv_6) rfl (by decide +kernel) ⟨Nat.le_of_ble_eq_true rfl, Nat.le_of_ble_eq_true rfl⟩) ⟨fun a U g mk q => by obtain ⟨q0, q1, qP, qK, qN, qA, qD⟩ := q; exact ⟨q0, q1, qP, va_K.moved (u := U) (U := U.calling g mk a) (Vm.Alike.refl U.vm) qK, NW.same (u := U) (U := U.calling g mk a) rfl qN, va_AO.moved (u := U) (U := U.calling g mk a) (Vm.Alike.refl U.vm) qA, qD⟩, fun U hU hW => ⟨rfl, by rw [hU], by rw [hU]; exact hPc, va_K.moved hW.alike hKc, hN.warm hW, va_AO.moved hW.alike hAO, hDc.weaken (fun _ _ _ _ => trivial)⟩⟩ rfl rfl hl.1 rfl (lv_room (Nat.le_of_ble_eq_true rfl)) dL_law_4 ⟨Nat.le_of_ble_eq_true rfl, Nat.le_of_ble_eq_true rfl⟩) hS (fun q _ h => hFc q h) hFc (fun u t H1 locs ht hvm _ hB hz1 hk1 hS => ?_)
  obtain ⟨cI, cB, cO⟩ := u
  obtain ⟨A, eA, hSR, hK1, hD1⟩ := hB
  have hK : va_K D vwCl (tyL cI cB cO) s := va_K.moved hvm.symm hK1
  rw [ht] at hSR
  have hSR : SRx D cI cB cO A H1 2 19 0 (fun _ => 0) (fun _ => 0) := ⟨[], 0, fun _ => 0, 0, fun _ => 0, S0_ok, hSR⟩
  have hDA : va_D (AL s) (adW A) := hD1.weaken (fun k q _ h => hFc q.1 h)
  subst eA
  clear hP hD hPc hDc hKc hFc hD1 hk1 hK1
  refine W.widen (k := 51) (n := 835) (by omega) (by omega) ?_
  obtain ⟨X, hX, hP⟩ := hSR.to
  have hD : va_D (AL s) X := va_D_fst hX.fst hDA
  generalize H1 = H at hP hS ⊢

  refine lv_astore_n (lv' := [(1, .ref (A 0)), (0, .ref b)]) hx hb dL_law_7 rfl hl (by decide) rfl (fun ls hl => ?_)
  refine lv_bipush (v := 20) hx hb dL_law_8 (by decide) ?_
  refine va_newa (atype := .int) (ty := .int) (N' := 20) (a0 := (20, .inl (fun _ => 0))) hx hb (hts (.arrayClass .int) kL_law_0) rfl hK hP hD hS hA (fun cA => (vp_cell_i cA 20 (fun _ => 0)).trans rfl) (by decide) rfl (Nat.le_of_ble_eq_true rfl) (Nat.le_of_ble_eq_true rfl) (Nat.le_of_ble_eq_true rfl) dL_law_10 (fun qa kg H hK hP hD hS => ?_)
  have e9 : kg = cI := ty_uni hK 3 0 rfl rfl
  rw [e9] at hP hD hK
  have hK : va_K D vwCl (tyL cI cB cO) s := hK.sub [0, 1, 2] rfl
  have hP : va_P D vwCl ((qa, .inl (cI, 20, .inl (fun _ => 0))) :: X) H := va_P_front hP
  have hD : va_D (AL s) ((qa, .inl (cI, 20, .inl (fun _ => 0))) :: X) := va_D_front hD
  refine W.widen (k := 52) (n := 855) (by omega) (by omega) ?_
  refine lv_astore_n (lv' := [(2, .ref qa), (1, .ref (A 0)), (0, .ref b)]) hx hb dL_law_12 rfl hl (by decide) rfl (fun ls hl => ?_)
  refine lv_aload_n hx hb dL_law_13 rfl (lv_at hl 1 rfl) ?_
  refine lv_iconst (v := 0) hx hb dL_law_14 (by decide) ?_
  have hPb : va_P D vwCl ([(qa, .inl (cI, 20, .inl (fun _ => 0)))] ++ X) _ := hP
  have hDb : va_D (AL s) ([(qa, .inl (cI, 20, .inl (fun _ => 0)))] ++ X) := hD
  refine ox_calli hPb hDb hX hS (va_runV (As := [.int 0]) (rest := []) ⟨hx, hb, hml, hown, hts⟩ (y_count l D cI cB cO A 2 19 0 (fun _ => 0) (fun _ => 0) 0 (by decide) (by decide)) (cwV 1 hts gL_law_X6_count rfl rfl rfl (by decide +kernel) ⟨Nat.le_of_ble_eq_true rfl, Nat.le_of_ble_eq_true rfl⟩) (ox_pre hK hPb hDb hX hN) rfl rfl hl.1 rfl (lv_room (Nat.le_of_ble_eq_true rfl)) dL_law_15 ⟨(by show _ + 0 ≤ 600000; omega), (by show _ + 0 ≤ 7302250; omega)⟩) (fun X H locs hX hP hD hS => ?_)
  have hP : va_P D vwCl ((qa, .inl (cI, 20, .inl (fun _ => 0))) :: X) _ := hP
  have hD : va_D (AL s) ((qa, .inl (cI, 20, .inl (fun _ => 0))) :: X) := hD
  refine lv_topi (fun y_1 e_2 => ?_)
  have e_2 : 2 = y_1 := (e_2.trans (rfl)).symm
  subst e_2
  refine lv_iconst (v := 2) hx hb dL_law_18 (by decide) ?_
  refine lv_icmp_ne (tgt := 83) hx hb dL_law_19 (by decide) (fun c_19 => ?_) (fun c_19 => ?_)
  · skip
    exact absurd (by decide) c_19
  · skip
    refine lv_aload_n hx hb dL_law_22 rfl (lv_at hl 1 rfl) ?_
    refine lv_iconst (v := 0) hx hb dL_law_23 (by decide) ?_
    refine lv_iconst (v := 1) hx hb dL_law_24 (by decide) ?_
    have hPb : va_P D vwCl ([(qa, .inl (cI, 20, .inl (fun _ => 0)))] ++ X) _ := hP
    have hDb : va_D (AL s) ([(qa, .inl (cI, 20, .inl (fun _ => 0)))] ++ X) := hD
    refine ox_calli hPb hDb hX hS (va_runV (As := [.int 0, .int 1]) (rest := []) ⟨hx, hb, hml, hown, hts⟩ (y_sees l D cI cB cO A 2 19 0 (fun _ => 0) (fun _ => 0) 0 1) (cwV 2 hts gL_law_X6_sees rfl rfl rfl (by decide +kernel) ⟨Nat.le_of_ble_eq_true rfl, Nat.le_of_ble_eq_true rfl⟩) (ox_pre hK hPb hDb hX hN) rfl rfl hl.1 rfl (lv_room (Nat.le_of_ble_eq_true rfl)) dL_law_25 ⟨(by show _ + 0 ≤ 600000; omega), (by show _ + 0 ≤ 7302250; omega)⟩) (fun X H locs hX hP hD hS => ?_)
    have hP : va_P D vwCl ((qa, .inl (cI, 20, .inl (fun _ => 0))) :: X) _ := hP
    have hD : va_D (AL s) ((qa, .inl (cI, 20, .inl (fun _ => 0))) :: X) := hD
    refine lv_topi (fun y_3 e_4 => ?_)
    have e_4 : 1 = y_3 := (e_4.trans ((by show A_sees 2 0 (fun _ => 0) (fun _ => 0) (nI 0) (nI 1) = 1; rw [se_nI (by decide) (by decide) (by decide)]; exact congrArg bI (decide_eq_true (fun k h1 h2 => absurd h1 (by omega)))))).symm
    subst e_4
    refine lv_iconst (v := 1) hx hb dL_law_28 (by decide) ?_
    refine lv_icmp_ne (tgt := 83) hx hb dL_law_29 (by decide) (fun c_29 => ?_) (fun c_29 => ?_)
    · skip
      exact absurd (by decide) c_29
    · skip
      refine lv_aload_n hx hb dL_law_32 rfl (lv_at hl 1 rfl) ?_
      have hPb : va_P D vwCl ([(qa, .inl (cI, 20, .inl (fun _ => 0)))] ++ X) _ := hP
      have hDb : va_D (AL s) ([(qa, .inl (cI, 20, .inl (fun _ => 0)))] ++ X) := hD
      refine ox_calli hPb hDb hX hS (va_runV (As := []) (rest := []) ⟨hx, hb, hml, hown, hts⟩ (y_farthest l D cI cB cO A 2 19 0 (fun _ => 0) (fun _ => 0)) (cwV 0 hts gL_law_X6_farthest rfl rfl rfl (by decide +kernel) ⟨Nat.le_of_ble_eq_true rfl, Nat.le_of_ble_eq_true rfl⟩) (ox_pre hK hPb hDb hX hN) rfl rfl hl.1 rfl (lv_room (Nat.le_of_ble_eq_true rfl)) dL_law_33 ⟨(by show _ + 0 ≤ 600000; omega), (by show _ + 0 ≤ 7302250; omega)⟩) (fun X H locs hX hP hD hS => ?_)
      have hP : va_P D vwCl ((qa, .inl (cI, 20, .inl (fun _ => 0))) :: X) _ := hP
      have hD : va_D (AL s) ((qa, .inl (cI, 20, .inl (fun _ => 0))) :: X) := hD
      refine lv_topi (fun y_5 e_6 => ?_)
      have e_6 : 1 = y_5 := (e_6.trans ((far_two))).symm
      subst e_6
      refine lv_iconst (v := 1) hx hb dL_law_36 (by decide) ?_
      refine lv_icmp_ne (tgt := 83) hx hb dL_law_37 (by decide) (fun c_37 => ?_) (fun c_37 => ?_)
      · skip
        exact absurd (by decide) c_37
      · skip
        refine lv_aload_n hx hb dL_law_40 rfl (lv_at hl 1 rfl) ?_
        have hPb : va_P D vwCl ([(qa, .inl (cI, 20, .inl (fun _ => 0)))] ++ X) _ := hP
        have hDb : va_D (AL s) ([(qa, .inl (cI, 20, .inl (fun _ => 0)))] ++ X) := hD
        refine ox_calli hPb hDb hX hS (va_runV (As := []) (rest := []) ⟨hx, hb, hml, hown, hts⟩ (y_groups l D cI cB cO A 2 19 0 (fun _ => 0) (fun _ => 0)) (cwV 0 hts gL_law_X6_groups rfl rfl rfl (by decide +kernel) ⟨Nat.le_of_ble_eq_true rfl, Nat.le_of_ble_eq_true rfl⟩) (ox_pre hK hPb hDb hX hN) rfl rfl hl.1 rfl (lv_room (Nat.le_of_ble_eq_true rfl)) dL_law_41 ⟨(by show _ + 0 ≤ 600000; omega), (by show _ + 0 ≤ 7302250; omega)⟩) (fun X H locs hX hP hD hS => ?_)
        have hP : va_P D vwCl ((qa, .inl (cI, 20, .inl (fun _ => 0))) :: X) _ := hP
        have hD : va_D (AL s) ((qa, .inl (cI, 20, .inl (fun _ => 0))) :: X) := hD
        refine lv_iconst (v := 1) hx hb dL_law_44 (by decide) ?_
        refine lv_icmp_ne (tgt := 83) hx hb dL_law_45 (by decide) (fun c_45 => ?_) (fun c_45 => ?_)
        · skip
          exact absurd (by decide) c_45
        · skip
          refine lv_aload_n hx hb dL_law_48 rfl (lv_at hl 1 rfl) ?_
          refine lv_iconst (v := 1) hx hb dL_law_49 (by decide) ?_
          refine lv_iconst (v := 0) hx hb dL_law_50 (by decide) ?_
          have hPb : va_P D vwCl ([(qa, .inl (cI, 20, .inl (fun _ => 0)))] ++ X) _ := hP
          have hDb : va_D (AL s) ([(qa, .inl (cI, 20, .inl (fun _ => 0)))] ++ X) := hD
          refine ox_calli hPb hDb hX hS (va_runV (As := [.int 1, .int 0]) (rest := []) ⟨hx, hb, hml, hown, hts⟩ (y_reset_no l D cI cB cO A 2 19 0 (fun _ => 0) (fun _ => 0) 1 0 (by decide)) (cwV 2 hts gL_law_X6_reset rfl rfl rfl (by decide +kernel) ⟨Nat.le_of_ble_eq_true rfl, Nat.le_of_ble_eq_true rfl⟩) (ox_pre hK hPb hDb hX hN) rfl rfl hl.1 rfl (lv_room (Nat.le_of_ble_eq_true rfl)) dL_law_51 ⟨(by show _ + 0 ≤ 600000; omega), (by show _ + 0 ≤ 7302250; omega)⟩) (fun X H locs hX hP hD hS => ?_)
          have hP : va_P D vwCl ((qa, .inl (cI, 20, .inl (fun _ => 0))) :: X) _ := hP
          have hD : va_D (AL s) ((qa, .inl (cI, 20, .inl (fun _ => 0))) :: X) := hD
          refine lv_bipush (v := (-2)) hx hb dL_law_54 (by decide) ?_
          refine lv_icmp_ne (tgt := 83) hx hb dL_law_56 (by decide) (fun c_56 => ?_) (fun c_56 => ?_)
          · skip
            exact absurd (by decide) c_56
          · skip
            refine lv_aload_n hx hb dL_law_59 rfl (lv_at hl 1 rfl) ?_
            refine lv_bipush (v := 21) hx hb dL_law_60 (by decide) ?_
            refine lv_iconst (v := 0) hx hb dL_law_62 (by decide) ?_
            have hPb : va_P D vwCl ([(qa, .inl (cI, 20, .inl (fun _ => 0)))] ++ X) _ := hP
            have hDb : va_D (AL s) ([(qa, .inl (cI, 20, .inl (fun _ => 0)))] ++ X) := hD
            refine ox_calli hPb hDb hX hS (va_runV (As := [.int 21, .int 0]) (rest := []) ⟨hx, hb, hml, hown, hts⟩ (y_reset_no l D cI cB cO A 2 19 0 (fun _ => 0) (fun _ => 0) 21 0 (by decide)) (cwV 2 hts gL_law_X6_reset rfl rfl rfl (by decide +kernel) ⟨Nat.le_of_ble_eq_true rfl, Nat.le_of_ble_eq_true rfl⟩) (ox_pre hK hPb hDb hX hN) rfl rfl hl.1 rfl (lv_room (Nat.le_of_ble_eq_true rfl)) dL_law_63 ⟨(by show _ + 0 ≤ 600000; omega), (by show _ + 0 ≤ 7302250; omega)⟩) (fun X H locs hX hP hD hS => ?_)
            have hP : va_P D vwCl ((qa, .inl (cI, 20, .inl (fun _ => 0))) :: X) _ := hP
            have hD : va_D (AL s) ((qa, .inl (cI, 20, .inl (fun _ => 0))) :: X) := hD
            refine lv_bipush (v := (-2)) hx hb dL_law_66 (by decide) ?_
            refine lv_icmp_ne (tgt := 83) hx hb dL_law_68 (by decide) (fun c_68 => ?_) (fun c_68 => ?_)
            · skip
              exact absurd (by decide) c_68
            · skip
              refine lv_aload_n hx hb dL_law_71 rfl (lv_at hl 1 rfl) ?_
              refine lv_aload_n hx hb dL_law_72 rfl (lv_at hl 0 rfl) ?_
              refine lv_aload_n hx hb dL_law_73 rfl (lv_at hl 2 rfl) ?_
              refine lv_iconst (v := 0) hx hb dL_law_74 (by decide) ?_
              refine lv_topi (fun y_7 e_8 => ?_)
              have e_8 : nI 0 = y_7 := (e_8.trans (rfl)).symm
              subst e_8
              refine lv_bipush (v := 8) hx hb dL_law_75 (by decide) ?_
              refine lv_topi (fun y_9 e_10 => ?_)
              have e_10 : nI 8 = y_9 := (e_10.trans (rfl)).symm
              subst e_10
              have hbg : ¬ inW ((qa, .inl (cI, 20, .inl (fun _ => 0))) :: X) b := fun ⟨k9, e9, h9⟩ => hbW (hD.2 k9 (b, e9) h9)
              have hPb : va_P D vwCl ([] ++ ((qa, .inl (cI, 20, .inl (fun _ => 0))) :: X)) _ := hP
              have hDb : va_D (AL s) ([] ++ ((qa, .inl (cI, 20, .inl (fun _ => 0))) :: X)) := hD
              refine wz_calli hPb hDb hS (fun r u h => by exact congrArg (List.cons _) (h.2.2.2.fst.trans hX.fst.symm)) (va_runS (As := [.ref (A 0), .ref qa, .ref b, .int (nI 0), .int (nI 8)]) (rest := []) ⟨hx, hb, hml, hown, hts⟩ (c_L_grows l D cI cB cO A qa (fun _ => 0) X b L xs hX hL hbg) (va_cwS 5 hts gL_law_L_grows rfl rfl rfl (by decide +kernel) ⟨Nat.le_of_ble_eq_true rfl, Nat.le_of_ble_eq_true rfl⟩) (gr_preS hK hP hD hN hXs hbl hbW hS) rfl rfl hl.1 rfl (lv_room (Nat.le_of_ble_eq_true rfl)) dL_law_77 ⟨(by show _ + 0 ≤ 600000; omega), (by show _ + 0 ≤ 7302250; omega)⟩) (fun r_77 u9 H locs h_77 hP hD hS => ?_)
              obtain ⟨n, f, X⟩ := u9
              obtain ⟨h_77, h16, h8, hX⟩ := h_77
              subst h_77
              have h16 : f 16 = nI n := h16
              have h8 : n ≤ 8 := h8
              have hX : SRX cI cB cO A X n (f 17) (f 18) f (M8 f) := hX
              have hP : va_P D vwCl ((qa, .inl (cI, 20, .inl f)) :: X) _ := hP
              have hD : va_D (AL s) ((qa, .inl (cI, 20, .inl f)) :: X) := hD
              refine lv_if_ne (tgt := 85) hx hb dL_law_80 (by decide) (fun c_80 => ?_) (fun c_80 => ?_)
              · skip
                have h2n : 2 ≤ n := (hX.rf h16 h8).n2
                refine lv_iconst (v := 0) hx hb dL_law_85 (by decide) ?_
                refine W.widen (k := 100 + 0) (n := 1000 + 8 * 0) (by omega) (by omega) ?_
                refine lv_istore_n (lv' := [(3, .int 0), (2, .ref qa), (1, .ref (A 0)), (0, .ref b)]) hx hb dL_law_86 rfl hl (by decide) rfl (fun ls hl => ?_)
                have L_87 : ∀ (k_87 : Nat) (k : Nat) (f : Nat → Int32) (X : va_W), 9 - k < k_87 → (k ≤ 8) → (f 16 = nI n) → (SRX cI cB cO A X n (f 17) (f 18) f (M8 f)) → ∀ (H : Heap) (locs : List Loc), va_P D vwCl ((qa, .inl (cI, 20, .inl f)) :: X) H → va_D (AL s) ((qa, .inl (cI, 20, .inl f)) :: X) → va_S (AL s) s.heap H locs → ∀ (ls : Array Slot), lv_has ls 5 [(0, .ref b), (1, .ref (A 0)), (2, .ref qa), (3, .int (nI k))] → W p l e room_1 s m #[Value.ref b] below meth c H locs (100 + k) (1000 + 8 * k) (lw_Z below #[Value.ref b] s) (F0 m 87 ls []) := by
                  intro k_87
                  induction k_87 with
                  | zero => intro k f X h9; exact absurd h9 (Nat.not_lt_zero _)
                  | succ k_87 ih_87 =>
                    intro k f X hm_87 hk8 h16 hX H locs hP hD hS ls hl
                    refine lv_iload_n hx hb dL_law_87 rfl (lv_at hl 3 rfl) ?_
                    have hR : RF f n := hX.rf h16 h8
                    refine lv_bipush (v := 8) hx hb dL_law_88 (by decide) ?_
                    refine lv_icmp_ge (tgt := 173) hx hb dL_law_90 (by decide) (fun c_90 => ?_) (fun c_90 => ?_)
                    · skip
                      have g90 : 8 ≤ k := ge_t (by omega) c_90
                      refine lv_aload_n hx hb dL_law_173 rfl (lv_at hl 1 rfl) ?_
                      refine lv_aload_n hx hb dL_law_174 rfl (lv_at hl 2 rfl) ?_
                      refine it_calli hP hD hS hA (fun r u h => by exact congrArg (List.cons _) (h.2.fst.trans hX.fst.symm)) (va_runS (As := [.ref (A 0), .ref qa]) (rest := []) ⟨hx, hb, hml, hown, hts⟩ (c_L_isTold l D cI cB cO A qa f n X H.size hR hX) (va_cwS 2 hts gL_law_L_isTold rfl rfl rfl (by decide +kernel) ⟨Nat.le_of_ble_eq_true rfl, Nat.le_of_ble_eq_true rfl⟩) (it_preS hK hP hD hN) rfl rfl hl.1 rfl (lv_room (Nat.le_of_ble_eq_true rfl)) dL_law_175 ⟨(by show _ + 1 ≤ 600000; omega), (by show _ + 8 ≤ 7302250; omega)⟩) (fun r_175 X H locs h_175 hP hD hS => ?_)
                      obtain ⟨h_175, hX⟩ := h_175
                      subst h_175
                      have hP : va_P D vwCl ((qa, .inl (cI, 20, .inl f)) :: X) _ := hP
                      have hD : va_D (AL s) ((qa, .inl (cI, 20, .inl f)) :: X) := hD
                      refine va_forget (fun q hq => hS.2.2 q hq) ?_
                      refine W.widen (k := 600000) (n := 7302250) (by omega) (by omega) ?_
                      exact lw_ret hx hb hr hlocks dL_law_178
                    · skip
                      have g90 : k < 8 := ge_f (by omega) c_90
                      refine lv_aload_n hx hb dL_law_93 rfl (lv_at hl 0 rfl) ?_
                      refine lv_bipush (v := 9) hx hb dL_law_94 (by decide) ?_
                      refine lv_iconst (v := 2) hx hb dL_law_96 (by decide) ?_
                      refine lv_iload_n hx hb dL_law_97 rfl (lv_at hl 3 rfl) ?_
                      refine lv_imul hx hb dL_law_98 ?_
                      refine lv_topi (fun y_11 e_12 => ?_)
                      have e_12 : nI (2 * k) = y_11 := (e_12.trans (pk_mul 2 k)).symm
                      subst e_12
                      refine lv_iadd hx hb dL_law_99 ?_
                      refine lv_topi (fun y_13 e_14 => ?_)
                      have e_14 : nI (9 + (2 * k)) = y_13 := (e_14.trans (nI_add 9 (2 * k))).symm
                      subst e_14
                      refine rd_calli hP hS (va_runS (As := [.ref b, .int (nI (9 + 2 * k))]) (rest := []) ⟨hx, hb, hml, hown, hts⟩ (c_L_cell l b L xs (9 + 2 * k) hL (by omega)) (va_cwS 2 hts gL_law_L_cell rfl rfl rfl (by decide +kernel) ⟨Nat.le_of_ble_eq_true rfl, Nat.le_of_ble_eq_true rfl⟩) (lw_preX hXs hbl hbW hS) rfl rfl hl.1 rfl (lv_room (Nat.le_of_ble_eq_true rfl)) dL_law_100 ⟨(by show _ + 0 ≤ 600000; omega), (by show _ + 0 ≤ 7302250; omega)⟩) (fun v H locs _ hP hS => ?_)
                      refine lv_istore (lv' := [(4, .int v), (0, .ref b), (1, .ref (A 0)), (2, .ref qa), (3, .int (nI k))]) hx hb dL_law_103 hl (by decide) rfl (fun ls hl => ?_)
                      refine lv_aload_n hx hb dL_law_105 rfl (lv_at hl 2 rfl) ?_
                      refine lv_aload_n hx hb dL_law_106 rfl (lv_at hl 3 rfl) ?_
                      refine it_calli hP hD hS hA (fun r u h => by exact congrArg (List.cons _) (h.2.fst.trans hX.fst.symm)) (va_runS (As := [.ref (A 0), .ref qa]) (rest := []) ⟨hx, hb, hml, hown, hts⟩ (c_L_isTold l D cI cB cO A qa f n X H.size hR hX) (va_cwS 2 hts gL_law_L_isTold rfl rfl rfl (by decide +kernel) ⟨Nat.le_of_ble_eq_true rfl, Nat.le_of_ble_eq_true rfl⟩) (it_preS hK hP hD hN) rfl rfl hl.1 rfl (lv_room (Nat.le_of_ble_eq_true rfl)) dL_law_107 ⟨(by show _ + 1 ≤ 600000; omega), (by show _ + 8 ≤ 7302250; omega)⟩) (fun r_107 X H locs h_107 hP hD hS => ?_)
                      obtain ⟨h_107, hX⟩ := h_107
                      subst h_107
                      have hP : va_P D vwCl ((qa, .inl (cI, 20, .inl f)) :: X) _ := hP
                      have hD : va_D (AL s) ((qa, .inl (cI, 20, .inl f)) :: X) := hD
                      refine lv_if_eq (tgt := 165) hx hb dL_law_110 (by decide) (fun c_110 => ?_) (fun c_110 => ?_)
                      · skip
                        exact absurd c_110 (by decide)
                      · skip
                        refine lv_aload_n hx hb dL_law_113 rfl (lv_at hl 2 rfl) ?_
                        refine lv_aload_n hx hb dL_law_114 rfl (lv_at hl 3 rfl) ?_
                        refine lv_iload hx hb dL_law_115 (lv_at hl 0 rfl) ?_
                        refine lv_bipush (v := 8) hx hb dL_law_117 (by decide) ?_
                        refine lv_ishr hx hb dL_law_119 ?_
                        refine lv_aload_n hx hb dL_law_120 rfl (lv_at hl 3 rfl) ?_
                        refine lv_bipush (v := 16) hx hb dL_law_121 (by decide) ?_
                        refine va_iald hx hb hK hP 0 0 rfl rfl (i := nI 16) (vp_in_nI (N := 20) (by decide) (by decide)) dL_law_123 ?_
                        rw [nI_clamp (n := 16) (by decide)]
                        refine lv_topi (fun y_15 e_16 => ?_)
                        have e_16 : nI n = y_15 := (e_16.trans (h16)).symm
                        subst e_16
                        refine rd_calli hP hS (va_runS (As := [.int (v >>> (8 &&& 31)), .int (nI n)]) (rest := [.ref qa, .ref (A 0)]) ⟨hx, hb, hml, hown, hts⟩ (c_L_low l D cI cB cO (v >>> (8 &&& 31)) n (by omega) (by omega)) (va_cwS 2 hts gL_law_L_low rfl rfl rfl (by decide +kernel) ⟨Nat.le_of_ble_eq_true rfl, Nat.le_of_ble_eq_true rfl⟩) (rd_preS hK (hP.pick [] rfl) hN) rfl rfl hl.1 rfl (lv_room (Nat.le_of_ble_eq_true rfl)) dL_law_124 ⟨(by show _ + 0 ≤ 600000; omega), (by show _ + 0 ≤ 7302250; omega)⟩) (fun r_124 H locs h_124 hP hS => ?_)
                        obtain ⟨s0, hs0, rfl⟩ := h_124
                        refine lv_iload hx hb dL_law_127 (lv_at hl 0 rfl) ?_
                        refine lv_bipush (v := 12) hx hb dL_law_129 (by decide) ?_
                        refine lv_ishr hx hb dL_law_131 ?_
                        refine lv_aload_n hx hb dL_law_132 rfl (lv_at hl 3 rfl) ?_
                        refine lv_bipush (v := 16) hx hb dL_law_133 (by decide) ?_
                        refine va_iald hx hb hK hP 0 0 rfl rfl (i := nI 16) (vp_in_nI (N := 20) (by decide) (by decide)) dL_law_135 ?_
                        rw [nI_clamp (n := 16) (by decide)]
                        refine lv_topi (fun y_17 e_18 => ?_)
                        have e_18 : nI n = y_17 := (e_18.trans (h16)).symm
                        subst e_18
                        refine rd_calli hP hS (va_runS (As := [.int (v >>> (12 &&& 31)), .int (nI n)]) (rest := [.int (nI s0), .ref qa, .ref (A 0)]) ⟨hx, hb, hml, hown, hts⟩ (c_L_low l D cI cB cO (v >>> (12 &&& 31)) n (by omega) (by omega)) (va_cwS 2 hts gL_law_L_low rfl rfl rfl (by decide +kernel) ⟨Nat.le_of_ble_eq_true rfl, Nat.le_of_ble_eq_true rfl⟩) (rd_preS hK (hP.pick [] rfl) hN) rfl rfl hl.1 rfl (lv_room (Nat.le_of_ble_eq_true rfl)) dL_law_136 ⟨(by show _ + 0 ≤ 600000; omega), (by show _ + 0 ≤ 7302250; omega)⟩) (fun r_136 H locs h_136 hP hS => ?_)
                        obtain ⟨t0, ht0, rfl⟩ := h_136
                        have hPb : va_P D vwCl ([] ++ ((qa, .inl (cI, 20, .inl f)) :: X)) _ := hP
                        have hDb : va_D (AL s) ([] ++ ((qa, .inl (cI, 20, .inl f)) :: X)) := hD
                        refine wz_calli hPb hDb hS (fun r u h => by exact congrArg (List.cons _) (h.2.fst.trans hX.fst.symm)) (va_runS (As := [.ref (A 0), .ref qa, .int (nI s0), .int (nI t0)]) (rest := []) ⟨hx, hb, hml, hown, hts⟩ (c_L_isObstacle l D cI cB cO A qa f n X s0 t0 hR hX hs0 ht0) (va_cwS 4 hts gL_law_L_isObstacle rfl rfl rfl (by decide +kernel) ⟨Nat.le_of_ble_eq_true rfl, Nat.le_of_ble_eq_true rfl⟩) (wz_preS hK hPb hDb hN) rfl rfl hl.1 rfl (lv_room (Nat.le_of_ble_eq_true rfl)) dL_law_139 ⟨(by show _ + 0 ≤ 600000; omega), (by show _ + 0 ≤ 7302250; omega)⟩) (fun r_139 X H locs h_139 hP hD hS => ?_)
                        obtain ⟨h_139, hX⟩ := h_139
                        subst h_139
                        have hP : va_P D vwCl ((qa, .inl (cI, 20, .inl f)) :: X) _ := hP
                        have hD : va_D (AL s) ((qa, .inl (cI, 20, .inl f)) :: X) := hD
                        refine lv_if_eq (tgt := 165) hx hb dL_law_142 (by decide) (fun c_142 => ?_) (fun c_142 => ?_)
                        · skip
                          exact absurd c_142 (by decide)
                        · skip
                          refine lv_aload_n hx hb dL_law_145 rfl (lv_at hl 2 rfl) ?_
                          refine lv_aload_n hx hb dL_law_146 rfl (lv_at hl 3 rfl) ?_
                          refine lv_iload hx hb dL_law_147 (lv_at hl 0 rfl) ?_
                          refine lv_aload_n hx hb dL_law_149 rfl (lv_at hl 1 rfl) ?_
                          refine lv_bipush (v := 10) hx hb dL_law_150 (by decide) ?_
                          refine lv_iconst (v := 2) hx hb dL_law_152 (by decide) ?_
                          refine lv_iload_n hx hb dL_law_153 rfl (lv_at hl 4 rfl) ?_
                          refine lv_imul hx hb dL_law_154 ?_
                          refine lv_topi (fun y_19 e_20 => ?_)
                          have e_20 : nI (2 * k) = y_19 := (e_20.trans (pk_mul 2 k)).symm
                          subst e_20
                          refine lv_iadd hx hb dL_law_155 ?_
                          refine lv_topi (fun y_21 e_22 => ?_)
                          have e_22 : nI (10 + (2 * k)) = y_21 := (e_22.trans (nI_add 10 (2 * k))).symm
                          subst e_22
                          refine rd_calli hP hS (va_runS (As := [.ref b, .int (nI (10 + 2 * k))]) (rest := [.int v, .ref qa, .ref (A 0)]) ⟨hx, hb, hml, hown, hts⟩ (c_L_cell l b L xs (10 + 2 * k) hL (by omega)) (va_cwS 2 hts gL_law_L_cell rfl rfl rfl (by decide +kernel) ⟨Nat.le_of_ble_eq_true rfl, Nat.le_of_ble_eq_true rfl⟩) (lw_preX hXs hbl hbW hS) rfl rfl hl.1 rfl (lv_room (Nat.le_of_ble_eq_true rfl)) dL_law_156 ⟨(by show _ + 0 ≤ 600000; omega), (by show _ + 0 ≤ 7302250; omega)⟩) (fun w H locs _ hP hS => ?_)
                          have hPb : va_P D vwCl ([] ++ ((qa, .inl (cI, 20, .inl f)) :: X)) _ := hP
                          have hDb : va_D (AL s) ([] ++ ((qa, .inl (cI, 20, .inl f)) :: X)) := hD
                          refine wz_calli hPb hDb hS (fun r u h => by exact congrArg (List.cons _) (h.2.2.fst.trans hX.fst.symm)) (va_runS (As := [.ref (A 0), .ref qa, .int v, .int w]) (rest := []) ⟨hx, hb, hml, hown, hts⟩ (c_L_changes l D cI cB cO A qa f n X v w hR hX) (va_cwS 4 hts gL_law_L_changes rfl rfl rfl (by decide +kernel) ⟨Nat.le_of_ble_eq_true rfl, Nat.le_of_ble_eq_true rfl⟩) (wz_preS hK hPb hDb hN) rfl rfl hl.1 rfl (lv_room (Nat.le_of_ble_eq_true rfl)) dL_law_159 ⟨(by show _ + 0 ≤ 600000; omega), (by show _ + 0 ≤ 7302250; omega)⟩) (fun r_159 u9 H locs h_159 hP hD hS => ?_)
                          obtain ⟨f, X⟩ := u9
                          obtain ⟨h_159, h16, hX⟩ := h_159
                          subst h_159
                          have h16 : f 16 = nI n := h16
                          have hX : SRX cI cB cO A X n (f 17) (f 18) f (M8 f) := hX
                          have hP : va_P D vwCl ((qa, .inl (cI, 20, .inl f)) :: X) _ := hP
                          have hD : va_D (AL s) ((qa, .inl (cI, 20, .inl f)) :: X) := hD
                          refine lv_if_ne (tgt := 167) hx hb dL_law_162 (by decide) (fun c_162 => ?_) (fun c_162 => ?_)
                          · skip
                            refine lv_iinc (v := nI (k + 1)) (lv' := [(3, .int (nI (k + 1))), (4, .int v), (0, .ref b), (1, .ref (A 0)), (2, .ref qa)]) hx hb dL_law_167 hl (k := 4) rfl (inc1 _) (by decide) rfl (fun ls hl => ?_)
                            refine W.widen (k := 100 + (k + 1)) (n := 1000 + 8 * (k + 1)) (by omega) (by omega) ?_
                            refine lv_goto (tgt := 87) hx hb dL_law_170 (by decide) ?_
                            exact ih_87 (k + 1) f X (by omega) (by omega) (h16) (hX) _ _ hP hD hS ls (lv_sub hl [2, 3, 4, 0] rfl)
                          · skip
                            exact absurd c_162 (by decide)
                exact L_87 _ 0 f X (Nat.lt_succ_self _) (Nat.zero_le 8) (h16) (hX) _ _ hP hD hS ls (lv_sub hl [3, 2, 1, 0] rfl)
              · skip
                exact absurd c_80 (by decide)
-- the end
