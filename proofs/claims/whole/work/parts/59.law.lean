/-! THE CLAIM OUT OF ONE WALK OF THE LAW'S BODY. Your part is whole_start (and what it stands on); all else here is the same for every law, but numbers. -/
def R_law : String := "SightRidgeLaw"
def lw_P (b : Addr) (xs : List Int32) (args : Array Value) (s : State) : Prop := args = #[.ref b] ∧ s.IntsAt b xs ∧ xs.length ≤ 2048 ∧ (Jvm.Cond.and given_1 narrow_1).before args s = true
def lw_Q (_ : Array Value) (s : State) (o : Outcome) (t : State) : Prop := o = .returned (some (.int 1)) ∧ Framed s o t [] 600000 7302250
def lw_Z (below : List Frame) (a : Array Value) (s : State) : State → Prop := fun t => ∃ o, t.status = .running ∧ Ended t below o ∧ lw_Q a s o t
/-- the law's own end, with 1 on the stack, nothing written that was there before, its room as the claim has it -/
theorem lw_ret {p : Program} {l : Launch} {e : Env} {s : State} {m : MethodId} {below : List Frame} {meth : Method} {c : Code} {b : Nat} (hx : p.tables.exec = Jvm.exec) (hb : c.code = code) (hr : meth.sig.returnType = ret) (hlocks : meth.locks = false) {pc : Nat} {H : Heap} {ls : Array Slot} (hdg : decode code pc = .ok (.ireturn, 1)) : W p l e room_1 s m #[Value.ref b] below meth c H [] 600000 7302250 (lw_Z below #[Value.ref b] s) (F0 m pc ls [.int 1]) := by
  intro T hT X
  obtain ⟨fs, hret, hrun, hended, hW, hframe⟩ := X.leave (v := some (.int 1)) (hlocks := hlocks) (fun h => by rw [hr] at h; cases h)
  have hmeth' : T.vm.method? m = some meth := X.method'
  refine ⟨T.setFrames fs, ?_, .returned (some (.int 1)), hrun, hended, rfl, ⟨_, rfl⟩, hW, hframe⟩
  jvm_step X.here [X.here.top, hx, hb, hdg, hmeth', hr, ret, narrow_b1]
  (try refine ⟨rfl, ?_⟩); (try refine ⟨rfl, ?_⟩)
  first | (intro acts; rw [hret _ acts rfl rfl rfl]) | rw [hret _ _ rfl rfl rfl]
  exact Steps.refl _
/-- what holds at the law's entry: the machine, the code, the tables' words (any of lw_tbl by 'hts w (by decide +kernel)'), the script of L ints xs at the cell b, what the Statement gives of the start (any of its parts by flat_of_before) -/
def lw_At (p : Program) (s : State) (m : MethodId) (meth : Method) (c : Code) (b L : Nat) (xs : Nat → Int32) : Prop :=
  p.tables.exec = Jvm.exec ∧ c.code = code ∧ meth.sig.returnType = ret ∧ c.maxLocals = 4 ∧ s.vm.findClass R_law = some m.cls ∧ (∀ w ∈ lw_tbl, w.before #[Value.ref b] s = true) ∧ va_X b L xs s s.heap ∧ b < s.heap.size ∧ meth.locks = false ∧ (Jvm.Cond.and given_1 narrow_1).before #[Value.ref b] s = true
theorem loop_go {i L : Nat} (hL : L ≤ 2048) (hi : i ≤ L) (h : ¬ nI L - 4 < nI i) : i + 4 ≤ L := by
  rw [Int32.lt_iff_toInt_lt, nI_toInt (by omega)] at h
  have e := pk_sub_toInt (a := L) (b := 4) (by omega) (by decide)
  have e : (nI L - 4).toInt = (L : Int) - 4 := e
  omega
set_option maxHeartbeats 8000000 in
set_option maxRecDepth 100000 in
theorem law_loop {p : Program} {l : Launch} {e : Env} {s : State} {m : MethodId} {below : List Frame} {meth : Method} {c : Code} {b L : Nat} {xs : Nat → Int32} {D : va_G} {cI cB cO : ClassId} {A B : Nat → Nat} (C0 : LC p s m meth c b L xs D cI cB cO A B) (hr : meth.sig.returnType = ret) (hlocks : meth.locks = false) : ∀ (k i : Nat), i ≤ L → L + 1 ≤ i + k → ∀ (S : StT) (H : Heap) (locs : List Loc), okQ S → SRq D cI cB cO A H S → MRq D cI cB cO B H S → va_S (AL s) s.heap H locs → ∀ (ls : Array Slot), lv_has ls 4 [(0, .ref b), (1, .ref (A 0)), (2, .ref (B 0)), (3, .int (nI i))] → W p l e room_1 s m #[Value.ref b] below meth c H locs 60 1543 (lw_Z below #[Value.ref b] s) (F0 m 18 ls []) := by
  obtain ⟨hx, hb, hml, hown, hts, hXs, hbl, hL, hK, hN, hAd, hBd, hinA, hinB, hdis⟩ := id C0
  have hbA : ¬ AL s b := Nat.not_le.mpr hbl
  intro k
  induction k with
  | zero =>
    intro i h1 h2
    exact absurd h2 (by omega)
  | succ k ih =>
    intro i hi h2 S H locs ok hI hJ hS ls hl
    refine lv_iload_n hx hb dL_law_18 rfl (lv_at hl 3 rfl) ?_
    refine lv_aload_n hx hb dL_law_19 rfl (lv_at hl 0 rfl) ?_
    refine va_slen hx hb hXs hbl hbA hS dL_law_20 ?_
    refine lv_iconst (v := 4) hx hb dL_law_21 (by decide) ?_
    refine lv_isub hx hb dL_law_22 ?_
    refine lv_icmp_gt (tgt := 901) hx hb dL_law_23 (by decide) (fun c_23 => ?_) (fun c_23 => ?_)
    · refine lv_iconst (v := 1) hx hb dL_law_901 (by decide) ?_
      refine va_forget (fun q hq => hS.2.2 q hq) ?_
      refine W.widen (k := 600000) (n := 7302250) (Nat.le_of_ble_eq_true rfl) (Nat.le_of_ble_eq_true rfl) ?_
      exact lw_ret hx hb hr hlocks dL_law_902
    have hi4 : i + 4 ≤ L := loop_go hL hi c_23
    refine lv_aload_n hx hb dL_law_26 rfl (lv_at hl 0 rfl) ?_
    refine lv_iload_n hx hb dL_law_27 rfl (lv_at hl 3 rfl) ?_
    refine va_sld hx hb hXs hbl hbA hS (vp_in_nI (N := L) (n := i) (by omega) (by omega)) dL_law_28 ?_
    rw [nI_clamp (n := i) (by omega)]
    refine lv_bipush (v := 31) hx hb dL_law_29 (by decide) ?_
    refine lv_iand hx hb dL_law_31 ?_
    obtain ⟨j, hj, ej⟩ := pk_andE (xs i) (m := 31) 5 rfl
    rw [ej]
    have kk : ∀ (S1 : StT) (H1 : Heap) (locs1 : List Loc), okQ S1 → SRq D cI cB cO A H1 S1 → MRq D cI cB cO B H1 S1 → va_S (AL s) s.heap H1 locs1 → W p l e room_1 s m #[Value.ref b] below meth c H1 locs1 60 1543 (lw_Z below #[Value.ref b] s) (F0 m 895 ls []) := fun S1 H1 locs1 ok1 hI1 hJ1 hS1 => by
      refine lv_iinc (v := nI (i + 4)) (lv' := [(3, .int (nI (i + 4))), (0, .ref b), (1, .ref (A 0)), (2, .ref (B 0))]) hx hb dL_law_895 hl (k := 3) rfl (nI_add i 4) (by decide) rfl (fun ls hl => ?_)
      refine lv_goto (tgt := 18) hx hb dL_law_898 (by decide) ?_
      exact ih (i + 4) hi4 (by omega) S1 H1 locs1 ok1 hI1 hJ1 hS1 ls (lv_sub hl [1, 2, 3, 0] rfl)
    rcases (show j = 0 ∨ j = 1 ∨ j = 2 ∨ j = 3 ∨ j = 4 ∨ j = 5 ∨ j = 6 ∨ j = 7 ∨ j = 8 ∨ j = 9 ∨ j = 10 ∨ j = 11 ∨ j = 12 ∨ j = 13 ∨ j = 14 ∨ j = 15 ∨ j = 16 ∨ j = 17 ∨ j = 18 ∨ j = 19 ∨ j = 20 ∨ j = 21 ∨ j = 22 ∨ j = 23 ∨ j = 24 ∨ j = 25 ∨ j = 26 ∨ j = 27 ∨ 28 ≤ j by omega) with rfl | rfl | rfl | rfl | rfl | rfl | rfl | rfl | rfl | rfl | rfl | rfl | rfl | rfl | rfl | rfl | rfl | rfl | rfl | rfl | rfl | rfl | rfl | rfl | rfl | rfl | rfl | rfl | h28
    · refine lv_tableIn (off := 128) (tgt := 160) hx hb dL_law_32 (by decide) (by decide) rfl (by decide) ?_
      exact law_reset C0 ok hi4 hI hJ hS hl kk
    · refine lv_tableIn (off := 161) (tgt := 193) hx hb dL_law_32 (by decide) (by decide) rfl (by decide) ?_
      exact law_setGround C0 ok hi4 hI hJ hS hl kk
    · refine lv_tableIn (off := 194) (tgt := 226) hx hb dL_law_32 (by decide) (by decide) rfl (by decide) ?_
      exact law_slope C0 ok hi4 hI hJ hS hl kk
    · refine lv_tableIn (off := 227) (tgt := 259) hx hb dL_law_32 (by decide) (by decide) rfl (by decide) ?_
      exact law_mast C0 ok hi4 hI hJ hS hl kk
    · refine lv_tableIn (off := 260) (tgt := 292) hx hb dL_law_32 (by decide) (by decide) rfl (by decide) ?_
      exact law_reverse C0 ok hi4 hI hJ hS hl kk
    · refine lv_tableIn (off := 273) (tgt := 305) hx hb dL_law_32 (by decide) (by decide) rfl (by decide) ?_
      exact law_setRange C0 ok hi4 hI hJ hS hl kk
    · refine lv_tableIn (off := 296) (tgt := 328) hx hb dL_law_32 (by decide) (by decide) rfl (by decide) ?_
      exact law_setBulge C0 ok hi4 hI hJ hS hl kk
    · refine lv_tableIn (off := 319) (tgt := 351) hx hb dL_law_32 (by decide) (by decide) rfl (by decide) ?_
      exact law_undo C0 ok hi4 hI hJ hS hl kk
    · refine lv_tableIn (off := 332) (tgt := 364) hx hb dL_law_32 (by decide) (by decide) rfl (by decide) ?_
      exact law_type C0 ok hi4 hI hJ hS hl kk
    · refine lv_tableIn (off := 355) (tgt := 387) hx hb dL_law_32 (by decide) (by decide) rfl (by decide) ?_
      exact law_clearText C0 ok hi4 hI hJ hS hl kk
    · refine lv_tableIn (off := 368) (tgt := 400) hx hb dL_law_32 (by decide) (by decide) rfl (by decide) ?_
      exact law_fault C0 ok hi4 hI hJ hS hl kk
    · refine lv_tableIn (off := 381) (tgt := 413) hx hb dL_law_32 (by decide) (by decide) rfl (by decide) ?_
      exact law_load C0 ok hi4 hI hJ hS hl kk
    · refine lv_tableIn (off := 394) (tgt := 426) hx hb dL_law_32 (by decide) (by decide) rfl (by decide) ?_
      exact law_station C0 ok hi4 hI hJ hS hl kk
    · refine lv_tableIn (off := 427) (tgt := 459) hx hb dL_law_32 (by decide) (by decide) rfl (by decide) ?_
      exact law_sees C0 ok hi4 hI hJ hS hl kk
    · refine lv_tableIn (off := 460) (tgt := 492) hx hb dL_law_32 (by decide) (by decide) rfl (by decide) ?_
      exact law_obstacle C0 ok hi4 hI hJ hS hl kk
    · refine lv_tableIn (off := 503) (tgt := 535) hx hb dL_law_32 (by decide) (by decide) rfl (by decide) ?_
      exact law_neededMast C0 ok hi4 hI hJ hS hl kk
    · refine lv_tableIn (off := 536) (tgt := 568) hx hb dL_law_32 (by decide) (by decide) rfl (by decide) ?_
      exact law_growth C0 ok hi4 hI hJ hS hl kk
    · refine lv_tableIn (off := 579) (tgt := 611) hx hb dL_law_32 (by decide) (by decide) rfl (by decide) ?_
      exact law_shadow C0 ok hi4 hI hJ hS hl kk
    · refine lv_tableIn (off := 622) (tgt := 654) hx hb dL_law_32 (by decide) (by decide) rfl (by decide) ?_
      exact law_farthest C0 ok hi4 hI hJ hS hl kk
    · refine lv_tableIn (off := 635) (tgt := 667) hx hb dL_law_32 (by decide) (by decide) rfl (by decide) ?_
      exact law_chain C0 ok hi4 hI hJ hS hl kk
    · refine lv_tableIn (off := 668) (tgt := 700) hx hb dL_law_32 (by decide) (by decide) rfl (by decide) ?_
      exact law_newMasts C0 ok hi4 hI hJ hS hl kk
    · refine lv_tableIn (off := 711) (tgt := 743) hx hb dL_law_32 (by decide) (by decide) rfl (by decide) ?_
      exact law_vital C0 ok hi4 hI hJ hS hl kk
    · refine lv_tableIn (off := 744) (tgt := 776) hx hb dL_law_32 (by decide) (by decide) rfl (by decide) ?_
      exact law_finding C0 ok hi4 hI hJ hS hl kk
    · refine lv_tableIn (off := 767) (tgt := 799) hx hb dL_law_32 (by decide) (by decide) rfl (by decide) ?_
      exact law_groups C0 ok hi4 hI hJ hS hl kk
    · refine lv_tableIn (off := 780) (tgt := 812) hx hb dL_law_32 (by decide) (by decide) rfl (by decide) ?_
      exact law_watch C0 ok hi4 hI hJ hS hl kk
    · refine lv_tableIn (off := 803) (tgt := 835) hx hb dL_law_32 (by decide) (by decide) rfl (by decide) ?_
      exact law_watched C0 ok hi4 hI hJ hS hl kk
    · refine lv_tableIn (off := 826) (tgt := 858) hx hb dL_law_32 (by decide) (by decide) rfl (by decide) ?_
      exact law_count C0 ok hi4 hI hJ hS hl kk
    · refine lv_tableIn (off := 849) (tgt := 881) hx hb dL_law_32 (by decide) (by decide) rfl (by decide) ?_
      exact law_digest C0 ok hi4 hI hJ hS hl kk
    · refine lv_tableOut (tgt := 895) hx hb dL_law_32 (Or.inr (by rw [nI_toInt (by omega)]; omega)) (by decide) ?_
      exact kk S H locs ok hI hJ hS
theorem fresh {A0 : Nat → Prop} {ws : va_W} {q : Nat} {ee : va_E} (hD : va_D A0 (ws ++ [(q, ee)])) : ∀ (k : Nat) (x : Nat × va_E), ws[k]? = some x → x.1 ≠ q := by
  intro k x hx h
  have hl := (List.getElem?_eq_some_iff.mp hx).1
  have := hD.1 k ws.length x (q, ee) (by rw [List.getElem?_append_left hl]; exact hx) (by rw [List.getElem?_append_right (Nat.le_refl _), Nat.sub_self]; rfl) h
  omega
set_option maxHeartbeats 8000000 in
set_option maxRecDepth 100000 in
theorem whole_start {p : Program} {e : Env} {s : State} {m : MethodId} {below : List Frame} {meth : Method} {c : Code} (l : Launch) (hflags : l.flags = flags0) {b L : Nat} {xs : Nat → Int32} (hL : L ≤ 2048) (C0 : lw_At p s m meth c b L xs) : W p l e room_1 s m #[Value.ref b] below meth c s.heap [] 0 0 (lw_Z below #[Value.ref b] s) (entryFrame m ([Value.ref b] : List Value).toArray 4) := by
  obtain ⟨hx, hb, hr, hml, hown, hts0, hX, hbl, hlocks, hgv⟩ := id C0
  have hown : s.vm.findClass RL = some m.cls := hown
  have hts : ∀ w ∈ wsL_law, w.before #[Value.ref b] s = true := fun w h => hts0 w (wsL_law_in w h)
  have hA : ∀ q : Nat, s.heap.size ≤ q → AL s q := fun _ h => h
  obtain ⟨c0, iS0, hKn0⟩ := u_known (C := RX0) (T := TX0) (N := 2) (n := 2) hts inlX0 (hts (.instantiable RX0 2) wi_0)
  obtain ⟨c1, iS1, hKn1⟩ := u_known (C := RX1) (T := TX1) (N := 2) (n := 2) hts inlX1 (hts (.instantiable RX1 2) wi_1)
  obtain ⟨c2, iS2, hKn2⟩ := u_known (C := RX2) (T := TX2) (N := 3) (n := 3) hts inlX2 (hts (.instantiable RX2 3) wi_2)
  obtain ⟨c3, iS3, hKn3⟩ := u_known (C := RX3) (T := TX3) (N := 5) (n := 5) hts inlX3 (hts (.instantiable RX3 5) wi_3)
  obtain ⟨c4, iS4, hKn4⟩ := u_known (C := RX4) (T := TX4) (N := 6) (n := 6) hts inlX4 (hts (.instantiable RX4 6) wi_4)
  obtain ⟨c5, iS5, hKn5⟩ := u_known (C := RX5) (T := TX5) (N := 4) (n := 4) hts inlX5 (hts (.instantiable RX5 4) wi_5)
  obtain ⟨c6, iS6, hKn6⟩ := u_known (C := RX6) (T := TX6) (N := 7) (n := 7) hts inlX6 (hts (.instantiable RX6 7) wi_6)
  obtain ⟨c7, iS7, hKn7⟩ := u_known (C := RX7) (T := TX7) (N := 15) (n := 15) hts inlX7 (hts (.instantiable RX7 15) wi_7)
  obtain ⟨dC, dI, hKc0⟩ : ∃ (dC : Nat → ClassId) (dI : Nat → Nat → Nat), ∀ (k : Nat) (q : vw_C), vwCl[k]? = some q → u_Kn s q.1 q.2.1 q.2.2 (dC k) (dI k) := by
    refine ⟨fun k => [c0, c1, c2, c3, c4, c5, c6, c7].getD k c0, fun k => [iS0, iS1, iS2, iS3, iS4, iS5, iS6, iS7].getD k iS0, ?_⟩
    intro k q hq
    match k, hq with
    | 0, hq => cases hq; exact hKn0
    | 1, hq => cases hq; exact hKn1
    | 2, hq => cases hq; exact hKn2
    | 3, hq => cases hq; exact hKn3
    | 4, hq => cases hq; exact hKn4
    | 5, hq => cases hq; exact hKn5
    | 6, hq => cases hq; exact hKn6
    | 7, hq => cases hq; exact hKn7
    | k + 8, hq => simp [vwCl] at hq
  have hN : NW s := ⟨va_Nw.of rfl (hts0 _ wn_0), va_Nw.of rfl (hts0 _ wn_1), va_Nw.of rfl (hts0 _ wn_2), va_Nw.of rfl (hts0 _ wn_3), va_Nw.of rfl (hts0 _ wn_4), va_Nw.of rfl (hts0 _ wn_5), va_Nw.of rfl (hts0 _ wn_6), va_Nw.of rfl (hts0 _ wn_7), va_Nw.of rfl (hts0 _ wn_8)⟩
  have hAO : va_AO RX3 s := va_AO.of (hts0 _ wao)
  obtain ⟨D, eD⟩ : ∃ D : va_G, D = (dC, dI) := ⟨_, rfl⟩
  have hS : va_S (AL s) s.heap s.heap [] := va_S.rf
  have hK : va_K D vwCl [] s := by rw [eD]; exact ⟨hKc0, fun k q h => by simp at h⟩
  have hP : va_P D vwCl [] s.heap := fun k q h => by simp at h
  have hD : va_D (AL s) [] := ⟨fun i j p q h => by simp at h, fun k q h => by simp at h⟩
  have hl := lv_entry ([.ref b]) (n := 4) (Nat.le_of_ble_eq_true rfl)
  rw [lg_entry_eq]
  generalize (lg_sl ([.ref b]) ++ List.replicate (4 - (lg_sl ([.ref b])).length) Slot.unset).toArray = ls at hl ⊢
  have hl : lv_has ls 4 [(0, .ref b)] := hl
  refine va_new (ci := 6) (fs := [.null, .null, .null, .null, .null, .null, .null]) (C := RX6) (T := TX6) (N := 7) hx hb hts inlX6 tyX6 tyX6_ok hown (hts _ wc_6) (hts _ wi_6) (hts _ wz_6) hK hP hD hS hA rfl (fun j hj => by rcases (show j = 0 ∨ j = 1 ∨ j = 2 ∨ j = 3 ∨ j = 4 ∨ j = 5 ∨ j = 6 by omega) with rfl | rfl | rfl | rfl | rfl | rfl | rfl <;> rfl) (Nat.le_of_ble_eq_true rfl) (Nat.le_of_ble_eq_true rfl) dL_law_0 (fun q0v H hP hD hS => ?_)
  have hP : va_P D vwCl [(q0v, .inr (6, [.null, .null, .null, .null, .null, .null, .null]))] H := hP
  have hD : va_D (AL s) [(q0v, .inr (6, [.null, .null, .null, .null, .null, .null, .null]))] := hD
  refine W.widen (k := 1) (n := 7) (by omega) (by omega) ?_
  refine lv_dup hx hb dL_law_3 rfl ?_
  have hPc := hP
  have hDc := hD
  have hKc := hK
  have hFc := va_free (wc := [(q0v, .inr (6, [.null, .null, .null, .null, .null, .null, .null]))]) hD hS hA [0] rfl
  refine va_callv (va_runI (As := []) (rest := [.ref q0v]) ⟨hx, hb, hml, hown, hts⟩ (c_X6_init l D q0v H.size) (cwI 0 hts gL_law_X6_init rfl rfl rfl (hts _ wz_6) (hts _ wm_6) (hts _ wv_6) rfl (by decide +kernel) ⟨Nat.le_of_ble_eq_true rfl, Nat.le_of_ble_eq_true rfl⟩) ⟨fun a U g mk q => by obtain ⟨q0, q1, qP, qK, qN, qA, qD⟩ := q; exact ⟨q0, q1, qP, va_K.moved (u := U) (U := U.calling g mk a) (Vm.Alike.refl U.vm) qK, NW.same (u := U) (U := U.calling g mk a) rfl qN, va_AO.moved (u := U) (U := U.calling g mk a) (Vm.Alike.refl U.vm) qA, qD⟩, fun U hU hW => ⟨rfl, by rw [hU], by rw [hU]; exact hPc, va_K.moved hW.alike hKc, hN.warm hW, va_AO.moved hW.alike hAO, hDc.weaken (fun _ _ _ _ => trivial)⟩⟩ rfl rfl hl.1 rfl (lv_room (Nat.le_of_ble_eq_true rfl)) dL_law_4 ⟨Nat.le_of_ble_eq_true rfl, Nat.le_of_ble_eq_true rfl⟩) hS (fun q _ h => hFc q h) hFc (fun u t H1 locs ht hvm _ hB hz1 hk1 hS => ?_)
  obtain ⟨kI, kB, kO⟩ := u
  obtain ⟨A, eA, hSR, hK1, hD1⟩ := hB
  have hK : va_K D vwCl (tyL kI kB kO) s := va_K.moved hvm.symm hK1
  rw [ht] at hSR
  have hSR : SRq D kI kB kO A H1 S0T := hSR
  have hDA : va_D (AL s) (adW A) := hD1.weaken (fun k q _ h => hFc q.1 h)
  subst eA
  clear hP hD hPc hDc hKc hFc hD1 hk1 hK1
  refine W.widen (k := 51) (n := 835) (by omega) (by omega) ?_
  refine lv_astore_n (lv' := [(1, .ref (A 0)), (0, .ref b)]) hx hb dL_law_7 rfl hl (by decide) rfl (fun ls hl => ?_)
  obtain ⟨fg, fm, dn, dr, db, dg, dm, jx, pn, pr, pb, pg, pm, ta, tf, lt, ff, rs, rr, rt, rl, rp, rc, cv, cb, hP, hf⟩ := hSR
  have hD : va_D (AL s) [(A 0, .inr (6, [.ref (A 1), .ref (A 4), .ref (A 7), .ref (A 39), .ref (A 41), .ref (A 43), .ref (A 48)])), (A 7, .inr (2, [.ref (A 8), .int (nI S0T.2.2.2.2.2.1.length), .int (nI jx)])), (A 8, .inl (kO, 10, .inr (.inr (.inr (.inr (fun k => some (A (9 + 3 * k)))))))), (A 9, .inr (3, [.ref (A 10), .ref (A 11), .int (pn 0), .int (pr 0), .int (pb 0)])), (A 10, .inl (kI, 20, .inl (pg 0))), (A 11, .inl (kI, 20, .inl (pm 0))), (A 12, .inr (3, [.ref (A 13), .ref (A 14), .int (pn 1), .int (pr 1), .int (pb 1)])), (A 13, .inl (kI, 20, .inl (pg 1))), (A 14, .inl (kI, 20, .inl (pm 1))), (A 15, .inr (3, [.ref (A 16), .ref (A 17), .int (pn 2), .int (pr 2), .int (pb 2)])), (A 16, .inl (kI, 20, .inl (pg 2))), (A 17, .inl (kI, 20, .inl (pm 2))), (A 18, .inr (3, [.ref (A 19), .ref (A 20), .int (pn 3), .int (pr 3), .int (pb 3)])), (A 19, .inl (kI, 20, .inl (pg 3))), (A 20, .inl (kI, 20, .inl (pm 3))), (A 21, .inr (3, [.ref (A 22), .ref (A 23), .int (pn 4), .int (pr 4), .int (pb 4)])), (A 22, .inl (kI, 20, .inl (pg 4))), (A 23, .inl (kI, 20, .inl (pm 4))), (A 24, .inr (3, [.ref (A 25), .ref (A 26), .int (pn 5), .int (pr 5), .int (pb 5)])), (A 25, .inl (kI, 20, .inl (pg 5))), (A 26, .inl (kI, 20, .inl (pm 5))), (A 27, .inr (3, [.ref (A 28), .ref (A 29), .int (pn 6), .int (pr 6), .int (pb 6)])), (A 28, .inl (kI, 20, .inl (pg 6))), (A 29, .inl (kI, 20, .inl (pm 6))), (A 30, .inr (3, [.ref (A 31), .ref (A 32), .int (pn 7), .int (pr 7), .int (pb 7)])), (A 31, .inl (kI, 20, .inl (pg 7))), (A 32, .inl (kI, 20, .inl (pm 7))), (A 33, .inr (3, [.ref (A 34), .ref (A 35), .int (pn 8), .int (pr 8), .int (pb 8)])), (A 34, .inl (kI, 20, .inl (pg 8))), (A 35, .inl (kI, 20, .inl (pm 8))), (A 36, .inr (3, [.ref (A 37), .ref (A 38), .int (pn 9), .int (pr 9), .int (pb 9)])), (A 37, .inl (kI, 20, .inl (pg 9))), (A 38, .inl (kI, 20, .inl (pm 9))), (A 1, .inr (3, [.ref (A 2), .ref (A 3), .int (nI S0T.1), .int S0T.2.1, .int S0T.2.2.1])), (A 2, .inl (kI, 20, .inl fg)), (A 3, .inl (kI, 20, .inl fm)), (A 4, .inr (3, [.ref (A 5), .ref (A 6), .int dn, .int dr, .int db])), (A 5, .inl (kI, 20, .inl dg)), (A 6, .inl (kI, 20, .inl dm)), (A 39, .inr (5, [.ref (A 40), .int (nI S0T.2.2.2.2.2.2.1), .int ta, .int tf])), (A 40, .inl (kB, 120, .inl lt)), (A 41, .inr (1, [.ref (A 42), .int (FZ S0T.2.2.2.2.2.2.2.2.1)])), (A 42, .inl (kI, 20, .inl ff)), (A 43, .inr (4, [.ref (A 44), .ref (A 45), .ref (A 46), .ref (A 47), .int rs, .int rr])), (A 44, .inl (kI, 20, .inl rt)), (A 45, .inl (kI, 20, .inl rl)), (A 46, .inl (kI, 20, .inl rp)), (A 47, .inl (kI, 20, .inl rc)), (A 48, .inr (0, [.ref (A 49), .ref (A 50)])), (A 49, .inl (kI, 20, .inl cv)), (A 50, .inl (kI, 21, .inl cb))] := va_D_fst (ws := adW A) rfl hDA
  refine va_new (ci := 7) (fs := [.null, .null, .int 0, .null, .int 0, .null, .int 0, .null, .null, .int 0, .int 0, .int 0, .null, .null, .long 0]) (C := RX7) (T := TX7) (N := 15) hx hb hts inlX7 tyX7 tyX7_ok hown (hts _ wc_7) (hts _ wi_7) (hts _ wz_7) (hK.sub [] rfl) hP hD hS hA rfl (fun j hj => by rcases (show j = 0 ∨ j = 1 ∨ j = 2 ∨ j = 3 ∨ j = 4 ∨ j = 5 ∨ j = 6 ∨ j = 7 ∨ j = 8 ∨ j = 9 ∨ j = 10 ∨ j = 11 ∨ j = 12 ∨ j = 13 ∨ j = 14 by omega) with rfl | rfl | rfl | rfl | rfl | rfl | rfl | rfl | rfl | rfl | rfl | rfl | rfl | rfl | rfl <;> rfl) (Nat.le_of_ble_eq_true rfl) (Nat.le_of_ble_eq_true rfl) dL_law_8 (fun q8v H2 hP hD hS => ?_)
  have hSR : SRq D kI kB kO A H2 S0T := ⟨fg, fm, dn, dr, db, dg, dm, jx, pn, pr, pb, pg, pm, ta, tf, lt, ff, rs, rr, rt, rl, rp, rc, cv, cb, fun k q hk => hP k q (by rw [List.getElem?_append_left (List.getElem?_eq_some_iff.mp hk).1]; exact hk), hf⟩
  have hfr := fresh hD
  have hPc : va_P D vwCl [(q8v, .inr (7, [.null, .null, .int 0, .null, .int 0, .null, .int 0, .null, .null, .int 0, .int 0, .int 0, .null, .null, .long 0]))] H2 := hP.pick [51] rfl
  have hDc : va_D (AL s) [(q8v, .inr (7, [.null, .null, .int 0, .null, .int 0, .null, .int 0, .null, .null, .int 0, .int 0, .int 0, .null, .null, .long 0]))] := hD.sub [51] (by decide) rfl
  have hKc : va_K D vwCl [] s := hK.sub [] rfl
  have hFc := va_free (wc := [(q8v, .inr (7, [.null, .null, .int 0, .null, .int 0, .null, .int 0, .null, .null, .int 0, .int 0, .int 0, .null, .null, .long 0]))]) hDc hS hA [0] rfl
  have hne : ∀ q, inW (adW A) q → q ≠ q8v := fun q ⟨k, e9, hk⟩ => by
    obtain ⟨j, e2, hj⟩ := fst_in (ws := adW A) (ws0 := [(A 0, .inr (6, [.ref (A 1), .ref (A 4), .ref (A 7), .ref (A 39), .ref (A 41), .ref (A 43), .ref (A 48)])), (A 7, .inr (2, [.ref (A 8), .int (nI S0T.2.2.2.2.2.1.length), .int (nI jx)])), (A 8, .inl (kO, 10, .inr (.inr (.inr (.inr (fun k => some (A (9 + 3 * k)))))))), (A 9, .inr (3, [.ref (A 10), .ref (A 11), .int (pn 0), .int (pr 0), .int (pb 0)])), (A 10, .inl (kI, 20, .inl (pg 0))), (A 11, .inl (kI, 20, .inl (pm 0))), (A 12, .inr (3, [.ref (A 13), .ref (A 14), .int (pn 1), .int (pr 1), .int (pb 1)])), (A 13, .inl (kI, 20, .inl (pg 1))), (A 14, .inl (kI, 20, .inl (pm 1))), (A 15, .inr (3, [.ref (A 16), .ref (A 17), .int (pn 2), .int (pr 2), .int (pb 2)])), (A 16, .inl (kI, 20, .inl (pg 2))), (A 17, .inl (kI, 20, .inl (pm 2))), (A 18, .inr (3, [.ref (A 19), .ref (A 20), .int (pn 3), .int (pr 3), .int (pb 3)])), (A 19, .inl (kI, 20, .inl (pg 3))), (A 20, .inl (kI, 20, .inl (pm 3))), (A 21, .inr (3, [.ref (A 22), .ref (A 23), .int (pn 4), .int (pr 4), .int (pb 4)])), (A 22, .inl (kI, 20, .inl (pg 4))), (A 23, .inl (kI, 20, .inl (pm 4))), (A 24, .inr (3, [.ref (A 25), .ref (A 26), .int (pn 5), .int (pr 5), .int (pb 5)])), (A 25, .inl (kI, 20, .inl (pg 5))), (A 26, .inl (kI, 20, .inl (pm 5))), (A 27, .inr (3, [.ref (A 28), .ref (A 29), .int (pn 6), .int (pr 6), .int (pb 6)])), (A 28, .inl (kI, 20, .inl (pg 6))), (A 29, .inl (kI, 20, .inl (pm 6))), (A 30, .inr (3, [.ref (A 31), .ref (A 32), .int (pn 7), .int (pr 7), .int (pb 7)])), (A 31, .inl (kI, 20, .inl (pg 7))), (A 32, .inl (kI, 20, .inl (pm 7))), (A 33, .inr (3, [.ref (A 34), .ref (A 35), .int (pn 8), .int (pr 8), .int (pb 8)])), (A 34, .inl (kI, 20, .inl (pg 8))), (A 35, .inl (kI, 20, .inl (pm 8))), (A 36, .inr (3, [.ref (A 37), .ref (A 38), .int (pn 9), .int (pr 9), .int (pb 9)])), (A 37, .inl (kI, 20, .inl (pg 9))), (A 38, .inl (kI, 20, .inl (pm 9))), (A 1, .inr (3, [.ref (A 2), .ref (A 3), .int (nI S0T.1), .int S0T.2.1, .int S0T.2.2.1])), (A 2, .inl (kI, 20, .inl fg)), (A 3, .inl (kI, 20, .inl fm)), (A 4, .inr (3, [.ref (A 5), .ref (A 6), .int dn, .int dr, .int db])), (A 5, .inl (kI, 20, .inl dg)), (A 6, .inl (kI, 20, .inl dm)), (A 39, .inr (5, [.ref (A 40), .int (nI S0T.2.2.2.2.2.2.1), .int ta, .int tf])), (A 40, .inl (kB, 120, .inl lt)), (A 41, .inr (1, [.ref (A 42), .int (FZ S0T.2.2.2.2.2.2.2.2.1)])), (A 42, .inl (kI, 20, .inl ff)), (A 43, .inr (4, [.ref (A 44), .ref (A 45), .ref (A 46), .ref (A 47), .int rs, .int rr])), (A 44, .inl (kI, 20, .inl rt)), (A 45, .inl (kI, 20, .inl rl)), (A 46, .inl (kI, 20, .inl rp)), (A 47, .inl (kI, 20, .inl rc)), (A 48, .inr (0, [.ref (A 49), .ref (A 50)])), (A 49, .inl (kI, 20, .inl cv)), (A 50, .inl (kI, 21, .inl cb))]) rfl k (q, e9) hk
    exact hfr j (q, e2) hj
  refine W.widen (k := 52) (n := 850) (by omega) (by omega) ?_
  refine lv_dup hx hb dL_law_11 rfl ?_
  refine va_callv (va_runI (As := []) (rest := [.ref q8v]) ⟨hx, hb, hml, hown, hts⟩ (c_X7_init l D q8v H2.size) (cwI 0 hts gL_law_X7_init rfl rfl rfl (hts _ wz_7) (hts _ wm_7) (hts _ wv_7) rfl (by decide +kernel) ⟨Nat.le_of_ble_eq_true rfl, Nat.le_of_ble_eq_true rfl⟩) ⟨fun a U g mk q => by obtain ⟨q0, q1, qP, qK, qN, qD⟩ := q; exact ⟨q0, q1, qP, va_K.moved (u := U) (U := U.calling g mk a) (Vm.Alike.refl U.vm) qK, NW.same (u := U) (U := U.calling g mk a) rfl qN, qD⟩, fun U hU hW => ⟨rfl, by rw [hU], by rw [hU]; exact hPc, va_K.moved hW.alike hKc, hN.warm hW, hDc.weaken (fun _ _ _ _ => trivial)⟩⟩ rfl rfl hl.1 rfl (lv_room (Nat.le_of_ble_eq_true rfl)) dL_law_12 ⟨Nat.le_of_ble_eq_true rfl, Nat.le_of_ble_eq_true rfl⟩) hS (fun q _ h => hFc q h) hFc (fun u t H3 locs ht hvm _ hB hz1 hk1 hS => ?_)
  obtain ⟨B, eB, hMR, hK2, hD2⟩ := hB
  have hK2 : va_K D vwCl [(u, .int)] s := va_K.moved hvm.symm hK2
  have eu : u = kI := ty_uni (hK.app hK2) 3 0 rfl rfl
  subst eu
  rw [ht] at hMR
  have hMR : MRq D u kB kO B H3 S0T := hMR kB kO
  have hlt := hSR.lt
  have hSR : SRq D u kB kO A H3 S0T := hSR.kept (fun q hq hz => hk1 q hz (fun hw => by
    rcases hw with ⟨k, e9, hk⟩ | hk
    · cases k with
      | zero => cases hk; exact hne _ hq rfl
      | succ k => cases hk
    · omega))
  have hDB : va_D (AL s) (bdW B) := hD2.weaken (fun k q _ h => hFc q.1 h)
  have hdis : ∀ q, inW (adW A) q → inW (bdW B) q → False := fun q h1 ⟨k, e9, hk⟩ => by
    have h2 := hD2.2 k (q, e9) hk
    rcases h2 with ⟨j, e8, hj⟩ | h2
    · cases j with
      | zero => cases hj; exact hne _ h1 rfl
      | succ j => cases hj
    · exact absurd (hlt q h1) (Nat.not_lt.mpr h2)
  subst eB
  refine W.widen (k := 60) (n := 1543) (by omega) (by omega) ?_
  refine lv_astore_n (lv' := [(2, .ref (B 0)), (1, .ref (A 0)), (0, .ref b)]) hx hb dL_law_15 rfl hl (by decide) rfl (fun ls hl => ?_)
  refine lv_iconst (v := 0) hx hb dL_law_16 (by decide) ?_
  refine lv_istore_n (lv' := [(3, .int 0), (2, .ref (B 0)), (1, .ref (A 0)), (0, .ref b)]) hx hb dL_law_17 rfl hl (by decide) rfl (fun ls hl => ?_)
  exact law_loop ⟨hx, hb, hml, hown, hts, hX, hbl, hL, hK, hN, hDA.weaken (fun _ _ _ _ => trivial), hDB.weaken (fun _ _ _ _ => trivial), fun q ⟨k, e9, hk⟩ => hDA.2 k (q, e9) hk, fun q ⟨k, e9, hk⟩ => hDB.2 k (q, e9) hk, hdis⟩ hr hlocks (L + 1) 0 (Nat.zero_le L) (by omega) S0T H3 _ S0_ok hSR hMR hS ls (lv_sub hl [3, 2, 1, 0] rfl)
