/-! base: what all contracts are made of -/
def bI (b : Bool) : Int32 := if b then 1 else 0
theorem bI_T : bI true = 1 := rfl
theorem bI_F : bI false = 0 := rfl
theorem bI_e0 {b : Bool} (h : bI b = 0) : b = false := by cases b with | false => rfl | true => exact absurd h (by decide)
theorem bI_n0 {b : Bool} (h : ¬ bI b = 0) : b = true := by cases b with | true => rfl | false => exact absurd rfl h
theorem bI_nar (b : Bool) : narrow .boolean (.int (bI b)) = .int (bI b) := by cases b <;> rfl
theorem bI_t {b : Bool} (h : b = true) : (1 : Int32) = bI b := by rw [h]; rfl
theorem bI_f {b : Bool} (h : b = false) : (0 : Int32) = bI b := by rw [h]; rfl
theorem inc1 (a : Nat) : nI a + Int32.ofInt 1 = nI (a + 1) := nI_1 a
theorem nI_lit1 : (1 : Int32) = nI 1 := rfl
/-- the links to private methods of other classes of the nest -/
def nestL : List Cond := [.methodLinkNest RX6 9 yX3_init RX6, .methodLinkNest RX6 28 yX5_init RX6, .methodLinkNest RX6 35 yX1_init RX6, .methodLinkNest RX6 42 yX4_init RX6, .methodLinkNest RX6 49 yX0_init RX6, .methodLinkNest RX6 9 yX3_init RX6, .methodLinkNest RX2 24 yX3_init RX6, .methodLinkNest RX4 81 yX6_holds RX6, .methodLinkNest RX6 9 yX3_init RX6]
def NW (U : State) : Prop := va_Nw (.methodLinkNest RX6 9 yX3_init RX6) U ∧ va_Nw (.methodLinkNest RX6 28 yX5_init RX6) U ∧ va_Nw (.methodLinkNest RX6 35 yX1_init RX6) U ∧ va_Nw (.methodLinkNest RX6 42 yX4_init RX6) U ∧ va_Nw (.methodLinkNest RX6 49 yX0_init RX6) U ∧ va_Nw (.methodLinkNest RX6 9 yX3_init RX6) U ∧ va_Nw (.methodLinkNest RX2 24 yX3_init RX6) U ∧ va_Nw (.methodLinkNest RX4 81 yX6_holds RX6) U ∧ va_Nw (.methodLinkNest RX6 9 yX3_init RX6) U
theorem NW.warm {s U : State} (hW : s.WarmedH U.vm) (h : NW s) : NW U := ⟨va_Nw.warmM hW h.1, va_Nw.warmM hW h.2.1, va_Nw.warmM hW h.2.2.1, va_Nw.warmM hW h.2.2.2.1, va_Nw.warmM hW h.2.2.2.2.1, va_Nw.warmM hW h.2.2.2.2.2.1, va_Nw.warmM hW h.2.2.2.2.2.2.1, va_Nw.warmM hW h.2.2.2.2.2.2.2.1, va_Nw.warmM hW h.2.2.2.2.2.2.2.2⟩
theorem NW.same {u U : State} (hvm : u.vm = U.vm) (h : NW u) : NW U := ⟨va_Nw.same rfl hvm h.1, va_Nw.same rfl hvm h.2.1, va_Nw.same rfl hvm h.2.2.1, va_Nw.same rfl hvm h.2.2.2.1, va_Nw.same rfl hvm h.2.2.2.2.1, va_Nw.same rfl hvm h.2.2.2.2.2.1, va_Nw.same rfl hvm h.2.2.2.2.2.2.1, va_Nw.same rfl hvm h.2.2.2.2.2.2.2.1, va_Nw.same rfl hvm h.2.2.2.2.2.2.2.2⟩
/-- the array classes that the worlds know -/
abbrev tyL (cI cB cO : ClassId) : List (ClassId × FieldType) := [(cI, .int), (cB, .byte), (cO, .object RX3)]
abbrev rmD (d : Nat) : Room := { frames := d, cells := 0, slots := 0, locals := 40 * d }
/-- a contract that reads: nothing changes -/
abbrev rdPc (D : va_G) (tys : List (ClassId × FieldType)) (av : List Value) (ws : va_W) : Array Value → State → Prop := va_Pc av (fun U => va_P D vwCl ws U.heap ∧ va_K D vwCl tys U ∧ NW U)
abbrev noA : Nat → Prop := fun _ => False
abbrev rdQi (f : Int32 → Prop) : Array Value → State → Outcome → State → Prop := va_Qi (fun (r : Int32) (_ : Unit) => f r) (fun _ _ => True) noA
abbrev rdQl (f : Int64 → Prop) : Array Value → State → Outcome → State → Prop := va_Ql (fun (r : Int64) (_ : Unit) => f r) (fun _ _ => True) noA
theorem rdBlind {D : va_G} {tys : List (ClassId × FieldType)} {av : List Value} {ws : va_W} : FrameBlind (rdPc D tys av ws) := by
  intro a U g mk q
  obtain ⟨q0, qP, qK, qN⟩ := q
  exact ⟨q0, qP, va_K.moved (u := U) (U := U.calling g mk a) (Vm.Alike.refl U.vm) qK, NW.same (u := U) (U := U.calling g mk a) rfl qN⟩
/-- the cells of a world -/
def inW (ws : va_W) : Nat → Prop := fun q => ∃ (k : Nat) (e : va_E), ws[k]? = some (q, e)
/-- a contract that writes in its world, and makes nothing -/
abbrev wrPc (D : va_G) (tys : List (ClassId × FieldType)) (av : List Value) (ws : va_W) : Array Value → State → Prop := va_Pc av (fun U => va_P D vwCl ws U.heap ∧ va_K D vwCl tys U ∧ NW U ∧ va_D (fun _ => True) ws)
abbrev wrQi (D : va_G) {S : Type} (ws : va_W) (post : Int32 → S → Prop) (wo : S → va_W) : Array Value → State → Outcome → State → Prop := va_Qi post (fun u t => va_P D vwCl (wo u) t.heap) (inW ws)
abbrev wrQl (D : va_G) {S : Type} (ws : va_W) (post : Int64 → S → Prop) (wo : S → va_W) : Array Value → State → Outcome → State → Prop := va_Ql post (fun u t => va_P D vwCl (wo u) t.heap) (inW ws)
abbrev wrQv (D : va_G) {S : Type} (ws : va_W) (post : S → Prop) (wo : S → va_W) : Array Value → State → Outcome → State → Prop := va_Qv post (fun u t => va_P D vwCl (wo u) t.heap) (inW ws)
theorem wrBlind {D : va_G} {tys : List (ClassId × FieldType)} {av : List Value} {ws : va_W} : FrameBlind (wrPc D tys av ws) := by
  intro a U g mk q
  obtain ⟨q0, qP, qK, qN, qD⟩ := q
  exact ⟨q0, qP, va_K.moved (u := U) (U := U.calling g mk a) (Vm.Alike.refl U.vm) qK, NW.same (u := U) (U := U.calling g mk a) rfl qN, qD⟩
theorem inW_self {A : Nat → Prop} {ws : va_W} (h : va_D A ws) : va_D (inW ws) ws := ⟨h.1, fun k q hk => ⟨k, q.2, hk⟩⟩
theorem inW_free {A0 : Nat → Prop} {ws wc : va_W} (hD : va_D A0 ws) (is : List Nat) (hC : is.map (fun i => ws[i]?) = wc.map some) : ∀ q, inW wc q → A0 q := by
  intro q h
  obtain ⟨k, e, h⟩ := h
  have h1 : (is.map (fun i => ws[i]?))[k]? = some (some (q, e)) := by rw [hC, List.getElem?_map, h]; rfl
  rw [List.getElem?_map] at h1
  cases hi : is[k]? with
  | none => rw [hi] at h1; cases h1
  | some i => rw [hi] at h1; exact hD.2 i (q, e) (Option.some.inj h1)
/-- a world with some places written anew -/
def wput (ws : va_W) : List Nat → va_W → va_W
  | i :: is, e :: es => wput (ws.set i e) is es
  | _, _ => ws
theorem wput_len : ∀ (is : List Nat) (es ws : va_W), (wput ws is es).length = ws.length
  | [], _, _ => by simp [wput]
  | _ :: _, [], _ => by simp [wput]
  | i :: is, e :: es, ws => by rw [wput, wput_len is es, List.length_set]
theorem wput_out : ∀ (is : List Nat) (es ws : va_W) (k : Nat), k ∉ is → (wput ws is es)[k]? = ws[k]?
  | [], _, _, _, _ => by simp [wput]
  | _ :: _, [], _, _, _ => by simp [wput]
  | i :: is, e :: es, ws, k, h => by
    rw [wput, wput_out is es _ k (fun q => h (List.mem_cons_of_mem _ q)), List.getElem?_set_ne (fun q => h (by rw [q]; exact List.mem_cons_self))]
theorem wput_in : ∀ (is : List Nat) (es ws : va_W) (k i : Nat) (q : Nat × va_E), va_nd is = true → (∀ i ∈ is, i < ws.length) → is[k]? = some i → es[k]? = some q → (wput ws is es)[i]? = some q
  | [], _, _, k, i, q, _, _, h, _ => by simp at h
  | _ :: _, [], _, k, i, q, _, _, _, h => by simp at h
  | i0 :: is, e :: es, ws, 0, i, q, hn, hl, hi, he => by
    simp at hi he
    subst hi; subst he
    rw [wput, wput_out is es _ i0 (fun hm => ?_)]
    · rw [List.getElem?_set_self (hl i0 List.mem_cons_self)]
    · obtain ⟨j, hj⟩ := List.getElem?_of_mem hm
      have := va_nd_inj _ hn 0 (j + 1) i0 rfl hj
      omega
  | i0 :: is, e :: es, ws, k + 1, i, q, hn, hl, hi, he => by
    rw [wput]
    refine wput_in is es _ k i q ?_ (fun j hj => by rw [List.length_set]; exact hl j (List.mem_cons_of_mem _ hj)) hi he
    simp [va_nd] at hn ⊢
    exact hn.2
/-- behind a call: the callee's cells stand at their places in the caller's world -/
theorem wr_join {A0 : Nat → Prop} {D : va_G} {cl : List vw_C} {ws wc w1 wn : va_W} {H H1 : Heap} (hP : va_P D cl ws H) (hD : va_D A0 ws) (is : List Nat) (hC : is.map (fun i => ws[i]?) = wc.map some) (hn : va_nd is = true)
    (hk : ∀ q : Nat, q < H.size → ¬ inW wc q → H1[q]? = H[q]?) (hP1 : va_P D cl w1 H1) (ha : w1.map Prod.fst = wc.map Prod.fst) (hw : wput ws is w1 = wn) : va_P D cl wn H1 ∧ va_D A0 wn := by
  subst hw
  have hlen : is.length = wc.length := by have := congrArg List.length hC; simpa using this
  have hlen1 : w1.length = wc.length := by have := congrArg List.length ha; simpa using this
  have at' : ∀ (k : Nat) (q : Nat × va_E), wc[k]? = some q → ∃ i, is[k]? = some i ∧ ws[i]? = some q := by
    intro k q hq
    have h1 : (is.map (fun i => ws[i]?))[k]? = some (some q) := by rw [hC, List.getElem?_map, hq]; rfl
    rw [List.getElem?_map] at h1
    cases hi : is[k]? with
    | none => rw [hi] at h1; cases h1
    | some i => rw [hi] at h1; exact ⟨i, rfl, Option.some.inj h1⟩
  have hlt : ∀ i ∈ is, i < ws.length := by
    intro i hi
    obtain ⟨k, hk⟩ := List.getElem?_of_mem hi
    have hkl : k < wc.length := by rw [← hlen]; exact (List.getElem?_eq_some_iff.mp hk).1
    obtain ⟨i2, h1, h2⟩ := at' k wc[k] (List.getElem?_eq_getElem hkl)
    rw [hk] at h1
    cases h1
    exact (List.getElem?_eq_some_iff.mp h2).1
  -- what stands at a place of the new world
  have new : ∀ (i : Nat) (q : Nat × va_E), (wput ws is w1)[i]? = some q → (∃ k : Nat, is[k]? = some i ∧ w1[k]? = some q) ∨ (i ∉ is ∧ ws[i]? = some q) := by
    intro i q hq
    by_cases hi : i ∈ is
    · obtain ⟨k, hk⟩ := List.getElem?_of_mem hi
      have hkl : k < w1.length := by rw [hlen1, ← hlen]; exact (List.getElem?_eq_some_iff.mp hk).1
      have := wput_in is w1 ws k i w1[k] hn hlt hk (List.getElem?_eq_getElem hkl)
      rw [hq] at this
      cases this
      exact Or.inl ⟨k, hk, List.getElem?_eq_getElem hkl⟩
    · rw [wput_out is w1 ws i hi] at hq
      exact Or.inr ⟨hi, hq⟩
  have old : ∀ (i : Nat) (q : Nat × va_E), (wput ws is w1)[i]? = some q → ∃ q0, ws[i]? = some q0 ∧ q0.1 = q.1 := by
    intro i q hq
    rcases new i q hq with ⟨k, hk, hw⟩ | ⟨-, h⟩
    · have hkl : k < wc.length := by rw [← hlen]; exact (List.getElem?_eq_some_iff.mp hk).1
      obtain ⟨i2, h1, h2⟩ := at' k wc[k] (List.getElem?_eq_getElem hkl)
      rw [hk] at h1
      cases h1
      refine ⟨_, h2, ?_⟩
      have e1 : (w1.map Prod.fst)[k]? = (wc.map Prod.fst)[k]? := by rw [ha]
      rw [List.getElem?_map, List.getElem?_map, hw, List.getElem?_eq_getElem hkl] at e1
      simpa using e1.symm
    · exact ⟨q, h, rfl⟩
  constructor
  · intro i q hq
    rcases new i q hq with ⟨k, -, hw⟩ | ⟨hi, h⟩
    · exact hP1 k q hw
    · refine (hP i q h).kept (hk q.1 (hP i q h).lt (fun hin => ?_))
      obtain ⟨k2, e, h2⟩ := hin
      obtain ⟨j, h3, h4⟩ := at' k2 (q.1, e) h2
      have hij := hD.1 i j q (q.1, e) h h4 rfl
      subst hij
      exact hi (List.mem_of_getElem? h3)
  · refine ⟨fun i j x y hx hy hxy => ?_, fun i q hq => ?_⟩
    · obtain ⟨x0, h1, h2⟩ := old i x hx
      obtain ⟨y0, h3, h4⟩ := old j y hy
      exact hD.1 i j x0 y0 h1 h3 (by rw [h2, h4, hxy])
    · obtain ⟨q0, h1, h2⟩ := old i q hq
      rw [← h2]
      exact hD.2 i q0 h1
theorem wr_dsub {A : Nat → Prop} {ws wc : va_W} (hD : va_D A ws) (is : List Nat) (hn : va_nd is = true) (hC : is.map (fun i => ws[i]?) = wc.map some) : va_D (fun _ => True) wc := (hD.sub is hn hC).weaken (fun _ _ _ _ => trivial)
theorem va_P.pick {D : va_G} {cl : List vw_C} {ws wc : va_W} {H : Heap} (hP : va_P D cl ws H) (is : List Nat) (hC : is.map (fun i => ws[i]?) = wc.map some) : va_P D cl wc H := by
  intro k q hq
  have h1 : (is.map (fun i => ws[i]?))[k]? = some (some q) := by rw [hC, List.getElem?_map, hq]; rfl
  rw [List.getElem?_map] at h1
  cases hi : is[k]? with
  | none => rw [hi] at h1; cases h1
  | some i => rw [hi] at h1; exact hP i q (Option.some.inj h1)
section CALLS
variable {p : Program} {l : Launch} {e : Env} {R : Room} {s : State} {m : MethodId} {args : Array Value} {below : List Frame} {meth : Method} {c : Code} {H : Heap} {locs : List Loc} {cells slots : Nat} {Q : State → Prop}
  {Ts wsC wsC' : List Cond} {cc bytes : ByteArray} {nL maxL index n : Nat} {own C host : String} {y : MethodName} {ret : Option FieldType} {rm : Room} {b pc : Nat} {As rest st0 : List Value} {ls : Array Slot}
  {D : va_G} {tys : List (ClassId × FieldType)} {ws wc : va_W} {A0 : Nat → Prop} {H0 : Heap} {ci : Nat} {fs : List Value}
theorem rd_preV {q0 : Nat} {r : vw_C} (hK : va_K D vwCl tys s) (hP : va_P D vwCl wc H) (hN : NW s) (hw : wc[q0]? = some (b, .inr (ci, fs))) (hc : vwCl[ci]? = some r) : PreV s H r.1 b (rdPc D tys (.ref b :: As) wc) As :=
  ⟨rdBlind, va_recv hK hP hc hw, fun U hU hW => ⟨rfl, by rw [hU]; exact hP, va_K.moved hW.alike hK, hN.warm hW⟩⟩
theorem wr_preV {q0 : Nat} {r : vw_C} (hK : va_K D vwCl tys s) (hP : va_P D vwCl wc H) (hN : NW s) (hD : va_D (fun _ => True) wc) (hw : wc[q0]? = some (b, .inr (ci, fs))) (hc : vwCl[ci]? = some r) : PreV s H r.1 b (wrPc D tys (.ref b :: As) wc) As :=
  ⟨wrBlind, va_recv hK hP hc hw, fun U hU hW => ⟨rfl, by rw [hU]; exact hP, va_K.moved hW.alike hK, hN.warm hW, hD⟩⟩
theorem rd_preS (hK : va_K D vwCl tys s) (hP : va_P D vwCl wc H) (hN : NW s) : PreS s H (rdPc D tys As wc) As :=
  ⟨rdBlind, fun U hU hW => ⟨rfl, by rw [hU]; exact hP, va_K.moved hW.alike hK, hN.warm hW⟩⟩
/-- behind a call that reads: all cells are as they were -/
theorem rd_calli {f : Int32 → Prop} {a : Array Value} (hP : va_P D vwCl ws H) (hS : va_S A0 H0 H locs) (hr : va_Run p l e R s m args below meth c H locs cells slots 0 0 (F0 m pc ls st0) rest (rdQi f a) noA)
    (kk : ∀ (r : Int32) (H1 : Heap) (locs1 : List Loc), f r → va_P D vwCl ws H1 → va_S A0 H0 H1 locs1 → W p l e R s m args below meth c H1 locs1 cells slots Q (F0 m (pc + 3) ls (.int r :: rest))) : W p l e R s m args below meth c H locs cells slots Q (F0 m pc ls st0) :=
  va_calli hr hS (fun _ _ h => h.elim) (fun _ h => h.elim) (fun r _ _ H1 locs1 _ _ hp _ _ hk hS1 => kk r H1 locs1 hp (hP.kept (fun k q hq => hk q.1 (hP k q hq).lt (fun h => h))) hS1)
theorem rd_calll {f : Int64 → Prop} {a : Array Value} (hP : va_P D vwCl ws H) (hS : va_S A0 H0 H locs) (hr : va_Run p l e R s m args below meth c H locs cells slots 0 0 (F0 m pc ls st0) rest (rdQl f a) noA)
    (kk : ∀ (r : Int64) (H1 : Heap) (locs1 : List Loc), f r → va_P D vwCl ws H1 → va_S A0 H0 H1 locs1 → W p l e R s m args below meth c H1 locs1 cells slots Q (F0 m (pc + 3) ls (.long r :: rest))) : W p l e R s m args below meth c H locs cells slots Q (F0 m pc ls st0) :=
  va_calll hr hS (fun _ _ h => h.elim) (fun _ h => h.elim) (fun r _ _ H1 locs1 _ _ hp _ _ hk hS1 => kk r H1 locs1 hp (hP.kept (fun k q hq => hk q.1 (hP k q hq).lt (fun h => h))) hS1)
/-- behind a call that writes -/
theorem wr_calli {S : Type} {post : Int32 → S → Prop} {wo : S → va_W} {a : Array Value} (hP : va_P D vwCl ws H) (hD : va_D A0 ws) (hS : va_S A0 H0 H locs) (is : List Nat) (hC : is.map (fun i => ws[i]?) = wc.map some) (hn : va_nd is = true) (wn : S → va_W)
    (hw : ∀ u, wput ws is (wo u) = wn u) (ha : ∀ u, (wo u).map Prod.fst = wc.map Prod.fst)
    (hr : va_Run p l e R s m args below meth c H locs cells slots 0 0 (F0 m pc ls st0) rest (wrQi D wc post wo a) (inW wc))
    (kk : ∀ (r : Int32) (u : S) (H1 : Heap) (locs1 : List Loc), post r u → va_P D vwCl (wn u) H1 → va_D A0 (wn u) → va_S A0 H0 H1 locs1 → W p l e R s m args below meth c H1 locs1 cells slots Q (F0 m (pc + 3) ls (.int r :: rest))) : W p l e R s m args below meth c H locs cells slots Q (F0 m pc ls st0) :=
  va_calli hr hS (fun q _ h => inW_free hD is hC q h) (fun q h => inW_free hD is hC q h) (fun r u t H1 locs1 ht _ hp hB _ hk hS1 => by
    obtain ⟨h1, h2⟩ := wr_join hP hD is hC hn hk (by rw [← ht]; exact hB) (ha u) (hw u)
    exact kk r u H1 locs1 hp h1 h2 hS1)
theorem wr_calll {S : Type} {post : Int64 → S → Prop} {wo : S → va_W} {a : Array Value} (hP : va_P D vwCl ws H) (hD : va_D A0 ws) (hS : va_S A0 H0 H locs) (is : List Nat) (hC : is.map (fun i => ws[i]?) = wc.map some) (hn : va_nd is = true) (wn : S → va_W)
    (hw : ∀ u, wput ws is (wo u) = wn u) (ha : ∀ u, (wo u).map Prod.fst = wc.map Prod.fst)
    (hr : va_Run p l e R s m args below meth c H locs cells slots 0 0 (F0 m pc ls st0) rest (wrQl D wc post wo a) (inW wc))
    (kk : ∀ (r : Int64) (u : S) (H1 : Heap) (locs1 : List Loc), post r u → va_P D vwCl (wn u) H1 → va_D A0 (wn u) → va_S A0 H0 H1 locs1 → W p l e R s m args below meth c H1 locs1 cells slots Q (F0 m (pc + 3) ls (.long r :: rest))) : W p l e R s m args below meth c H locs cells slots Q (F0 m pc ls st0) :=
  va_calll hr hS (fun q _ h => inW_free hD is hC q h) (fun q h => inW_free hD is hC q h) (fun r u t H1 locs1 ht _ hp hB _ hk hS1 => by
    obtain ⟨h1, h2⟩ := wr_join hP hD is hC hn hk (by rw [← ht]; exact hB) (ha u) (hw u)
    exact kk r u H1 locs1 hp h1 h2 hS1)
theorem wr_callv {S : Type} {post : S → Prop} {wo : S → va_W} {a : Array Value} (hP : va_P D vwCl ws H) (hD : va_D A0 ws) (hS : va_S A0 H0 H locs) (is : List Nat) (hC : is.map (fun i => ws[i]?) = wc.map some) (hn : va_nd is = true) (wn : S → va_W)
    (hw : ∀ u, wput ws is (wo u) = wn u) (ha : ∀ u, (wo u).map Prod.fst = wc.map Prod.fst)
    (hr : va_Run p l e R s m args below meth c H locs cells slots 0 0 (F0 m pc ls st0) rest (wrQv D wc post wo a) (inW wc))
    (kk : ∀ (u : S) (H1 : Heap) (locs1 : List Loc), post u → va_P D vwCl (wn u) H1 → va_D A0 (wn u) → va_S A0 H0 H1 locs1 → W p l e R s m args below meth c H1 locs1 cells slots Q (F0 m (pc + 3) ls rest)) : W p l e R s m args below meth c H locs cells slots Q (F0 m pc ls st0) :=
  va_callv hr hS (fun q _ h => inW_free hD is hC q h) (fun q h => inW_free hD is hC q h) (fun u t H1 locs1 ht _ hp hB _ hk hS1 => by
    obtain ⟨h1, h2⟩ := wr_join hP hD is hC hn hk (by rw [← ht]; exact hB) (ha u) (hw u)
    exact kk u H1 locs1 hp h1 h2 hS1)
end CALLS
