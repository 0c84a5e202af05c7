/-! the reference's object as one picture -/
/-- a kept block of 43 ints -/
def RepM (f : Nat → Int32) (P : Prf) : Prop := f 0 = nI P.1 ∧ f 1 = P.2.1 ∧ f 2 = P.2.2.1 ∧ (∀ k, k < P.1 → f (3 + k) = P.2.2.2.1 k) ∧ (∀ k, k < P.1 → f (23 + k) = P.2.2.2.2 k)
/-- the latest state of the history stands last -/
def PstR (pp : Nat → Int32) (hs : List Prf) : Prop := ∀ (i : Nat) (P : Prf), hs[i]? = some P → RepM (fun k => pp (43 * (hs.length - 1 - i) + k)) P
def MRI (D : va_G) (cI cB cO : ClassId) (A : Nat → Nat) (H : Heap) (n : Nat) (rg : Int32) (bl : Int32) (G : Nat → Int32) (M : Nat → Int32) (hs : List Prf) (tL : Nat) (tc : Nat → Nat) (fk : Nat) (fc : Nat → Nat) : Prop := ∃ (mm : Nat → Int32) (pp : Nat → Int32) (fd : Nat → Int32) (tx : Nat → Int32) (rgd : Nat → Int32) (rmd : Nat → Int32) (wy : Nat → Int32) (cvr : Nat → Int32) (re : Int32) (at0 : Int32) (fa : Int32) (hsh : Int64), va_P D vwCl [(A 0, .inr (7, [.ref (A 1), .ref (A 2), .int (nI hs.length), .ref (A 3), .int (FZ fk), .ref (A 4), .int (nI tL), .ref (A 5), .ref (A 6), .int re, .int at0, .int fa, .ref (A 7), .ref (A 8), .long hsh])), (A 1, .inl (cI, 43, .inl mm)), (A 2, .inl (cI, 430, .inl pp)), (A 3, .inl (cI, 20, .inl fd)), (A 4, .inl (cI, 120, .inl tx)), (A 5, .inl (cI, 20, .inl rgd)), (A 6, .inl (cI, 20, .inl rmd)), (A 7, .inl (cI, 20, .inl wy)), (A 8, .inl (cI, 20, .inl cvr))] H ∧ (MOK n mm rg bl G M) ∧ (PstR pp hs) ∧ (hs.length ≤ 10) ∧ (∀ j, j < tL → tx j = nI (tc j)) ∧ (∀ j, j + 1 < fk → fd j = nI (fc j))
def bdW (A : Nat → Nat) : va_W := [(A 0, .inr (0, [])), (A 1, .inr (0, [])), (A 2, .inr (0, [])), (A 3, .inr (0, [])), (A 4, .inr (0, [])), (A 5, .inr (0, [])), (A 6, .inr (0, [])), (A 7, .inr (0, [])), (A 8, .inr (0, []))]
abbrev mrPc (D : va_G) (cI cB cO : ClassId) (A : Nat → Nat) (av : List Value) (n : Nat) (rg : Int32) (bl : Int32) (G : Nat → Int32) (M : Nat → Int32) (hs : List Prf) (tL : Nat) (tc : Nat → Nat) (fk : Nat) (fc : Nat → Nat) : Array Value → State → Prop := va_Pc av (fun U => MRI D cI cB cO A U.heap n rg bl G M hs tL tc fk fc ∧ va_K D vwCl (tyL cI cB cO) U ∧ NW U ∧ va_D (fun _ => True) (bdW A))
theorem mrBlind {D : va_G} {cI cB cO : ClassId} {A : Nat → Nat} {av : List Value} {n : Nat} {rg bl : Int32} {G M : Nat → Int32} {hs : List Prf} {tL : Nat} {tc : Nat → Nat} {fk : Nat} {fc : Nat → Nat} : FrameBlind (mrPc D cI cB cO A av n rg bl G M hs tL tc fk fc) := by
  intro a U g mk q
  obtain ⟨q0, qI, qK, qN, qD⟩ := q
  exact ⟨q0, qI, va_K.moved (u := U) (U := U.calling g mk a) (Vm.Alike.refl U.vm) qK, NW.same (u := U) (U := U.calling g mk a) rfl qN, qD⟩
abbrev mrQi {S : Type} (A : Nat → Nat) (post : Int32 → S → Prop) (wo : S → Heap → Prop) : Array Value → State → Outcome → State → Prop := va_Qi post (fun u t => wo u t.heap) (inW (bdW A))
abbrev mrQl {S : Type} (A : Nat → Nat) (post : Int64 → S → Prop) (wo : S → Heap → Prop) : Array Value → State → Outcome → State → Prop := va_Ql post (fun u t => wo u t.heap) (inW (bdW A))
theorem mri_mk {D : va_G} {cI cB cO : ClassId} {A : Nat → Nat} {H : Heap} (n : Nat) (rg : Int32) (bl : Int32) (G : Nat → Int32) (M : Nat → Int32) (hs : List Prf) (tL : Nat) (tc : Nat → Nat) (fk : Nat) (fc : Nat → Nat) (mm : Nat → Int32) (pp : Nat → Int32) (fd : Nat → Int32) (tx : Nat → Int32) (rgd : Nat → Int32) (rmd : Nat → Int32) (wy : Nat → Int32) (cvr : Nat → Int32) (re : Int32) (at0 : Int32) (fa : Int32) (hsh : Int64) (hP : va_P D vwCl [(A 0, .inr (7, [.ref (A 1), .ref (A 2), .int (nI hs.length), .ref (A 3), .int (FZ fk), .ref (A 4), .int (nI tL), .ref (A 5), .ref (A 6), .int re, .int at0, .int fa, .ref (A 7), .ref (A 8), .long hsh])), (A 1, .inl (cI, 43, .inl mm)), (A 2, .inl (cI, 430, .inl pp)), (A 3, .inl (cI, 20, .inl fd)), (A 4, .inl (cI, 120, .inl tx)), (A 5, .inl (cI, 20, .inl rgd)), (A 6, .inl (cI, 20, .inl rmd)), (A 7, .inl (cI, 20, .inl wy)), (A 8, .inl (cI, 20, .inl cvr))] H) (hm : MOK n mm rg bl G M) (hpp : PstR pp hs) (hsl : hs.length ≤ 10) (htx : ∀ j, j < tL → tx j = nI (tc j)) (hfd : ∀ j, j + 1 < fk → fd j = nI (fc j)) : MRI D cI cB cO A H n rg bl G M hs tL tc fk fc := ⟨mm, pp, fd, tx, rgd, rmd, wy, cvr, re, at0, fa, hsh, hP, hm, hpp, hsl, htx, hfd⟩
theorem retM {D : va_G} {cI cB cO : ClassId} {A : Nat → Nat} {H : Heap} {n : Nat} {rg bl : Int32} {G M : Nat → Int32} {hs : List Prf} {tL : Nat} {tc : Nat → Nat} {fk : Nat} {fc : Nat → Nat} {t : State} (h : t.heap = H) (hI : MRI D cI cB cO A H n rg bl G M hs tL tc fk fc) : MRI D cI cB cO A t.heap n rg bl G M hs tL tc fk fc := by rw [h]; exact hI
def shP (i : Nat) (pp : Nat → Int32) : Nat → Int32 := fun k => if k < i then pp (k + 43) else pp k
theorem shP_0 (pp : Nat → Int32) : shP 0 pp = pp := by funext k; unfold shP; rw [if_neg (by omega)]
theorem shP_s (i : Nat) (pp : Nat → Int32) : upd (shP i pp) i (pp (i + 43)) = shP (i + 1) pp := by
  funext k; unfold upd shP
  by_cases h : k = i
  · rw [if_pos h, if_pos (by omega), h]
  · rw [if_neg h]
    by_cases h2 : k < i
    · rw [if_pos h2, if_pos (by omega)]
    · rw [if_neg h2, if_neg (by omega)]
/-- i ints of a block stand at its place -/
def blM (u : Nat) (mm : Nat → Int32) (i : Nat) (f : Nat → Int32) : Nat → Int32 := fun k => if 43 * u ≤ k ∧ k < 43 * u + i then mm (k - 43 * u) else f k
theorem blM_0 (u : Nat) (mm f : Nat → Int32) : blM u mm 0 f = f := by funext k; unfold blM; rw [if_neg (by omega)]
theorem blM_s (u : Nat) (mm : Nat → Int32) (i : Nat) (f : Nat → Int32) : upd (blM u mm i f) (43 * u + i) (mm i) = blM u mm (i + 1) f := by
  funext k; unfold upd blM
  by_cases h : k = 43 * u + i
  · rw [if_pos h, if_pos (by omega), h, Nat.add_sub_cancel_left]
  · rw [if_neg h]
    by_cases h2 : 43 * u ≤ k ∧ k < 43 * u + i
    · rw [if_pos h2, if_pos (by omega)]
    · rw [if_neg h2, if_neg (by omega)]
def keM (u : Nat) (mm pp : Nat → Int32) : Nat → Int32 := if u = 10 then blM 9 mm 43 (shP 387 pp) else blM u mm 43 pp
theorem keM_new {u : Nat} (hu : u ≤ 10) (mm pp : Nat → Int32) {j : Nat} (hj : j < 43) : keM u mm pp (43 * (min (u + 1) 10 - 1) + j) = mm j := by
  unfold keM
  by_cases h : u = 10
  · rw [if_pos h, h]; unfold blM; rw [if_pos (by omega)]; exact congrArg mm (by omega)
  · rw [if_neg h]; unfold blM; rw [if_pos (by omega)]; exact congrArg mm (by omega)
theorem keM_old {u i : Nat} (hu : u ≤ 10) (hi : i < u) (hi9 : i < 9) (mm pp : Nat → Int32) {j : Nat} (hj : j < 43) : keM u mm pp (43 * (min (u + 1) 10 - 1 - (i + 1)) + j) = pp (43 * (u - 1 - i) + j) := by
  unfold keM
  by_cases h : u = 10
  · rw [if_pos h, h]; unfold blM shP; rw [if_neg (by omega), if_pos (by omega)]; exact congrArg pp (by omega)
  · rw [if_neg h]; unfold blM; rw [if_neg (by omega)]; exact congrArg pp (by omega)
theorem RepM_of {f g : Nat → Int32} {P : Prf} (hn : P.1 ≤ 20) (h : ∀ j, j < 43 → g j = f j) (hr : RepM f P) : RepM g P :=
  ⟨(h 0 (by decide)).trans hr.1, (h 1 (by decide)).trans hr.2.1, (h 2 (by decide)).trans hr.2.2.1, fun k hk => (h _ (by omega)).trans (hr.2.2.2.1 k hk), fun k hk => (h _ (by omega)).trans (hr.2.2.2.2 k hk)⟩
theorem MOK_rep {n : Nat} {mm : Nat → Int32} {rg bl : Int32} {G M : Nat → Int32} (h : MOK n mm rg bl G M) : RepM mm (n, rg, bl, G, M) := ⟨h.2.2.1, h.2.2.2.1, h.2.2.2.2.1, h.2.2.2.2.2.1, h.2.2.2.2.2.2⟩
theorem PstR_keep {n : Nat} {mm pp : Nat → Int32} {rg bl : Int32} {G M : Nat → Int32} {hs : List Prf} (hm : MOK n mm rg bl G M) (hl : hs.length ≤ 10) (hok : ∀ P, P ∈ hs → okP P) (h : PstR pp hs) : PstR (keM hs.length mm pp) (((n, rg, bl, G, M) :: hs).take 10) := by
  intro i P hi
  have hi9 : i < 10 := by
    have := (List.getElem?_eq_some_iff.mp hi).1
    rw [List.length_take] at this
    omega
  rw [List.getElem?_take, if_pos hi9] at hi
  rw [take10_len]
  cases i with
  | zero =>
    rw [List.getElem?_cons_zero] at hi
    cases hi
    exact RepM_of hm.1 (fun j hj => keM_new hl mm pp hj) (MOK_rep hm)
  | succ i =>
    rw [List.getElem?_cons_succ] at hi
    have hlt := (List.getElem?_eq_some_iff.mp hi).1
    exact RepM_of (hok P (List.mem_of_getElem? hi)).2.1 (fun j hj => keM_old hl hlt (by omega) mm pp hj) (h i P hi)
theorem PstR_undo {pp : Nat → Int32} {P : Prf} {t : List Prf} (h : PstR pp (P :: t)) : PstR pp t ∧ RepM (fun k => pp (43 * t.length + k)) P := by
  constructor
  · intro i Q hi
    have h2 := h (i + 1) Q (by rw [List.getElem?_cons_succ]; exact hi)
    have hlt := (List.getElem?_eq_some_iff.mp hi).1
    rw [List.length_cons, show t.length + 1 - 1 - (i + 1) = t.length - 1 - i by omega] at h2
    exact h2
  · have h2 := h 0 P rfl
    rw [List.length_cons, show t.length + 1 - 1 - 0 = t.length by omega] at h2
    exact h2
theorem kX7_keeps_0 : ∀ w ∈ wsX70, w ∈ wsX7_keeps := by decide +kernel
theorem kX7_keeps_1 : (.fieldLink RX7 42 "SightRidgeModel" "undos" "I" : Cond) ∈ wsX7_keeps := by decide +kernel
theorem kX7_keeps_2 : (.fieldLink RX7 13 "SightRidgeModel" "past" "[I" : Cond) ∈ wsX7_keeps := by decide +kernel
theorem kX7_keeps_3 : (.fieldLink RX7 7 "SightRidgeModel" "m" "[I" : Cond) ∈ wsX7_keeps := by decide +kernel
set_option maxHeartbeats 4000000 in
set_option maxRecDepth 100000 in
/-- keeps() -/
theorem c_X7_keeps (l : Launch) (D : va_G) (cI cB cO : ClassId) (q0 q1 q2 q3 q4 q5 q6 q7 q8 : Nat) (mm pp : Nat → Int32) (fi tl re at0 fa : Int32) (hsh : Int64) (w : Nat) (hw : w ≤ 10) : Met l yX7_keeps wsX7_keeps (rmD 1) (wrPc D (tyL cI cB cO) [.ref q0] [(q0, .inr (7, [.ref q1, .ref q2, .int (nI w), .ref q3, .int fi, .ref q4, .int tl, .ref q5, .ref q6, .int re, .int at0, .int fa, .ref q7, .ref q8, .long hsh])), (q1, .inl (cI, 43, .inl mm)), (q2, .inl (cI, 430, .inl pp))]) (wrQv D [(q0, .inr (7, [.ref q1, .ref q2, .int (nI w), .ref q3, .int fi, .ref q4, .int tl, .ref q5, .ref q6, .int re, .int at0, .int fa, .ref q7, .ref q8, .long hsh])), (q1, .inl (cI, 43, .inl mm)), (q2, .inl (cI, 430, .inl pp))] (fun (u : Unit) => True) (fun (u : Unit) => [(q0, .inr (7, [.ref q1, .ref q2, .int (nI (min (w + 1) 10)), .ref q3, .int fi, .ref q4, .int tl, .ref q5, .ref q6, .int re, .int at0, .int fa, .ref q7, .ref q8, .long hsh])), (q1, .inl (cI, 43, .inl mm)), (q2, .inl (cI, 430, .inl (keM w mm pp)))])) 0 0 (inW [(q0, .inr (7, [.ref q1, .ref q2, .int (nI w), .ref q3, .int fi, .ref q4, .int tl, .ref q5, .ref q6, .int re, .int at0, .int fa, .ref q7, .ref q8, .long hsh])), (q1, .inl (cI, 43, .inl mm)), (q2, .inl (cI, 430, .inl pp))]) := by
  refine Met.ofW (cc := cX7_keeps) (maxL := 2) (ret := none) (by decide) rfl ?_
  intro p e s m args below meth c s₁ B hml hv
  obtain ⟨rfl, hP, hK, hN, hD⟩ := hv
  have hx := B.exec
  have hb := B.bytes
  have hr := B.returns
  have hts := atoms_spec (ws := wsX7_keeps) B.pre
  have hown : s.vm.findClass RX7 = some m.cls := findClass_of_methodNamed B.named
  have hlocks := B.notSynchronized
  have hS : va_S (inW [(q0, .inr (7, [.ref q1, .ref q2, .int (nI w), .ref q3, .int fi, .ref q4, .int tl, .ref q5, .ref q6, .int re, .int at0, .int fa, .ref q7, .ref q8, .long hsh])), (q1, .inl (cI, 43, .inl mm)), (q2, .inl (cI, 430, .inl pp))]) s.heap s.heap [] := va_S.rf
  have hD : va_D (inW [(q0, .inr (7, [.ref q1, .ref q2, .int (nI w), .ref q3, .int fi, .ref q4, .int tl, .ref q5, .ref q6, .int re, .int at0, .int fa, .ref q7, .ref q8, .long hsh])), (q1, .inl (cI, 43, .inl mm)), (q2, .inl (cI, 430, .inl pp))]) [(q0, .inr (7, [.ref q1, .ref q2, .int (nI w), .ref q3, .int fi, .ref q4, .int tl, .ref q5, .ref q6, .int re, .int at0, .int fa, .ref q7, .ref q8, .long hsh])), (q1, .inl (cI, 43, .inl mm)), (q2, .inl (cI, 430, .inl pp))] := inW_self hD
  have hl := lv_entry ([.ref q0]) (n := 2) (Nat.le_of_ble_eq_true rfl)
  rw [lg_entry_eq]
  generalize (lg_sl ([.ref q0]) ++ List.replicate (2 - (lg_sl ([.ref q0])).length) Slot.unset).toArray = ls at hl ⊢
  have hl : lv_has ls 2 [(0, .ref q0)] := hl
  refine lv_aload_n hx hb dX7_keeps_0 rfl (lv_at hl 0 rfl) ?_
  refine va_get (D := D) (ci := 7) (v := .int (nI w)) (C := RX7) (T := TX7) (N := 15) hx hb hts kX7_keeps_0 hown hK hP 0 rfl rfl 2 (by decide) (hts (.fieldLink RX7 42 "SightRidgeModel" "undos" "I") kX7_keeps_1) (fun _ h9 => h9) rfl dX7_keeps_1 ?_
  refine lv_bipush (v := 10) hx hb dX7_keeps_4 (by decide) ?_
  refine lv_icmp_ne (tgt := 49) hx hb dX7_keeps_6 (by decide) (fun c_6 => ?_) (fun c_6 => ?_)
  · skip
    have d1 : ¬ w = 10 := fun q => c_6 (by rw [q]; rfl)
    refine lv_iconst (v := 0) hx hb dX7_keeps_49 (by decide) ?_
    refine lv_istore_n (lv' := [(1, .int 0), (0, .ref q0)]) hx hb dX7_keeps_50 rfl hl (by decide) rfl (fun ls hl => ?_)
    have e9 : ([(q0, .inr (7, [.ref q1, .ref q2, .int (nI w), .ref q3, .int fi, .ref q4, .int tl, .ref q5, .ref q6, .int re, .int at0, .int fa, .ref q7, .ref q8, .long hsh])), (q1, .inl (cI, 43, .inl mm)), (q2, .inl (cI, 430, .inl pp))] : va_W) = [(q0, .inr (7, [.ref q1, .ref q2, .int (nI w), .ref q3, .int fi, .ref q4, .int tl, .ref q5, .ref q6, .int re, .int at0, .int fa, .ref q7, .ref q8, .long hsh])), (q1, .inl (cI, 43, .inl mm)), (q2, .inl (cI, 430, .inl (blM w mm 0 pp)))] := congrArg (fun f9 : Nat → Int32 => ([(q0, .inr (7, [.ref q1, .ref q2, .int (nI w), .ref q3, .int fi, .ref q4, .int tl, .ref q5, .ref q6, .int re, .int at0, .int fa, .ref q7, .ref q8, .long hsh])), (q1, .inl (cI, 43, .inl mm)), (q2, .inl (cI, 430, .inl f9))] : va_W)) (show pp = blM w mm 0 pp from (blM_0 _ _ _).symm)
    have hP := va_P_eq e9 hP
    have hD := va_D_eq e9 hD
    have L_51 : ∀ (k_51 : Nat) (i : Nat), 43 - i < k_51 → (i ≤ 43) → ∀ (H : Heap) (locs : List Loc), va_P D vwCl [(q0, .inr (7, [.ref q1, .ref q2, .int (nI w), .ref q3, .int fi, .ref q4, .int tl, .ref q5, .ref q6, .int re, .int at0, .int fa, .ref q7, .ref q8, .long hsh])), (q1, .inl (cI, 43, .inl mm)), (q2, .inl (cI, 430, .inl (blM w mm i pp)))] H → va_D (inW [(q0, .inr (7, [.ref q1, .ref q2, .int (nI w), .ref q3, .int fi, .ref q4, .int tl, .ref q5, .ref q6, .int re, .int at0, .int fa, .ref q7, .ref q8, .long hsh])), (q1, .inl (cI, 43, .inl mm)), (q2, .inl (cI, 430, .inl pp))]) [(q0, .inr (7, [.ref q1, .ref q2, .int (nI w), .ref q3, .int fi, .ref q4, .int tl, .ref q5, .ref q6, .int re, .int at0, .int fa, .ref q7, .ref q8, .long hsh])), (q1, .inl (cI, 43, .inl mm)), (q2, .inl (cI, 430, .inl (blM w mm i pp)))] → va_S (inW [(q0, .inr (7, [.ref q1, .ref q2, .int (nI w), .ref q3, .int fi, .ref q4, .int tl, .ref q5, .ref q6, .int re, .int at0, .int fa, .ref q7, .ref q8, .long hsh])), (q1, .inl (cI, 43, .inl mm)), (q2, .inl (cI, 430, .inl pp))]) s.heap H locs → ∀ (ls : Array Slot), lv_has ls 2 [(0, .ref q0), (1, .int (nI i))] → W p l e (rmD 1) s m ([.ref q0] : List Value).toArray below meth c H locs 0 0 (MQ below (wrQv D [(q0, .inr (7, [.ref q1, .ref q2, .int (nI w), .ref q3, .int fi, .ref q4, .int tl, .ref q5, .ref q6, .int re, .int at0, .int fa, .ref q7, .ref q8, .long hsh])), (q1, .inl (cI, 43, .inl mm)), (q2, .inl (cI, 430, .inl pp))] (fun (u : Unit) => True) (fun (u : Unit) => [(q0, .inr (7, [.ref q1, .ref q2, .int (nI (min (w + 1) 10)), .ref q3, .int fi, .ref q4, .int tl, .ref q5, .ref q6, .int re, .int at0, .int fa, .ref q7, .ref q8, .long hsh])), (q1, .inl (cI, 43, .inl mm)), (q2, .inl (cI, 430, .inl (keM w mm pp)))])) ([.ref q0] : List Value).toArray s 0 0 (inW [(q0, .inr (7, [.ref q1, .ref q2, .int (nI w), .ref q3, .int fi, .ref q4, .int tl, .ref q5, .ref q6, .int re, .int at0, .int fa, .ref q7, .ref q8, .long hsh])), (q1, .inl (cI, 43, .inl mm)), (q2, .inl (cI, 430, .inl pp))])) (F0 m 51 ls []) := by
      intro k_51
      induction k_51 with
      | zero => intro i h9; exact absurd h9 (Nat.not_lt_zero _)
      | succ k_51 ih_51 =>
        intro i hm_51 hi H locs hP hD hS ls hl
        refine lv_iload_n hx hb dX7_keeps_51 rfl (lv_at hl 1 rfl) ?_
        refine lv_bipush (v := 43) hx hb dX7_keeps_52 (by decide) ?_
        refine lv_icmp_ge (tgt := 83) hx hb dX7_keeps_54 (by decide) (fun c_54 => ?_) (fun c_54 => ?_)
        · skip
          have c0 : 43 ≤ i := ge_t (by omega) c_54
          have ei : i = 43 := by omega
          rw [ei] at hP hD
          have e9 : ([(q0, .inr (7, [.ref q1, .ref q2, .int (nI w), .ref q3, .int fi, .ref q4, .int tl, .ref q5, .ref q6, .int re, .int at0, .int fa, .ref q7, .ref q8, .long hsh])), (q1, .inl (cI, 43, .inl mm)), (q2, .inl (cI, 430, .inl (blM w mm 43 pp)))] : va_W) = [(q0, .inr (7, [.ref q1, .ref q2, .int (nI w), .ref q3, .int fi, .ref q4, .int tl, .ref q5, .ref q6, .int re, .int at0, .int fa, .ref q7, .ref q8, .long hsh])), (q1, .inl (cI, 43, .inl mm)), (q2, .inl (cI, 430, .inl (keM w mm pp)))] := congrArg (fun f9 : Nat → Int32 => ([(q0, .inr (7, [.ref q1, .ref q2, .int (nI w), .ref q3, .int fi, .ref q4, .int tl, .ref q5, .ref q6, .int re, .int at0, .int fa, .ref q7, .ref q8, .long hsh])), (q1, .inl (cI, 43, .inl mm)), (q2, .inl (cI, 430, .inl f9))] : va_W)) (show blM w mm 43 pp = keM w mm pp from by unfold keM; rw [if_neg d1])
          have hP := va_P_eq e9 hP
          have hD := va_D_eq e9 hD
          refine lv_aload_n hx hb dX7_keeps_83 rfl (lv_at hl 0 rfl) ?_
          refine lv_dup hx hb dX7_keeps_84 rfl ?_
          refine va_get (D := D) (ci := 7) (v := .int (nI w)) (C := RX7) (T := TX7) (N := 15) hx hb hts kX7_keeps_0 hown hK hP 0 rfl rfl 2 (by decide) (hts (.fieldLink RX7 42 "SightRidgeModel" "undos" "I") kX7_keeps_1) (fun _ h9 => h9) rfl dX7_keeps_85 ?_
          refine lv_iconst (v := 1) hx hb dX7_keeps_88 (by decide) ?_
          refine lv_iadd hx hb dX7_keeps_89 ?_
          refine lv_topi (fun y_1 e_2 => ?_)
          have e_2 : nI (w + 1) = y_1 := (e_2.trans (nI_add w 1)).symm
          subst e_2
          refine lv_topi (fun y_3 e_4 => ?_)
          have e_4 : nI (min (w + 1) 10) = y_3 := (e_4.trans (congrArg nI (by omega))).symm
          subst e_4
          refine va_put (D := D) (ci := 7) (v := .int (nI (min (w + 1) 10))) (ty := .int) (C := RX7) (T := TX7) (N := 15) hx hb hts kX7_keeps_0 tyX7 tyX7_ok nmX7 hown hK hP hD hS 0 rfl rfl 2 (by decide) (hts (.fieldLink RX7 42 "SightRidgeModel" "undos" "I") kX7_keeps_1) (fun _ h9 => h9) rfl (by decide +kernel) rfl rfl (Nat.le_of_ble_eq_true rfl) dX7_keeps_90 (fun H locs hP hD hS => ?_)
          have hP : va_P D vwCl [(q0, .inr (7, [.ref q1, .ref q2, .int (nI (min (w + 1) 10)), .ref q3, .int fi, .ref q4, .int tl, .ref q5, .ref q6, .int re, .int at0, .int fa, .ref q7, .ref q8, .long hsh])), (q1, .inl (cI, 43, .inl mm)), (q2, .inl (cI, 430, .inl (keM w mm pp)))] _ := hP
          have hD : va_D (inW [(q0, .inr (7, [.ref q1, .ref q2, .int (nI w), .ref q3, .int fi, .ref q4, .int tl, .ref q5, .ref q6, .int re, .int at0, .int fa, .ref q7, .ref q8, .long hsh])), (q1, .inl (cI, 43, .inl mm)), (q2, .inl (cI, 430, .inl pp))]) [(q0, .inr (7, [.ref q1, .ref q2, .int (nI (min (w + 1) 10)), .ref q3, .int fi, .ref q4, .int tl, .ref q5, .ref q6, .int re, .int at0, .int fa, .ref q7, .ref q8, .long hsh])), (q1, .inl (cI, 43, .inl mm)), (q2, .inl (cI, 430, .inl (keM w mm pp)))] := hD
          exact W.vret hx hb hr (fun tS htS hWS => ⟨⟨(), rfl, trivial, retP htS hP⟩, hS.F htS⟩) hS.2.2 dX7_keeps_93
        · skip
          have c0 : i < 43 := ge_f (by omega) c_54
          refine lv_aload_n hx hb dX7_keeps_57 rfl (lv_at hl 0 rfl) ?_
          refine va_get (D := D) (ci := 7) (v := .ref q2) (C := RX7) (T := TX7) (N := 15) hx hb hts kX7_keeps_0 hown hK hP 0 rfl rfl 1 (by decide) (hts (.fieldLink RX7 13 "SightRidgeModel" "past" "[I") kX7_keeps_2) (fun _ h9 => h9) rfl dX7_keeps_58 ?_
          refine lv_bipush (v := 43) hx hb dX7_keeps_61 (by decide) ?_
          refine lv_aload_n hx hb dX7_keeps_63 rfl (lv_at hl 0 rfl) ?_
          refine va_get (D := D) (ci := 7) (v := .int (nI w)) (C := RX7) (T := TX7) (N := 15) hx hb hts kX7_keeps_0 hown hK hP 0 rfl rfl 2 (by decide) (hts (.fieldLink RX7 42 "SightRidgeModel" "undos" "I") kX7_keeps_1) (fun _ h9 => h9) rfl dX7_keeps_64 ?_
          refine lv_imul hx hb dX7_keeps_67 ?_
          refine lv_topi (fun y_5 e_6 => ?_)
          have e_6 : nI (43 * w) = y_5 := (e_6.trans (pk_mul 43 w)).symm
          subst e_6
          refine lv_iload_n hx hb dX7_keeps_68 rfl (lv_at hl 1 rfl) ?_
          refine lv_iadd hx hb dX7_keeps_69 ?_
          refine lv_topi (fun y_7 e_8 => ?_)
          have e_8 : nI ((43 * w) + i) = y_7 := (e_8.trans (nI_add (43 * w) i)).symm
          subst e_8
          refine lv_aload_n hx hb dX7_keeps_70 rfl (lv_at hl 0 rfl) ?_
          refine va_get (D := D) (ci := 7) (v := .ref q1) (C := RX7) (T := TX7) (N := 15) hx hb hts kX7_keeps_0 hown hK hP 0 rfl rfl 0 (by decide) (hts (.fieldLink RX7 7 "SightRidgeModel" "m" "[I") kX7_keeps_3) (fun _ h9 => h9) rfl dX7_keeps_71 ?_
          refine lv_iload_n hx hb dX7_keeps_74 rfl (lv_at hl 1 rfl) ?_
          refine va_iald hx hb hK hP 1 0 rfl rfl (i := nI i) (vp_in_nI (N := 43) (by omega) (by decide)) dX7_keeps_75 ?_
          rw [nI_clamp (n := i) (by omega)]
          refine va_iast hx hb hK hP hD hS 2 0 rfl rfl (i := nI ((43 * w) + i)) (vp_in_nI (N := 430) (by omega) (by decide)) dX7_keeps_76 (fun H locs hP hD hS => ?_)
          rw [nI_clamp (n := (43 * w) + i) (by omega)] at hP hD
          have hP : va_P D vwCl [(q0, .inr (7, [.ref q1, .ref q2, .int (nI w), .ref q3, .int fi, .ref q4, .int tl, .ref q5, .ref q6, .int re, .int at0, .int fa, .ref q7, .ref q8, .long hsh])), (q1, .inl (cI, 43, .inl mm)), (q2, .inl (cI, 430, .inl (upd (blM w mm i pp) ((43 * w) + i) (mm i))))] _ := hP
          have hD : va_D (inW [(q0, .inr (7, [.ref q1, .ref q2, .int (nI w), .ref q3, .int fi, .ref q4, .int tl, .ref q5, .ref q6, .int re, .int at0, .int fa, .ref q7, .ref q8, .long hsh])), (q1, .inl (cI, 43, .inl mm)), (q2, .inl (cI, 430, .inl pp))]) [(q0, .inr (7, [.ref q1, .ref q2, .int (nI w), .ref q3, .int fi, .ref q4, .int tl, .ref q5, .ref q6, .int re, .int at0, .int fa, .ref q7, .ref q8, .long hsh])), (q1, .inl (cI, 43, .inl mm)), (q2, .inl (cI, 430, .inl (upd (blM w mm i pp) ((43 * w) + i) (mm i))))] := hD
          have e9 : ([(q0, .inr (7, [.ref q1, .ref q2, .int (nI w), .ref q3, .int fi, .ref q4, .int tl, .ref q5, .ref q6, .int re, .int at0, .int fa, .ref q7, .ref q8, .long hsh])), (q1, .inl (cI, 43, .inl mm)), (q2, .inl (cI, 430, .inl (upd (blM w mm i pp) ((43 * w) + i) (mm i))))] : va_W) = [(q0, .inr (7, [.ref q1, .ref q2, .int (nI w), .ref q3, .int fi, .ref q4, .int tl, .ref q5, .ref q6, .int re, .int at0, .int fa, .ref q7, .ref q8, .long hsh])), (q1, .inl (cI, 43, .inl mm)), (q2, .inl (cI, 430, .inl (blM w mm (i + 1) pp)))] := congrArg (fun f9 : Nat → Int32 => ([(q0, .inr (7, [.ref q1, .ref q2, .int (nI w), .ref q3, .int fi, .ref q4, .int tl, .ref q5, .ref q6, .int re, .int at0, .int fa, .ref q7, .ref q8, .long hsh])), (q1, .inl (cI, 43, .inl mm)), (q2, .inl (cI, 430, .inl f9))] : va_W)) (show upd (blM w mm i pp) ((43 * w) + i) (mm i) = blM w mm (i + 1) pp from blM_s _ _ _ _)
          have hP := va_P_eq e9 hP
          have hD := va_D_eq e9 hD
          refine lv_iinc (v := nI (i + 1)) (lv' := [(1, .int (nI (i + 1))), (0, .ref q0)]) hx hb dX7_keeps_77 hl (k := 1) rfl (inc1 _) (by decide) rfl (fun ls hl => ?_)
          refine lv_goto (tgt := 51) hx hb dX7_keeps_80 (by decide) ?_
          exact ih_51 (i + 1) (by omega) (by omega) _ _ hP hD hS ls (lv_sub hl [1, 0] rfl)
    exact L_51 _ 0 (Nat.lt_succ_self _) (by omega) _ _ hP hD hS ls (lv_sub hl [1, 0] rfl)
  · skip
    have d1 : w = 10 := (nI_eq (by omega) (by decide)).mp c_6
    refine lv_iconst (v := 0) hx hb dX7_keeps_9 (by decide) ?_
    refine lv_istore_n (lv' := [(1, .int 0), (0, .ref q0)]) hx hb dX7_keeps_10 rfl hl (by decide) rfl (fun ls hl => ?_)
    have e9 : ([(q0, .inr (7, [.ref q1, .ref q2, .int (nI w), .ref q3, .int fi, .ref q4, .int tl, .ref q5, .ref q6, .int re, .int at0, .int fa, .ref q7, .ref q8, .long hsh])), (q1, .inl (cI, 43, .inl mm)), (q2, .inl (cI, 430, .inl pp))] : va_W) = [(q0, .inr (7, [.ref q1, .ref q2, .int (nI w), .ref q3, .int fi, .ref q4, .int tl, .ref q5, .ref q6, .int re, .int at0, .int fa, .ref q7, .ref q8, .long hsh])), (q1, .inl (cI, 43, .inl mm)), (q2, .inl (cI, 430, .inl (shP 0 pp)))] := congrArg (fun f9 : Nat → Int32 => ([(q0, .inr (7, [.ref q1, .ref q2, .int (nI w), .ref q3, .int fi, .ref q4, .int tl, .ref q5, .ref q6, .int re, .int at0, .int fa, .ref q7, .ref q8, .long hsh])), (q1, .inl (cI, 43, .inl mm)), (q2, .inl (cI, 430, .inl f9))] : va_W)) (show pp = shP 0 pp from (shP_0 _).symm)
    have hP := va_P_eq e9 hP
    have hD := va_D_eq e9 hD
    have L_11 : ∀ (k_11 : Nat) (i : Nat), 387 - i < k_11 → (i ≤ 387) → ∀ (H : Heap) (locs : List Loc), va_P D vwCl [(q0, .inr (7, [.ref q1, .ref q2, .int (nI w), .ref q3, .int fi, .ref q4, .int tl, .ref q5, .ref q6, .int re, .int at0, .int fa, .ref q7, .ref q8, .long hsh])), (q1, .inl (cI, 43, .inl mm)), (q2, .inl (cI, 430, .inl (shP i pp)))] H → va_D (inW [(q0, .inr (7, [.ref q1, .ref q2, .int (nI w), .ref q3, .int fi, .ref q4, .int tl, .ref q5, .ref q6, .int re, .int at0, .int fa, .ref q7, .ref q8, .long hsh])), (q1, .inl (cI, 43, .inl mm)), (q2, .inl (cI, 430, .inl pp))]) [(q0, .inr (7, [.ref q1, .ref q2, .int (nI w), .ref q3, .int fi, .ref q4, .int tl, .ref q5, .ref q6, .int re, .int at0, .int fa, .ref q7, .ref q8, .long hsh])), (q1, .inl (cI, 43, .inl mm)), (q2, .inl (cI, 430, .inl (shP i pp)))] → va_S (inW [(q0, .inr (7, [.ref q1, .ref q2, .int (nI w), .ref q3, .int fi, .ref q4, .int tl, .ref q5, .ref q6, .int re, .int at0, .int fa, .ref q7, .ref q8, .long hsh])), (q1, .inl (cI, 43, .inl mm)), (q2, .inl (cI, 430, .inl pp))]) s.heap H locs → ∀ (ls : Array Slot), lv_has ls 2 [(0, .ref q0), (1, .int (nI i))] → W p l e (rmD 1) s m ([.ref q0] : List Value).toArray below meth c H locs 0 0 (MQ below (wrQv D [(q0, .inr (7, [.ref q1, .ref q2, .int (nI w), .ref q3, .int fi, .ref q4, .int tl, .ref q5, .ref q6, .int re, .int at0, .int fa, .ref q7, .ref q8, .long hsh])), (q1, .inl (cI, 43, .inl mm)), (q2, .inl (cI, 430, .inl pp))] (fun (u : Unit) => True) (fun (u : Unit) => [(q0, .inr (7, [.ref q1, .ref q2, .int (nI (min (w + 1) 10)), .ref q3, .int fi, .ref q4, .int tl, .ref q5, .ref q6, .int re, .int at0, .int fa, .ref q7, .ref q8, .long hsh])), (q1, .inl (cI, 43, .inl mm)), (q2, .inl (cI, 430, .inl (keM w mm pp)))])) ([.ref q0] : List Value).toArray s 0 0 (inW [(q0, .inr (7, [.ref q1, .ref q2, .int (nI w), .ref q3, .int fi, .ref q4, .int tl, .ref q5, .ref q6, .int re, .int at0, .int fa, .ref q7, .ref q8, .long hsh])), (q1, .inl (cI, 43, .inl mm)), (q2, .inl (cI, 430, .inl pp))])) (F0 m 11 ls []) := by
      intro k_11
      induction k_11 with
      | zero => intro i h9; exact absurd h9 (Nat.not_lt_zero _)
      | succ k_11 ih_11 =>
        intro i hm_11 hi H locs hP hD hS ls hl
        refine lv_iload_n hx hb dX7_keeps_11 rfl (lv_at hl 1 rfl) ?_
        refine lv_sipush (v := 387) hx hb dX7_keeps_12 (by decide) ?_
        refine lv_icmp_ge (tgt := 39) hx hb dX7_keeps_15 (by decide) (fun c_15 => ?_) (fun c_15 => ?_)
        · skip
          have c0 : 387 ≤ i := ge_t (by omega) c_15
          have ei : i = 387 := by omega
          rw [ei] at hP hD
          refine lv_aload_n hx hb dX7_keeps_39 rfl (lv_at hl 0 rfl) ?_
          refine lv_dup hx hb dX7_keeps_40 rfl ?_
          refine va_get (D := D) (ci := 7) (v := .int (nI w)) (C := RX7) (T := TX7) (N := 15) hx hb hts kX7_keeps_0 hown hK hP 0 rfl rfl 2 (by decide) (hts (.fieldLink RX7 42 "SightRidgeModel" "undos" "I") kX7_keeps_1) (fun _ h9 => h9) rfl dX7_keeps_41 ?_
          refine lv_iconst (v := 1) hx hb dX7_keeps_44 (by decide) ?_
          refine lv_isub hx hb dX7_keeps_45 ?_
          refine lv_topi (fun y_9 e_10 => ?_)
          have e_10 : nI 9 = y_9 := (e_10.trans (by rw [d1]; decide)).symm
          subst e_10
          refine va_put (D := D) (ci := 7) (v := .int (nI 9)) (ty := .int) (C := RX7) (T := TX7) (N := 15) hx hb hts kX7_keeps_0 tyX7 tyX7_ok nmX7 hown hK hP hD hS 0 rfl rfl 2 (by decide) (hts (.fieldLink RX7 42 "SightRidgeModel" "undos" "I") kX7_keeps_1) (fun _ h9 => h9) rfl (by decide +kernel) rfl rfl (Nat.le_of_ble_eq_true rfl) dX7_keeps_46 (fun H locs hP hD hS => ?_)
          have hP : va_P D vwCl [(q0, .inr (7, [.ref q1, .ref q2, .int (nI 9), .ref q3, .int fi, .ref q4, .int tl, .ref q5, .ref q6, .int re, .int at0, .int fa, .ref q7, .ref q8, .long hsh])), (q1, .inl (cI, 43, .inl mm)), (q2, .inl (cI, 430, .inl (shP 387 pp)))] _ := hP
          have hD : va_D (inW [(q0, .inr (7, [.ref q1, .ref q2, .int (nI w), .ref q3, .int fi, .ref q4, .int tl, .ref q5, .ref q6, .int re, .int at0, .int fa, .ref q7, .ref q8, .long hsh])), (q1, .inl (cI, 43, .inl mm)), (q2, .inl (cI, 430, .inl pp))]) [(q0, .inr (7, [.ref q1, .ref q2, .int (nI 9), .ref q3, .int fi, .ref q4, .int tl, .ref q5, .ref q6, .int re, .int at0, .int fa, .ref q7, .ref q8, .long hsh])), (q1, .inl (cI, 43, .inl mm)), (q2, .inl (cI, 430, .inl (shP 387 pp)))] := hD
          refine lv_iconst (v := 0) hx hb dX7_keeps_49 (by decide) ?_
          refine lv_istore_n (lv' := [(1, .int 0), (0, .ref q0)]) hx hb dX7_keeps_50 rfl hl (by decide) rfl (fun ls hl => ?_)
          have e9 : ([(q0, .inr (7, [.ref q1, .ref q2, .int (nI 9), .ref q3, .int fi, .ref q4, .int tl, .ref q5, .ref q6, .int re, .int at0, .int fa, .ref q7, .ref q8, .long hsh])), (q1, .inl (cI, 43, .inl mm)), (q2, .inl (cI, 430, .inl (shP 387 pp)))] : va_W) = [(q0, .inr (7, [.ref q1, .ref q2, .int (nI 9), .ref q3, .int fi, .ref q4, .int tl, .ref q5, .ref q6, .int re, .int at0, .int fa, .ref q7, .ref q8, .long hsh])), (q1, .inl (cI, 43, .inl mm)), (q2, .inl (cI, 430, .inl (blM 9 mm 0 (shP 387 pp))))] := congrArg (fun f9 : Nat → Int32 => ([(q0, .inr (7, [.ref q1, .ref q2, .int (nI 9), .ref q3, .int fi, .ref q4, .int tl, .ref q5, .ref q6, .int re, .int at0, .int fa, .ref q7, .ref q8, .long hsh])), (q1, .inl (cI, 43, .inl mm)), (q2, .inl (cI, 430, .inl f9))] : va_W)) (show shP 387 pp = blM 9 mm 0 (shP 387 pp) from (blM_0 _ _ _).symm)
          have hP := va_P_eq e9 hP
          have hD := va_D_eq e9 hD
          have L_51 : ∀ (k_51 : Nat) (i : Nat), 43 - i < k_51 → (i ≤ 43) → ∀ (H : Heap) (locs : List Loc), va_P D vwCl [(q0, .inr (7, [.ref q1, .ref q2, .int (nI 9), .ref q3, .int fi, .ref q4, .int tl, .ref q5, .ref q6, .int re, .int at0, .int fa, .ref q7, .ref q8, .long hsh])), (q1, .inl (cI, 43, .inl mm)), (q2, .inl (cI, 430, .inl (blM 9 mm i (shP 387 pp))))] H → va_D (inW [(q0, .inr (7, [.ref q1, .ref q2, .int (nI w), .ref q3, .int fi, .ref q4, .int tl, .ref q5, .ref q6, .int re, .int at0, .int fa, .ref q7, .ref q8, .long hsh])), (q1, .inl (cI, 43, .inl mm)), (q2, .inl (cI, 430, .inl pp))]) [(q0, .inr (7, [.ref q1, .ref q2, .int (nI 9), .ref q3, .int fi, .ref q4, .int tl, .ref q5, .ref q6, .int re, .int at0, .int fa, .ref q7, .ref q8, .long hsh])), (q1, .inl (cI, 43, .inl mm)), (q2, .inl (cI, 430, .inl (blM 9 mm i (shP 387 pp))))] → va_S (inW [(q0, .inr (7, [.ref q1, .ref q2, .int (nI w), .ref q3, .int fi, .ref q4, .int tl, .ref q5, .ref q6, .int re, .int at0, .int fa, .ref q7, .ref q8, .long hsh])), (q1, .inl (cI, 43, .inl mm)), (q2, .inl (cI, 430, .inl pp))]) s.heap H locs → ∀ (ls : Array Slot), lv_has ls 2 [(0, .ref q0), (1, .int (nI i))] → W p l e (rmD 1) s m ([.ref q0] : List Value).toArray below meth c H locs 0 0 (MQ below (wrQv D [(q0, .inr (7, [.ref q1, .ref q2, .int (nI w), .ref q3, .int fi, .ref q4, .int tl, .ref q5, .ref q6, .int re, .int at0, .int fa, .ref q7, .ref q8, .long hsh])), (q1, .inl (cI, 43, .inl mm)), (q2, .inl (cI, 430, .inl pp))] (fun (u : Unit) => True) (fun (u : Unit) => [(q0, .inr (7, [.ref q1, .ref q2, .int (nI (min (w + 1) 10)), .ref q3, .int fi, .ref q4, .int tl, .ref q5, .ref q6, .int re, .int at0, .int fa, .ref q7, .ref q8, .long hsh])), (q1, .inl (cI, 43, .inl mm)), (q2, .inl (cI, 430, .inl (keM w mm pp)))])) ([.ref q0] : List Value).toArray s 0 0 (inW [(q0, .inr (7, [.ref q1, .ref q2, .int (nI w), .ref q3, .int fi, .ref q4, .int tl, .ref q5, .ref q6, .int re, .int at0, .int fa, .ref q7, .ref q8, .long hsh])), (q1, .inl (cI, 43, .inl mm)), (q2, .inl (cI, 430, .inl pp))])) (F0 m 51 ls []) := by
            intro k_51
            induction k_51 with
            | zero => intro i h9; exact absurd h9 (Nat.not_lt_zero _)
            | succ k_51 ih_51 =>
              intro i hm_51 hi H locs hP hD hS ls hl
              refine lv_iload_n hx hb dX7_keeps_51 rfl (lv_at hl 1 rfl) ?_
              refine lv_bipush (v := 43) hx hb dX7_keeps_52 (by decide) ?_
              refine lv_icmp_ge (tgt := 83) hx hb dX7_keeps_54 (by decide) (fun c_54 => ?_) (fun c_54 => ?_)
              · skip
                have c0 : 43 ≤ i := ge_t (by omega) c_54
                have ei : i = 43 := by omega
                rw [ei] at hP hD
                have e9 : ([(q0, .inr (7, [.ref q1, .ref q2, .int (nI 9), .ref q3, .int fi, .ref q4, .int tl, .ref q5, .ref q6, .int re, .int at0, .int fa, .ref q7, .ref q8, .long hsh])), (q1, .inl (cI, 43, .inl mm)), (q2, .inl (cI, 430, .inl (blM 9 mm 43 (shP 387 pp))))] : va_W) = [(q0, .inr (7, [.ref q1, .ref q2, .int (nI 9), .ref q3, .int fi, .ref q4, .int tl, .ref q5, .ref q6, .int re, .int at0, .int fa, .ref q7, .ref q8, .long hsh])), (q1, .inl (cI, 43, .inl mm)), (q2, .inl (cI, 430, .inl (keM w mm pp)))] := congrArg (fun f9 : Nat → Int32 => ([(q0, .inr (7, [.ref q1, .ref q2, .int (nI 9), .ref q3, .int fi, .ref q4, .int tl, .ref q5, .ref q6, .int re, .int at0, .int fa, .ref q7, .ref q8, .long hsh])), (q1, .inl (cI, 43, .inl mm)), (q2, .inl (cI, 430, .inl f9))] : va_W)) (show blM 9 mm 43 (shP 387 pp) = keM w mm pp from by unfold keM; rw [if_pos d1])
                have hP := va_P_eq e9 hP
                have hD := va_D_eq e9 hD
                refine lv_aload_n hx hb dX7_keeps_83 rfl (lv_at hl 0 rfl) ?_
                refine lv_dup hx hb dX7_keeps_84 rfl ?_
                refine va_get (D := D) (ci := 7) (v := .int (nI 9)) (C := RX7) (T := TX7) (N := 15) hx hb hts kX7_keeps_0 hown hK hP 0 rfl rfl 2 (by decide) (hts (.fieldLink RX7 42 "SightRidgeModel" "undos" "I") kX7_keeps_1) (fun _ h9 => h9) rfl dX7_keeps_85 ?_
                refine lv_iconst (v := 1) hx hb dX7_keeps_88 (by decide) ?_
                refine lv_iadd hx hb dX7_keeps_89 ?_
                refine lv_topi (fun y_11 e_12 => ?_)
                have e_12 : nI (9 + 1) = y_11 := (e_12.trans (nI_add 9 1)).symm
                subst e_12
                refine lv_topi (fun y_13 e_14 => ?_)
                have e_14 : nI (min (w + 1) 10) = y_13 := (e_14.trans (congrArg nI (by omega))).symm
                subst e_14
                refine va_put (D := D) (ci := 7) (v := .int (nI (min (w + 1) 10))) (ty := .int) (C := RX7) (T := TX7) (N := 15) hx hb hts kX7_keeps_0 tyX7 tyX7_ok nmX7 hown hK hP hD hS 0 rfl rfl 2 (by decide) (hts (.fieldLink RX7 42 "SightRidgeModel" "undos" "I") kX7_keeps_1) (fun _ h9 => h9) rfl (by decide +kernel) rfl rfl (Nat.le_of_ble_eq_true rfl) dX7_keeps_90 (fun H locs hP hD hS => ?_)
                have hP : va_P D vwCl [(q0, .inr (7, [.ref q1, .ref q2, .int (nI (min (w + 1) 10)), .ref q3, .int fi, .ref q4, .int tl, .ref q5, .ref q6, .int re, .int at0, .int fa, .ref q7, .ref q8, .long hsh])), (q1, .inl (cI, 43, .inl mm)), (q2, .inl (cI, 430, .inl (keM w mm pp)))] _ := hP
                have hD : va_D (inW [(q0, .inr (7, [.ref q1, .ref q2, .int (nI w), .ref q3, .int fi, .ref q4, .int tl, .ref q5, .ref q6, .int re, .int at0, .int fa, .ref q7, .ref q8, .long hsh])), (q1, .inl (cI, 43, .inl mm)), (q2, .inl (cI, 430, .inl pp))]) [(q0, .inr (7, [.ref q1, .ref q2, .int (nI (min (w + 1) 10)), .ref q3, .int fi, .ref q4, .int tl, .ref q5, .ref q6, .int re, .int at0, .int fa, .ref q7, .ref q8, .long hsh])), (q1, .inl (cI, 43, .inl mm)), (q2, .inl (cI, 430, .inl (keM w mm pp)))] := hD
                exact W.vret hx hb hr (fun tS htS hWS => ⟨⟨(), rfl, trivial, retP htS hP⟩, hS.F htS⟩) hS.2.2 dX7_keeps_93
              · skip
                have c0 : i < 43 := ge_f (by omega) c_54
                refine lv_aload_n hx hb dX7_keeps_57 rfl (lv_at hl 0 rfl) ?_
                refine va_get (D := D) (ci := 7) (v := .ref q2) (C := RX7) (T := TX7) (N := 15) hx hb hts kX7_keeps_0 hown hK hP 0 rfl rfl 1 (by decide) (hts (.fieldLink RX7 13 "SightRidgeModel" "past" "[I") kX7_keeps_2) (fun _ h9 => h9) rfl dX7_keeps_58 ?_
                refine lv_bipush (v := 43) hx hb dX7_keeps_61 (by decide) ?_
                refine lv_aload_n hx hb dX7_keeps_63 rfl (lv_at hl 0 rfl) ?_
                refine va_get (D := D) (ci := 7) (v := .int (nI 9)) (C := RX7) (T := TX7) (N := 15) hx hb hts kX7_keeps_0 hown hK hP 0 rfl rfl 2 (by decide) (hts (.fieldLink RX7 42 "SightRidgeModel" "undos" "I") kX7_keeps_1) (fun _ h9 => h9) rfl dX7_keeps_64 ?_
                refine lv_imul hx hb dX7_keeps_67 ?_
                refine lv_topi (fun y_15 e_16 => ?_)
                have e_16 : nI (43 * 9) = y_15 := (e_16.trans (pk_mul 43 9)).symm
                subst e_16
                refine lv_iload_n hx hb dX7_keeps_68 rfl (lv_at hl 1 rfl) ?_
                refine lv_iadd hx hb dX7_keeps_69 ?_
                refine lv_topi (fun y_17 e_18 => ?_)
                have e_18 : nI ((43 * 9) + i) = y_17 := (e_18.trans (nI_add (43 * 9) i)).symm
                subst e_18
                refine lv_aload_n hx hb dX7_keeps_70 rfl (lv_at hl 0 rfl) ?_
                refine va_get (D := D) (ci := 7) (v := .ref q1) (C := RX7) (T := TX7) (N := 15) hx hb hts kX7_keeps_0 hown hK hP 0 rfl rfl 0 (by decide) (hts (.fieldLink RX7 7 "SightRidgeModel" "m" "[I") kX7_keeps_3) (fun _ h9 => h9) rfl dX7_keeps_71 ?_
                refine lv_iload_n hx hb dX7_keeps_74 rfl (lv_at hl 1 rfl) ?_
                refine va_iald hx hb hK hP 1 0 rfl rfl (i := nI i) (vp_in_nI (N := 43) (by omega) (by decide)) dX7_keeps_75 ?_
                rw [nI_clamp (n := i) (by omega)]
                refine va_iast hx hb hK hP hD hS 2 0 rfl rfl (i := nI ((43 * 9) + i)) (vp_in_nI (N := 430) (by omega) (by decide)) dX7_keeps_76 (fun H locs hP hD hS => ?_)
                rw [nI_clamp (n := (43 * 9) + i) (by omega)] at hP hD
                have hP : va_P D vwCl [(q0, .inr (7, [.ref q1, .ref q2, .int (nI 9), .ref q3, .int fi, .ref q4, .int tl, .ref q5, .ref q6, .int re, .int at0, .int fa, .ref q7, .ref q8, .long hsh])), (q1, .inl (cI, 43, .inl mm)), (q2, .inl (cI, 430, .inl (upd (blM 9 mm i (shP 387 pp)) ((43 * 9) + i) (mm i))))] _ := hP
                have hD : va_D (inW [(q0, .inr (7, [.ref q1, .ref q2, .int (nI w), .ref q3, .int fi, .ref q4, .int tl, .ref q5, .ref q6, .int re, .int at0, .int fa, .ref q7, .ref q8, .long hsh])), (q1, .inl (cI, 43, .inl mm)), (q2, .inl (cI, 430, .inl pp))]) [(q0, .inr (7, [.ref q1, .ref q2, .int (nI 9), .ref q3, .int fi, .ref q4, .int tl, .ref q5, .ref q6, .int re, .int at0, .int fa, .ref q7, .ref q8, .long hsh])), (q1, .inl (cI, 43, .inl mm)), (q2, .inl (cI, 430, .inl (upd (blM 9 mm i (shP 387 pp)) ((43 * 9) + i) (mm i))))] := hD
                have e9 : ([(q0, .inr (7, [.ref q1, .ref q2, .int (nI 9), .ref q3, .int fi, .ref q4, .int tl, .ref q5, .ref q6, .int re, .int at0, .int fa, .ref q7, .ref q8, .long hsh])), (q1, .inl (cI, 43, .inl mm)), (q2, .inl (cI, 430, .inl (upd (blM 9 mm i (shP 387 pp)) ((43 * 9) + i) (mm i))))] : va_W) = [(q0, .inr (7, [.ref q1, .ref q2, .int (nI 9), .ref q3, .int fi, .ref q4, .int tl, .ref q5, .ref q6, .int re, .int at0, .int fa, .ref q7, .ref q8, .long hsh])), (q1, .inl (cI, 43, .inl mm)), (q2, .inl (cI, 430, .inl (blM 9 mm (i + 1) (shP 387 pp))))] := congrArg (fun f9 : Nat → Int32 => ([(q0, .inr (7, [.ref q1, .ref q2, .int (nI 9), .ref q3, .int fi, .ref q4, .int tl, .ref q5, .ref q6, .int re, .int at0, .int fa, .ref q7, .ref q8, .long hsh])), (q1, .inl (cI, 43, .inl mm)), (q2, .inl (cI, 430, .inl f9))] : va_W)) (show upd (blM 9 mm i (shP 387 pp)) ((43 * 9) + i) (mm i) = blM 9 mm (i + 1) (shP 387 pp) from blM_s _ _ _ _)
                have hP := va_P_eq e9 hP
                have hD := va_D_eq e9 hD
                refine lv_iinc (v := nI (i + 1)) (lv' := [(1, .int (nI (i + 1))), (0, .ref q0)]) hx hb dX7_keeps_77 hl (k := 1) rfl (inc1 _) (by decide) rfl (fun ls hl => ?_)
                refine lv_goto (tgt := 51) hx hb dX7_keeps_80 (by decide) ?_
                exact ih_51 (i + 1) (by omega) (by omega) _ _ hP hD hS ls (lv_sub hl [1, 0] rfl)
          exact L_51 _ 0 (Nat.lt_succ_self _) (by omega) _ _ hP hD hS ls (lv_sub hl [1, 0] rfl)
        · skip
          have c0 : i < 387 := ge_f (by omega) c_15
          refine lv_aload_n hx hb dX7_keeps_18 rfl (lv_at hl 0 rfl) ?_
          refine va_get (D := D) (ci := 7) (v := .ref q2) (C := RX7) (T := TX7) (N := 15) hx hb hts kX7_keeps_0 hown hK hP 0 rfl rfl 1 (by decide) (hts (.fieldLink RX7 13 "SightRidgeModel" "past" "[I") kX7_keeps_2) (fun _ h9 => h9) rfl dX7_keeps_19 ?_
          refine lv_iload_n hx hb dX7_keeps_22 rfl (lv_at hl 1 rfl) ?_
          refine lv_aload_n hx hb dX7_keeps_23 rfl (lv_at hl 0 rfl) ?_
          refine va_get (D := D) (ci := 7) (v := .ref q2) (C := RX7) (T := TX7) (N := 15) hx hb hts kX7_keeps_0 hown hK hP 0 rfl rfl 1 (by decide) (hts (.fieldLink RX7 13 "SightRidgeModel" "past" "[I") kX7_keeps_2) (fun _ h9 => h9) rfl dX7_keeps_24 ?_
          refine lv_iload_n hx hb dX7_keeps_27 rfl (lv_at hl 1 rfl) ?_
          refine lv_bipush (v := 43) hx hb dX7_keeps_28 (by decide) ?_
          refine lv_iadd hx hb dX7_keeps_30 ?_
          refine lv_topi (fun y_19 e_20 => ?_)
          have e_20 : nI (i + 43) = y_19 := (e_20.trans (nI_add i 43)).symm
          subst e_20
          refine va_iald hx hb hK hP 2 0 rfl rfl (i := nI (i + 43)) (vp_in_nI (N := 430) (by omega) (by decide)) dX7_keeps_31 ?_
          rw [nI_clamp (n := i + 43) (by omega)]
          refine lv_topi (fun y_21 e_22 => ?_)
          have e_22 : pp (i + 43) = y_21 := (e_22.trans (show shP i pp (i + 43) = pp (i + 43) from if_neg (by omega))).symm
          subst e_22
          refine va_iast hx hb hK hP hD hS 2 0 rfl rfl (i := nI i) (vp_in_nI (N := 430) (by omega) (by decide)) dX7_keeps_32 (fun H locs hP hD hS => ?_)
          rw [nI_clamp (n := i) (by omega)] at hP hD
          have hP : va_P D vwCl [(q0, .inr (7, [.ref q1, .ref q2, .int (nI w), .ref q3, .int fi, .ref q4, .int tl, .ref q5, .ref q6, .int re, .int at0, .int fa, .ref q7, .ref q8, .long hsh])), (q1, .inl (cI, 43, .inl mm)), (q2, .inl (cI, 430, .inl (upd (shP i pp) i (pp (i + 43)))))] _ := hP
          have hD : va_D (inW [(q0, .inr (7, [.ref q1, .ref q2, .int (nI w), .ref q3, .int fi, .ref q4, .int tl, .ref q5, .ref q6, .int re, .int at0, .int fa, .ref q7, .ref q8, .long hsh])), (q1, .inl (cI, 43, .inl mm)), (q2, .inl (cI, 430, .inl pp))]) [(q0, .inr (7, [.ref q1, .ref q2, .int (nI w), .ref q3, .int fi, .ref q4, .int tl, .ref q5, .ref q6, .int re, .int at0, .int fa, .ref q7, .ref q8, .long hsh])), (q1, .inl (cI, 43, .inl mm)), (q2, .inl (cI, 430, .inl (upd (shP i pp) i (pp (i + 43)))))] := hD
          have e9 : ([(q0, .inr (7, [.ref q1, .ref q2, .int (nI w), .ref q3, .int fi, .ref q4, .int tl, .ref q5, .ref q6, .int re, .int at0, .int fa, .ref q7, .ref q8, .long hsh])), (q1, .inl (cI, 43, .inl mm)), (q2, .inl (cI, 430, .inl (upd (shP i pp) i (pp (i + 43)))))] : va_W) = [(q0, .inr (7, [.ref q1, .ref q2, .int (nI w), .ref q3, .int fi, .ref q4, .int tl, .ref q5, .ref q6, .int re, .int at0, .int fa, .ref q7, .ref q8, .long hsh])), (q1, .inl (cI, 43, .inl mm)), (q2, .inl (cI, 430, .inl (shP (i + 1) pp)))] := congrArg (fun f9 : Nat → Int32 => ([(q0, .inr (7, [.ref q1, .ref q2, .int (nI w), .ref q3, .int fi, .ref q4, .int tl, .ref q5, .ref q6, .int re, .int at0, .int fa, .ref q7, .ref q8, .long hsh])), (q1, .inl (cI, 43, .inl mm)), (q2, .inl (cI, 430, .inl f9))] : va_W)) (show upd (shP i pp) i (pp (i + 43)) = shP (i + 1) pp from shP_s _ _)
          have hP := va_P_eq e9 hP
          have hD := va_D_eq e9 hD
          refine lv_iinc (v := nI (i + 1)) (lv' := [(1, .int (nI (i + 1))), (0, .ref q0)]) hx hb dX7_keeps_33 hl (k := 1) rfl (inc1 _) (by decide) rfl (fun ls hl => ?_)
          refine lv_goto (tgt := 11) hx hb dX7_keeps_36 (by decide) ?_
          exact ih_11 (i + 1) (by omega) (by omega) _ _ hP hD hS ls (lv_sub hl [1, 0] rfl)
    exact L_11 _ 0 (Nat.lt_succ_self _) (by omega) _ _ hP hD hS ls (lv_sub hl [1, 0] rfl)
/-- the array m behind i rounds of reset's loop -/
def rsM (a : Nat) (y : Int32) (i : Nat) (mm : Nat → Int32) : Nat → Int32 := fun k => if 3 ≤ k ∧ k < 3 + i then y else if 23 ≤ k ∧ k < 23 + i then 0 else if k = 0 then nI a else mm k
theorem rsM_0 (a : Nat) (y : Int32) (mm : Nat → Int32) : upd mm 0 (nI a) = rsM a y 0 mm := by
  funext k; unfold upd rsM
  rw [if_neg (show ¬ (3 ≤ k ∧ k < 3 + 0) by omega), if_neg (show ¬ (23 ≤ k ∧ k < 23 + 0) by omega)]
theorem rsM_s {i : Nat} (h : i < 20) (a : Nat) (y : Int32) (mm : Nat → Int32) : upd (upd (rsM a y i mm) (3 + i) y) (23 + i) 0 = rsM a y (i + 1) mm := by
  funext k; unfold upd rsM
  by_cases h1 : k = 23 + i
  · rw [if_pos h1, if_neg (by omega), if_pos (by omega)]
  · rw [if_neg h1]
    by_cases h2 : k = 3 + i
    · rw [if_pos h2, if_pos (by omega)]
    · rw [if_neg h2]
      by_cases h3 : 3 ≤ k ∧ k < 3 + i
      · rw [if_pos h3, if_pos (by omega)]
      · rw [if_neg h3, if_neg (show ¬ (3 ≤ k ∧ k < 3 + (i + 1)) by omega)]
        by_cases h4 : 23 ≤ k ∧ k < 23 + i
        · rw [if_pos h4, if_pos (by omega)]
        · rw [if_neg h4, if_neg (show ¬ (23 ≤ k ∧ k < 23 + (i + 1)) by omega)]
theorem mok_reset {n a : Nat} {mm : Nat → Int32} {rg bl y : Int32} {G M : Nat → Int32} (h : MOK n mm rg bl G M) (h2 : 2 ≤ a) (h20 : a ≤ 20) : MOK a (rsM a y 20 mm) rg bl (fun _ => y) (fun _ => 0) := by
  obtain ⟨-, -, -, hm1, hm2, -, -⟩ := h
  refine ⟨h20, h2, ?_, ?_, ?_, fun k hk => ?_, fun k hk => ?_⟩
  · unfold rsM; rw [if_neg (by omega), if_neg (by omega), if_pos rfl]
  · unfold rsM; rw [if_neg (by omega), if_neg (by omega), if_neg (by omega)]; exact hm1
  · unfold rsM; rw [if_neg (by omega), if_neg (by omega), if_neg (by omega)]; exact hm2
  · unfold rsM; rw [if_pos (by omega)]
  · unfold rsM; rw [if_neg (by omega), if_pos (by omega)]
set_option maxHeartbeats 4000000 in
set_option maxRecDepth 100000 in
theorem c_X7_reset_no (l : Launch) (D : va_G) (cI cB cO : ClassId) (A : Nat → Nat) (n : Nat) (rg : Int32) (bl : Int32) (G : Nat → Int32) (M : Nat → Int32) (hs : List Prf) (tL : Nat) (tc : Nat → Nat) (fk : Nat) (fc : Nat → Nat) (x y : Int32) (hok : okS n rg bl G M hs tL tc fk fc) (hno : resetB x y = false) : Met l yX7_reset wsX7_reset (rmD 8) (mrPc D cI cB cO A [.ref (A 0), .int x, .int y] n rg bl G M hs tL tc fk fc) (mrQi A (fun (r : Int32) (u : Unit) => r = -2) (fun (u : Unit) H => MRI D cI cB cO A H n rg bl G M hs tL tc fk fc)) 0 0 (inW (bdW A)) := by
  refine Met.ofW (cc := cX7_reset) (maxL := 4) (ret := (some .int)) (by decide) rfl ?_
  intro p e s m args below meth c s₁ B hml hv
  obtain ⟨rfl, hI, hK, hN, hA⟩ := hv
  have hx := B.exec
  have hb := B.bytes
  have hr := B.returns
  have hts := atoms_spec (ws := wsX7_reset) B.pre
  have hown : s.vm.findClass RX7 = some m.cls := findClass_of_methodNamed B.named
  have hlocks := B.notSynchronized
  have hS : va_S (inW (bdW A)) s.heap s.heap [] := va_S.rf
  obtain ⟨mm, pp, fd, tx, rgd, rmd, wy, cvr, re, at0, fa, hsh, hP, hm, hpp, hsl, htx, hfd⟩ := hI
  have hD : va_D (inW (bdW A)) [(A 0, .inr (7, [.ref (A 1), .ref (A 2), .int (nI hs.length), .ref (A 3), .int (FZ fk), .ref (A 4), .int (nI tL), .ref (A 5), .ref (A 6), .int re, .int at0, .int fa, .ref (A 7), .ref (A 8), .long hsh])), (A 1, .inl (cI, 43, .inl mm)), (A 2, .inl (cI, 430, .inl pp)), (A 3, .inl (cI, 20, .inl fd)), (A 4, .inl (cI, 120, .inl tx)), (A 5, .inl (cI, 20, .inl rgd)), (A 6, .inl (cI, 20, .inl rmd)), (A 7, .inl (cI, 20, .inl wy)), (A 8, .inl (cI, 20, .inl cvr))] := da_D hA rfl
  have hl := lv_entry ([.ref (A 0), .int x, .int y]) (n := 4) (Nat.le_of_ble_eq_true rfl)
  rw [lg_entry_eq]
  generalize (lg_sl ([.ref (A 0), .int x, .int y]) ++ List.replicate (4 - (lg_sl ([.ref (A 0), .int x, .int y])).length) Slot.unset).toArray = ls at hl ⊢
  have hl : lv_has ls 4 [(0, .ref (A 0)), (1, .int x), (2, .int y)] := hl
  obtain ⟨hokP, hokH, hL, hcc, hfk⟩ := id hok
  have hn : n ≤ 20 := hokP.2.1
  have hn2 : 2 ≤ n := hokP.1
  obtain ⟨-, -, hm0, hm1, hm2, hG, hM⟩ := id hm
  refine lv_iload_n hx hb dX7_reset_0 rfl (lv_at hl 1 rfl) ?_
  refine lv_iconst (v := 2) hx hb dX7_reset_1 (by decide) ?_
  refine lv_bipush (v := 20) hx hb dX7_reset_2 (by decide) ?_
  refine rd_calli hP hS (va_runS (As := [.int x, .int 2, .int 20]) (rest := []) ⟨hx, hb, hml, hown, hts⟩ (c_X7_in l D cI cB cO x 2 20 ) (va_cwS 3 hts gX7_reset_X7_in rfl rfl rfl (by decide +kernel) ⟨Nat.le_of_ble_eq_true rfl, Nat.le_of_ble_eq_true rfl⟩) (rd_preS hK (hP.pick [] rfl) hN) rfl rfl hl.1 rfl (lv_room (Nat.le_of_ble_eq_true rfl)) dX7_reset_4 ⟨Nat.le_refl _, Nat.le_refl _⟩) (fun r_4 H locs h_4 hP hS => ?_)
  refine lv_if_eq (tgt := 21) hx hb dX7_reset_7 (by decide) (fun c_7 => ?_) (fun c_7 => ?_)
  · skip
    have d1 := bI_e0 (h_4.symm.trans c_7)
    refine lv_bipush (v := (-2)) hx hb dX7_reset_21 (by decide) ?_
    have hI := mri_mk (D := D) (cI := cI) (cB := cB) (cO := cO) (A := A) n rg bl G M hs tL tc fk fc mm pp fd tx rgd rmd wy cvr re at0 fa hsh hP hm hpp hsl htx hfd
    refine W.iret (v := -2) hx hb hr ?_ hS.2.2 dX7_reset_23
    intro tS htS hWS
    refine ⟨⟨(-2), (), rfl, ?_, ?_⟩, ?_⟩
    · exact rfl
    · exact retM htS hI
    · exact hS.F htS
  · skip
    have d1 := bI_n0 (fun q => c_7 (h_4.trans q))
    refine lv_iload_n hx hb dX7_reset_10 rfl (lv_at hl 2 rfl) ?_
    refine lv_iconst (v := 0) hx hb dX7_reset_11 (by decide) ?_
    refine lv_sipush (v := 999) hx hb dX7_reset_12 (by decide) ?_
    refine rd_calli hP hS (va_runS (As := [.int y, .int 0, .int 999]) (rest := []) ⟨hx, hb, hml, hown, hts⟩ (c_X7_in l D cI cB cO y 0 999 ) (va_cwS 3 hts gX7_reset_X7_in rfl rfl rfl (by decide +kernel) ⟨Nat.le_of_ble_eq_true rfl, Nat.le_of_ble_eq_true rfl⟩) (rd_preS hK (hP.pick [] rfl) hN) rfl rfl hl.1 rfl (lv_room (Nat.le_of_ble_eq_true rfl)) dX7_reset_15 ⟨Nat.le_refl _, Nat.le_refl _⟩) (fun r_15 H locs h_15 hP hS => ?_)
    refine lv_if_ne (tgt := 24) hx hb dX7_reset_18 (by decide) (fun c_18 => ?_) (fun c_18 => ?_)
    · skip
      have d2 := bI_n0 (fun q => c_18 (h_15.trans q))
      exact absurd hno (by unfold resetB; rw [d1, d2]; decide)
    · skip
      refine lv_bipush (v := (-2)) hx hb dX7_reset_21 (by decide) ?_
      have hI := mri_mk (D := D) (cI := cI) (cB := cB) (cO := cO) (A := A) n rg bl G M hs tL tc fk fc mm pp fd tx rgd rmd wy cvr re at0 fa hsh hP hm hpp hsl htx hfd
      refine W.iret (v := -2) hx hb hr ?_ hS.2.2 dX7_reset_23
      intro tS htS hWS
      refine ⟨⟨(-2), (), rfl, ?_, ?_⟩, ?_⟩
      · exact rfl
      · exact retM htS hI
      · exact hS.F htS
theorem kX7_reset_ok_0 : ∀ w ∈ wsX70, w ∈ wsX7_reset := by decide +kernel
theorem kX7_reset_ok_1 : (.fieldLink RX7 7 "SightRidgeModel" "m" "[I" : Cond) ∈ wsX7_reset := by decide +kernel
set_option maxHeartbeats 4000000 in
set_option maxRecDepth 100000 in
theorem c_X7_reset_ok (l : Launch) (D : va_G) (cI cB cO : ClassId) (A : Nat → Nat) (n : Nat) (rg : Int32) (bl : Int32) (G : Nat → Int32) (M : Nat → Int32) (hs : List Prf) (tL : Nat) (tc : Nat → Nat) (fk : Nat) (fc : Nat → Nat) (a : Nat) (y : Int32) (hok : okS n rg bl G M hs tL tc fk fc) (ha2 : 2 ≤ a) (ha20 : a ≤ 20) (hy : inB y 0 999 = true) : Met l yX7_reset wsX7_reset (rmD 8) (mrPc D cI cB cO A [.ref (A 0), .int (nI a), .int y] n rg bl G M hs tL tc fk fc) (mrQi A (fun (r : Int32) (u : Unit) => r = nI a) (fun (u : Unit) H => MRI D cI cB cO A H a rg bl (fun _ => y) (fun _ => 0) (((n, rg, bl, G, M) :: hs).take 10) tL tc fk fc)) 0 0 (inW (bdW A)) := by
  refine Met.ofW (cc := cX7_reset) (maxL := 4) (ret := (some .int)) (by decide) rfl ?_
  intro p e s m args below meth c s₁ B hml hv
  obtain ⟨rfl, hI, hK, hN, hA⟩ := hv
  have hx := B.exec
  have hb := B.bytes
  have hr := B.returns
  have hts := atoms_spec (ws := wsX7_reset) B.pre
  have hown : s.vm.findClass RX7 = some m.cls := findClass_of_methodNamed B.named
  have hlocks := B.notSynchronized
  have hS : va_S (inW (bdW A)) s.heap s.heap [] := va_S.rf
  obtain ⟨mm, pp, fd, tx, rgd, rmd, wy, cvr, re, at0, fa, hsh, hP, hm, hpp, hsl, htx, hfd⟩ := hI
  have hD : va_D (inW (bdW A)) [(A 0, .inr (7, [.ref (A 1), .ref (A 2), .int (nI hs.length), .ref (A 3), .int (FZ fk), .ref (A 4), .int (nI tL), .ref (A 5), .ref (A 6), .int re, .int at0, .int fa, .ref (A 7), .ref (A 8), .long hsh])), (A 1, .inl (cI, 43, .inl mm)), (A 2, .inl (cI, 430, .inl pp)), (A 3, .inl (cI, 20, .inl fd)), (A 4, .inl (cI, 120, .inl tx)), (A 5, .inl (cI, 20, .inl rgd)), (A 6, .inl (cI, 20, .inl rmd)), (A 7, .inl (cI, 20, .inl wy)), (A 8, .inl (cI, 20, .inl cvr))] := da_D hA rfl
  have hl := lv_entry ([.ref (A 0), .int (nI a), .int y]) (n := 4) (Nat.le_of_ble_eq_true rfl)
  rw [lg_entry_eq]
  generalize (lg_sl ([.ref (A 0), .int (nI a), .int y]) ++ List.replicate (4 - (lg_sl ([.ref (A 0), .int (nI a), .int y])).length) Slot.unset).toArray = ls at hl ⊢
  have hl : lv_has ls 4 [(0, .ref (A 0)), (1, .int (nI a)), (2, .int y)] := hl
  obtain ⟨hokP, hokH, hL, hcc, hfk⟩ := id hok
  have hn : n ≤ 20 := hokP.2.1
  have hn2 : 2 ≤ n := hokP.1
  obtain ⟨-, -, hm0, hm1, hm2, hG, hM⟩ := id hm
  refine lv_iload_n hx hb dX7_reset_0 rfl (lv_at hl 1 rfl) ?_
  refine lv_iconst (v := 2) hx hb dX7_reset_1 (by decide) ?_
  refine lv_bipush (v := 20) hx hb dX7_reset_2 (by decide) ?_
  refine rd_calli hP hS (va_runS (As := [.int (nI a), .int 2, .int 20]) (rest := []) ⟨hx, hb, hml, hown, hts⟩ (c_X7_in l D cI cB cO (nI a) 2 20 ) (va_cwS 3 hts gX7_reset_X7_in rfl rfl rfl (by decide +kernel) ⟨Nat.le_of_ble_eq_true rfl, Nat.le_of_ble_eq_true rfl⟩) (rd_preS hK (hP.pick [] rfl) hN) rfl rfl hl.1 rfl (lv_room (Nat.le_of_ble_eq_true rfl)) dX7_reset_4 ⟨Nat.le_refl _, Nat.le_refl _⟩) (fun r_4 H locs h_4 hP hS => ?_)
  refine lv_if_eq (tgt := 21) hx hb dX7_reset_7 (by decide) (fun c_7 => ?_) (fun c_7 => ?_)
  · skip
    have d1 : inB (nI a) (nI 2) (nI 20) = false := bI_e0 (h_4.symm.trans c_7)
    exact absurd d1 (by rw [inB_nI ha2 ha20 (by decide)]; decide)
  · skip
    refine lv_iload_n hx hb dX7_reset_10 rfl (lv_at hl 2 rfl) ?_
    refine lv_iconst (v := 0) hx hb dX7_reset_11 (by decide) ?_
    refine lv_sipush (v := 999) hx hb dX7_reset_12 (by decide) ?_
    refine rd_calli hP hS (va_runS (As := [.int y, .int 0, .int 999]) (rest := []) ⟨hx, hb, hml, hown, hts⟩ (c_X7_in l D cI cB cO y 0 999 ) (va_cwS 3 hts gX7_reset_X7_in rfl rfl rfl (by decide +kernel) ⟨Nat.le_of_ble_eq_true rfl, Nat.le_of_ble_eq_true rfl⟩) (rd_preS hK (hP.pick [] rfl) hN) rfl rfl hl.1 rfl (lv_room (Nat.le_of_ble_eq_true rfl)) dX7_reset_15 ⟨Nat.le_refl _, Nat.le_refl _⟩) (fun r_15 H locs h_15 hP hS => ?_)
    refine lv_if_ne (tgt := 24) hx hb dX7_reset_18 (by decide) (fun c_18 => ?_) (fun c_18 => ?_)
    · skip
      refine lv_aload_n hx hb dX7_reset_24 rfl (lv_at hl 0 rfl) ?_
      have hPb : va_P D vwCl ([] ++ ([(A 0, .inr (7, [.ref (A 1), .ref (A 2), .int (nI hs.length), .ref (A 3), .int (FZ fk), .ref (A 4), .int (nI tL), .ref (A 5), .ref (A 6), .int re, .int at0, .int fa, .ref (A 7), .ref (A 8), .long hsh])), (A 1, .inl (cI, 43, .inl mm)), (A 2, .inl (cI, 430, .inl pp))] ++ [(A 3, .inl (cI, 20, .inl fd)), (A 4, .inl (cI, 120, .inl tx)), (A 5, .inl (cI, 20, .inl rgd)), (A 6, .inl (cI, 20, .inl rmd)), (A 7, .inl (cI, 20, .inl wy)), (A 8, .inl (cI, 20, .inl cvr))])) _ := hP
      have hDb : va_D (inW (bdW A)) ([] ++ ([(A 0, .inr (7, [.ref (A 1), .ref (A 2), .int (nI hs.length), .ref (A 3), .int (FZ fk), .ref (A 4), .int (nI tL), .ref (A 5), .ref (A 6), .int re, .int at0, .int fa, .ref (A 7), .ref (A 8), .long hsh])), (A 1, .inl (cI, 43, .inl mm)), (A 2, .inl (cI, 430, .inl pp))] ++ [(A 3, .inl (cI, 20, .inl fd)), (A 4, .inl (cI, 120, .inl tx)), (A 5, .inl (cI, 20, .inl rgd)), (A 6, .inl (cI, 20, .inl rmd)), (A 7, .inl (cI, 20, .inl wy)), (A 8, .inl (cI, 20, .inl cvr))])) := hD
      refine wa_callv hPb hDb hS (va_runV (As := []) (rest := []) ⟨hx, hb, hml, hown, hts⟩ (c_X7_keeps l D cI cB cO (A 0) (A 1) (A 2) (A 3) (A 4) (A 5) (A 6) (A 7) (A 8) mm pp (FZ fk) (nI tL) re at0 fa hsh hs.length hsl) (cwV 0 hts gX7_reset_X7_keeps rfl rfl rfl (by decide +kernel) ⟨Nat.le_of_ble_eq_true rfl, Nat.le_of_ble_eq_true rfl⟩) (wr_preV (r := (RX7, TX7, 15)) (ci := 7) hK (wa_P hPb) hN ((wa_D hDb).weaken (fun _ _ _ _ => trivial)) (q0 := 0) rfl rfl) rfl rfl hl.1 rfl (lv_room (Nat.le_of_ble_eq_true rfl)) dX7_reset_25 ⟨Nat.le_refl _, Nat.le_refl _⟩) (fun _ => [(A 0, .inr (7, [.ref (A 1), .ref (A 2), .int (nI (min (hs.length + 1) 10)), .ref (A 3), .int (FZ fk), .ref (A 4), .int (nI tL), .ref (A 5), .ref (A 6), .int re, .int at0, .int fa, .ref (A 7), .ref (A 8), .long hsh])), (A 1, .inl (cI, 43, .inl mm)), (A 2, .inl (cI, 430, .inl (keM hs.length mm pp))), (A 3, .inl (cI, 20, .inl fd)), (A 4, .inl (cI, 120, .inl tx)), (A 5, .inl (cI, 20, .inl rgd)), (A 6, .inl (cI, 20, .inl rmd)), (A 7, .inl (cI, 20, .inl wy)), (A 8, .inl (cI, 20, .inl cvr))]) (fun _ => rfl) (fun _ => rfl) (fun u_25 H locs h_25 hP hD hS => ?_)
      have e9 : ([(A 0, .inr (7, [.ref (A 1), .ref (A 2), .int (nI (min (hs.length + 1) 10)), .ref (A 3), .int (FZ fk), .ref (A 4), .int (nI tL), .ref (A 5), .ref (A 6), .int re, .int at0, .int fa, .ref (A 7), .ref (A 8), .long hsh])), (A 1, .inl (cI, 43, .inl mm)), (A 2, .inl (cI, 430, .inl (keM hs.length mm pp))), (A 3, .inl (cI, 20, .inl fd)), (A 4, .inl (cI, 120, .inl tx)), (A 5, .inl (cI, 20, .inl rgd)), (A 6, .inl (cI, 20, .inl rmd)), (A 7, .inl (cI, 20, .inl wy)), (A 8, .inl (cI, 20, .inl cvr))] : va_W) = [(A 0, .inr (7, [.ref (A 1), .ref (A 2), .int (nI (((n, rg, bl, G, M) :: hs).take 10).length), .ref (A 3), .int (FZ fk), .ref (A 4), .int (nI tL), .ref (A 5), .ref (A 6), .int re, .int at0, .int fa, .ref (A 7), .ref (A 8), .long hsh])), (A 1, .inl (cI, 43, .inl mm)), (A 2, .inl (cI, 430, .inl (keM hs.length mm pp))), (A 3, .inl (cI, 20, .inl fd)), (A 4, .inl (cI, 120, .inl tx)), (A 5, .inl (cI, 20, .inl rgd)), (A 6, .inl (cI, 20, .inl rmd)), (A 7, .inl (cI, 20, .inl wy)), (A 8, .inl (cI, 20, .inl cvr))] := congrArg (fun f9 : Int32 => ([(A 0, .inr (7, [.ref (A 1), .ref (A 2), .int f9, .ref (A 3), .int (FZ fk), .ref (A 4), .int (nI tL), .ref (A 5), .ref (A 6), .int re, .int at0, .int fa, .ref (A 7), .ref (A 8), .long hsh])), (A 1, .inl (cI, 43, .inl mm)), (A 2, .inl (cI, 430, .inl (keM hs.length mm pp))), (A 3, .inl (cI, 20, .inl fd)), (A 4, .inl (cI, 120, .inl tx)), (A 5, .inl (cI, 20, .inl rgd)), (A 6, .inl (cI, 20, .inl rmd)), (A 7, .inl (cI, 20, .inl wy)), (A 8, .inl (cI, 20, .inl cvr))] : va_W)) (show nI (min (hs.length + 1) 10) = nI (((n, rg, bl, G, M) :: hs).take 10).length from congrArg nI (take10_len _ _).symm)
      have hP := va_P_eq e9 hP
      have hD := va_D_eq e9 hD
      have hP : va_P D vwCl [(A 0, .inr (7, [.ref (A 1), .ref (A 2), .int (nI (((n, rg, bl, G, M) :: hs).take 10).length), .ref (A 3), .int (FZ fk), .ref (A 4), .int (nI tL), .ref (A 5), .ref (A 6), .int re, .int at0, .int fa, .ref (A 7), .ref (A 8), .long hsh])), (A 1, .inl (cI, 43, .inl mm)), (A 2, .inl (cI, 430, .inl (keM hs.length mm pp))), (A 3, .inl (cI, 20, .inl fd)), (A 4, .inl (cI, 120, .inl tx)), (A 5, .inl (cI, 20, .inl rgd)), (A 6, .inl (cI, 20, .inl rmd)), (A 7, .inl (cI, 20, .inl wy)), (A 8, .inl (cI, 20, .inl cvr))] _ := hP
      have hD : va_D (inW (bdW A)) [(A 0, .inr (7, [.ref (A 1), .ref (A 2), .int (nI (((n, rg, bl, G, M) :: hs).take 10).length), .ref (A 3), .int (FZ fk), .ref (A 4), .int (nI tL), .ref (A 5), .ref (A 6), .int re, .int at0, .int fa, .ref (A 7), .ref (A 8), .long hsh])), (A 1, .inl (cI, 43, .inl mm)), (A 2, .inl (cI, 430, .inl (keM hs.length mm pp))), (A 3, .inl (cI, 20, .inl fd)), (A 4, .inl (cI, 120, .inl tx)), (A 5, .inl (cI, 20, .inl rgd)), (A 6, .inl (cI, 20, .inl rmd)), (A 7, .inl (cI, 20, .inl wy)), (A 8, .inl (cI, 20, .inl cvr))] := hD
      refine lv_aload_n hx hb dX7_reset_28 rfl (lv_at hl 0 rfl) ?_
      refine va_get (D := D) (ci := 7) (v := .ref (A 1)) (C := RX7) (T := TX7) (N := 15) hx hb hts kX7_reset_ok_0 hown hK hP 0 rfl rfl 0 (by decide) (hts (.fieldLink RX7 7 "SightRidgeModel" "m" "[I") kX7_reset_ok_1) (fun _ h9 => h9) rfl dX7_reset_29 ?_
      refine lv_iconst (v := 0) hx hb dX7_reset_32 (by decide) ?_
      refine lv_iload_n hx hb dX7_reset_33 rfl (lv_at hl 1 rfl) ?_
      refine va_iast hx hb hK hP hD hS 1 0 rfl rfl (i := nI 0) (vp_in_nI (N := 43) (by decide) (by decide)) dX7_reset_34 (fun H locs hP hD hS => ?_)
      rw [nI_clamp (n := 0) (by decide)] at hP hD
      have hP : va_P D vwCl [(A 0, .inr (7, [.ref (A 1), .ref (A 2), .int (nI (((n, rg, bl, G, M) :: hs).take 10).length), .ref (A 3), .int (FZ fk), .ref (A 4), .int (nI tL), .ref (A 5), .ref (A 6), .int re, .int at0, .int fa, .ref (A 7), .ref (A 8), .long hsh])), (A 1, .inl (cI, 43, .inl (upd mm 0 (nI a)))), (A 2, .inl (cI, 430, .inl (keM hs.length mm pp))), (A 3, .inl (cI, 20, .inl fd)), (A 4, .inl (cI, 120, .inl tx)), (A 5, .inl (cI, 20, .inl rgd)), (A 6, .inl (cI, 20, .inl rmd)), (A 7, .inl (cI, 20, .inl wy)), (A 8, .inl (cI, 20, .inl cvr))] _ := hP
      have hD : va_D (inW (bdW A)) [(A 0, .inr (7, [.ref (A 1), .ref (A 2), .int (nI (((n, rg, bl, G, M) :: hs).take 10).length), .ref (A 3), .int (FZ fk), .ref (A 4), .int (nI tL), .ref (A 5), .ref (A 6), .int re, .int at0, .int fa, .ref (A 7), .ref (A 8), .long hsh])), (A 1, .inl (cI, 43, .inl (upd mm 0 (nI a)))), (A 2, .inl (cI, 430, .inl (keM hs.length mm pp))), (A 3, .inl (cI, 20, .inl fd)), (A 4, .inl (cI, 120, .inl tx)), (A 5, .inl (cI, 20, .inl rgd)), (A 6, .inl (cI, 20, .inl rmd)), (A 7, .inl (cI, 20, .inl wy)), (A 8, .inl (cI, 20, .inl cvr))] := hD
      refine lv_iconst (v := 0) hx hb dX7_reset_35 (by decide) ?_
      refine lv_istore_n (lv' := [(3, .int 0), (0, .ref (A 0)), (1, .int (nI a)), (2, .int y)]) hx hb dX7_reset_36 rfl hl (by decide) rfl (fun ls hl => ?_)
      have e9 : ([(A 0, .inr (7, [.ref (A 1), .ref (A 2), .int (nI (((n, rg, bl, G, M) :: hs).take 10).length), .ref (A 3), .int (FZ fk), .ref (A 4), .int (nI tL), .ref (A 5), .ref (A 6), .int re, .int at0, .int fa, .ref (A 7), .ref (A 8), .long hsh])), (A 1, .inl (cI, 43, .inl (upd mm 0 (nI a)))), (A 2, .inl (cI, 430, .inl (keM hs.length mm pp))), (A 3, .inl (cI, 20, .inl fd)), (A 4, .inl (cI, 120, .inl tx)), (A 5, .inl (cI, 20, .inl rgd)), (A 6, .inl (cI, 20, .inl rmd)), (A 7, .inl (cI, 20, .inl wy)), (A 8, .inl (cI, 20, .inl cvr))] : va_W) = [(A 0, .inr (7, [.ref (A 1), .ref (A 2), .int (nI (((n, rg, bl, G, M) :: hs).take 10).length), .ref (A 3), .int (FZ fk), .ref (A 4), .int (nI tL), .ref (A 5), .ref (A 6), .int re, .int at0, .int fa, .ref (A 7), .ref (A 8), .long hsh])), (A 1, .inl (cI, 43, .inl (rsM a y 0 mm))), (A 2, .inl (cI, 430, .inl (keM hs.length mm pp))), (A 3, .inl (cI, 20, .inl fd)), (A 4, .inl (cI, 120, .inl tx)), (A 5, .inl (cI, 20, .inl rgd)), (A 6, .inl (cI, 20, .inl rmd)), (A 7, .inl (cI, 20, .inl wy)), (A 8, .inl (cI, 20, .inl cvr))] := congrArg (fun f9 : Nat → Int32 => ([(A 0, .inr (7, [.ref (A 1), .ref (A 2), .int (nI (((n, rg, bl, G, M) :: hs).take 10).length), .ref (A 3), .int (FZ fk), .ref (A 4), .int (nI tL), .ref (A 5), .ref (A 6), .int re, .int at0, .int fa, .ref (A 7), .ref (A 8), .long hsh])), (A 1, .inl (cI, 43, .inl f9)), (A 2, .inl (cI, 430, .inl (keM hs.length mm pp))), (A 3, .inl (cI, 20, .inl fd)), (A 4, .inl (cI, 120, .inl tx)), (A 5, .inl (cI, 20, .inl rgd)), (A 6, .inl (cI, 20, .inl rmd)), (A 7, .inl (cI, 20, .inl wy)), (A 8, .inl (cI, 20, .inl cvr))] : va_W)) (show upd mm 0 (nI a) = rsM a y 0 mm from rsM_0 a y mm)
      have hP := va_P_eq e9 hP
      have hD := va_D_eq e9 hD
      have L_37 : ∀ (k_37 : Nat) (i : Nat), 20 - i < k_37 → (i ≤ 20) → ∀ (H : Heap) (locs : List Loc), va_P D vwCl [(A 0, .inr (7, [.ref (A 1), .ref (A 2), .int (nI (((n, rg, bl, G, M) :: hs).take 10).length), .ref (A 3), .int (FZ fk), .ref (A 4), .int (nI tL), .ref (A 5), .ref (A 6), .int re, .int at0, .int fa, .ref (A 7), .ref (A 8), .long hsh])), (A 1, .inl (cI, 43, .inl (rsM a y i mm))), (A 2, .inl (cI, 430, .inl (keM hs.length mm pp))), (A 3, .inl (cI, 20, .inl fd)), (A 4, .inl (cI, 120, .inl tx)), (A 5, .inl (cI, 20, .inl rgd)), (A 6, .inl (cI, 20, .inl rmd)), (A 7, .inl (cI, 20, .inl wy)), (A 8, .inl (cI, 20, .inl cvr))] H → va_D (inW (bdW A)) [(A 0, .inr (7, [.ref (A 1), .ref (A 2), .int (nI (((n, rg, bl, G, M) :: hs).take 10).length), .ref (A 3), .int (FZ fk), .ref (A 4), .int (nI tL), .ref (A 5), .ref (A 6), .int re, .int at0, .int fa, .ref (A 7), .ref (A 8), .long hsh])), (A 1, .inl (cI, 43, .inl (rsM a y i mm))), (A 2, .inl (cI, 430, .inl (keM hs.length mm pp))), (A 3, .inl (cI, 20, .inl fd)), (A 4, .inl (cI, 120, .inl tx)), (A 5, .inl (cI, 20, .inl rgd)), (A 6, .inl (cI, 20, .inl rmd)), (A 7, .inl (cI, 20, .inl wy)), (A 8, .inl (cI, 20, .inl cvr))] → va_S (inW (bdW A)) s.heap H locs → ∀ (ls : Array Slot), lv_has ls 4 [(0, .ref (A 0)), (1, .int (nI a)), (2, .int y), (3, .int (nI i))] → W p l e (rmD 8) s m ([.ref (A 0), .int (nI a), .int y] : List Value).toArray below meth c H locs 0 0 (MQ below (mrQi A (fun (r : Int32) (u : Unit) => r = nI a) (fun (u : Unit) H => MRI D cI cB cO A H a rg bl (fun _ => y) (fun _ => 0) (((n, rg, bl, G, M) :: hs).take 10) tL tc fk fc)) ([.ref (A 0), .int (nI a), .int y] : List Value).toArray s 0 0 (inW (bdW A))) (F0 m 37 ls []) := by
        intro k_37
        induction k_37 with
        | zero => intro i h9; exact absurd h9 (Nat.not_lt_zero _)
        | succ k_37 ih_37 =>
          intro i hm_37 hi H locs hP hD hS ls hl
          refine lv_iload_n hx hb dX7_reset_37 rfl (lv_at hl 3 rfl) ?_
          refine lv_bipush (v := 20) hx hb dX7_reset_38 (by decide) ?_
          refine lv_icmp_ge (tgt := 68) hx hb dX7_reset_40 (by decide) (fun c_40 => ?_) (fun c_40 => ?_)
          · skip
            have c0 : 20 ≤ i := ge_t (by omega) c_40
            have ei : i = 20 := by omega
            rw [ei] at hP hD
            refine lv_iload_n hx hb dX7_reset_68 rfl (lv_at hl 1 rfl) ?_
            have hI := mri_mk (D := D) (cI := cI) (cB := cB) (cO := cO) (A := A) a rg bl (fun _ => y) (fun _ => 0) (((n, rg, bl, G, M) :: hs).take 10) tL tc fk fc (rsM a y 20 mm) (keM hs.length mm pp) fd tx rgd rmd wy cvr re at0 fa hsh hP (mok_reset hm ha2 ha20) (PstR_keep hm hsl hokH hpp) (take10_le _) htx hfd
            refine W.iret (v := nI a) hx hb hr ?_ hS.2.2 dX7_reset_69
            intro tS htS hWS
            refine ⟨⟨nI a, (), rfl, ?_, ?_⟩, ?_⟩
            · exact rfl
            · exact retM htS hI
            · exact hS.F htS
          · skip
            have c0 : i < 20 := ge_f (by omega) c_40
            refine lv_aload_n hx hb dX7_reset_43 rfl (lv_at hl 0 rfl) ?_
            refine va_get (D := D) (ci := 7) (v := .ref (A 1)) (C := RX7) (T := TX7) (N := 15) hx hb hts kX7_reset_ok_0 hown hK hP 0 rfl rfl 0 (by decide) (hts (.fieldLink RX7 7 "SightRidgeModel" "m" "[I") kX7_reset_ok_1) (fun _ h9 => h9) rfl dX7_reset_44 ?_
            refine lv_iconst (v := 3) hx hb dX7_reset_47 (by decide) ?_
            refine lv_iload_n hx hb dX7_reset_48 rfl (lv_at hl 3 rfl) ?_
            refine lv_iadd hx hb dX7_reset_49 ?_
            refine lv_topi (fun y_1 e_2 => ?_)
            have e_2 : nI (3 + i) = y_1 := (e_2.trans (nI_add 3 i)).symm
            subst e_2
            refine lv_iload_n hx hb dX7_reset_50 rfl (lv_at hl 2 rfl) ?_
            refine va_iast hx hb hK hP hD hS 1 0 rfl rfl (i := nI (3 + i)) (vp_in_nI (N := 43) (by omega) (by decide)) dX7_reset_51 (fun H locs hP hD hS => ?_)
            rw [nI_clamp (n := 3 + i) (by omega)] at hP hD
            have hP : va_P D vwCl [(A 0, .inr (7, [.ref (A 1), .ref (A 2), .int (nI (((n, rg, bl, G, M) :: hs).take 10).length), .ref (A 3), .int (FZ fk), .ref (A 4), .int (nI tL), .ref (A 5), .ref (A 6), .int re, .int at0, .int fa, .ref (A 7), .ref (A 8), .long hsh])), (A 1, .inl (cI, 43, .inl (upd (rsM a y i mm) (3 + i) y))), (A 2, .inl (cI, 430, .inl (keM hs.length mm pp))), (A 3, .inl (cI, 20, .inl fd)), (A 4, .inl (cI, 120, .inl tx)), (A 5, .inl (cI, 20, .inl rgd)), (A 6, .inl (cI, 20, .inl rmd)), (A 7, .inl (cI, 20, .inl wy)), (A 8, .inl (cI, 20, .inl cvr))] _ := hP
            have hD : va_D (inW (bdW A)) [(A 0, .inr (7, [.ref (A 1), .ref (A 2), .int (nI (((n, rg, bl, G, M) :: hs).take 10).length), .ref (A 3), .int (FZ fk), .ref (A 4), .int (nI tL), .ref (A 5), .ref (A 6), .int re, .int at0, .int fa, .ref (A 7), .ref (A 8), .long hsh])), (A 1, .inl (cI, 43, .inl (upd (rsM a y i mm) (3 + i) y))), (A 2, .inl (cI, 430, .inl (keM hs.length mm pp))), (A 3, .inl (cI, 20, .inl fd)), (A 4, .inl (cI, 120, .inl tx)), (A 5, .inl (cI, 20, .inl rgd)), (A 6, .inl (cI, 20, .inl rmd)), (A 7, .inl (cI, 20, .inl wy)), (A 8, .inl (cI, 20, .inl cvr))] := hD
            refine lv_aload_n hx hb dX7_reset_52 rfl (lv_at hl 0 rfl) ?_
            refine va_get (D := D) (ci := 7) (v := .ref (A 1)) (C := RX7) (T := TX7) (N := 15) hx hb hts kX7_reset_ok_0 hown hK hP 0 rfl rfl 0 (by decide) (hts (.fieldLink RX7 7 "SightRidgeModel" "m" "[I") kX7_reset_ok_1) (fun _ h9 => h9) rfl dX7_reset_53 ?_
            refine lv_bipush (v := 23) hx hb dX7_reset_56 (by decide) ?_
            refine lv_iload_n hx hb dX7_reset_58 rfl (lv_at hl 3 rfl) ?_
            refine lv_iadd hx hb dX7_reset_59 ?_
            refine lv_topi (fun y_3 e_4 => ?_)
            have e_4 : nI (23 + i) = y_3 := (e_4.trans (nI_add 23 i)).symm
            subst e_4
            refine lv_iconst (v := 0) hx hb dX7_reset_60 (by decide) ?_
            refine va_iast hx hb hK hP hD hS 1 0 rfl rfl (i := nI (23 + i)) (vp_in_nI (N := 43) (by omega) (by decide)) dX7_reset_61 (fun H locs hP hD hS => ?_)
            rw [nI_clamp (n := 23 + i) (by omega)] at hP hD
            have hP : va_P D vwCl [(A 0, .inr (7, [.ref (A 1), .ref (A 2), .int (nI (((n, rg, bl, G, M) :: hs).take 10).length), .ref (A 3), .int (FZ fk), .ref (A 4), .int (nI tL), .ref (A 5), .ref (A 6), .int re, .int at0, .int fa, .ref (A 7), .ref (A 8), .long hsh])), (A 1, .inl (cI, 43, .inl (upd (upd (rsM a y i mm) (3 + i) y) (23 + i) 0))), (A 2, .inl (cI, 430, .inl (keM hs.length mm pp))), (A 3, .inl (cI, 20, .inl fd)), (A 4, .inl (cI, 120, .inl tx)), (A 5, .inl (cI, 20, .inl rgd)), (A 6, .inl (cI, 20, .inl rmd)), (A 7, .inl (cI, 20, .inl wy)), (A 8, .inl (cI, 20, .inl cvr))] _ := hP
            have hD : va_D (inW (bdW A)) [(A 0, .inr (7, [.ref (A 1), .ref (A 2), .int (nI (((n, rg, bl, G, M) :: hs).take 10).length), .ref (A 3), .int (FZ fk), .ref (A 4), .int (nI tL), .ref (A 5), .ref (A 6), .int re, .int at0, .int fa, .ref (A 7), .ref (A 8), .long hsh])), (A 1, .inl (cI, 43, .inl (upd (upd (rsM a y i mm) (3 + i) y) (23 + i) 0))), (A 2, .inl (cI, 430, .inl (keM hs.length mm pp))), (A 3, .inl (cI, 20, .inl fd)), (A 4, .inl (cI, 120, .inl tx)), (A 5, .inl (cI, 20, .inl rgd)), (A 6, .inl (cI, 20, .inl rmd)), (A 7, .inl (cI, 20, .inl wy)), (A 8, .inl (cI, 20, .inl cvr))] := hD
            have e9 : ([(A 0, .inr (7, [.ref (A 1), .ref (A 2), .int (nI (((n, rg, bl, G, M) :: hs).take 10).length), .ref (A 3), .int (FZ fk), .ref (A 4), .int (nI tL), .ref (A 5), .ref (A 6), .int re, .int at0, .int fa, .ref (A 7), .ref (A 8), .long hsh])), (A 1, .inl (cI, 43, .inl (upd (upd (rsM a y i mm) (3 + i) y) (23 + i) 0))), (A 2, .inl (cI, 430, .inl (keM hs.length mm pp))), (A 3, .inl (cI, 20, .inl fd)), (A 4, .inl (cI, 120, .inl tx)), (A 5, .inl (cI, 20, .inl rgd)), (A 6, .inl (cI, 20, .inl rmd)), (A 7, .inl (cI, 20, .inl wy)), (A 8, .inl (cI, 20, .inl cvr))] : va_W) = [(A 0, .inr (7, [.ref (A 1), .ref (A 2), .int (nI (((n, rg, bl, G, M) :: hs).take 10).length), .ref (A 3), .int (FZ fk), .ref (A 4), .int (nI tL), .ref (A 5), .ref (A 6), .int re, .int at0, .int fa, .ref (A 7), .ref (A 8), .long hsh])), (A 1, .inl (cI, 43, .inl (rsM a y (i + 1) mm))), (A 2, .inl (cI, 430, .inl (keM hs.length mm pp))), (A 3, .inl (cI, 20, .inl fd)), (A 4, .inl (cI, 120, .inl tx)), (A 5, .inl (cI, 20, .inl rgd)), (A 6, .inl (cI, 20, .inl rmd)), (A 7, .inl (cI, 20, .inl wy)), (A 8, .inl (cI, 20, .inl cvr))] := congrArg (fun f9 : Nat → Int32 => ([(A 0, .inr (7, [.ref (A 1), .ref (A 2), .int (nI (((n, rg, bl, G, M) :: hs).take 10).length), .ref (A 3), .int (FZ fk), .ref (A 4), .int (nI tL), .ref (A 5), .ref (A 6), .int re, .int at0, .int fa, .ref (A 7), .ref (A 8), .long hsh])), (A 1, .inl (cI, 43, .inl f9)), (A 2, .inl (cI, 430, .inl (keM hs.length mm pp))), (A 3, .inl (cI, 20, .inl fd)), (A 4, .inl (cI, 120, .inl tx)), (A 5, .inl (cI, 20, .inl rgd)), (A 6, .inl (cI, 20, .inl rmd)), (A 7, .inl (cI, 20, .inl wy)), (A 8, .inl (cI, 20, .inl cvr))] : va_W)) (show upd (upd (rsM a y i mm) (3 + i) y) (23 + i) 0 = rsM a y (i + 1) mm from rsM_s c0 a y mm)
            have hP := va_P_eq e9 hP
            have hD := va_D_eq e9 hD
            refine lv_iinc (v := nI (i + 1)) (lv' := [(3, .int (nI (i + 1))), (0, .ref (A 0)), (1, .int (nI a)), (2, .int y)]) hx hb dX7_reset_62 hl (k := 3) rfl (inc1 _) (by decide) rfl (fun ls hl => ?_)
            refine lv_goto (tgt := 37) hx hb dX7_reset_65 (by decide) ?_
            exact ih_37 (i + 1) (by omega) (by omega) _ _ hP hD hS ls (lv_sub hl [1, 2, 3, 0] rfl)
      exact L_37 _ 0 (Nat.lt_succ_self _) (by omega) _ _ hP hD hS ls (lv_sub hl [1, 2, 3, 0] rfl)
    · skip
      have d2 := bI_e0 (h_15.symm.trans c_18)
      exact absurd d2 (by rw [hy]; decide)
theorem mok_ground {n a : Nat} {mm : Nat → Int32} {rg bl y : Int32} {G M : Nat → Int32} (h : MOK n mm rg bl G M) (ha : a < n) : MOK n (upd mm (3 + a) y) rg bl (upd G a y) M := by
  obtain ⟨hn, hn1, hm0, hm1, hm2, hG, hM⟩ := h
  refine ⟨hn, hn1, ?_, ?_, ?_, fun k hk => ?_, fun k hk => ?_⟩ <;> unfold upd
  · rw [if_neg (by omega)]; exact hm0
  · rw [if_neg (by omega)]; exact hm1
  · rw [if_neg (by omega)]; exact hm2
  · by_cases q : k = a
    · rw [if_pos (by omega), if_pos q]
    · rw [if_neg (by omega), if_neg q]; exact hG k hk
  · rw [if_neg (by omega)]; exact hM k hk
theorem mok_mast {n a : Nat} {mm : Nat → Int32} {rg bl y : Int32} {G M : Nat → Int32} (h : MOK n mm rg bl G M) (ha : a < n) : MOK n (upd mm (23 + a) y) rg bl G (upd M a y) := by
  obtain ⟨hn, hn1, hm0, hm1, hm2, hG, hM⟩ := h
  refine ⟨hn, hn1, ?_, ?_, ?_, fun k hk => ?_, fun k hk => ?_⟩ <;> unfold upd
  · rw [if_neg (by omega)]; exact hm0
  · rw [if_neg (by omega)]; exact hm1
  · rw [if_neg (by omega)]; exact hm2
  · rw [if_neg (by omega)]; exact hG k hk
  · by_cases q : k = a
    · rw [if_pos (by omega), if_pos q]
    · rw [if_neg (by omega), if_neg q]; exact hM k hk
theorem mok_range {n : Nat} {mm : Nat → Int32} {rg bl y : Int32} {G M : Nat → Int32} (h : MOK n mm rg bl G M) : MOK n (upd mm 1 y) y bl G M := by
  obtain ⟨hn, hn1, hm0, hm1, hm2, hG, hM⟩ := h
  refine ⟨hn, hn1, ?_, ?_, ?_, fun k hk => ?_, fun k hk => ?_⟩ <;> unfold upd
  · rw [if_neg (by omega)]; exact hm0
  · rw [if_pos rfl]
  · rw [if_neg (by omega)]; exact hm2
  · rw [if_neg (by omega)]; exact hG k hk
  · rw [if_neg (by omega)]; exact hM k hk
theorem mok_bulge {n : Nat} {mm : Nat → Int32} {rg bl y : Int32} {G M : Nat → Int32} (h : MOK n mm rg bl G M) : MOK n (upd mm 2 y) rg y G M := by
  obtain ⟨hn, hn1, hm0, hm1, hm2, hG, hM⟩ := h
  refine ⟨hn, hn1, ?_, ?_, ?_, fun k hk => ?_, fun k hk => ?_⟩ <;> unfold upd
  · rw [if_neg (by omega)]; exact hm0
  · rw [if_neg (by omega)]; exact hm1
  · rw [if_pos rfl]
  · rw [if_neg (by omega)]; exact hG k hk
  · rw [if_neg (by omega)]; exact hM k hk
set_option maxHeartbeats 4000000 in
set_option maxRecDepth 100000 in
theorem c_X7_setGround_no (l : Launch) (D : va_G) (cI cB cO : ClassId) (A : Nat → Nat) (n : Nat) (rg : Int32) (bl : Int32) (G : Nat → Int32) (M : Nat → Int32) (hs : List Prf) (tL : Nat) (tc : Nat → Nat) (fk : Nat) (fc : Nat → Nat) (x y : Int32) (hok : okS n rg bl G M hs tL tc fk fc) (hno : (hasB n x && inB y 0 999) = false) : Met l yX7_setGround wsX7_setGround (rmD 8) (mrPc D cI cB cO A [.ref (A 0), .int x, .int y] n rg bl G M hs tL tc fk fc) (mrQi A (fun (r : Int32) (u : Unit) => r = -2) (fun (u : Unit) H => MRI D cI cB cO A H n rg bl G M hs tL tc fk fc)) 0 0 (inW (bdW A)) := by
  refine Met.ofW (cc := cX7_setGround) (maxL := 4) (ret := (some .int)) (by decide) rfl ?_
  intro p e s m args below meth c s₁ B hml hv
  obtain ⟨rfl, hI, hK, hN, hA⟩ := hv
  have hx := B.exec
  have hb := B.bytes
  have hr := B.returns
  have hts := atoms_spec (ws := wsX7_setGround) B.pre
  have hown : s.vm.findClass RX7 = some m.cls := findClass_of_methodNamed B.named
  have hlocks := B.notSynchronized
  have hS : va_S (inW (bdW A)) s.heap s.heap [] := va_S.rf
  obtain ⟨mm, pp, fd, tx, rgd, rmd, wy, cvr, re, at0, fa, hsh, hP, hm, hpp, hsl, htx, hfd⟩ := hI
  have hD : va_D (inW (bdW A)) [(A 0, .inr (7, [.ref (A 1), .ref (A 2), .int (nI hs.length), .ref (A 3), .int (FZ fk), .ref (A 4), .int (nI tL), .ref (A 5), .ref (A 6), .int re, .int at0, .int fa, .ref (A 7), .ref (A 8), .long hsh])), (A 1, .inl (cI, 43, .inl mm)), (A 2, .inl (cI, 430, .inl pp)), (A 3, .inl (cI, 20, .inl fd)), (A 4, .inl (cI, 120, .inl tx)), (A 5, .inl (cI, 20, .inl rgd)), (A 6, .inl (cI, 20, .inl rmd)), (A 7, .inl (cI, 20, .inl wy)), (A 8, .inl (cI, 20, .inl cvr))] := da_D hA rfl
  have hl := lv_entry ([.ref (A 0), .int x, .int y]) (n := 4) (Nat.le_of_ble_eq_true rfl)
  rw [lg_entry_eq]
  generalize (lg_sl ([.ref (A 0), .int x, .int y]) ++ List.replicate (4 - (lg_sl ([.ref (A 0), .int x, .int y])).length) Slot.unset).toArray = ls at hl ⊢
  have hl : lv_has ls 4 [(0, .ref (A 0)), (1, .int x), (2, .int y)] := hl
  obtain ⟨hokP, hokH, hL, hcc, hfk⟩ := id hok
  have hn : n ≤ 20 := hokP.2.1
  have hn2 : 2 ≤ n := hokP.1
  obtain ⟨-, -, hm0, hm1, hm2, hG, hM⟩ := id hm
  refine lv_aload_n hx hb dX7_setGround_0 rfl (lv_at hl 0 rfl) ?_
  refine lv_iload_n hx hb dX7_setGround_1 rfl (lv_at hl 1 rfl) ?_
  refine rd_calli hP hS (va_runV (As := [.int x]) (rest := []) ⟨hx, hb, hml, hown, hts⟩ (c_X7_isStation l D cI cB cO (A 0) (A 1) [.ref (A 2), .int (nI hs.length), .ref (A 3), .int (FZ fk), .ref (A 4), .int (nI tL), .ref (A 5), .ref (A 6), .int re, .int at0, .int fa, .ref (A 7), .ref (A 8), .long hsh] n mm rg bl G M x hm) (cwV 1 hts gX7_setGround_X7_isStation rfl rfl rfl (by decide +kernel) ⟨Nat.le_of_ble_eq_true rfl, Nat.le_of_ble_eq_true rfl⟩) (rd_preV (r := (RX7, TX7, 15)) (ci := 7) hK (hP.pick [0, 1] rfl) hN (q0 := 0) rfl rfl) rfl rfl hl.1 rfl (lv_room (Nat.le_of_ble_eq_true rfl)) dX7_setGround_2 ⟨Nat.le_refl _, Nat.le_refl _⟩) (fun r_2 H locs h_2 hP hS => ?_)
  refine lv_if_eq (tgt := 19) hx hb dX7_setGround_5 (by decide) (fun c_5 => ?_) (fun c_5 => ?_)
  · skip
    have d1 := bI_e0 (h_2.symm.trans c_5)
    refine lv_bipush (v := (-2)) hx hb dX7_setGround_19 (by decide) ?_
    have hI := mri_mk (D := D) (cI := cI) (cB := cB) (cO := cO) (A := A) n rg bl G M hs tL tc fk fc mm pp fd tx rgd rmd wy cvr re at0 fa hsh hP hm hpp hsl htx hfd
    refine W.iret (v := -2) hx hb hr ?_ hS.2.2 dX7_setGround_21
    intro tS htS hWS
    refine ⟨⟨(-2), (), rfl, ?_, ?_⟩, ?_⟩
    · exact rfl
    · exact retM htS hI
    · exact hS.F htS
  · skip
    have d1 := bI_n0 (fun q => c_5 (h_2.trans q))
    refine lv_iload_n hx hb dX7_setGround_8 rfl (lv_at hl 2 rfl) ?_
    refine lv_iconst (v := 0) hx hb dX7_setGround_9 (by decide) ?_
    refine lv_sipush (v := 999) hx hb dX7_setGround_10 (by decide) ?_
    refine rd_calli hP hS (va_runS (As := [.int y, .int 0, .int 999]) (rest := []) ⟨hx, hb, hml, hown, hts⟩ (c_X7_in l D cI cB cO y 0 999 ) (va_cwS 3 hts gX7_setGround_X7_in rfl rfl rfl (by decide +kernel) ⟨Nat.le_of_ble_eq_true rfl, Nat.le_of_ble_eq_true rfl⟩) (rd_preS hK (hP.pick [] rfl) hN) rfl rfl hl.1 rfl (lv_room (Nat.le_of_ble_eq_true rfl)) dX7_setGround_13 ⟨Nat.le_refl _, Nat.le_refl _⟩) (fun r_13 H locs h_13 hP hS => ?_)
    refine lv_if_ne (tgt := 22) hx hb dX7_setGround_16 (by decide) (fun c_16 => ?_) (fun c_16 => ?_)
    · skip
      have d2 := bI_n0 (fun q => c_16 (h_13.trans q))
      exact absurd hno (by rw [d1, d2]; decide)
    · skip
      refine lv_bipush (v := (-2)) hx hb dX7_setGround_19 (by decide) ?_
      have hI := mri_mk (D := D) (cI := cI) (cB := cB) (cO := cO) (A := A) n rg bl G M hs tL tc fk fc mm pp fd tx rgd rmd wy cvr re at0 fa hsh hP hm hpp hsl htx hfd
      refine W.iret (v := -2) hx hb hr ?_ hS.2.2 dX7_setGround_21
      intro tS htS hWS
      refine ⟨⟨(-2), (), rfl, ?_, ?_⟩, ?_⟩
      · exact rfl
      · exact retM htS hI
      · exact hS.F htS
theorem kX7_setGround_ok_0 : ∀ w ∈ wsX70, w ∈ wsX7_setGround := by decide +kernel
theorem kX7_setGround_ok_1 : (.fieldLink RX7 7 "SightRidgeModel" "m" "[I" : Cond) ∈ wsX7_setGround := by decide +kernel
set_option maxHeartbeats 4000000 in
set_option maxRecDepth 100000 in
theorem c_X7_setGround_ok (l : Launch) (D : va_G) (cI cB cO : ClassId) (A : Nat → Nat) (n : Nat) (rg : Int32) (bl : Int32) (G : Nat → Int32) (M : Nat → Int32) (hs : List Prf) (tL : Nat) (tc : Nat → Nat) (fk : Nat) (fc : Nat → Nat) (a : Nat) (y : Int32) (hok : okS n rg bl G M hs tL tc fk fc) (ha : a < n) (hy : inB y 0 999 = true) : Met l yX7_setGround wsX7_setGround (rmD 8) (mrPc D cI cB cO A [.ref (A 0), .int (nI a), .int y] n rg bl G M hs tL tc fk fc) (mrQi A (fun (r : Int32) (u : Unit) => r = G a) (fun (u : Unit) H => MRI D cI cB cO A H n rg bl (upd G a y) M (((n, rg, bl, G, M) :: hs).take 10) tL tc fk fc)) 0 0 (inW (bdW A)) := by
  refine Met.ofW (cc := cX7_setGround) (maxL := 4) (ret := (some .int)) (by decide) rfl ?_
  intro p e s m args below meth c s₁ B hml hv
  obtain ⟨rfl, hI, hK, hN, hA⟩ := hv
  have hx := B.exec
  have hb := B.bytes
  have hr := B.returns
  have hts := atoms_spec (ws := wsX7_setGround) B.pre
  have hown : s.vm.findClass RX7 = some m.cls := findClass_of_methodNamed B.named
  have hlocks := B.notSynchronized
  have hS : va_S (inW (bdW A)) s.heap s.heap [] := va_S.rf
  obtain ⟨mm, pp, fd, tx, rgd, rmd, wy, cvr, re, at0, fa, hsh, hP, hm, hpp, hsl, htx, hfd⟩ := hI
  have hD : va_D (inW (bdW A)) [(A 0, .inr (7, [.ref (A 1), .ref (A 2), .int (nI hs.length), .ref (A 3), .int (FZ fk), .ref (A 4), .int (nI tL), .ref (A 5), .ref (A 6), .int re, .int at0, .int fa, .ref (A 7), .ref (A 8), .long hsh])), (A 1, .inl (cI, 43, .inl mm)), (A 2, .inl (cI, 430, .inl pp)), (A 3, .inl (cI, 20, .inl fd)), (A 4, .inl (cI, 120, .inl tx)), (A 5, .inl (cI, 20, .inl rgd)), (A 6, .inl (cI, 20, .inl rmd)), (A 7, .inl (cI, 20, .inl wy)), (A 8, .inl (cI, 20, .inl cvr))] := da_D hA rfl
  have hl := lv_entry ([.ref (A 0), .int (nI a), .int y]) (n := 4) (Nat.le_of_ble_eq_true rfl)
  rw [lg_entry_eq]
  generalize (lg_sl ([.ref (A 0), .int (nI a), .int y]) ++ List.replicate (4 - (lg_sl ([.ref (A 0), .int (nI a), .int y])).length) Slot.unset).toArray = ls at hl ⊢
  have hl : lv_has ls 4 [(0, .ref (A 0)), (1, .int (nI a)), (2, .int y)] := hl
  obtain ⟨hokP, hokH, hL, hcc, hfk⟩ := id hok
  have hn : n ≤ 20 := hokP.2.1
  have hn2 : 2 ≤ n := hokP.1
  obtain ⟨-, -, hm0, hm1, hm2, hG, hM⟩ := id hm
  refine lv_aload_n hx hb dX7_setGround_0 rfl (lv_at hl 0 rfl) ?_
  refine lv_iload_n hx hb dX7_setGround_1 rfl (lv_at hl 1 rfl) ?_
  refine rd_calli hP hS (va_runV (As := [.int (nI a)]) (rest := []) ⟨hx, hb, hml, hown, hts⟩ (c_X7_isStation l D cI cB cO (A 0) (A 1) [.ref (A 2), .int (nI hs.length), .ref (A 3), .int (FZ fk), .ref (A 4), .int (nI tL), .ref (A 5), .ref (A 6), .int re, .int at0, .int fa, .ref (A 7), .ref (A 8), .long hsh] n mm rg bl G M (nI a) hm) (cwV 1 hts gX7_setGround_X7_isStation rfl rfl rfl (by decide +kernel) ⟨Nat.le_of_ble_eq_true rfl, Nat.le_of_ble_eq_true rfl⟩) (rd_preV (r := (RX7, TX7, 15)) (ci := 7) hK (hP.pick [0, 1] rfl) hN (q0 := 0) rfl rfl) rfl rfl hl.1 rfl (lv_room (Nat.le_of_ble_eq_true rfl)) dX7_setGround_2 ⟨Nat.le_refl _, Nat.le_refl _⟩) (fun r_2 H locs h_2 hP hS => ?_)
  refine lv_if_eq (tgt := 19) hx hb dX7_setGround_5 (by decide) (fun c_5 => ?_) (fun c_5 => ?_)
  · skip
    have d1 := bI_e0 (h_2.symm.trans c_5)
    exact absurd d1 (by rw [hasB_in ha hn]; decide)
  · skip
    refine lv_iload_n hx hb dX7_setGround_8 rfl (lv_at hl 2 rfl) ?_
    refine lv_iconst (v := 0) hx hb dX7_setGround_9 (by decide) ?_
    refine lv_sipush (v := 999) hx hb dX7_setGround_10 (by decide) ?_
    refine rd_calli hP hS (va_runS (As := [.int y, .int 0, .int 999]) (rest := []) ⟨hx, hb, hml, hown, hts⟩ (c_X7_in l D cI cB cO y 0 999 ) (va_cwS 3 hts gX7_setGround_X7_in rfl rfl rfl (by decide +kernel) ⟨Nat.le_of_ble_eq_true rfl, Nat.le_of_ble_eq_true rfl⟩) (rd_preS hK (hP.pick [] rfl) hN) rfl rfl hl.1 rfl (lv_room (Nat.le_of_ble_eq_true rfl)) dX7_setGround_13 ⟨Nat.le_refl _, Nat.le_refl _⟩) (fun r_13 H locs h_13 hP hS => ?_)
    refine lv_if_ne (tgt := 22) hx hb dX7_setGround_16 (by decide) (fun c_16 => ?_) (fun c_16 => ?_)
    · skip
      refine lv_aload_n hx hb dX7_setGround_22 rfl (lv_at hl 0 rfl) ?_
      have hPb : va_P D vwCl ([] ++ ([(A 0, .inr (7, [.ref (A 1), .ref (A 2), .int (nI hs.length), .ref (A 3), .int (FZ fk), .ref (A 4), .int (nI tL), .ref (A 5), .ref (A 6), .int re, .int at0, .int fa, .ref (A 7), .ref (A 8), .long hsh])), (A 1, .inl (cI, 43, .inl mm)), (A 2, .inl (cI, 430, .inl pp))] ++ [(A 3, .inl (cI, 20, .inl fd)), (A 4, .inl (cI, 120, .inl tx)), (A 5, .inl (cI, 20, .inl rgd)), (A 6, .inl (cI, 20, .inl rmd)), (A 7, .inl (cI, 20, .inl wy)), (A 8, .inl (cI, 20, .inl cvr))])) _ := hP
      have hDb : va_D (inW (bdW A)) ([] ++ ([(A 0, .inr (7, [.ref (A 1), .ref (A 2), .int (nI hs.length), .ref (A 3), .int (FZ fk), .ref (A 4), .int (nI tL), .ref (A 5), .ref (A 6), .int re, .int at0, .int fa, .ref (A 7), .ref (A 8), .long hsh])), (A 1, .inl (cI, 43, .inl mm)), (A 2, .inl (cI, 430, .inl pp))] ++ [(A 3, .inl (cI, 20, .inl fd)), (A 4, .inl (cI, 120, .inl tx)), (A 5, .inl (cI, 20, .inl rgd)), (A 6, .inl (cI, 20, .inl rmd)), (A 7, .inl (cI, 20, .inl wy)), (A 8, .inl (cI, 20, .inl cvr))])) := hD
      refine wa_callv hPb hDb hS (va_runV (As := []) (rest := []) ⟨hx, hb, hml, hown, hts⟩ (c_X7_keeps l D cI cB cO (A 0) (A 1) (A 2) (A 3) (A 4) (A 5) (A 6) (A 7) (A 8) mm pp (FZ fk) (nI tL) re at0 fa hsh hs.length hsl) (cwV 0 hts gX7_setGround_X7_keeps rfl rfl rfl (by decide +kernel) ⟨Nat.le_of_ble_eq_true rfl, Nat.le_of_ble_eq_true rfl⟩) (wr_preV (r := (RX7, TX7, 15)) (ci := 7) hK (wa_P hPb) hN ((wa_D hDb).weaken (fun _ _ _ _ => trivial)) (q0 := 0) rfl rfl) rfl rfl hl.1 rfl (lv_room (Nat.le_of_ble_eq_true rfl)) dX7_setGround_23 ⟨Nat.le_refl _, Nat.le_refl _⟩) (fun _ => [(A 0, .inr (7, [.ref (A 1), .ref (A 2), .int (nI (min (hs.length + 1) 10)), .ref (A 3), .int (FZ fk), .ref (A 4), .int (nI tL), .ref (A 5), .ref (A 6), .int re, .int at0, .int fa, .ref (A 7), .ref (A 8), .long hsh])), (A 1, .inl (cI, 43, .inl mm)), (A 2, .inl (cI, 430, .inl (keM hs.length mm pp))), (A 3, .inl (cI, 20, .inl fd)), (A 4, .inl (cI, 120, .inl tx)), (A 5, .inl (cI, 20, .inl rgd)), (A 6, .inl (cI, 20, .inl rmd)), (A 7, .inl (cI, 20, .inl wy)), (A 8, .inl (cI, 20, .inl cvr))]) (fun _ => rfl) (fun _ => rfl) (fun u_23 H locs h_23 hP hD hS => ?_)
      have e9 : ([(A 0, .inr (7, [.ref (A 1), .ref (A 2), .int (nI (min (hs.length + 1) 10)), .ref (A 3), .int (FZ fk), .ref (A 4), .int (nI tL), .ref (A 5), .ref (A 6), .int re, .int at0, .int fa, .ref (A 7), .ref (A 8), .long hsh])), (A 1, .inl (cI, 43, .inl mm)), (A 2, .inl (cI, 430, .inl (keM hs.length mm pp))), (A 3, .inl (cI, 20, .inl fd)), (A 4, .inl (cI, 120, .inl tx)), (A 5, .inl (cI, 20, .inl rgd)), (A 6, .inl (cI, 20, .inl rmd)), (A 7, .inl (cI, 20, .inl wy)), (A 8, .inl (cI, 20, .inl cvr))] : va_W) = [(A 0, .inr (7, [.ref (A 1), .ref (A 2), .int (nI (((n, rg, bl, G, M) :: hs).take 10).length), .ref (A 3), .int (FZ fk), .ref (A 4), .int (nI tL), .ref (A 5), .ref (A 6), .int re, .int at0, .int fa, .ref (A 7), .ref (A 8), .long hsh])), (A 1, .inl (cI, 43, .inl mm)), (A 2, .inl (cI, 430, .inl (keM hs.length mm pp))), (A 3, .inl (cI, 20, .inl fd)), (A 4, .inl (cI, 120, .inl tx)), (A 5, .inl (cI, 20, .inl rgd)), (A 6, .inl (cI, 20, .inl rmd)), (A 7, .inl (cI, 20, .inl wy)), (A 8, .inl (cI, 20, .inl cvr))] := congrArg (fun f9 : Int32 => ([(A 0, .inr (7, [.ref (A 1), .ref (A 2), .int f9, .ref (A 3), .int (FZ fk), .ref (A 4), .int (nI tL), .ref (A 5), .ref (A 6), .int re, .int at0, .int fa, .ref (A 7), .ref (A 8), .long hsh])), (A 1, .inl (cI, 43, .inl mm)), (A 2, .inl (cI, 430, .inl (keM hs.length mm pp))), (A 3, .inl (cI, 20, .inl fd)), (A 4, .inl (cI, 120, .inl tx)), (A 5, .inl (cI, 20, .inl rgd)), (A 6, .inl (cI, 20, .inl rmd)), (A 7, .inl (cI, 20, .inl wy)), (A 8, .inl (cI, 20, .inl cvr))] : va_W)) (show nI (min (hs.length + 1) 10) = nI (((n, rg, bl, G, M) :: hs).take 10).length from congrArg nI (take10_len _ _).symm)
      have hP := va_P_eq e9 hP
      have hD := va_D_eq e9 hD
      have hP : va_P D vwCl [(A 0, .inr (7, [.ref (A 1), .ref (A 2), .int (nI (((n, rg, bl, G, M) :: hs).take 10).length), .ref (A 3), .int (FZ fk), .ref (A 4), .int (nI tL), .ref (A 5), .ref (A 6), .int re, .int at0, .int fa, .ref (A 7), .ref (A 8), .long hsh])), (A 1, .inl (cI, 43, .inl mm)), (A 2, .inl (cI, 430, .inl (keM hs.length mm pp))), (A 3, .inl (cI, 20, .inl fd)), (A 4, .inl (cI, 120, .inl tx)), (A 5, .inl (cI, 20, .inl rgd)), (A 6, .inl (cI, 20, .inl rmd)), (A 7, .inl (cI, 20, .inl wy)), (A 8, .inl (cI, 20, .inl cvr))] _ := hP
      have hD : va_D (inW (bdW A)) [(A 0, .inr (7, [.ref (A 1), .ref (A 2), .int (nI (((n, rg, bl, G, M) :: hs).take 10).length), .ref (A 3), .int (FZ fk), .ref (A 4), .int (nI tL), .ref (A 5), .ref (A 6), .int re, .int at0, .int fa, .ref (A 7), .ref (A 8), .long hsh])), (A 1, .inl (cI, 43, .inl mm)), (A 2, .inl (cI, 430, .inl (keM hs.length mm pp))), (A 3, .inl (cI, 20, .inl fd)), (A 4, .inl (cI, 120, .inl tx)), (A 5, .inl (cI, 20, .inl rgd)), (A 6, .inl (cI, 20, .inl rmd)), (A 7, .inl (cI, 20, .inl wy)), (A 8, .inl (cI, 20, .inl cvr))] := hD
      refine lv_aload_n hx hb dX7_setGround_26 rfl (lv_at hl 0 rfl) ?_
      refine va_get (D := D) (ci := 7) (v := .ref (A 1)) (C := RX7) (T := TX7) (N := 15) hx hb hts kX7_setGround_ok_0 hown hK hP 0 rfl rfl 0 (by decide) (hts (.fieldLink RX7 7 "SightRidgeModel" "m" "[I") kX7_setGround_ok_1) (fun _ h9 => h9) rfl dX7_setGround_27 ?_
      refine lv_iconst (v := 3) hx hb dX7_setGround_30 (by decide) ?_
      refine lv_iload_n hx hb dX7_setGround_31 rfl (lv_at hl 1 rfl) ?_
      refine lv_iadd hx hb dX7_setGround_32 ?_
      refine lv_topi (fun y_1 e_2 => ?_)
      have e_2 : nI (3 + a) = y_1 := (e_2.trans (nI_add 3 a)).symm
      subst e_2
      refine va_iald hx hb hK hP 1 0 rfl rfl (i := nI (3 + a)) (vp_in_nI (N := 43) (by omega) (by decide)) dX7_setGround_33 ?_
      rw [nI_clamp (n := 3 + a) (by omega)]
      refine lv_topi (fun y_3 e_4 => ?_)
      have e_4 : G a = y_3 := (e_4.trans (hG a ha)).symm
      subst e_4
      refine lv_istore_n (lv' := [(3, .int (G a)), (0, .ref (A 0)), (1, .int (nI a)), (2, .int y)]) hx hb dX7_setGround_34 rfl hl (by decide) rfl (fun ls hl => ?_)
      refine lv_aload_n hx hb dX7_setGround_35 rfl (lv_at hl 1 rfl) ?_
      refine va_get (D := D) (ci := 7) (v := .ref (A 1)) (C := RX7) (T := TX7) (N := 15) hx hb hts kX7_setGround_ok_0 hown hK hP 0 rfl rfl 0 (by decide) (hts (.fieldLink RX7 7 "SightRidgeModel" "m" "[I") kX7_setGround_ok_1) (fun _ h9 => h9) rfl dX7_setGround_36 ?_
      refine lv_iconst (v := 3) hx hb dX7_setGround_39 (by decide) ?_
      refine lv_iload_n hx hb dX7_setGround_40 rfl (lv_at hl 2 rfl) ?_
      refine lv_iadd hx hb dX7_setGround_41 ?_
      refine lv_topi (fun y_5 e_6 => ?_)
      have e_6 : nI (3 + a) = y_5 := (e_6.trans (nI_add 3 a)).symm
      subst e_6
      refine lv_iload_n hx hb dX7_setGround_42 rfl (lv_at hl 3 rfl) ?_
      refine va_iast hx hb hK hP hD hS 1 0 rfl rfl (i := nI (3 + a)) (vp_in_nI (N := 43) (by omega) (by decide)) dX7_setGround_43 (fun H locs hP hD hS => ?_)
      rw [nI_clamp (n := 3 + a) (by omega)] at hP hD
      have hP : va_P D vwCl [(A 0, .inr (7, [.ref (A 1), .ref (A 2), .int (nI (((n, rg, bl, G, M) :: hs).take 10).length), .ref (A 3), .int (FZ fk), .ref (A 4), .int (nI tL), .ref (A 5), .ref (A 6), .int re, .int at0, .int fa, .ref (A 7), .ref (A 8), .long hsh])), (A 1, .inl (cI, 43, .inl (upd mm (3 + a) y))), (A 2, .inl (cI, 430, .inl (keM hs.length mm pp))), (A 3, .inl (cI, 20, .inl fd)), (A 4, .inl (cI, 120, .inl tx)), (A 5, .inl (cI, 20, .inl rgd)), (A 6, .inl (cI, 20, .inl rmd)), (A 7, .inl (cI, 20, .inl wy)), (A 8, .inl (cI, 20, .inl cvr))] _ := hP
      have hD : va_D (inW (bdW A)) [(A 0, .inr (7, [.ref (A 1), .ref (A 2), .int (nI (((n, rg, bl, G, M) :: hs).take 10).length), .ref (A 3), .int (FZ fk), .ref (A 4), .int (nI tL), .ref (A 5), .ref (A 6), .int re, .int at0, .int fa, .ref (A 7), .ref (A 8), .long hsh])), (A 1, .inl (cI, 43, .inl (upd mm (3 + a) y))), (A 2, .inl (cI, 430, .inl (keM hs.length mm pp))), (A 3, .inl (cI, 20, .inl fd)), (A 4, .inl (cI, 120, .inl tx)), (A 5, .inl (cI, 20, .inl rgd)), (A 6, .inl (cI, 20, .inl rmd)), (A 7, .inl (cI, 20, .inl wy)), (A 8, .inl (cI, 20, .inl cvr))] := hD
      refine lv_iload_n hx hb dX7_setGround_44 rfl (lv_at hl 0 rfl) ?_
      have hI := mri_mk (D := D) (cI := cI) (cB := cB) (cO := cO) (A := A) n rg bl (upd G a y) M (((n, rg, bl, G, M) :: hs).take 10) tL tc fk fc (upd mm (3 + a) y) (keM hs.length mm pp) fd tx rgd rmd wy cvr re at0 fa hsh hP (mok_ground hm ha) (PstR_keep hm hsl hokH hpp) (take10_le _) htx hfd
      refine W.iret (v := G a) hx hb hr ?_ hS.2.2 dX7_setGround_45
      intro tS htS hWS
      refine ⟨⟨G a, (), rfl, ?_, ?_⟩, ?_⟩
      · exact rfl
      · exact retM htS hI
      · exact hS.F htS
    · skip
      have d2 := bI_e0 (h_13.symm.trans c_16)
      exact absurd d2 (by rw [hy]; decide)
set_option maxHeartbeats 4000000 in
set_option maxRecDepth 100000 in
theorem c_X7_mast_no (l : Launch) (D : va_G) (cI cB cO : ClassId) (A : Nat → Nat) (n : Nat) (rg : Int32) (bl : Int32) (G : Nat → Int32) (M : Nat → Int32) (hs : List Prf) (tL : Nat) (tc : Nat → Nat) (fk : Nat) (fc : Nat → Nat) (x y : Int32) (hok : okS n rg bl G M hs tL tc fk fc) (hno : (hasB n x && inB y 0 200) = false) : Met l yX7_mast wsX7_mast (rmD 8) (mrPc D cI cB cO A [.ref (A 0), .int x, .int y] n rg bl G M hs tL tc fk fc) (mrQi A (fun (r : Int32) (u : Unit) => r = -2) (fun (u : Unit) H => MRI D cI cB cO A H n rg bl G M hs tL tc fk fc)) 0 0 (inW (bdW A)) := by
  refine Met.ofW (cc := cX7_mast) (maxL := 4) (ret := (some .int)) (by decide) rfl ?_
  intro p e s m args below meth c s₁ B hml hv
  obtain ⟨rfl, hI, hK, hN, hA⟩ := hv
  have hx := B.exec
  have hb := B.bytes
  have hr := B.returns
  have hts := atoms_spec (ws := wsX7_mast) B.pre
  have hown : s.vm.findClass RX7 = some m.cls := findClass_of_methodNamed B.named
  have hlocks := B.notSynchronized
  have hS : va_S (inW (bdW A)) s.heap s.heap [] := va_S.rf
  obtain ⟨mm, pp, fd, tx, rgd, rmd, wy, cvr, re, at0, fa, hsh, hP, hm, hpp, hsl, htx, hfd⟩ := hI
  have hD : va_D (inW (bdW A)) [(A 0, .inr (7, [.ref (A 1), .ref (A 2), .int (nI hs.length), .ref (A 3), .int (FZ fk), .ref (A 4), .int (nI tL), .ref (A 5), .ref (A 6), .int re, .int at0, .int fa, .ref (A 7), .ref (A 8), .long hsh])), (A 1, .inl (cI, 43, .inl mm)), (A 2, .inl (cI, 430, .inl pp)), (A 3, .inl (cI, 20, .inl fd)), (A 4, .inl (cI, 120, .inl tx)), (A 5, .inl (cI, 20, .inl rgd)), (A 6, .inl (cI, 20, .inl rmd)), (A 7, .inl (cI, 20, .inl wy)), (A 8, .inl (cI, 20, .inl cvr))] := da_D hA rfl
  have hl := lv_entry ([.ref (A 0), .int x, .int y]) (n := 4) (Nat.le_of_ble_eq_true rfl)
  rw [lg_entry_eq]
  generalize (lg_sl ([.ref (A 0), .int x, .int y]) ++ List.replicate (4 - (lg_sl ([.ref (A 0), .int x, .int y])).length) Slot.unset).toArray = ls at hl ⊢
  have hl : lv_has ls 4 [(0, .ref (A 0)), (1, .int x), (2, .int y)] := hl
  obtain ⟨hokP, hokH, hL, hcc, hfk⟩ := id hok
  have hn : n ≤ 20 := hokP.2.1
  have hn2 : 2 ≤ n := hokP.1
  obtain ⟨-, -, hm0, hm1, hm2, hG, hM⟩ := id hm
  refine lv_aload_n hx hb dX7_mast_0 rfl (lv_at hl 0 rfl) ?_
  refine lv_iload_n hx hb dX7_mast_1 rfl (lv_at hl 1 rfl) ?_
  refine rd_calli hP hS (va_runV (As := [.int x]) (rest := []) ⟨hx, hb, hml, hown, hts⟩ (c_X7_isStation l D cI cB cO (A 0) (A 1) [.ref (A 2), .int (nI hs.length), .ref (A 3), .int (FZ fk), .ref (A 4), .int (nI tL), .ref (A 5), .ref (A 6), .int re, .int at0, .int fa, .ref (A 7), .ref (A 8), .long hsh] n mm rg bl G M x hm) (cwV 1 hts gX7_mast_X7_isStation rfl rfl rfl (by decide +kernel) ⟨Nat.le_of_ble_eq_true rfl, Nat.le_of_ble_eq_true rfl⟩) (rd_preV (r := (RX7, TX7, 15)) (ci := 7) hK (hP.pick [0, 1] rfl) hN (q0 := 0) rfl rfl) rfl rfl hl.1 rfl (lv_room (Nat.le_of_ble_eq_true rfl)) dX7_mast_2 ⟨Nat.le_refl _, Nat.le_refl _⟩) (fun r_2 H locs h_2 hP hS => ?_)
  refine lv_if_eq (tgt := 19) hx hb dX7_mast_5 (by decide) (fun c_5 => ?_) (fun c_5 => ?_)
  · skip
    have d1 := bI_e0 (h_2.symm.trans c_5)
    refine lv_bipush (v := (-2)) hx hb dX7_mast_19 (by decide) ?_
    have hI := mri_mk (D := D) (cI := cI) (cB := cB) (cO := cO) (A := A) n rg bl G M hs tL tc fk fc mm pp fd tx rgd rmd wy cvr re at0 fa hsh hP hm hpp hsl htx hfd
    refine W.iret (v := -2) hx hb hr ?_ hS.2.2 dX7_mast_21
    intro tS htS hWS
    refine ⟨⟨(-2), (), rfl, ?_, ?_⟩, ?_⟩
    · exact rfl
    · exact retM htS hI
    · exact hS.F htS
  · skip
    have d1 := bI_n0 (fun q => c_5 (h_2.trans q))
    refine lv_iload_n hx hb dX7_mast_8 rfl (lv_at hl 2 rfl) ?_
    refine lv_iconst (v := 0) hx hb dX7_mast_9 (by decide) ?_
    refine lv_sipush (v := 200) hx hb dX7_mast_10 (by decide) ?_
    refine rd_calli hP hS (va_runS (As := [.int y, .int 0, .int 200]) (rest := []) ⟨hx, hb, hml, hown, hts⟩ (c_X7_in l D cI cB cO y 0 200 ) (va_cwS 3 hts gX7_mast_X7_in rfl rfl rfl (by decide +kernel) ⟨Nat.le_of_ble_eq_true rfl, Nat.le_of_ble_eq_true rfl⟩) (rd_preS hK (hP.pick [] rfl) hN) rfl rfl hl.1 rfl (lv_room (Nat.le_of_ble_eq_true rfl)) dX7_mast_13 ⟨Nat.le_refl _, Nat.le_refl _⟩) (fun r_13 H locs h_13 hP hS => ?_)
    refine lv_if_ne (tgt := 22) hx hb dX7_mast_16 (by decide) (fun c_16 => ?_) (fun c_16 => ?_)
    · skip
      have d2 := bI_n0 (fun q => c_16 (h_13.trans q))
      exact absurd hno (by rw [d1, d2]; decide)
    · skip
      refine lv_bipush (v := (-2)) hx hb dX7_mast_19 (by decide) ?_
      have hI := mri_mk (D := D) (cI := cI) (cB := cB) (cO := cO) (A := A) n rg bl G M hs tL tc fk fc mm pp fd tx rgd rmd wy cvr re at0 fa hsh hP hm hpp hsl htx hfd
      refine W.iret (v := -2) hx hb hr ?_ hS.2.2 dX7_mast_21
      intro tS htS hWS
      refine ⟨⟨(-2), (), rfl, ?_, ?_⟩, ?_⟩
      · exact rfl
      · exact retM htS hI
      · exact hS.F htS
theorem kX7_mast_ok_0 : ∀ w ∈ wsX70, w ∈ wsX7_mast := by decide +kernel
theorem kX7_mast_ok_1 : (.fieldLink RX7 7 "SightRidgeModel" "m" "[I" : Cond) ∈ wsX7_mast := by decide +kernel
set_option maxHeartbeats 4000000 in
set_option maxRecDepth 100000 in
theorem c_X7_mast_ok (l : Launch) (D : va_G) (cI cB cO : ClassId) (A : Nat → Nat) (n : Nat) (rg : Int32) (bl : Int32) (G : Nat → Int32) (M : Nat → Int32) (hs : List Prf) (tL : Nat) (tc : Nat → Nat) (fk : Nat) (fc : Nat → Nat) (a : Nat) (y : Int32) (hok : okS n rg bl G M hs tL tc fk fc) (ha : a < n) (hy : inB y 0 200 = true) : Met l yX7_mast wsX7_mast (rmD 8) (mrPc D cI cB cO A [.ref (A 0), .int (nI a), .int y] n rg bl G M hs tL tc fk fc) (mrQi A (fun (r : Int32) (u : Unit) => r = M a) (fun (u : Unit) H => MRI D cI cB cO A H n rg bl G (upd M a y) (((n, rg, bl, G, M) :: hs).take 10) tL tc fk fc)) 0 0 (inW (bdW A)) := by
  refine Met.ofW (cc := cX7_mast) (maxL := 4) (ret := (some .int)) (by decide) rfl ?_
  intro p e s m args below meth c s₁ B hml hv
  obtain ⟨rfl, hI, hK, hN, hA⟩ := hv
  have hx := B.exec
  have hb := B.bytes
  have hr := B.returns
  have hts := atoms_spec (ws := wsX7_mast) B.pre
  have hown : s.vm.findClass RX7 = some m.cls := findClass_of_methodNamed B.named
  have hlocks := B.notSynchronized
  have hS : va_S (inW (bdW A)) s.heap s.heap [] := va_S.rf
  obtain ⟨mm, pp, fd, tx, rgd, rmd, wy, cvr, re, at0, fa, hsh, hP, hm, hpp, hsl, htx, hfd⟩ := hI
  have hD : va_D (inW (bdW A)) [(A 0, .inr (7, [.ref (A 1), .ref (A 2), .int (nI hs.length), .ref (A 3), .int (FZ fk), .ref (A 4), .int (nI tL), .ref (A 5), .ref (A 6), .int re, .int at0, .int fa, .ref (A 7), .ref (A 8), .long hsh])), (A 1, .inl (cI, 43, .inl mm)), (A 2, .inl (cI, 430, .inl pp)), (A 3, .inl (cI, 20, .inl fd)), (A 4, .inl (cI, 120, .inl tx)), (A 5, .inl (cI, 20, .inl rgd)), (A 6, .inl (cI, 20, .inl rmd)), (A 7, .inl (cI, 20, .inl wy)), (A 8, .inl (cI, 20, .inl cvr))] := da_D hA rfl
  have hl := lv_entry ([.ref (A 0), .int (nI a), .int y]) (n := 4) (Nat.le_of_ble_eq_true rfl)
  rw [lg_entry_eq]
  generalize (lg_sl ([.ref (A 0), .int (nI a), .int y]) ++ List.replicate (4 - (lg_sl ([.ref (A 0), .int (nI a), .int y])).length) Slot.unset).toArray = ls at hl ⊢
  have hl : lv_has ls 4 [(0, .ref (A 0)), (1, .int (nI a)), (2, .int y)] := hl
  obtain ⟨hokP, hokH, hL, hcc, hfk⟩ := id hok
  have hn : n ≤ 20 := hokP.2.1
  have hn2 : 2 ≤ n := hokP.1
  obtain ⟨-, -, hm0, hm1, hm2, hG, hM⟩ := id hm
  refine lv_aload_n hx hb dX7_mast_0 rfl (lv_at hl 0 rfl) ?_
  refine lv_iload_n hx hb dX7_mast_1 rfl (lv_at hl 1 rfl) ?_
  refine rd_calli hP hS (va_runV (As := [.int (nI a)]) (rest := []) ⟨hx, hb, hml, hown, hts⟩ (c_X7_isStation l D cI cB cO (A 0) (A 1) [.ref (A 2), .int (nI hs.length), .ref (A 3), .int (FZ fk), .ref (A 4), .int (nI tL), .ref (A 5), .ref (A 6), .int re, .int at0, .int fa, .ref (A 7), .ref (A 8), .long hsh] n mm rg bl G M (nI a) hm) (cwV 1 hts gX7_mast_X7_isStation rfl rfl rfl (by decide +kernel) ⟨Nat.le_of_ble_eq_true rfl, Nat.le_of_ble_eq_true rfl⟩) (rd_preV (r := (RX7, TX7, 15)) (ci := 7) hK (hP.pick [0, 1] rfl) hN (q0 := 0) rfl rfl) rfl rfl hl.1 rfl (lv_room (Nat.le_of_ble_eq_true rfl)) dX7_mast_2 ⟨Nat.le_refl _, Nat.le_refl _⟩) (fun r_2 H locs h_2 hP hS => ?_)
  refine lv_if_eq (tgt := 19) hx hb dX7_mast_5 (by decide) (fun c_5 => ?_) (fun c_5 => ?_)
  · skip
    have d1 := bI_e0 (h_2.symm.trans c_5)
    exact absurd d1 (by rw [hasB_in ha hn]; decide)
  · skip
    refine lv_iload_n hx hb dX7_mast_8 rfl (lv_at hl 2 rfl) ?_
    refine lv_iconst (v := 0) hx hb dX7_mast_9 (by decide) ?_
    refine lv_sipush (v := 200) hx hb dX7_mast_10 (by decide) ?_
    refine rd_calli hP hS (va_runS (As := [.int y, .int 0, .int 200]) (rest := []) ⟨hx, hb, hml, hown, hts⟩ (c_X7_in l D cI cB cO y 0 200 ) (va_cwS 3 hts gX7_mast_X7_in rfl rfl rfl (by decide +kernel) ⟨Nat.le_of_ble_eq_true rfl, Nat.le_of_ble_eq_true rfl⟩) (rd_preS hK (hP.pick [] rfl) hN) rfl rfl hl.1 rfl (lv_room (Nat.le_of_ble_eq_true rfl)) dX7_mast_13 ⟨Nat.le_refl _, Nat.le_refl _⟩) (fun r_13 H locs h_13 hP hS => ?_)
    refine lv_if_ne (tgt := 22) hx hb dX7_mast_16 (by decide) (fun c_16 => ?_) (fun c_16 => ?_)
    · skip
      refine lv_aload_n hx hb dX7_mast_22 rfl (lv_at hl 0 rfl) ?_
      have hPb : va_P D vwCl ([] ++ ([(A 0, .inr (7, [.ref (A 1), .ref (A 2), .int (nI hs.length), .ref (A 3), .int (FZ fk), .ref (A 4), .int (nI tL), .ref (A 5), .ref (A 6), .int re, .int at0, .int fa, .ref (A 7), .ref (A 8), .long hsh])), (A 1, .inl (cI, 43, .inl mm)), (A 2, .inl (cI, 430, .inl pp))] ++ [(A 3, .inl (cI, 20, .inl fd)), (A 4, .inl (cI, 120, .inl tx)), (A 5, .inl (cI, 20, .inl rgd)), (A 6, .inl (cI, 20, .inl rmd)), (A 7, .inl (cI, 20, .inl wy)), (A 8, .inl (cI, 20, .inl cvr))])) _ := hP
      have hDb : va_D (inW (bdW A)) ([] ++ ([(A 0, .inr (7, [.ref (A 1), .ref (A 2), .int (nI hs.length), .ref (A 3), .int (FZ fk), .ref (A 4), .int (nI tL), .ref (A 5), .ref (A 6), .int re, .int at0, .int fa, .ref (A 7), .ref (A 8), .long hsh])), (A 1, .inl (cI, 43, .inl mm)), (A 2, .inl (cI, 430, .inl pp))] ++ [(A 3, .inl (cI, 20, .inl fd)), (A 4, .inl (cI, 120, .inl tx)), (A 5, .inl (cI, 20, .inl rgd)), (A 6, .inl (cI, 20, .inl rmd)), (A 7, .inl (cI, 20, .inl wy)), (A 8, .inl (cI, 20, .inl cvr))])) := hD
      refine wa_callv hPb hDb hS (va_runV (As := []) (rest := []) ⟨hx, hb, hml, hown, hts⟩ (c_X7_keeps l D cI cB cO (A 0) (A 1) (A 2) (A 3) (A 4) (A 5) (A 6) (A 7) (A 8) mm pp (FZ fk) (nI tL) re at0 fa hsh hs.length hsl) (cwV 0 hts gX7_mast_X7_keeps rfl rfl rfl (by decide +kernel) ⟨Nat.le_of_ble_eq_true rfl, Nat.le_of_ble_eq_true rfl⟩) (wr_preV (r := (RX7, TX7, 15)) (ci := 7) hK (wa_P hPb) hN ((wa_D hDb).weaken (fun _ _ _ _ => trivial)) (q0 := 0) rfl rfl) rfl rfl hl.1 rfl (lv_room (Nat.le_of_ble_eq_true rfl)) dX7_mast_23 ⟨Nat.le_refl _, Nat.le_refl _⟩) (fun _ => [(A 0, .inr (7, [.ref (A 1), .ref (A 2), .int (nI (min (hs.length + 1) 10)), .ref (A 3), .int (FZ fk), .ref (A 4), .int (nI tL), .ref (A 5), .ref (A 6), .int re, .int at0, .int fa, .ref (A 7), .ref (A 8), .long hsh])), (A 1, .inl (cI, 43, .inl mm)), (A 2, .inl (cI, 430, .inl (keM hs.length mm pp))), (A 3, .inl (cI, 20, .inl fd)), (A 4, .inl (cI, 120, .inl tx)), (A 5, .inl (cI, 20, .inl rgd)), (A 6, .inl (cI, 20, .inl rmd)), (A 7, .inl (cI, 20, .inl wy)), (A 8, .inl (cI, 20, .inl cvr))]) (fun _ => rfl) (fun _ => rfl) (fun u_23 H locs h_23 hP hD hS => ?_)
      have e9 : ([(A 0, .inr (7, [.ref (A 1), .ref (A 2), .int (nI (min (hs.length + 1) 10)), .ref (A 3), .int (FZ fk), .ref (A 4), .int (nI tL), .ref (A 5), .ref (A 6), .int re, .int at0, .int fa, .ref (A 7), .ref (A 8), .long hsh])), (A 1, .inl (cI, 43, .inl mm)), (A 2, .inl (cI, 430, .inl (keM hs.length mm pp))), (A 3, .inl (cI, 20, .inl fd)), (A 4, .inl (cI, 120, .inl tx)), (A 5, .inl (cI, 20, .inl rgd)), (A 6, .inl (cI, 20, .inl rmd)), (A 7, .inl (cI, 20, .inl wy)), (A 8, .inl (cI, 20, .inl cvr))] : va_W) = [(A 0, .inr (7, [.ref (A 1), .ref (A 2), .int (nI (((n, rg, bl, G, M) :: hs).take 10).length), .ref (A 3), .int (FZ fk), .ref (A 4), .int (nI tL), .ref (A 5), .ref (A 6), .int re, .int at0, .int fa, .ref (A 7), .ref (A 8), .long hsh])), (A 1, .inl (cI, 43, .inl mm)), (A 2, .inl (cI, 430, .inl (keM hs.length mm pp))), (A 3, .inl (cI, 20, .inl fd)), (A 4, .inl (cI, 120, .inl tx)), (A 5, .inl (cI, 20, .inl rgd)), (A 6, .inl (cI, 20, .inl rmd)), (A 7, .inl (cI, 20, .inl wy)), (A 8, .inl (cI, 20, .inl cvr))] := congrArg (fun f9 : Int32 => ([(A 0, .inr (7, [.ref (A 1), .ref (A 2), .int f9, .ref (A 3), .int (FZ fk), .ref (A 4), .int (nI tL), .ref (A 5), .ref (A 6), .int re, .int at0, .int fa, .ref (A 7), .ref (A 8), .long hsh])), (A 1, .inl (cI, 43, .inl mm)), (A 2, .inl (cI, 430, .inl (keM hs.length mm pp))), (A 3, .inl (cI, 20, .inl fd)), (A 4, .inl (cI, 120, .inl tx)), (A 5, .inl (cI, 20, .inl rgd)), (A 6, .inl (cI, 20, .inl rmd)), (A 7, .inl (cI, 20, .inl wy)), (A 8, .inl (cI, 20, .inl cvr))] : va_W)) (show nI (min (hs.length + 1) 10) = nI (((n, rg, bl, G, M) :: hs).take 10).length from congrArg nI (take10_len _ _).symm)
      have hP := va_P_eq e9 hP
      have hD := va_D_eq e9 hD
      have hP : va_P D vwCl [(A 0, .inr (7, [.ref (A 1), .ref (A 2), .int (nI (((n, rg, bl, G, M) :: hs).take 10).length), .ref (A 3), .int (FZ fk), .ref (A 4), .int (nI tL), .ref (A 5), .ref (A 6), .int re, .int at0, .int fa, .ref (A 7), .ref (A 8), .long hsh])), (A 1, .inl (cI, 43, .inl mm)), (A 2, .inl (cI, 430, .inl (keM hs.length mm pp))), (A 3, .inl (cI, 20, .inl fd)), (A 4, .inl (cI, 120, .inl tx)), (A 5, .inl (cI, 20, .inl rgd)), (A 6, .inl (cI, 20, .inl rmd)), (A 7, .inl (cI, 20, .inl wy)), (A 8, .inl (cI, 20, .inl cvr))] _ := hP
      have hD : va_D (inW (bdW A)) [(A 0, .inr (7, [.ref (A 1), .ref (A 2), .int (nI (((n, rg, bl, G, M) :: hs).take 10).length), .ref (A 3), .int (FZ fk), .ref (A 4), .int (nI tL), .ref (A 5), .ref (A 6), .int re, .int at0, .int fa, .ref (A 7), .ref (A 8), .long hsh])), (A 1, .inl (cI, 43, .inl mm)), (A 2, .inl (cI, 430, .inl (keM hs.length mm pp))), (A 3, .inl (cI, 20, .inl fd)), (A 4, .inl (cI, 120, .inl tx)), (A 5, .inl (cI, 20, .inl rgd)), (A 6, .inl (cI, 20, .inl rmd)), (A 7, .inl (cI, 20, .inl wy)), (A 8, .inl (cI, 20, .inl cvr))] := hD
      refine lv_aload_n hx hb dX7_mast_26 rfl (lv_at hl 0 rfl) ?_
      refine va_get (D := D) (ci := 7) (v := .ref (A 1)) (C := RX7) (T := TX7) (N := 15) hx hb hts kX7_mast_ok_0 hown hK hP 0 rfl rfl 0 (by decide) (hts (.fieldLink RX7 7 "SightRidgeModel" "m" "[I") kX7_mast_ok_1) (fun _ h9 => h9) rfl dX7_mast_27 ?_
      refine lv_bipush (v := 23) hx hb dX7_mast_30 (by decide) ?_
      refine lv_iload_n hx hb dX7_mast_32 rfl (lv_at hl 1 rfl) ?_
      refine lv_iadd hx hb dX7_mast_33 ?_
      refine lv_topi (fun y_1 e_2 => ?_)
      have e_2 : nI (23 + a) = y_1 := (e_2.trans (nI_add 23 a)).symm
      subst e_2
      refine va_iald hx hb hK hP 1 0 rfl rfl (i := nI (23 + a)) (vp_in_nI (N := 43) (by omega) (by decide)) dX7_mast_34 ?_
      rw [nI_clamp (n := 23 + a) (by omega)]
      refine lv_topi (fun y_3 e_4 => ?_)
      have e_4 : M a = y_3 := (e_4.trans (hM a ha)).symm
      subst e_4
      refine lv_istore_n (lv' := [(3, .int (M a)), (0, .ref (A 0)), (1, .int (nI a)), (2, .int y)]) hx hb dX7_mast_35 rfl hl (by decide) rfl (fun ls hl => ?_)
      refine lv_aload_n hx hb dX7_mast_36 rfl (lv_at hl 1 rfl) ?_
      refine va_get (D := D) (ci := 7) (v := .ref (A 1)) (C := RX7) (T := TX7) (N := 15) hx hb hts kX7_mast_ok_0 hown hK hP 0 rfl rfl 0 (by decide) (hts (.fieldLink RX7 7 "SightRidgeModel" "m" "[I") kX7_mast_ok_1) (fun _ h9 => h9) rfl dX7_mast_37 ?_
      refine lv_bipush (v := 23) hx hb dX7_mast_40 (by decide) ?_
      refine lv_iload_n hx hb dX7_mast_42 rfl (lv_at hl 2 rfl) ?_
      refine lv_iadd hx hb dX7_mast_43 ?_
      refine lv_topi (fun y_5 e_6 => ?_)
      have e_6 : nI (23 + a) = y_5 := (e_6.trans (nI_add 23 a)).symm
      subst e_6
      refine lv_iload_n hx hb dX7_mast_44 rfl (lv_at hl 3 rfl) ?_
      refine va_iast hx hb hK hP hD hS 1 0 rfl rfl (i := nI (23 + a)) (vp_in_nI (N := 43) (by omega) (by decide)) dX7_mast_45 (fun H locs hP hD hS => ?_)
      rw [nI_clamp (n := 23 + a) (by omega)] at hP hD
      have hP : va_P D vwCl [(A 0, .inr (7, [.ref (A 1), .ref (A 2), .int (nI (((n, rg, bl, G, M) :: hs).take 10).length), .ref (A 3), .int (FZ fk), .ref (A 4), .int (nI tL), .ref (A 5), .ref (A 6), .int re, .int at0, .int fa, .ref (A 7), .ref (A 8), .long hsh])), (A 1, .inl (cI, 43, .inl (upd mm (23 + a) y))), (A 2, .inl (cI, 430, .inl (keM hs.length mm pp))), (A 3, .inl (cI, 20, .inl fd)), (A 4, .inl (cI, 120, .inl tx)), (A 5, .inl (cI, 20, .inl rgd)), (A 6, .inl (cI, 20, .inl rmd)), (A 7, .inl (cI, 20, .inl wy)), (A 8, .inl (cI, 20, .inl cvr))] _ := hP
      have hD : va_D (inW (bdW A)) [(A 0, .inr (7, [.ref (A 1), .ref (A 2), .int (nI (((n, rg, bl, G, M) :: hs).take 10).length), .ref (A 3), .int (FZ fk), .ref (A 4), .int (nI tL), .ref (A 5), .ref (A 6), .int re, .int at0, .int fa, .ref (A 7), .ref (A 8), .long hsh])), (A 1, .inl (cI, 43, .inl (upd mm (23 + a) y))), (A 2, .inl (cI, 430, .inl (keM hs.length mm pp))), (A 3, .inl (cI, 20, .inl fd)), (A 4, .inl (cI, 120, .inl tx)), (A 5, .inl (cI, 20, .inl rgd)), (A 6, .inl (cI, 20, .inl rmd)), (A 7, .inl (cI, 20, .inl wy)), (A 8, .inl (cI, 20, .inl cvr))] := hD
      refine lv_iload_n hx hb dX7_mast_46 rfl (lv_at hl 0 rfl) ?_
      have hI := mri_mk (D := D) (cI := cI) (cB := cB) (cO := cO) (A := A) n rg bl G (upd M a y) (((n, rg, bl, G, M) :: hs).take 10) tL tc fk fc (upd mm (23 + a) y) (keM hs.length mm pp) fd tx rgd rmd wy cvr re at0 fa hsh hP (mok_mast hm ha) (PstR_keep hm hsl hokH hpp) (take10_le _) htx hfd
      refine W.iret (v := M a) hx hb hr ?_ hS.2.2 dX7_mast_47
      intro tS htS hWS
      refine ⟨⟨M a, (), rfl, ?_, ?_⟩, ?_⟩
      · exact rfl
      · exact retM htS hI
      · exact hS.F htS
    · skip
      have d2 := bI_e0 (h_13.symm.trans c_16)
      exact absurd d2 (by rw [hy]; decide)
set_option maxHeartbeats 4000000 in
set_option maxRecDepth 100000 in
theorem c_X7_setRange_no (l : Launch) (D : va_G) (cI cB cO : ClassId) (A : Nat → Nat) (n : Nat) (rg : Int32) (bl : Int32) (G : Nat → Int32) (M : Nat → Int32) (hs : List Prf) (tL : Nat) (tc : Nat → Nat) (fk : Nat) (fc : Nat → Nat) (x : Int32) (hok : okS n rg bl G M hs tL tc fk fc) (hno : inB x 1 19 = false) : Met l yX7_setRange wsX7_setRange (rmD 8) (mrPc D cI cB cO A [.ref (A 0), .int x] n rg bl G M hs tL tc fk fc) (mrQi A (fun (r : Int32) (u : Unit) => r = -2) (fun (u : Unit) H => MRI D cI cB cO A H n rg bl G M hs tL tc fk fc)) 0 0 (inW (bdW A)) := by
  refine Met.ofW (cc := cX7_setRange) (maxL := 3) (ret := (some .int)) (by decide) rfl ?_
  intro p e s m args below meth c s₁ B hml hv
  obtain ⟨rfl, hI, hK, hN, hA⟩ := hv
  have hx := B.exec
  have hb := B.bytes
  have hr := B.returns
  have hts := atoms_spec (ws := wsX7_setRange) B.pre
  have hown : s.vm.findClass RX7 = some m.cls := findClass_of_methodNamed B.named
  have hlocks := B.notSynchronized
  have hS : va_S (inW (bdW A)) s.heap s.heap [] := va_S.rf
  obtain ⟨mm, pp, fd, tx, rgd, rmd, wy, cvr, re, at0, fa, hsh, hP, hm, hpp, hsl, htx, hfd⟩ := hI
  have hD : va_D (inW (bdW A)) [(A 0, .inr (7, [.ref (A 1), .ref (A 2), .int (nI hs.length), .ref (A 3), .int (FZ fk), .ref (A 4), .int (nI tL), .ref (A 5), .ref (A 6), .int re, .int at0, .int fa, .ref (A 7), .ref (A 8), .long hsh])), (A 1, .inl (cI, 43, .inl mm)), (A 2, .inl (cI, 430, .inl pp)), (A 3, .inl (cI, 20, .inl fd)), (A 4, .inl (cI, 120, .inl tx)), (A 5, .inl (cI, 20, .inl rgd)), (A 6, .inl (cI, 20, .inl rmd)), (A 7, .inl (cI, 20, .inl wy)), (A 8, .inl (cI, 20, .inl cvr))] := da_D hA rfl
  have hl := lv_entry ([.ref (A 0), .int x]) (n := 3) (Nat.le_of_ble_eq_true rfl)
  rw [lg_entry_eq]
  generalize (lg_sl ([.ref (A 0), .int x]) ++ List.replicate (3 - (lg_sl ([.ref (A 0), .int x])).length) Slot.unset).toArray = ls at hl ⊢
  have hl : lv_has ls 3 [(0, .ref (A 0)), (1, .int x)] := hl
  obtain ⟨hokP, hokH, hL, hcc, hfk⟩ := id hok
  have hn : n ≤ 20 := hokP.2.1
  have hn2 : 2 ≤ n := hokP.1
  obtain ⟨-, -, hm0, hm1, hm2, hG, hM⟩ := id hm
  refine lv_iload_n hx hb dX7_setRange_0 rfl (lv_at hl 1 rfl) ?_
  refine lv_iconst (v := 1) hx hb dX7_setRange_1 (by decide) ?_
  refine lv_bipush (v := 19) hx hb dX7_setRange_2 (by decide) ?_
  refine rd_calli hP hS (va_runS (As := [.int x, .int 1, .int 19]) (rest := []) ⟨hx, hb, hml, hown, hts⟩ (c_X7_in l D cI cB cO x 1 19 ) (va_cwS 3 hts gX7_setRange_X7_in rfl rfl rfl (by decide +kernel) ⟨Nat.le_of_ble_eq_true rfl, Nat.le_of_ble_eq_true rfl⟩) (rd_preS hK (hP.pick [] rfl) hN) rfl rfl hl.1 rfl (lv_room (Nat.le_of_ble_eq_true rfl)) dX7_setRange_4 ⟨Nat.le_refl _, Nat.le_refl _⟩) (fun r_4 H locs h_4 hP hS => ?_)
  refine lv_if_ne (tgt := 13) hx hb dX7_setRange_7 (by decide) (fun c_7 => ?_) (fun c_7 => ?_)
  · skip
    have d2 := bI_n0 (fun q => c_7 (h_4.trans q))
    exact absurd hno (by rw [d2]; decide)
  · skip
    refine lv_bipush (v := (-2)) hx hb dX7_setRange_10 (by decide) ?_
    have hI := mri_mk (D := D) (cI := cI) (cB := cB) (cO := cO) (A := A) n rg bl G M hs tL tc fk fc mm pp fd tx rgd rmd wy cvr re at0 fa hsh hP hm hpp hsl htx hfd
    refine W.iret (v := -2) hx hb hr ?_ hS.2.2 dX7_setRange_12
    intro tS htS hWS
    refine ⟨⟨(-2), (), rfl, ?_, ?_⟩, ?_⟩
    · exact rfl
    · exact retM htS hI
    · exact hS.F htS
theorem kX7_setRange_ok_0 : ∀ w ∈ wsX70, w ∈ wsX7_setRange := by decide +kernel
theorem kX7_setRange_ok_1 : (.fieldLink RX7 7 "SightRidgeModel" "m" "[I" : Cond) ∈ wsX7_setRange := by decide +kernel
set_option maxHeartbeats 4000000 in
set_option maxRecDepth 100000 in
theorem c_X7_setRange_ok (l : Launch) (D : va_G) (cI cB cO : ClassId) (A : Nat → Nat) (n : Nat) (rg : Int32) (bl : Int32) (G : Nat → Int32) (M : Nat → Int32) (hs : List Prf) (tL : Nat) (tc : Nat → Nat) (fk : Nat) (fc : Nat → Nat) (x : Int32) (hok : okS n rg bl G M hs tL tc fk fc) (hy : inB x 1 19 = true) : Met l yX7_setRange wsX7_setRange (rmD 8) (mrPc D cI cB cO A [.ref (A 0), .int x] n rg bl G M hs tL tc fk fc) (mrQi A (fun (r : Int32) (u : Unit) => r = rg) (fun (u : Unit) H => MRI D cI cB cO A H n x bl G M (((n, rg, bl, G, M) :: hs).take 10) tL tc fk fc)) 0 0 (inW (bdW A)) := by
  refine Met.ofW (cc := cX7_setRange) (maxL := 3) (ret := (some .int)) (by decide) rfl ?_
  intro p e s m args below meth c s₁ B hml hv
  obtain ⟨rfl, hI, hK, hN, hA⟩ := hv
  have hx := B.exec
  have hb := B.bytes
  have hr := B.returns
  have hts := atoms_spec (ws := wsX7_setRange) B.pre
  have hown : s.vm.findClass RX7 = some m.cls := findClass_of_methodNamed B.named
  have hlocks := B.notSynchronized
  have hS : va_S (inW (bdW A)) s.heap s.heap [] := va_S.rf
  obtain ⟨mm, pp, fd, tx, rgd, rmd, wy, cvr, re, at0, fa, hsh, hP, hm, hpp, hsl, htx, hfd⟩ := hI
  have hD : va_D (inW (bdW A)) [(A 0, .inr (7, [.ref (A 1), .ref (A 2), .int (nI hs.length), .ref (A 3), .int (FZ fk), .ref (A 4), .int (nI tL), .ref (A 5), .ref (A 6), .int re, .int at0, .int fa, .ref (A 7), .ref (A 8), .long hsh])), (A 1, .inl (cI, 43, .inl mm)), (A 2, .inl (cI, 430, .inl pp)), (A 3, .inl (cI, 20, .inl fd)), (A 4, .inl (cI, 120, .inl tx)), (A 5, .inl (cI, 20, .inl rgd)), (A 6, .inl (cI, 20, .inl rmd)), (A 7, .inl (cI, 20, .inl wy)), (A 8, .inl (cI, 20, .inl cvr))] := da_D hA rfl
  have hl := lv_entry ([.ref (A 0), .int x]) (n := 3) (Nat.le_of_ble_eq_true rfl)
  rw [lg_entry_eq]
  generalize (lg_sl ([.ref (A 0), .int x]) ++ List.replicate (3 - (lg_sl ([.ref (A 0), .int x])).length) Slot.unset).toArray = ls at hl ⊢
  have hl : lv_has ls 3 [(0, .ref (A 0)), (1, .int x)] := hl
  obtain ⟨hokP, hokH, hL, hcc, hfk⟩ := id hok
  have hn : n ≤ 20 := hokP.2.1
  have hn2 : 2 ≤ n := hokP.1
  obtain ⟨-, -, hm0, hm1, hm2, hG, hM⟩ := id hm
  refine lv_iload_n hx hb dX7_setRange_0 rfl (lv_at hl 1 rfl) ?_
  refine lv_iconst (v := 1) hx hb dX7_setRange_1 (by decide) ?_
  refine lv_bipush (v := 19) hx hb dX7_setRange_2 (by decide) ?_
  refine rd_calli hP hS (va_runS (As := [.int x, .int 1, .int 19]) (rest := []) ⟨hx, hb, hml, hown, hts⟩ (c_X7_in l D cI cB cO x 1 19 ) (va_cwS 3 hts gX7_setRange_X7_in rfl rfl rfl (by decide +kernel) ⟨Nat.le_of_ble_eq_true rfl, Nat.le_of_ble_eq_true rfl⟩) (rd_preS hK (hP.pick [] rfl) hN) rfl rfl hl.1 rfl (lv_room (Nat.le_of_ble_eq_true rfl)) dX7_setRange_4 ⟨Nat.le_refl _, Nat.le_refl _⟩) (fun r_4 H locs h_4 hP hS => ?_)
  refine lv_if_ne (tgt := 13) hx hb dX7_setRange_7 (by decide) (fun c_7 => ?_) (fun c_7 => ?_)
  · skip
    refine lv_aload_n hx hb dX7_setRange_13 rfl (lv_at hl 0 rfl) ?_
    have hPb : va_P D vwCl ([] ++ ([(A 0, .inr (7, [.ref (A 1), .ref (A 2), .int (nI hs.length), .ref (A 3), .int (FZ fk), .ref (A 4), .int (nI tL), .ref (A 5), .ref (A 6), .int re, .int at0, .int fa, .ref (A 7), .ref (A 8), .long hsh])), (A 1, .inl (cI, 43, .inl mm)), (A 2, .inl (cI, 430, .inl pp))] ++ [(A 3, .inl (cI, 20, .inl fd)), (A 4, .inl (cI, 120, .inl tx)), (A 5, .inl (cI, 20, .inl rgd)), (A 6, .inl (cI, 20, .inl rmd)), (A 7, .inl (cI, 20, .inl wy)), (A 8, .inl (cI, 20, .inl cvr))])) _ := hP
    have hDb : va_D (inW (bdW A)) ([] ++ ([(A 0, .inr (7, [.ref (A 1), .ref (A 2), .int (nI hs.length), .ref (A 3), .int (FZ fk), .ref (A 4), .int (nI tL), .ref (A 5), .ref (A 6), .int re, .int at0, .int fa, .ref (A 7), .ref (A 8), .long hsh])), (A 1, .inl (cI, 43, .inl mm)), (A 2, .inl (cI, 430, .inl pp))] ++ [(A 3, .inl (cI, 20, .inl fd)), (A 4, .inl (cI, 120, .inl tx)), (A 5, .inl (cI, 20, .inl rgd)), (A 6, .inl (cI, 20, .inl rmd)), (A 7, .inl (cI, 20, .inl wy)), (A 8, .inl (cI, 20, .inl cvr))])) := hD
    refine wa_callv hPb hDb hS (va_runV (As := []) (rest := []) ⟨hx, hb, hml, hown, hts⟩ (c_X7_keeps l D cI cB cO (A 0) (A 1) (A 2) (A 3) (A 4) (A 5) (A 6) (A 7) (A 8) mm pp (FZ fk) (nI tL) re at0 fa hsh hs.length hsl) (cwV 0 hts gX7_setRange_X7_keeps rfl rfl rfl (by decide +kernel) ⟨Nat.le_of_ble_eq_true rfl, Nat.le_of_ble_eq_true rfl⟩) (wr_preV (r := (RX7, TX7, 15)) (ci := 7) hK (wa_P hPb) hN ((wa_D hDb).weaken (fun _ _ _ _ => trivial)) (q0 := 0) rfl rfl) rfl rfl hl.1 rfl (lv_room (Nat.le_of_ble_eq_true rfl)) dX7_setRange_14 ⟨Nat.le_refl _, Nat.le_refl _⟩) (fun _ => [(A 0, .inr (7, [.ref (A 1), .ref (A 2), .int (nI (min (hs.length + 1) 10)), .ref (A 3), .int (FZ fk), .ref (A 4), .int (nI tL), .ref (A 5), .ref (A 6), .int re, .int at0, .int fa, .ref (A 7), .ref (A 8), .long hsh])), (A 1, .inl (cI, 43, .inl mm)), (A 2, .inl (cI, 430, .inl (keM hs.length mm pp))), (A 3, .inl (cI, 20, .inl fd)), (A 4, .inl (cI, 120, .inl tx)), (A 5, .inl (cI, 20, .inl rgd)), (A 6, .inl (cI, 20, .inl rmd)), (A 7, .inl (cI, 20, .inl wy)), (A 8, .inl (cI, 20, .inl cvr))]) (fun _ => rfl) (fun _ => rfl) (fun u_14 H locs h_14 hP hD hS => ?_)
    have e9 : ([(A 0, .inr (7, [.ref (A 1), .ref (A 2), .int (nI (min (hs.length + 1) 10)), .ref (A 3), .int (FZ fk), .ref (A 4), .int (nI tL), .ref (A 5), .ref (A 6), .int re, .int at0, .int fa, .ref (A 7), .ref (A 8), .long hsh])), (A 1, .inl (cI, 43, .inl mm)), (A 2, .inl (cI, 430, .inl (keM hs.length mm pp))), (A 3, .inl (cI, 20, .inl fd)), (A 4, .inl (cI, 120, .inl tx)), (A 5, .inl (cI, 20, .inl rgd)), (A 6, .inl (cI, 20, .inl rmd)), (A 7, .inl (cI, 20, .inl wy)), (A 8, .inl (cI, 20, .inl cvr))] : va_W) = [(A 0, .inr (7, [.ref (A 1), .ref (A 2), .int (nI (((n, rg, bl, G, M) :: hs).take 10).length), .ref (A 3), .int (FZ fk), .ref (A 4), .int (nI tL), .ref (A 5), .ref (A 6), .int re, .int at0, .int fa, .ref (A 7), .ref (A 8), .long hsh])), (A 1, .inl (cI, 43, .inl mm)), (A 2, .inl (cI, 430, .inl (keM hs.length mm pp))), (A 3, .inl (cI, 20, .inl fd)), (A 4, .inl (cI, 120, .inl tx)), (A 5, .inl (cI, 20, .inl rgd)), (A 6, .inl (cI, 20, .inl rmd)), (A 7, .inl (cI, 20, .inl wy)), (A 8, .inl (cI, 20, .inl cvr))] := congrArg (fun f9 : Int32 => ([(A 0, .inr (7, [.ref (A 1), .ref (A 2), .int f9, .ref (A 3), .int (FZ fk), .ref (A 4), .int (nI tL), .ref (A 5), .ref (A 6), .int re, .int at0, .int fa, .ref (A 7), .ref (A 8), .long hsh])), (A 1, .inl (cI, 43, .inl mm)), (A 2, .inl (cI, 430, .inl (keM hs.length mm pp))), (A 3, .inl (cI, 20, .inl fd)), (A 4, .inl (cI, 120, .inl tx)), (A 5, .inl (cI, 20, .inl rgd)), (A 6, .inl (cI, 20, .inl rmd)), (A 7, .inl (cI, 20, .inl wy)), (A 8, .inl (cI, 20, .inl cvr))] : va_W)) (show nI (min (hs.length + 1) 10) = nI (((n, rg, bl, G, M) :: hs).take 10).length from congrArg nI (take10_len _ _).symm)
    have hP := va_P_eq e9 hP
    have hD := va_D_eq e9 hD
    have hP : va_P D vwCl [(A 0, .inr (7, [.ref (A 1), .ref (A 2), .int (nI (((n, rg, bl, G, M) :: hs).take 10).length), .ref (A 3), .int (FZ fk), .ref (A 4), .int (nI tL), .ref (A 5), .ref (A 6), .int re, .int at0, .int fa, .ref (A 7), .ref (A 8), .long hsh])), (A 1, .inl (cI, 43, .inl mm)), (A 2, .inl (cI, 430, .inl (keM hs.length mm pp))), (A 3, .inl (cI, 20, .inl fd)), (A 4, .inl (cI, 120, .inl tx)), (A 5, .inl (cI, 20, .inl rgd)), (A 6, .inl (cI, 20, .inl rmd)), (A 7, .inl (cI, 20, .inl wy)), (A 8, .inl (cI, 20, .inl cvr))] _ := hP
    have hD : va_D (inW (bdW A)) [(A 0, .inr (7, [.ref (A 1), .ref (A 2), .int (nI (((n, rg, bl, G, M) :: hs).take 10).length), .ref (A 3), .int (FZ fk), .ref (A 4), .int (nI tL), .ref (A 5), .ref (A 6), .int re, .int at0, .int fa, .ref (A 7), .ref (A 8), .long hsh])), (A 1, .inl (cI, 43, .inl mm)), (A 2, .inl (cI, 430, .inl (keM hs.length mm pp))), (A 3, .inl (cI, 20, .inl fd)), (A 4, .inl (cI, 120, .inl tx)), (A 5, .inl (cI, 20, .inl rgd)), (A 6, .inl (cI, 20, .inl rmd)), (A 7, .inl (cI, 20, .inl wy)), (A 8, .inl (cI, 20, .inl cvr))] := hD
    refine lv_aload_n hx hb dX7_setRange_17 rfl (lv_at hl 0 rfl) ?_
    refine va_get (D := D) (ci := 7) (v := .ref (A 1)) (C := RX7) (T := TX7) (N := 15) hx hb hts kX7_setRange_ok_0 hown hK hP 0 rfl rfl 0 (by decide) (hts (.fieldLink RX7 7 "SightRidgeModel" "m" "[I") kX7_setRange_ok_1) (fun _ h9 => h9) rfl dX7_setRange_18 ?_
    refine lv_iconst (v := 1) hx hb dX7_setRange_21 (by decide) ?_
    refine va_iald hx hb hK hP 1 0 rfl rfl (i := nI 1) (vp_in_nI (N := 43) (by decide) (by decide)) dX7_setRange_22 ?_
    rw [nI_clamp (n := 1) (by decide)]
    refine lv_topi (fun y_1 e_2 => ?_)
    have e_2 : rg = y_1 := (e_2.trans (hm1)).symm
    subst e_2
    refine lv_istore_n (lv' := [(2, .int rg), (0, .ref (A 0)), (1, .int x)]) hx hb dX7_setRange_23 rfl hl (by decide) rfl (fun ls hl => ?_)
    refine lv_aload_n hx hb dX7_setRange_24 rfl (lv_at hl 1 rfl) ?_
    refine va_get (D := D) (ci := 7) (v := .ref (A 1)) (C := RX7) (T := TX7) (N := 15) hx hb hts kX7_setRange_ok_0 hown hK hP 0 rfl rfl 0 (by decide) (hts (.fieldLink RX7 7 "SightRidgeModel" "m" "[I") kX7_setRange_ok_1) (fun _ h9 => h9) rfl dX7_setRange_25 ?_
    refine lv_iconst (v := 1) hx hb dX7_setRange_28 (by decide) ?_
    refine lv_iload_n hx hb dX7_setRange_29 rfl (lv_at hl 2 rfl) ?_
    refine va_iast hx hb hK hP hD hS 1 0 rfl rfl (i := nI 1) (vp_in_nI (N := 43) (by decide) (by decide)) dX7_setRange_30 (fun H locs hP hD hS => ?_)
    rw [nI_clamp (n := 1) (by decide)] at hP hD
    have hP : va_P D vwCl [(A 0, .inr (7, [.ref (A 1), .ref (A 2), .int (nI (((n, rg, bl, G, M) :: hs).take 10).length), .ref (A 3), .int (FZ fk), .ref (A 4), .int (nI tL), .ref (A 5), .ref (A 6), .int re, .int at0, .int fa, .ref (A 7), .ref (A 8), .long hsh])), (A 1, .inl (cI, 43, .inl (upd mm 1 x))), (A 2, .inl (cI, 430, .inl (keM hs.length mm pp))), (A 3, .inl (cI, 20, .inl fd)), (A 4, .inl (cI, 120, .inl tx)), (A 5, .inl (cI, 20, .inl rgd)), (A 6, .inl (cI, 20, .inl rmd)), (A 7, .inl (cI, 20, .inl wy)), (A 8, .inl (cI, 20, .inl cvr))] _ := hP
    have hD : va_D (inW (bdW A)) [(A 0, .inr (7, [.ref (A 1), .ref (A 2), .int (nI (((n, rg, bl, G, M) :: hs).take 10).length), .ref (A 3), .int (FZ fk), .ref (A 4), .int (nI tL), .ref (A 5), .ref (A 6), .int re, .int at0, .int fa, .ref (A 7), .ref (A 8), .long hsh])), (A 1, .inl (cI, 43, .inl (upd mm 1 x))), (A 2, .inl (cI, 430, .inl (keM hs.length mm pp))), (A 3, .inl (cI, 20, .inl fd)), (A 4, .inl (cI, 120, .inl tx)), (A 5, .inl (cI, 20, .inl rgd)), (A 6, .inl (cI, 20, .inl rmd)), (A 7, .inl (cI, 20, .inl wy)), (A 8, .inl (cI, 20, .inl cvr))] := hD
    refine lv_iload_n hx hb dX7_setRange_31 rfl (lv_at hl 0 rfl) ?_
    have hI := mri_mk (D := D) (cI := cI) (cB := cB) (cO := cO) (A := A) n x bl G M (((n, rg, bl, G, M) :: hs).take 10) tL tc fk fc (upd mm 1 x) (keM hs.length mm pp) fd tx rgd rmd wy cvr re at0 fa hsh hP (mok_range hm) (PstR_keep hm hsl hokH hpp) (take10_le _) htx hfd
    refine W.iret (v := rg) hx hb hr ?_ hS.2.2 dX7_setRange_32
    intro tS htS hWS
    refine ⟨⟨rg, (), rfl, ?_, ?_⟩, ?_⟩
    · exact rfl
    · exact retM htS hI
    · exact hS.F htS
  · skip
    have d2 := bI_e0 (h_4.symm.trans c_7)
    exact absurd d2 (by rw [hy]; decide)
set_option maxHeartbeats 4000000 in
set_option maxRecDepth 100000 in
theorem c_X7_setBulge_no (l : Launch) (D : va_G) (cI cB cO : ClassId) (A : Nat → Nat) (n : Nat) (rg : Int32) (bl : Int32) (G : Nat → Int32) (M : Nat → Int32) (hs : List Prf) (tL : Nat) (tc : Nat → Nat) (fk : Nat) (fc : Nat → Nat) (x : Int32) (hok : okS n rg bl G M hs tL tc fk fc) (hno : inB x 0 9 = false) : Met l yX7_setBulge wsX7_setBulge (rmD 8) (mrPc D cI cB cO A [.ref (A 0), .int x] n rg bl G M hs tL tc fk fc) (mrQi A (fun (r : Int32) (u : Unit) => r = -2) (fun (u : Unit) H => MRI D cI cB cO A H n rg bl G M hs tL tc fk fc)) 0 0 (inW (bdW A)) := by
  refine Met.ofW (cc := cX7_setBulge) (maxL := 3) (ret := (some .int)) (by decide) rfl ?_
  intro p e s m args below meth c s₁ B hml hv
  obtain ⟨rfl, hI, hK, hN, hA⟩ := hv
  have hx := B.exec
  have hb := B.bytes
  have hr := B.returns
  have hts := atoms_spec (ws := wsX7_setBulge) B.pre
  have hown : s.vm.findClass RX7 = some m.cls := findClass_of_methodNamed B.named
  have hlocks := B.notSynchronized
  have hS : va_S (inW (bdW A)) s.heap s.heap [] := va_S.rf
  obtain ⟨mm, pp, fd, tx, rgd, rmd, wy, cvr, re, at0, fa, hsh, hP, hm, hpp, hsl, htx, hfd⟩ := hI
  have hD : va_D (inW (bdW A)) [(A 0, .inr (7, [.ref (A 1), .ref (A 2), .int (nI hs.length), .ref (A 3), .int (FZ fk), .ref (A 4), .int (nI tL), .ref (A 5), .ref (A 6), .int re, .int at0, .int fa, .ref (A 7), .ref (A 8), .long hsh])), (A 1, .inl (cI, 43, .inl mm)), (A 2, .inl (cI, 430, .inl pp)), (A 3, .inl (cI, 20, .inl fd)), (A 4, .inl (cI, 120, .inl tx)), (A 5, .inl (cI, 20, .inl rgd)), (A 6, .inl (cI, 20, .inl rmd)), (A 7, .inl (cI, 20, .inl wy)), (A 8, .inl (cI, 20, .inl cvr))] := da_D hA rfl
  have hl := lv_entry ([.ref (A 0), .int x]) (n := 3) (Nat.le_of_ble_eq_true rfl)
  rw [lg_entry_eq]
  generalize (lg_sl ([.ref (A 0), .int x]) ++ List.replicate (3 - (lg_sl ([.ref (A 0), .int x])).length) Slot.unset).toArray = ls at hl ⊢
  have hl : lv_has ls 3 [(0, .ref (A 0)), (1, .int x)] := hl
  obtain ⟨hokP, hokH, hL, hcc, hfk⟩ := id hok
  have hn : n ≤ 20 := hokP.2.1
  have hn2 : 2 ≤ n := hokP.1
  obtain ⟨-, -, hm0, hm1, hm2, hG, hM⟩ := id hm
  refine lv_iload_n hx hb dX7_setBulge_0 rfl (lv_at hl 1 rfl) ?_
  refine lv_iconst (v := 0) hx hb dX7_setBulge_1 (by decide) ?_
  refine lv_bipush (v := 9) hx hb dX7_setBulge_2 (by decide) ?_
  refine rd_calli hP hS (va_runS (As := [.int x, .int 0, .int 9]) (rest := []) ⟨hx, hb, hml, hown, hts⟩ (c_X7_in l D cI cB cO x 0 9 ) (va_cwS 3 hts gX7_setBulge_X7_in rfl rfl rfl (by decide +kernel) ⟨Nat.le_of_ble_eq_true rfl, Nat.le_of_ble_eq_true rfl⟩) (rd_preS hK (hP.pick [] rfl) hN) rfl rfl hl.1 rfl (lv_room (Nat.le_of_ble_eq_true rfl)) dX7_setBulge_4 ⟨Nat.le_refl _, Nat.le_refl _⟩) (fun r_4 H locs h_4 hP hS => ?_)
  refine lv_if_ne (tgt := 13) hx hb dX7_setBulge_7 (by decide) (fun c_7 => ?_) (fun c_7 => ?_)
  · skip
    have d2 := bI_n0 (fun q => c_7 (h_4.trans q))
    exact absurd hno (by rw [d2]; decide)
  · skip
    refine lv_bipush (v := (-2)) hx hb dX7_setBulge_10 (by decide) ?_
    have hI := mri_mk (D := D) (cI := cI) (cB := cB) (cO := cO) (A := A) n rg bl G M hs tL tc fk fc mm pp fd tx rgd rmd wy cvr re at0 fa hsh hP hm hpp hsl htx hfd
    refine W.iret (v := -2) hx hb hr ?_ hS.2.2 dX7_setBulge_12
    intro tS htS hWS
    refine ⟨⟨(-2), (), rfl, ?_, ?_⟩, ?_⟩
    · exact rfl
    · exact retM htS hI
    · exact hS.F htS
theorem kX7_setBulge_ok_0 : ∀ w ∈ wsX70, w ∈ wsX7_setBulge := by decide +kernel
theorem kX7_setBulge_ok_1 : (.fieldLink RX7 7 "SightRidgeModel" "m" "[I" : Cond) ∈ wsX7_setBulge := by decide +kernel
set_option maxHeartbeats 4000000 in
set_option maxRecDepth 100000 in
theorem c_X7_setBulge_ok (l : Launch) (D : va_G) (cI cB cO : ClassId) (A : Nat → Nat) (n : Nat) (rg : Int32) (bl : Int32) (G : Nat → Int32) (M : Nat → Int32) (hs : List Prf) (tL : Nat) (tc : Nat → Nat) (fk : Nat) (fc : Nat → Nat) (x : Int32) (hok : okS n rg bl G M hs tL tc fk fc) (hy : inB x 0 9 = true) : Met l yX7_setBulge wsX7_setBulge (rmD 8) (mrPc D cI cB cO A [.ref (A 0), .int x] n rg bl G M hs tL tc fk fc) (mrQi A (fun (r : Int32) (u : Unit) => r = bl) (fun (u : Unit) H => MRI D cI cB cO A H n rg x G M (((n, rg, bl, G, M) :: hs).take 10) tL tc fk fc)) 0 0 (inW (bdW A)) := by
  refine Met.ofW (cc := cX7_setBulge) (maxL := 3) (ret := (some .int)) (by decide) rfl ?_
  intro p e s m args below meth c s₁ B hml hv
  obtain ⟨rfl, hI, hK, hN, hA⟩ := hv
  have hx := B.exec
  have hb := B.bytes
  have hr := B.returns
  have hts := atoms_spec (ws := wsX7_setBulge) B.pre
  have hown : s.vm.findClass RX7 = some m.cls := findClass_of_methodNamed B.named
  have hlocks := B.notSynchronized
  have hS : va_S (inW (bdW A)) s.heap s.heap [] := va_S.rf
  obtain ⟨mm, pp, fd, tx, rgd, rmd, wy, cvr, re, at0, fa, hsh, hP, hm, hpp, hsl, htx, hfd⟩ := hI
  have hD : va_D (inW (bdW A)) [(A 0, .inr (7, [.ref (A 1), .ref (A 2), .int (nI hs.length), .ref (A 3), .int (FZ fk), .ref (A 4), .int (nI tL), .ref (A 5), .ref (A 6), .int re, .int at0, .int fa, .ref (A 7), .ref (A 8), .long hsh])), (A 1, .inl (cI, 43, .inl mm)), (A 2, .inl (cI, 430, .inl pp)), (A 3, .inl (cI, 20, .inl fd)), (A 4, .inl (cI, 120, .inl tx)), (A 5, .inl (cI, 20, .inl rgd)), (A 6, .inl (cI, 20, .inl rmd)), (A 7, .inl (cI, 20, .inl wy)), (A 8, .inl (cI, 20, .inl cvr))] := da_D hA rfl
  have hl := lv_entry ([.ref (A 0), .int x]) (n := 3) (Nat.le_of_ble_eq_true rfl)
  rw [lg_entry_eq]
  generalize (lg_sl ([.ref (A 0), .int x]) ++ List.replicate (3 - (lg_sl ([.ref (A 0), .int x])).length) Slot.unset).toArray = ls at hl ⊢
  have hl : lv_has ls 3 [(0, .ref (A 0)), (1, .int x)] := hl
  obtain ⟨hokP, hokH, hL, hcc, hfk⟩ := id hok
  have hn : n ≤ 20 := hokP.2.1
  have hn2 : 2 ≤ n := hokP.1
  obtain ⟨-, -, hm0, hm1, hm2, hG, hM⟩ := id hm
  refine lv_iload_n hx hb dX7_setBulge_0 rfl (lv_at hl 1 rfl) ?_
  refine lv_iconst (v := 0) hx hb dX7_setBulge_1 (by decide) ?_
  refine lv_bipush (v := 9) hx hb dX7_setBulge_2 (by decide) ?_
  refine rd_calli hP hS (va_runS (As := [.int x, .int 0, .int 9]) (rest := []) ⟨hx, hb, hml, hown, hts⟩ (c_X7_in l D cI cB cO x 0 9 ) (va_cwS 3 hts gX7_setBulge_X7_in rfl rfl rfl (by decide +kernel) ⟨Nat.le_of_ble_eq_true rfl, Nat.le_of_ble_eq_true rfl⟩) (rd_preS hK (hP.pick [] rfl) hN) rfl rfl hl.1 rfl (lv_room (Nat.le_of_ble_eq_true rfl)) dX7_setBulge_4 ⟨Nat.le_refl _, Nat.le_refl _⟩) (fun r_4 H locs h_4 hP hS => ?_)
  refine lv_if_ne (tgt := 13) hx hb dX7_setBulge_7 (by decide) (fun c_7 => ?_) (fun c_7 => ?_)
  · skip
    refine lv_aload_n hx hb dX7_setBulge_13 rfl (lv_at hl 0 rfl) ?_
    have hPb : va_P D vwCl ([] ++ ([(A 0, .inr (7, [.ref (A 1), .ref (A 2), .int (nI hs.length), .ref (A 3), .int (FZ fk), .ref (A 4), .int (nI tL), .ref (A 5), .ref (A 6), .int re, .int at0, .int fa, .ref (A 7), .ref (A 8), .long hsh])), (A 1, .inl (cI, 43, .inl mm)), (A 2, .inl (cI, 430, .inl pp))] ++ [(A 3, .inl (cI, 20, .inl fd)), (A 4, .inl (cI, 120, .inl tx)), (A 5, .inl (cI, 20, .inl rgd)), (A 6, .inl (cI, 20, .inl rmd)), (A 7, .inl (cI, 20, .inl wy)), (A 8, .inl (cI, 20, .inl cvr))])) _ := hP
    have hDb : va_D (inW (bdW A)) ([] ++ ([(A 0, .inr (7, [.ref (A 1), .ref (A 2), .int (nI hs.length), .ref (A 3), .int (FZ fk), .ref (A 4), .int (nI tL), .ref (A 5), .ref (A 6), .int re, .int at0, .int fa, .ref (A 7), .ref (A 8), .long hsh])), (A 1, .inl (cI, 43, .inl mm)), (A 2, .inl (cI, 430, .inl pp))] ++ [(A 3, .inl (cI, 20, .inl fd)), (A 4, .inl (cI, 120, .inl tx)), (A 5, .inl (cI, 20, .inl rgd)), (A 6, .inl (cI, 20, .inl rmd)), (A 7, .inl (cI, 20, .inl wy)), (A 8, .inl (cI, 20, .inl cvr))])) := hD
    refine wa_callv hPb hDb hS (va_runV (As := []) (rest := []) ⟨hx, hb, hml, hown, hts⟩ (c_X7_keeps l D cI cB cO (A 0) (A 1) (A 2) (A 3) (A 4) (A 5) (A 6) (A 7) (A 8) mm pp (FZ fk) (nI tL) re at0 fa hsh hs.length hsl) (cwV 0 hts gX7_setBulge_X7_keeps rfl rfl rfl (by decide +kernel) ⟨Nat.le_of_ble_eq_true rfl, Nat.le_of_ble_eq_true rfl⟩) (wr_preV (r := (RX7, TX7, 15)) (ci := 7) hK (wa_P hPb) hN ((wa_D hDb).weaken (fun _ _ _ _ => trivial)) (q0 := 0) rfl rfl) rfl rfl hl.1 rfl (lv_room (Nat.le_of_ble_eq_true rfl)) dX7_setBulge_14 ⟨Nat.le_refl _, Nat.le_refl _⟩) (fun _ => [(A 0, .inr (7, [.ref (A 1), .ref (A 2), .int (nI (min (hs.length + 1) 10)), .ref (A 3), .int (FZ fk), .ref (A 4), .int (nI tL), .ref (A 5), .ref (A 6), .int re, .int at0, .int fa, .ref (A 7), .ref (A 8), .long hsh])), (A 1, .inl (cI, 43, .inl mm)), (A 2, .inl (cI, 430, .inl (keM hs.length mm pp))), (A 3, .inl (cI, 20, .inl fd)), (A 4, .inl (cI, 120, .inl tx)), (A 5, .inl (cI, 20, .inl rgd)), (A 6, .inl (cI, 20, .inl rmd)), (A 7, .inl (cI, 20, .inl wy)), (A 8, .inl (cI, 20, .inl cvr))]) (fun _ => rfl) (fun _ => rfl) (fun u_14 H locs h_14 hP hD hS => ?_)
    have e9 : ([(A 0, .inr (7, [.ref (A 1), .ref (A 2), .int (nI (min (hs.length + 1) 10)), .ref (A 3), .int (FZ fk), .ref (A 4), .int (nI tL), .ref (A 5), .ref (A 6), .int re, .int at0, .int fa, .ref (A 7), .ref (A 8), .long hsh])), (A 1, .inl (cI, 43, .inl mm)), (A 2, .inl (cI, 430, .inl (keM hs.length mm pp))), (A 3, .inl (cI, 20, .inl fd)), (A 4, .inl (cI, 120, .inl tx)), (A 5, .inl (cI, 20, .inl rgd)), (A 6, .inl (cI, 20, .inl rmd)), (A 7, .inl (cI, 20, .inl wy)), (A 8, .inl (cI, 20, .inl cvr))] : va_W) = [(A 0, .inr (7, [.ref (A 1), .ref (A 2), .int (nI (((n, rg, bl, G, M) :: hs).take 10).length), .ref (A 3), .int (FZ fk), .ref (A 4), .int (nI tL), .ref (A 5), .ref (A 6), .int re, .int at0, .int fa, .ref (A 7), .ref (A 8), .long hsh])), (A 1, .inl (cI, 43, .inl mm)), (A 2, .inl (cI, 430, .inl (keM hs.length mm pp))), (A 3, .inl (cI, 20, .inl fd)), (A 4, .inl (cI, 120, .inl tx)), (A 5, .inl (cI, 20, .inl rgd)), (A 6, .inl (cI, 20, .inl rmd)), (A 7, .inl (cI, 20, .inl wy)), (A 8, .inl (cI, 20, .inl cvr))] := congrArg (fun f9 : Int32 => ([(A 0, .inr (7, [.ref (A 1), .ref (A 2), .int f9, .ref (A 3), .int (FZ fk), .ref (A 4), .int (nI tL), .ref (A 5), .ref (A 6), .int re, .int at0, .int fa, .ref (A 7), .ref (A 8), .long hsh])), (A 1, .inl (cI, 43, .inl mm)), (A 2, .inl (cI, 430, .inl (keM hs.length mm pp))), (A 3, .inl (cI, 20, .inl fd)), (A 4, .inl (cI, 120, .inl tx)), (A 5, .inl (cI, 20, .inl rgd)), (A 6, .inl (cI, 20, .inl rmd)), (A 7, .inl (cI, 20, .inl wy)), (A 8, .inl (cI, 20, .inl cvr))] : va_W)) (show nI (min (hs.length + 1) 10) = nI (((n, rg, bl, G, M) :: hs).take 10).length from congrArg nI (take10_len _ _).symm)
    have hP := va_P_eq e9 hP
    have hD := va_D_eq e9 hD
    have hP : va_P D vwCl [(A 0, .inr (7, [.ref (A 1), .ref (A 2), .int (nI (((n, rg, bl, G, M) :: hs).take 10).length), .ref (A 3), .int (FZ fk), .ref (A 4), .int (nI tL), .ref (A 5), .ref (A 6), .int re, .int at0, .int fa, .ref (A 7), .ref (A 8), .long hsh])), (A 1, .inl (cI, 43, .inl mm)), (A 2, .inl (cI, 430, .inl (keM hs.length mm pp))), (A 3, .inl (cI, 20, .inl fd)), (A 4, .inl (cI, 120, .inl tx)), (A 5, .inl (cI, 20, .inl rgd)), (A 6, .inl (cI, 20, .inl rmd)), (A 7, .inl (cI, 20, .inl wy)), (A 8, .inl (cI, 20, .inl cvr))] _ := hP
    have hD : va_D (inW (bdW A)) [(A 0, .inr (7, [.ref (A 1), .ref (A 2), .int (nI (((n, rg, bl, G, M) :: hs).take 10).length), .ref (A 3), .int (FZ fk), .ref (A 4), .int (nI tL), .ref (A 5), .ref (A 6), .int re, .int at0, .int fa, .ref (A 7), .ref (A 8), .long hsh])), (A 1, .inl (cI, 43, .inl mm)), (A 2, .inl (cI, 430, .inl (keM hs.length mm pp))), (A 3, .inl (cI, 20, .inl fd)), (A 4, .inl (cI, 120, .inl tx)), (A 5, .inl (cI, 20, .inl rgd)), (A 6, .inl (cI, 20, .inl rmd)), (A 7, .inl (cI, 20, .inl wy)), (A 8, .inl (cI, 20, .inl cvr))] := hD
    refine lv_aload_n hx hb dX7_setBulge_17 rfl (lv_at hl 0 rfl) ?_
    refine va_get (D := D) (ci := 7) (v := .ref (A 1)) (C := RX7) (T := TX7) (N := 15) hx hb hts kX7_setBulge_ok_0 hown hK hP 0 rfl rfl 0 (by decide) (hts (.fieldLink RX7 7 "SightRidgeModel" "m" "[I") kX7_setBulge_ok_1) (fun _ h9 => h9) rfl dX7_setBulge_18 ?_
    refine lv_iconst (v := 2) hx hb dX7_setBulge_21 (by decide) ?_
    refine va_iald hx hb hK hP 1 0 rfl rfl (i := nI 2) (vp_in_nI (N := 43) (by decide) (by decide)) dX7_setBulge_22 ?_
    rw [nI_clamp (n := 2) (by decide)]
    refine lv_topi (fun y_1 e_2 => ?_)
    have e_2 : bl = y_1 := (e_2.trans (hm2)).symm
    subst e_2
    refine lv_istore_n (lv' := [(2, .int bl), (0, .ref (A 0)), (1, .int x)]) hx hb dX7_setBulge_23 rfl hl (by decide) rfl (fun ls hl => ?_)
    refine lv_aload_n hx hb dX7_setBulge_24 rfl (lv_at hl 1 rfl) ?_
    refine va_get (D := D) (ci := 7) (v := .ref (A 1)) (C := RX7) (T := TX7) (N := 15) hx hb hts kX7_setBulge_ok_0 hown hK hP 0 rfl rfl 0 (by decide) (hts (.fieldLink RX7 7 "SightRidgeModel" "m" "[I") kX7_setBulge_ok_1) (fun _ h9 => h9) rfl dX7_setBulge_25 ?_
    refine lv_iconst (v := 2) hx hb dX7_setBulge_28 (by decide) ?_
    refine lv_iload_n hx hb dX7_setBulge_29 rfl (lv_at hl 2 rfl) ?_
    refine va_iast hx hb hK hP hD hS 1 0 rfl rfl (i := nI 2) (vp_in_nI (N := 43) (by decide) (by decide)) dX7_setBulge_30 (fun H locs hP hD hS => ?_)
    rw [nI_clamp (n := 2) (by decide)] at hP hD
    have hP : va_P D vwCl [(A 0, .inr (7, [.ref (A 1), .ref (A 2), .int (nI (((n, rg, bl, G, M) :: hs).take 10).length), .ref (A 3), .int (FZ fk), .ref (A 4), .int (nI tL), .ref (A 5), .ref (A 6), .int re, .int at0, .int fa, .ref (A 7), .ref (A 8), .long hsh])), (A 1, .inl (cI, 43, .inl (upd mm 2 x))), (A 2, .inl (cI, 430, .inl (keM hs.length mm pp))), (A 3, .inl (cI, 20, .inl fd)), (A 4, .inl (cI, 120, .inl tx)), (A 5, .inl (cI, 20, .inl rgd)), (A 6, .inl (cI, 20, .inl rmd)), (A 7, .inl (cI, 20, .inl wy)), (A 8, .inl (cI, 20, .inl cvr))] _ := hP
    have hD : va_D (inW (bdW A)) [(A 0, .inr (7, [.ref (A 1), .ref (A 2), .int (nI (((n, rg, bl, G, M) :: hs).take 10).length), .ref (A 3), .int (FZ fk), .ref (A 4), .int (nI tL), .ref (A 5), .ref (A 6), .int re, .int at0, .int fa, .ref (A 7), .ref (A 8), .long hsh])), (A 1, .inl (cI, 43, .inl (upd mm 2 x))), (A 2, .inl (cI, 430, .inl (keM hs.length mm pp))), (A 3, .inl (cI, 20, .inl fd)), (A 4, .inl (cI, 120, .inl tx)), (A 5, .inl (cI, 20, .inl rgd)), (A 6, .inl (cI, 20, .inl rmd)), (A 7, .inl (cI, 20, .inl wy)), (A 8, .inl (cI, 20, .inl cvr))] := hD
    refine lv_iload_n hx hb dX7_setBulge_31 rfl (lv_at hl 0 rfl) ?_
    have hI := mri_mk (D := D) (cI := cI) (cB := cB) (cO := cO) (A := A) n rg x G M (((n, rg, bl, G, M) :: hs).take 10) tL tc fk fc (upd mm 2 x) (keM hs.length mm pp) fd tx rgd rmd wy cvr re at0 fa hsh hP (mok_bulge hm) (PstR_keep hm hsl hokH hpp) (take10_le _) htx hfd
    refine W.iret (v := bl) hx hb hr ?_ hS.2.2 dX7_setBulge_32
    intro tS htS hWS
    refine ⟨⟨bl, (), rfl, ?_, ?_⟩, ?_⟩
    · exact rfl
    · exact retM htS hI
    · exact hS.F htS
  · skip
    have d2 := bI_e0 (h_4.symm.trans c_7)
    exact absurd d2 (by rw [hy]; decide)
/-- the array m behind a part of slope's loop -/
def slM (mm G : Nat → Int32) (a b i : Nat) : Nat → Int32 := fun k => if 3 + a < k ∧ k < 3 + i then slp G a b (k - 3) else mm k
theorem slM_0 (mm G : Nat → Int32) (a b : Nat) : slM mm G a b (a + 1) = mm := by funext k; unfold slM; rw [if_neg (by omega)]
theorem slM_s (mm G : Nat → Int32) {a b i : Nat} (h : a < i) : upd (slM mm G a b i) (3 + i) (slp G a b i) = slM mm G a b (i + 1) := by
  funext k; unfold upd slM
  by_cases h1 : k = 3 + i
  · rw [if_pos h1, if_pos (by omega), h1, Nat.add_sub_cancel_left]
  · rw [if_neg h1]
    by_cases h2 : 3 + a < k ∧ k < 3 + i
    · rw [if_pos h2, if_pos (by omega)]
    · rw [if_neg h2, if_neg (by omega)]
theorem mok_slope {n a b : Nat} {mm : Nat → Int32} {rg bl : Int32} {G M : Nat → Int32} (h : MOK n mm rg bl G M) (hab : a < b) (hb : b < n) : MOK n (slM mm G a b b) rg bl (slG G a b) M := by
  obtain ⟨hn, hn1, hm0, hm1, hm2, hG, hM⟩ := h
  refine ⟨hn, hn1, ?_, ?_, ?_, fun k hk => ?_, fun k hk => ?_⟩ <;> unfold slM
  · rw [if_neg (by omega)]; exact hm0
  · rw [if_neg (by omega)]; exact hm1
  · rw [if_neg (by omega)]; exact hm2
  · unfold slG
    by_cases q : a < k ∧ k < b
    · rw [if_pos (by omega), if_pos q, Nat.add_sub_cancel_left]
    · rw [if_neg (by omega), if_neg q]; exact hG k hk
  · rw [if_neg (by omega)]; exact hM k hk
/-- the array m behind i swaps -/
def rvM (n : Nat) (mm : Nat → Int32) (i : Nat) : Nat → Int32 := fun k => if 3 ≤ k ∧ k < 3 + n ∧ (k - 3 < i ∨ n - 1 - (k - 3) < i) then mm (3 + (n - 1 - (k - 3))) else if 23 ≤ k ∧ k < 23 + n ∧ (k - 23 < i ∨ n - 1 - (k - 23) < i) then mm (23 + (n - 1 - (k - 23))) else mm k
theorem rvM_0 (n : Nat) (mm : Nat → Int32) : rvM n mm 0 = mm := by
  funext k; unfold rvM; rw [if_neg (by omega), if_neg (by omega)]
theorem rvM_g {n i k : Nat} (h1 : i ≤ k) (h2 : i ≤ n - 1 - k) (hk : k < n) (hn : n ≤ 20) (mm : Nat → Int32) : rvM n mm i (3 + k) = mm (3 + k) := by unfold rvM; rw [if_neg (by omega), if_neg (by omega)]
theorem rvM_m {n i k : Nat} (h1 : i ≤ k) (h2 : i ≤ n - 1 - k) (hk : k < n) (hn : n ≤ 20) (mm : Nat → Int32) : rvM n mm i (23 + k) = mm (23 + k) := by unfold rvM; rw [if_neg (by omega), if_neg (by omega)]
theorem rvM_s {n i : Nat} (h : i < n / 2) (hn : n ≤ 20) (mm : Nat → Int32) : upd (upd (upd (upd (rvM n mm i) (3 + i) (mm (3 + (n - 1 - i)))) (23 + i) (mm (23 + (n - 1 - i)))) (3 + (n - 1 - i)) (mm (3 + i))) (23 + (n - 1 - i)) (mm (23 + i)) = rvM n mm (i + 1) := by
  funext k; unfold upd rvM
  by_cases h1 : k = 23 + (n - 1 - i)
  · rw [if_pos h1, if_neg (by omega), if_pos (by omega)]; congr 1; omega
  · rw [if_neg h1]
    by_cases h2 : k = 3 + (n - 1 - i)
    · rw [if_pos h2, if_pos (by omega)]; congr 1; omega
    · rw [if_neg h2]
      by_cases h3 : k = 23 + i
      · rw [if_pos h3, if_neg (by omega), if_pos (by omega)]; congr 1; omega
      · rw [if_neg h3]
        by_cases h4 : k = 3 + i
        · rw [if_pos h4, if_pos (by omega)]; congr 1; omega
        · rw [if_neg h4]
          by_cases h5 : 3 ≤ k ∧ k < 3 + n ∧ (k - 3 < i ∨ n - 1 - (k - 3) < i)
          · rw [if_pos h5, if_pos (by omega)]
          · rw [if_neg h5, if_neg (show ¬ (3 ≤ k ∧ k < 3 + n ∧ (k - 3 < i + 1 ∨ n - 1 - (k - 3) < i + 1)) by omega)]
            by_cases h6 : 23 ≤ k ∧ k < 23 + n ∧ (k - 23 < i ∨ n - 1 - (k - 23) < i)
            · rw [if_pos h6, if_pos (by omega)]
            · rw [if_neg h6, if_neg (show ¬ (23 ≤ k ∧ k < 23 + n ∧ (k - 23 < i + 1 ∨ n - 1 - (k - 23) < i + 1)) by omega)]
theorem mok_reverse {n : Nat} {mm : Nat → Int32} {rg bl : Int32} {G M : Nat → Int32} (h : MOK n mm rg bl G M) : MOK n (rvM n mm (n / 2)) rg bl (fun k => G (n - 1 - k)) (fun k => M (n - 1 - k)) := by
  obtain ⟨hn, hn1, hm0, hm1, hm2, hG, hM⟩ := h
  refine ⟨hn, hn1, ?_, ?_, ?_, fun k hk => ?_, fun k hk => ?_⟩ <;> unfold rvM
  · rw [if_neg (by omega), if_neg (by omega)]; exact hm0
  · rw [if_neg (by omega), if_neg (by omega)]; exact hm1
  · rw [if_neg (by omega), if_neg (by omega)]; exact hm2
  · by_cases q : k < n / 2 ∨ n - 1 - k < n / 2
    · rw [if_pos (by omega), Nat.add_sub_cancel_left]; exact hG _ (by omega)
    · rw [if_neg (by omega), if_neg (by omega), hG k hk]; show G k = G (n - 1 - k); congr 1; omega
  · by_cases q : k < n / 2 ∨ n - 1 - k < n / 2
    · rw [if_neg (by omega), if_pos (by omega), Nat.add_sub_cancel_left]; exact hM _ (by omega)
    · rw [if_neg (by omega), if_neg (by omega), hM k hk]; show M k = M (n - 1 - k); congr 1; omega
/-- i ints of a kept block are taken back -/
def cpM (mm pp : Nat → Int32) (u i : Nat) : Nat → Int32 := fun k => if k < i then pp (43 * u + k) else mm k
theorem cpM_0 (mm pp : Nat → Int32) (u : Nat) : cpM mm pp u 0 = mm := by funext k; unfold cpM; rw [if_neg (by omega)]
theorem cpM_s (mm pp : Nat → Int32) (u i : Nat) : upd (cpM mm pp u i) i (pp (43 * u + i)) = cpM mm pp u (i + 1) := by
  funext k; unfold upd cpM
  by_cases h1 : k = i
  · rw [if_pos h1, if_pos (by omega), h1]
  · rw [if_neg h1]
    by_cases h2 : k < i
    · rw [if_pos h2, if_pos (by omega)]
    · rw [if_neg h2, if_neg (by omega)]
theorem mok_undo {mm pp : Nat → Int32} {u : Nat} {P : Prf} (hr : RepM (fun k => pp (43 * u + k)) P) (hP : okP P) : MOK P.1 (cpM mm pp u 43) P.2.1 P.2.2.1 P.2.2.2.1 P.2.2.2.2 := by
  have h20 := hP.2.1
  have hr2 : RepM (cpM mm pp u 43) P := RepM_of h20 (fun j hj => if_pos hj) hr
  exact ⟨h20, hP.1, hr2.1, hr2.2.1, hr2.2.2.1, hr2.2.2.2.1, hr2.2.2.2.2⟩
set_option maxHeartbeats 4000000 in
set_option maxRecDepth 100000 in
theorem c_X7_slope_no (l : Launch) (D : va_G) (cI cB cO : ClassId) (A : Nat → Nat) (n : Nat) (rg : Int32) (bl : Int32) (G : Nat → Int32) (M : Nat → Int32) (hs : List Prf) (tL : Nat) (tc : Nat → Nat) (fk : Nat) (fc : Nat → Nat) (x y : Int32) (hok : okS n rg bl G M hs tL tc fk fc) (hno : (hasB n x && (hasB n y && decide (x < y))) = false) : Met l yX7_slope wsX7_slope (rmD 8) (mrPc D cI cB cO A [.ref (A 0), .int x, .int y] n rg bl G M hs tL tc fk fc) (mrQi A (fun (r : Int32) (u : Unit) => r = -2) (fun (u : Unit) H => MRI D cI cB cO A H n rg bl G M hs tL tc fk fc)) 0 0 (inW (bdW A)) := by
  refine Met.ofW (cc := cX7_slope) (maxL := 6) (ret := (some .int)) (by decide) rfl ?_
  intro p e s m args below meth c s₁ B hml hv
  obtain ⟨rfl, hI, hK, hN, hA⟩ := hv
  have hx := B.exec
  have hb := B.bytes
  have hr := B.returns
  have hts := atoms_spec (ws := wsX7_slope) B.pre
  have hown : s.vm.findClass RX7 = some m.cls := findClass_of_methodNamed B.named
  have hlocks := B.notSynchronized
  have hS : va_S (inW (bdW A)) s.heap s.heap [] := va_S.rf
  obtain ⟨mm, pp, fd, tx, rgd, rmd, wy, cvr, re, at0, fa, hsh, hP, hm, hpp, hsl, htx, hfd⟩ := hI
  have hD : va_D (inW (bdW A)) [(A 0, .inr (7, [.ref (A 1), .ref (A 2), .int (nI hs.length), .ref (A 3), .int (FZ fk), .ref (A 4), .int (nI tL), .ref (A 5), .ref (A 6), .int re, .int at0, .int fa, .ref (A 7), .ref (A 8), .long hsh])), (A 1, .inl (cI, 43, .inl mm)), (A 2, .inl (cI, 430, .inl pp)), (A 3, .inl (cI, 20, .inl fd)), (A 4, .inl (cI, 120, .inl tx)), (A 5, .inl (cI, 20, .inl rgd)), (A 6, .inl (cI, 20, .inl rmd)), (A 7, .inl (cI, 20, .inl wy)), (A 8, .inl (cI, 20, .inl cvr))] := da_D hA rfl
  have hl := lv_entry ([.ref (A 0), .int x, .int y]) (n := 6) (Nat.le_of_ble_eq_true rfl)
  rw [lg_entry_eq]
  generalize (lg_sl ([.ref (A 0), .int x, .int y]) ++ List.replicate (6 - (lg_sl ([.ref (A 0), .int x, .int y])).length) Slot.unset).toArray = ls at hl ⊢
  have hl : lv_has ls 6 [(0, .ref (A 0)), (1, .int x), (2, .int y)] := hl
  obtain ⟨hokP, hokH, hL, hcc, hfk⟩ := id hok
  have hn : n ≤ 20 := hokP.2.1
  have hn2 : 2 ≤ n := hokP.1
  obtain ⟨-, -, hm0, hm1, hm2, hG, hM⟩ := id hm
  refine lv_aload_n hx hb dX7_slope_0 rfl (lv_at hl 0 rfl) ?_
  refine lv_iload_n hx hb dX7_slope_1 rfl (lv_at hl 1 rfl) ?_
  refine rd_calli hP hS (va_runV (As := [.int x]) (rest := []) ⟨hx, hb, hml, hown, hts⟩ (c_X7_isStation l D cI cB cO (A 0) (A 1) [.ref (A 2), .int (nI hs.length), .ref (A 3), .int (FZ fk), .ref (A 4), .int (nI tL), .ref (A 5), .ref (A 6), .int re, .int at0, .int fa, .ref (A 7), .ref (A 8), .long hsh] n mm rg bl G M x hm) (cwV 1 hts gX7_slope_X7_isStation rfl rfl rfl (by decide +kernel) ⟨Nat.le_of_ble_eq_true rfl, Nat.le_of_ble_eq_true rfl⟩) (rd_preV (r := (RX7, TX7, 15)) (ci := 7) hK (hP.pick [0, 1] rfl) hN (q0 := 0) rfl rfl) rfl rfl hl.1 rfl (lv_room (Nat.le_of_ble_eq_true rfl)) dX7_slope_2 ⟨Nat.le_refl _, Nat.le_refl _⟩) (fun r_2 H locs h_2 hP hS => ?_)
  refine lv_if_eq (tgt := 21) hx hb dX7_slope_5 (by decide) (fun c_5 => ?_) (fun c_5 => ?_)
  · skip
    have d1 := bI_e0 (h_2.symm.trans c_5)
    refine lv_bipush (v := (-2)) hx hb dX7_slope_21 (by decide) ?_
    have hI := mri_mk (D := D) (cI := cI) (cB := cB) (cO := cO) (A := A) n rg bl G M hs tL tc fk fc mm pp fd tx rgd rmd wy cvr re at0 fa hsh hP hm hpp hsl htx hfd
    refine W.iret (v := -2) hx hb hr ?_ hS.2.2 dX7_slope_23
    intro tS htS hWS
    refine ⟨⟨(-2), (), rfl, ?_, ?_⟩, ?_⟩
    · exact rfl
    · exact retM htS hI
    · exact hS.F htS
  · skip
    have d1 := bI_n0 (fun q => c_5 (h_2.trans q))
    refine lv_aload_n hx hb dX7_slope_8 rfl (lv_at hl 0 rfl) ?_
    refine lv_iload_n hx hb dX7_slope_9 rfl (lv_at hl 2 rfl) ?_
    refine rd_calli hP hS (va_runV (As := [.int y]) (rest := []) ⟨hx, hb, hml, hown, hts⟩ (c_X7_isStation l D cI cB cO (A 0) (A 1) [.ref (A 2), .int (nI hs.length), .ref (A 3), .int (FZ fk), .ref (A 4), .int (nI tL), .ref (A 5), .ref (A 6), .int re, .int at0, .int fa, .ref (A 7), .ref (A 8), .long hsh] n mm rg bl G M y hm) (cwV 1 hts gX7_slope_X7_isStation rfl rfl rfl (by decide +kernel) ⟨Nat.le_of_ble_eq_true rfl, Nat.le_of_ble_eq_true rfl⟩) (rd_preV (r := (RX7, TX7, 15)) (ci := 7) hK (hP.pick [0, 1] rfl) hN (q0 := 0) rfl rfl) rfl rfl hl.1 rfl (lv_room (Nat.le_of_ble_eq_true rfl)) dX7_slope_10 ⟨Nat.le_refl _, Nat.le_refl _⟩) (fun r_10 H locs h_10 hP hS => ?_)
    refine lv_if_eq (tgt := 21) hx hb dX7_slope_13 (by decide) (fun c_13 => ?_) (fun c_13 => ?_)
    · skip
      have d2 := bI_e0 (h_10.symm.trans c_13)
      refine lv_bipush (v := (-2)) hx hb dX7_slope_21 (by decide) ?_
      have hI := mri_mk (D := D) (cI := cI) (cB := cB) (cO := cO) (A := A) n rg bl G M hs tL tc fk fc mm pp fd tx rgd rmd wy cvr re at0 fa hsh hP hm hpp hsl htx hfd
      refine W.iret (v := -2) hx hb hr ?_ hS.2.2 dX7_slope_23
      intro tS htS hWS
      refine ⟨⟨(-2), (), rfl, ?_, ?_⟩, ?_⟩
      · exact rfl
      · exact retM htS hI
      · exact hS.F htS
    · skip
      have d2 := bI_n0 (fun q => c_13 (h_10.trans q))
      refine lv_iload_n hx hb dX7_slope_16 rfl (lv_at hl 2 rfl) ?_
      refine lv_iload_n hx hb dX7_slope_17 rfl (lv_at hl 1 rfl) ?_
      refine lv_icmp_gt (tgt := 24) hx hb dX7_slope_18 (by decide) (fun c_18 => ?_) (fun c_18 => ?_)
      · skip
        exact absurd hno (by rw [d1, d2, decide_eq_true c_18]; decide)
      · skip
        refine lv_bipush (v := (-2)) hx hb dX7_slope_21 (by decide) ?_
        have hI := mri_mk (D := D) (cI := cI) (cB := cB) (cO := cO) (A := A) n rg bl G M hs tL tc fk fc mm pp fd tx rgd rmd wy cvr re at0 fa hsh hP hm hpp hsl htx hfd
        refine W.iret (v := -2) hx hb hr ?_ hS.2.2 dX7_slope_23
        intro tS htS hWS
        refine ⟨⟨(-2), (), rfl, ?_, ?_⟩, ?_⟩
        · exact rfl
        · exact retM htS hI
        · exact hS.F htS
theorem kX7_slope_ok_0 : ∀ w ∈ wsX70, w ∈ wsX7_slope := by decide +kernel
theorem kX7_slope_ok_1 : (.fieldLink RX7 7 "SightRidgeModel" "m" "[I" : Cond) ∈ wsX7_slope := by decide +kernel
set_option maxHeartbeats 4000000 in
set_option maxRecDepth 100000 in
theorem c_X7_slope_ok (l : Launch) (D : va_G) (cI cB cO : ClassId) (A : Nat → Nat) (n : Nat) (rg : Int32) (bl : Int32) (G : Nat → Int32) (M : Nat → Int32) (hs : List Prf) (tL : Nat) (tc : Nat → Nat) (fk : Nat) (fc : Nat → Nat) (a b : Nat) (hok : okS n rg bl G M hs tL tc fk fc) (hab : a < b) (hb0 : b < n) : Met l yX7_slope wsX7_slope (rmD 8) (mrPc D cI cB cO A [.ref (A 0), .int (nI a), .int (nI b)] n rg bl G M hs tL tc fk fc) (mrQi A (fun (r : Int32) (u : Unit) => r = nI (fb_ct (slB G a b) b)) (fun (u : Unit) H => MRI D cI cB cO A H n rg bl (slG G a b) M (((n, rg, bl, G, M) :: hs).take 10) tL tc fk fc)) 0 0 (inW (bdW A)) := by
  refine Met.ofW (cc := cX7_slope) (maxL := 6) (ret := (some .int)) (by decide) rfl ?_
  intro p e s m args below meth c s₁ B hml hv
  obtain ⟨rfl, hI, hK, hN, hA⟩ := hv
  have hx := B.exec
  have hb := B.bytes
  have hr := B.returns
  have hts := atoms_spec (ws := wsX7_slope) B.pre
  have hown : s.vm.findClass RX7 = some m.cls := findClass_of_methodNamed B.named
  have hlocks := B.notSynchronized
  have hS : va_S (inW (bdW A)) s.heap s.heap [] := va_S.rf
  obtain ⟨mm, pp, fd, tx, rgd, rmd, wy, cvr, re, at0, fa, hsh, hP, hm, hpp, hsl, htx, hfd⟩ := hI
  have hD : va_D (inW (bdW A)) [(A 0, .inr (7, [.ref (A 1), .ref (A 2), .int (nI hs.length), .ref (A 3), .int (FZ fk), .ref (A 4), .int (nI tL), .ref (A 5), .ref (A 6), .int re, .int at0, .int fa, .ref (A 7), .ref (A 8), .long hsh])), (A 1, .inl (cI, 43, .inl mm)), (A 2, .inl (cI, 430, .inl pp)), (A 3, .inl (cI, 20, .inl fd)), (A 4, .inl (cI, 120, .inl tx)), (A 5, .inl (cI, 20, .inl rgd)), (A 6, .inl (cI, 20, .inl rmd)), (A 7, .inl (cI, 20, .inl wy)), (A 8, .inl (cI, 20, .inl cvr))] := da_D hA rfl
  have hl := lv_entry ([.ref (A 0), .int (nI a), .int (nI b)]) (n := 6) (Nat.le_of_ble_eq_true rfl)
  rw [lg_entry_eq]
  generalize (lg_sl ([.ref (A 0), .int (nI a), .int (nI b)]) ++ List.replicate (6 - (lg_sl ([.ref (A 0), .int (nI a), .int (nI b)])).length) Slot.unset).toArray = ls at hl ⊢
  have hl : lv_has ls 6 [(0, .ref (A 0)), (1, .int (nI a)), (2, .int (nI b))] := hl
  obtain ⟨hokP, hokH, hL, hcc, hfk⟩ := id hok
  have hn : n ≤ 20 := hokP.2.1
  have hn2 : 2 ≤ n := hokP.1
  obtain ⟨-, -, hm0, hm1, hm2, hG, hM⟩ := id hm
  refine lv_aload_n hx hb dX7_slope_0 rfl (lv_at hl 0 rfl) ?_
  refine lv_iload_n hx hb dX7_slope_1 rfl (lv_at hl 1 rfl) ?_
  refine rd_calli hP hS (va_runV (As := [.int (nI a)]) (rest := []) ⟨hx, hb, hml, hown, hts⟩ (c_X7_isStation l D cI cB cO (A 0) (A 1) [.ref (A 2), .int (nI hs.length), .ref (A 3), .int (FZ fk), .ref (A 4), .int (nI tL), .ref (A 5), .ref (A 6), .int re, .int at0, .int fa, .ref (A 7), .ref (A 8), .long hsh] n mm rg bl G M (nI a) hm) (cwV 1 hts gX7_slope_X7_isStation rfl rfl rfl (by decide +kernel) ⟨Nat.le_of_ble_eq_true rfl, Nat.le_of_ble_eq_true rfl⟩) (rd_preV (r := (RX7, TX7, 15)) (ci := 7) hK (hP.pick [0, 1] rfl) hN (q0 := 0) rfl rfl) rfl rfl hl.1 rfl (lv_room (Nat.le_of_ble_eq_true rfl)) dX7_slope_2 ⟨Nat.le_refl _, Nat.le_refl _⟩) (fun r_2 H locs h_2 hP hS => ?_)
  refine lv_if_eq (tgt := 21) hx hb dX7_slope_5 (by decide) (fun c_5 => ?_) (fun c_5 => ?_)
  · skip
    have d1 := bI_e0 (h_2.symm.trans c_5)
    exact absurd d1 (by rw [hasB_in (by omega) hn]; decide)
  · skip
    refine lv_aload_n hx hb dX7_slope_8 rfl (lv_at hl 0 rfl) ?_
    refine lv_iload_n hx hb dX7_slope_9 rfl (lv_at hl 2 rfl) ?_
    refine rd_calli hP hS (va_runV (As := [.int (nI b)]) (rest := []) ⟨hx, hb, hml, hown, hts⟩ (c_X7_isStation l D cI cB cO (A 0) (A 1) [.ref (A 2), .int (nI hs.length), .ref (A 3), .int (FZ fk), .ref (A 4), .int (nI tL), .ref (A 5), .ref (A 6), .int re, .int at0, .int fa, .ref (A 7), .ref (A 8), .long hsh] n mm rg bl G M (nI b) hm) (cwV 1 hts gX7_slope_X7_isStation rfl rfl rfl (by decide +kernel) ⟨Nat.le_of_ble_eq_true rfl, Nat.le_of_ble_eq_true rfl⟩) (rd_preV (r := (RX7, TX7, 15)) (ci := 7) hK (hP.pick [0, 1] rfl) hN (q0 := 0) rfl rfl) rfl rfl hl.1 rfl (lv_room (Nat.le_of_ble_eq_true rfl)) dX7_slope_10 ⟨Nat.le_refl _, Nat.le_refl _⟩) (fun r_10 H locs h_10 hP hS => ?_)
    refine lv_if_eq (tgt := 21) hx hb dX7_slope_13 (by decide) (fun c_13 => ?_) (fun c_13 => ?_)
    · skip
      have d1 := bI_e0 (h_10.symm.trans c_13)
      exact absurd d1 (by rw [hasB_in hb0 hn]; decide)
    · skip
      refine lv_iload_n hx hb dX7_slope_16 rfl (lv_at hl 2 rfl) ?_
      refine lv_iload_n hx hb dX7_slope_17 rfl (lv_at hl 1 rfl) ?_
      refine lv_icmp_gt (tgt := 24) hx hb dX7_slope_18 (by decide) (fun c_18 => ?_) (fun c_18 => ?_)
      · skip
        refine lv_aload_n hx hb dX7_slope_24 rfl (lv_at hl 0 rfl) ?_
        have hPb : va_P D vwCl ([] ++ ([(A 0, .inr (7, [.ref (A 1), .ref (A 2), .int (nI hs.length), .ref (A 3), .int (FZ fk), .ref (A 4), .int (nI tL), .ref (A 5), .ref (A 6), .int re, .int at0, .int fa, .ref (A 7), .ref (A 8), .long hsh])), (A 1, .inl (cI, 43, .inl mm)), (A 2, .inl (cI, 430, .inl pp))] ++ [(A 3, .inl (cI, 20, .inl fd)), (A 4, .inl (cI, 120, .inl tx)), (A 5, .inl (cI, 20, .inl rgd)), (A 6, .inl (cI, 20, .inl rmd)), (A 7, .inl (cI, 20, .inl wy)), (A 8, .inl (cI, 20, .inl cvr))])) _ := hP
        have hDb : va_D (inW (bdW A)) ([] ++ ([(A 0, .inr (7, [.ref (A 1), .ref (A 2), .int (nI hs.length), .ref (A 3), .int (FZ fk), .ref (A 4), .int (nI tL), .ref (A 5), .ref (A 6), .int re, .int at0, .int fa, .ref (A 7), .ref (A 8), .long hsh])), (A 1, .inl (cI, 43, .inl mm)), (A 2, .inl (cI, 430, .inl pp))] ++ [(A 3, .inl (cI, 20, .inl fd)), (A 4, .inl (cI, 120, .inl tx)), (A 5, .inl (cI, 20, .inl rgd)), (A 6, .inl (cI, 20, .inl rmd)), (A 7, .inl (cI, 20, .inl wy)), (A 8, .inl (cI, 20, .inl cvr))])) := hD
        refine wa_callv hPb hDb hS (va_runV (As := []) (rest := []) ⟨hx, hb, hml, hown, hts⟩ (c_X7_keeps l D cI cB cO (A 0) (A 1) (A 2) (A 3) (A 4) (A 5) (A 6) (A 7) (A 8) mm pp (FZ fk) (nI tL) re at0 fa hsh hs.length hsl) (cwV 0 hts gX7_slope_X7_keeps rfl rfl rfl (by decide +kernel) ⟨Nat.le_of_ble_eq_true rfl, Nat.le_of_ble_eq_true rfl⟩) (wr_preV (r := (RX7, TX7, 15)) (ci := 7) hK (wa_P hPb) hN ((wa_D hDb).weaken (fun _ _ _ _ => trivial)) (q0 := 0) rfl rfl) rfl rfl hl.1 rfl (lv_room (Nat.le_of_ble_eq_true rfl)) dX7_slope_25 ⟨Nat.le_refl _, Nat.le_refl _⟩) (fun _ => [(A 0, .inr (7, [.ref (A 1), .ref (A 2), .int (nI (min (hs.length + 1) 10)), .ref (A 3), .int (FZ fk), .ref (A 4), .int (nI tL), .ref (A 5), .ref (A 6), .int re, .int at0, .int fa, .ref (A 7), .ref (A 8), .long hsh])), (A 1, .inl (cI, 43, .inl mm)), (A 2, .inl (cI, 430, .inl (keM hs.length mm pp))), (A 3, .inl (cI, 20, .inl fd)), (A 4, .inl (cI, 120, .inl tx)), (A 5, .inl (cI, 20, .inl rgd)), (A 6, .inl (cI, 20, .inl rmd)), (A 7, .inl (cI, 20, .inl wy)), (A 8, .inl (cI, 20, .inl cvr))]) (fun _ => rfl) (fun _ => rfl) (fun u_25 H locs h_25 hP hD hS => ?_)
        have e9 : ([(A 0, .inr (7, [.ref (A 1), .ref (A 2), .int (nI (min (hs.length + 1) 10)), .ref (A 3), .int (FZ fk), .ref (A 4), .int (nI tL), .ref (A 5), .ref (A 6), .int re, .int at0, .int fa, .ref (A 7), .ref (A 8), .long hsh])), (A 1, .inl (cI, 43, .inl mm)), (A 2, .inl (cI, 430, .inl (keM hs.length mm pp))), (A 3, .inl (cI, 20, .inl fd)), (A 4, .inl (cI, 120, .inl tx)), (A 5, .inl (cI, 20, .inl rgd)), (A 6, .inl (cI, 20, .inl rmd)), (A 7, .inl (cI, 20, .inl wy)), (A 8, .inl (cI, 20, .inl cvr))] : va_W) = [(A 0, .inr (7, [.ref (A 1), .ref (A 2), .int (nI (((n, rg, bl, G, M) :: hs).take 10).length), .ref (A 3), .int (FZ fk), .ref (A 4), .int (nI tL), .ref (A 5), .ref (A 6), .int re, .int at0, .int fa, .ref (A 7), .ref (A 8), .long hsh])), (A 1, .inl (cI, 43, .inl mm)), (A 2, .inl (cI, 430, .inl (keM hs.length mm pp))), (A 3, .inl (cI, 20, .inl fd)), (A 4, .inl (cI, 120, .inl tx)), (A 5, .inl (cI, 20, .inl rgd)), (A 6, .inl (cI, 20, .inl rmd)), (A 7, .inl (cI, 20, .inl wy)), (A 8, .inl (cI, 20, .inl cvr))] := congrArg (fun f9 : Int32 => ([(A 0, .inr (7, [.ref (A 1), .ref (A 2), .int f9, .ref (A 3), .int (FZ fk), .ref (A 4), .int (nI tL), .ref (A 5), .ref (A 6), .int re, .int at0, .int fa, .ref (A 7), .ref (A 8), .long hsh])), (A 1, .inl (cI, 43, .inl mm)), (A 2, .inl (cI, 430, .inl (keM hs.length mm pp))), (A 3, .inl (cI, 20, .inl fd)), (A 4, .inl (cI, 120, .inl tx)), (A 5, .inl (cI, 20, .inl rgd)), (A 6, .inl (cI, 20, .inl rmd)), (A 7, .inl (cI, 20, .inl wy)), (A 8, .inl (cI, 20, .inl cvr))] : va_W)) (show nI (min (hs.length + 1) 10) = nI (((n, rg, bl, G, M) :: hs).take 10).length from congrArg nI (take10_len _ _).symm)
        have hP := va_P_eq e9 hP
        have hD := va_D_eq e9 hD
        have hP : va_P D vwCl [(A 0, .inr (7, [.ref (A 1), .ref (A 2), .int (nI (((n, rg, bl, G, M) :: hs).take 10).length), .ref (A 3), .int (FZ fk), .ref (A 4), .int (nI tL), .ref (A 5), .ref (A 6), .int re, .int at0, .int fa, .ref (A 7), .ref (A 8), .long hsh])), (A 1, .inl (cI, 43, .inl mm)), (A 2, .inl (cI, 430, .inl (keM hs.length mm pp))), (A 3, .inl (cI, 20, .inl fd)), (A 4, .inl (cI, 120, .inl tx)), (A 5, .inl (cI, 20, .inl rgd)), (A 6, .inl (cI, 20, .inl rmd)), (A 7, .inl (cI, 20, .inl wy)), (A 8, .inl (cI, 20, .inl cvr))] _ := hP
        have hD : va_D (inW (bdW A)) [(A 0, .inr (7, [.ref (A 1), .ref (A 2), .int (nI (((n, rg, bl, G, M) :: hs).take 10).length), .ref (A 3), .int (FZ fk), .ref (A 4), .int (nI tL), .ref (A 5), .ref (A 6), .int re, .int at0, .int fa, .ref (A 7), .ref (A 8), .long hsh])), (A 1, .inl (cI, 43, .inl mm)), (A 2, .inl (cI, 430, .inl (keM hs.length mm pp))), (A 3, .inl (cI, 20, .inl fd)), (A 4, .inl (cI, 120, .inl tx)), (A 5, .inl (cI, 20, .inl rgd)), (A 6, .inl (cI, 20, .inl rmd)), (A 7, .inl (cI, 20, .inl wy)), (A 8, .inl (cI, 20, .inl cvr))] := hD
        refine lv_iconst (v := 0) hx hb dX7_slope_28 (by decide) ?_
        refine lv_istore_n (lv' := [(3, .int 0), (0, .ref (A 0)), (1, .int (nI a)), (2, .int (nI b))]) hx hb dX7_slope_29 rfl hl (by decide) rfl (fun ls hl => ?_)
        refine lv_iload_n hx hb dX7_slope_30 rfl (lv_at hl 2 rfl) ?_
        refine lv_iconst (v := 1) hx hb dX7_slope_31 (by decide) ?_
        refine lv_iadd hx hb dX7_slope_32 ?_
        refine lv_topi (fun y_1 e_2 => ?_)
        have e_2 : nI (a + 1) = y_1 := (e_2.trans (nI_add a 1)).symm
        subst e_2
        refine lv_istore (lv' := [(4, .int (nI (a + 1))), (3, .int 0), (0, .ref (A 0)), (1, .int (nI a)), (2, .int (nI b))]) hx hb dX7_slope_33 hl (by decide) rfl (fun ls hl => ?_)
        have e9 : ([(A 0, .inr (7, [.ref (A 1), .ref (A 2), .int (nI (((n, rg, bl, G, M) :: hs).take 10).length), .ref (A 3), .int (FZ fk), .ref (A 4), .int (nI tL), .ref (A 5), .ref (A 6), .int re, .int at0, .int fa, .ref (A 7), .ref (A 8), .long hsh])), (A 1, .inl (cI, 43, .inl mm)), (A 2, .inl (cI, 430, .inl (keM hs.length mm pp))), (A 3, .inl (cI, 20, .inl fd)), (A 4, .inl (cI, 120, .inl tx)), (A 5, .inl (cI, 20, .inl rgd)), (A 6, .inl (cI, 20, .inl rmd)), (A 7, .inl (cI, 20, .inl wy)), (A 8, .inl (cI, 20, .inl cvr))] : va_W) = [(A 0, .inr (7, [.ref (A 1), .ref (A 2), .int (nI (((n, rg, bl, G, M) :: hs).take 10).length), .ref (A 3), .int (FZ fk), .ref (A 4), .int (nI tL), .ref (A 5), .ref (A 6), .int re, .int at0, .int fa, .ref (A 7), .ref (A 8), .long hsh])), (A 1, .inl (cI, 43, .inl (slM mm G a b (a + 1)))), (A 2, .inl (cI, 430, .inl (keM hs.length mm pp))), (A 3, .inl (cI, 20, .inl fd)), (A 4, .inl (cI, 120, .inl tx)), (A 5, .inl (cI, 20, .inl rgd)), (A 6, .inl (cI, 20, .inl rmd)), (A 7, .inl (cI, 20, .inl wy)), (A 8, .inl (cI, 20, .inl cvr))] := congrArg (fun f9 : Nat → Int32 => ([(A 0, .inr (7, [.ref (A 1), .ref (A 2), .int (nI (((n, rg, bl, G, M) :: hs).take 10).length), .ref (A 3), .int (FZ fk), .ref (A 4), .int (nI tL), .ref (A 5), .ref (A 6), .int re, .int at0, .int fa, .ref (A 7), .ref (A 8), .long hsh])), (A 1, .inl (cI, 43, .inl f9)), (A 2, .inl (cI, 430, .inl (keM hs.length mm pp))), (A 3, .inl (cI, 20, .inl fd)), (A 4, .inl (cI, 120, .inl tx)), (A 5, .inl (cI, 20, .inl rgd)), (A 6, .inl (cI, 20, .inl rmd)), (A 7, .inl (cI, 20, .inl wy)), (A 8, .inl (cI, 20, .inl cvr))] : va_W)) (show mm = slM mm G a b (a + 1) from (slM_0 _ _ _ _).symm)
        have hP := va_P_eq e9 hP
        have hD := va_D_eq e9 hD
        have L_35 : ∀ (k_35 : Nat) (i : Nat) (t : Nat), b - i < k_35 → (i ≤ b) → (a < i) → (t = fb_ct (slB G a b) i) → ∀ (H : Heap) (locs : List Loc), va_P D vwCl [(A 0, .inr (7, [.ref (A 1), .ref (A 2), .int (nI (((n, rg, bl, G, M) :: hs).take 10).length), .ref (A 3), .int (FZ fk), .ref (A 4), .int (nI tL), .ref (A 5), .ref (A 6), .int re, .int at0, .int fa, .ref (A 7), .ref (A 8), .long hsh])), (A 1, .inl (cI, 43, .inl (slM mm G a b i))), (A 2, .inl (cI, 430, .inl (keM hs.length mm pp))), (A 3, .inl (cI, 20, .inl fd)), (A 4, .inl (cI, 120, .inl tx)), (A 5, .inl (cI, 20, .inl rgd)), (A 6, .inl (cI, 20, .inl rmd)), (A 7, .inl (cI, 20, .inl wy)), (A 8, .inl (cI, 20, .inl cvr))] H → va_D (inW (bdW A)) [(A 0, .inr (7, [.ref (A 1), .ref (A 2), .int (nI (((n, rg, bl, G, M) :: hs).take 10).length), .ref (A 3), .int (FZ fk), .ref (A 4), .int (nI tL), .ref (A 5), .ref (A 6), .int re, .int at0, .int fa, .ref (A 7), .ref (A 8), .long hsh])), (A 1, .inl (cI, 43, .inl (slM mm G a b i))), (A 2, .inl (cI, 430, .inl (keM hs.length mm pp))), (A 3, .inl (cI, 20, .inl fd)), (A 4, .inl (cI, 120, .inl tx)), (A 5, .inl (cI, 20, .inl rgd)), (A 6, .inl (cI, 20, .inl rmd)), (A 7, .inl (cI, 20, .inl wy)), (A 8, .inl (cI, 20, .inl cvr))] → va_S (inW (bdW A)) s.heap H locs → ∀ (ls : Array Slot), lv_has ls 6 [(0, .ref (A 0)), (1, .int (nI a)), (2, .int (nI b)), (3, .int (nI t)), (4, .int (nI i))] → W p l e (rmD 8) s m ([.ref (A 0), .int (nI a), .int (nI b)] : List Value).toArray below meth c H locs 0 0 (MQ below (mrQi A (fun (r : Int32) (u : Unit) => r = nI (fb_ct (slB G a b) b)) (fun (u : Unit) H => MRI D cI cB cO A H n rg bl (slG G a b) M (((n, rg, bl, G, M) :: hs).take 10) tL tc fk fc)) ([.ref (A 0), .int (nI a), .int (nI b)] : List Value).toArray s 0 0 (inW (bdW A))) (F0 m 35 ls []) := by
          intro k_35
          induction k_35 with
          | zero => intro i t h9; exact absurd h9 (Nat.not_lt_zero _)
          | succ k_35 ih_35 =>
            intro i t hm_35 hi hai ht H locs hP hD hS ls hl
            refine lv_iload hx hb dX7_slope_35 (lv_at hl 4 rfl) ?_
            refine lv_iload_n hx hb dX7_slope_37 rfl (lv_at hl 2 rfl) ?_
            refine lv_icmp_ge (tgt := 117) hx hb dX7_slope_38 (by decide) (fun c_38 => ?_) (fun c_38 => ?_)
            · skip
              have c0 : b ≤ i := ge_t (by omega) c_38
              have ei : i = b := by omega
              rw [ei] at hP hD ht
              refine lv_iload_n hx hb dX7_slope_117 rfl (lv_at hl 3 rfl) ?_
              have hI := mri_mk (D := D) (cI := cI) (cB := cB) (cO := cO) (A := A) n rg bl (slG G a b) M (((n, rg, bl, G, M) :: hs).take 10) tL tc fk fc (slM mm G a b b) (keM hs.length mm pp) fd tx rgd rmd wy cvr re at0 fa hsh hP (mok_slope hm hab hb0) (PstR_keep hm hsl hokH hpp) (take10_le _) htx hfd
              refine W.iret (v := nI t) hx hb hr ?_ hS.2.2 dX7_slope_118
              intro tS htS hWS
              refine ⟨⟨nI t, (), rfl, ?_, ?_⟩, ?_⟩
              · exact congrArg nI ht
              · exact retM htS hI
              · exact hS.F htS
            · skip
              have c0 : i < b := ge_f (by omega) c_38
              refine lv_aload_n hx hb dX7_slope_41 rfl (lv_at hl 0 rfl) ?_
              refine va_get (D := D) (ci := 7) (v := .ref (A 1)) (C := RX7) (T := TX7) (N := 15) hx hb hts kX7_slope_ok_0 hown hK hP 0 rfl rfl 0 (by decide) (hts (.fieldLink RX7 7 "SightRidgeModel" "m" "[I") kX7_slope_ok_1) (fun _ h9 => h9) rfl dX7_slope_42 ?_
              refine lv_iconst (v := 3) hx hb dX7_slope_45 (by decide) ?_
              refine lv_iload_n hx hb dX7_slope_46 rfl (lv_at hl 1 rfl) ?_
              refine lv_iadd hx hb dX7_slope_47 ?_
              refine lv_topi (fun y_3 e_4 => ?_)
              have e_4 : nI (3 + a) = y_3 := (e_4.trans (nI_add 3 a)).symm
              subst e_4
              refine va_iald hx hb hK hP 1 0 rfl rfl (i := nI (3 + a)) (vp_in_nI (N := 43) (by omega) (by decide)) dX7_slope_48 ?_
              rw [nI_clamp (n := 3 + a) (by omega)]
              refine lv_topi (fun y_5 e_6 => ?_)
              have e_6 : G a = y_5 := (e_6.trans ((show slM mm G a b i (3 + a) = mm (3 + a) from if_neg (by omega)).trans (hG a (by omega)))).symm
              subst e_6
              refine lv_aload_n hx hb dX7_slope_49 rfl (lv_at hl 0 rfl) ?_
              refine va_get (D := D) (ci := 7) (v := .ref (A 1)) (C := RX7) (T := TX7) (N := 15) hx hb hts kX7_slope_ok_0 hown hK hP 0 rfl rfl 0 (by decide) (hts (.fieldLink RX7 7 "SightRidgeModel" "m" "[I") kX7_slope_ok_1) (fun _ h9 => h9) rfl dX7_slope_50 ?_
              refine lv_iconst (v := 3) hx hb dX7_slope_53 (by decide) ?_
              refine lv_iload_n hx hb dX7_slope_54 rfl (lv_at hl 2 rfl) ?_
              refine lv_iadd hx hb dX7_slope_55 ?_
              refine lv_topi (fun y_7 e_8 => ?_)
              have e_8 : nI (3 + b) = y_7 := (e_8.trans (nI_add 3 b)).symm
              subst e_8
              refine va_iald hx hb hK hP 1 0 rfl rfl (i := nI (3 + b)) (vp_in_nI (N := 43) (by omega) (by decide)) dX7_slope_56 ?_
              rw [nI_clamp (n := 3 + b) (by omega)]
              refine lv_topi (fun y_9 e_10 => ?_)
              have e_10 : G b = y_9 := (e_10.trans ((show slM mm G a b i (3 + b) = mm (3 + b) from if_neg (by omega)).trans (hG b hb0))).symm
              subst e_10
              refine lv_aload_n hx hb dX7_slope_57 rfl (lv_at hl 0 rfl) ?_
              refine va_get (D := D) (ci := 7) (v := .ref (A 1)) (C := RX7) (T := TX7) (N := 15) hx hb hts kX7_slope_ok_0 hown hK hP 0 rfl rfl 0 (by decide) (hts (.fieldLink RX7 7 "SightRidgeModel" "m" "[I") kX7_slope_ok_1) (fun _ h9 => h9) rfl dX7_slope_58 ?_
              refine lv_iconst (v := 3) hx hb dX7_slope_61 (by decide) ?_
              refine lv_iload_n hx hb dX7_slope_62 rfl (lv_at hl 1 rfl) ?_
              refine lv_iadd hx hb dX7_slope_63 ?_
              refine lv_topi (fun y_11 e_12 => ?_)
              have e_12 : nI (3 + a) = y_11 := (e_12.trans (nI_add 3 a)).symm
              subst e_12
              refine va_iald hx hb hK hP 1 0 rfl rfl (i := nI (3 + a)) (vp_in_nI (N := 43) (by omega) (by decide)) dX7_slope_64 ?_
              rw [nI_clamp (n := 3 + a) (by omega)]
              refine lv_topi (fun y_13 e_14 => ?_)
              have e_14 : G a = y_13 := (e_14.trans ((show slM mm G a b i (3 + a) = mm (3 + a) from if_neg (by omega)).trans (hG a (by omega)))).symm
              subst e_14
              refine lv_isub hx hb dX7_slope_65 ?_
              refine lv_iload hx hb dX7_slope_66 (lv_at hl 4 rfl) ?_
              refine lv_iload_n hx hb dX7_slope_68 rfl (lv_at hl 1 rfl) ?_
              refine lv_isub hx hb dX7_slope_69 ?_
              refine lv_topi (fun y_15 e_16 => ?_)
              have e_16 : nI (i - a) = y_15 := (e_16.trans (pk_sub (by omega))).symm
              subst e_16
              refine lv_imul hx hb dX7_slope_70 ?_
              refine lv_iload_n hx hb dX7_slope_71 rfl (lv_at hl 2 rfl) ?_
              refine lv_iload_n hx hb dX7_slope_72 rfl (lv_at hl 1 rfl) ?_
              refine lv_isub hx hb dX7_slope_73 ?_
              refine lv_topi (fun y_17 e_18 => ?_)
              have e_18 : nI (b - a) = y_17 := (e_18.trans (pk_sub (by omega))).symm
              subst e_18
              refine lv_idiv hx hb dX7_slope_74 (nI_ne0 (by omega) (by omega)) ?_
              refine lv_iadd hx hb dX7_slope_75 ?_
              refine lv_topi (fun y_19 e_20 => ?_)
              have e_20 : slp G a b i = y_19 := (e_20.trans (rfl)).symm
              subst e_20
              refine lv_istore (lv' := [(5, .int (slp G a b i)), (0, .ref (A 0)), (1, .int (nI a)), (2, .int (nI b)), (3, .int (nI t)), (4, .int (nI i))]) hx hb dX7_slope_76 hl (by decide) rfl (fun ls hl => ?_)
              refine lv_iload_n hx hb dX7_slope_78 rfl (lv_at hl 4 rfl) ?_
              refine lv_iload hx hb dX7_slope_79 (lv_at hl 0 rfl) ?_
              refine lv_aload_n hx hb dX7_slope_81 rfl (lv_at hl 1 rfl) ?_
              refine va_get (D := D) (ci := 7) (v := .ref (A 1)) (C := RX7) (T := TX7) (N := 15) hx hb hts kX7_slope_ok_0 hown hK hP 0 rfl rfl 0 (by decide) (hts (.fieldLink RX7 7 "SightRidgeModel" "m" "[I") kX7_slope_ok_1) (fun _ h9 => h9) rfl dX7_slope_82 ?_
              refine lv_iconst (v := 3) hx hb dX7_slope_85 (by decide) ?_
              refine lv_iload hx hb dX7_slope_86 (lv_at hl 5 rfl) ?_
              refine lv_iadd hx hb dX7_slope_88 ?_
              refine lv_topi (fun y_21 e_22 => ?_)
              have e_22 : nI (3 + i) = y_21 := (e_22.trans (nI_add 3 i)).symm
              subst e_22
              refine va_iald hx hb hK hP 1 0 rfl rfl (i := nI (3 + i)) (vp_in_nI (N := 43) (by omega) (by decide)) dX7_slope_89 ?_
              rw [nI_clamp (n := 3 + i) (by omega)]
              refine lv_topi (fun y_23 e_24 => ?_)
              have e_24 : G i = y_23 := (e_24.trans ((show slM mm G a b i (3 + i) = mm (3 + i) from if_neg (by omega)).trans (hG i (by omega)))).symm
              subst e_24
              refine lv_icmp_ne (tgt := 97) hx hb dX7_slope_90 (by decide) (fun c_90 => ?_) (fun c_90 => ?_)
              · skip
                have c8 : G i ≠ slp G a b i := fun q => c_90 q.symm
                refine lv_iconst (v := 1) hx hb dX7_slope_97 (by decide) ?_
                refine lv_iadd hx hb dX7_slope_98 ?_
                refine lv_topi (fun y_25 e_26 => ?_)
                have e_26 : nI (t + 1) = y_25 := (e_26.trans (nI_add t 1)).symm
                subst e_26
                refine lv_istore_n (lv' := [(3, .int (nI (t + 1))), (5, .int (slp G a b i)), (0, .ref (A 0)), (1, .int (nI a)), (2, .int (nI b)), (4, .int (nI i))]) hx hb dX7_slope_99 rfl hl (by decide) rfl (fun ls hl => ?_)
                refine lv_aload_n hx hb dX7_slope_100 rfl (lv_at hl 2 rfl) ?_
                refine va_get (D := D) (ci := 7) (v := .ref (A 1)) (C := RX7) (T := TX7) (N := 15) hx hb hts kX7_slope_ok_0 hown hK hP 0 rfl rfl 0 (by decide) (hts (.fieldLink RX7 7 "SightRidgeModel" "m" "[I") kX7_slope_ok_1) (fun _ h9 => h9) rfl dX7_slope_101 ?_
                refine lv_iconst (v := 3) hx hb dX7_slope_104 (by decide) ?_
                refine lv_iload hx hb dX7_slope_105 (lv_at hl 5 rfl) ?_
                refine lv_iadd hx hb dX7_slope_107 ?_
                refine lv_topi (fun y_27 e_28 => ?_)
                have e_28 : nI (3 + i) = y_27 := (e_28.trans (nI_add 3 i)).symm
                subst e_28
                refine lv_iload hx hb dX7_slope_108 (lv_at hl 1 rfl) ?_
                refine va_iast hx hb hK hP hD hS 1 0 rfl rfl (i := nI (3 + i)) (vp_in_nI (N := 43) (by omega) (by decide)) dX7_slope_110 (fun H locs hP hD hS => ?_)
                rw [nI_clamp (n := 3 + i) (by omega)] at hP hD
                have hP : va_P D vwCl [(A 0, .inr (7, [.ref (A 1), .ref (A 2), .int (nI (((n, rg, bl, G, M) :: hs).take 10).length), .ref (A 3), .int (FZ fk), .ref (A 4), .int (nI tL), .ref (A 5), .ref (A 6), .int re, .int at0, .int fa, .ref (A 7), .ref (A 8), .long hsh])), (A 1, .inl (cI, 43, .inl (upd (slM mm G a b i) (3 + i) (slp G a b i)))), (A 2, .inl (cI, 430, .inl (keM hs.length mm pp))), (A 3, .inl (cI, 20, .inl fd)), (A 4, .inl (cI, 120, .inl tx)), (A 5, .inl (cI, 20, .inl rgd)), (A 6, .inl (cI, 20, .inl rmd)), (A 7, .inl (cI, 20, .inl wy)), (A 8, .inl (cI, 20, .inl cvr))] _ := hP
                have hD : va_D (inW (bdW A)) [(A 0, .inr (7, [.ref (A 1), .ref (A 2), .int (nI (((n, rg, bl, G, M) :: hs).take 10).length), .ref (A 3), .int (FZ fk), .ref (A 4), .int (nI tL), .ref (A 5), .ref (A 6), .int re, .int at0, .int fa, .ref (A 7), .ref (A 8), .long hsh])), (A 1, .inl (cI, 43, .inl (upd (slM mm G a b i) (3 + i) (slp G a b i)))), (A 2, .inl (cI, 430, .inl (keM hs.length mm pp))), (A 3, .inl (cI, 20, .inl fd)), (A 4, .inl (cI, 120, .inl tx)), (A 5, .inl (cI, 20, .inl rgd)), (A 6, .inl (cI, 20, .inl rmd)), (A 7, .inl (cI, 20, .inl wy)), (A 8, .inl (cI, 20, .inl cvr))] := hD
                have e9 : ([(A 0, .inr (7, [.ref (A 1), .ref (A 2), .int (nI (((n, rg, bl, G, M) :: hs).take 10).length), .ref (A 3), .int (FZ fk), .ref (A 4), .int (nI tL), .ref (A 5), .ref (A 6), .int re, .int at0, .int fa, .ref (A 7), .ref (A 8), .long hsh])), (A 1, .inl (cI, 43, .inl (upd (slM mm G a b i) (3 + i) (slp G a b i)))), (A 2, .inl (cI, 430, .inl (keM hs.length mm pp))), (A 3, .inl (cI, 20, .inl fd)), (A 4, .inl (cI, 120, .inl tx)), (A 5, .inl (cI, 20, .inl rgd)), (A 6, .inl (cI, 20, .inl rmd)), (A 7, .inl (cI, 20, .inl wy)), (A 8, .inl (cI, 20, .inl cvr))] : va_W) = [(A 0, .inr (7, [.ref (A 1), .ref (A 2), .int (nI (((n, rg, bl, G, M) :: hs).take 10).length), .ref (A 3), .int (FZ fk), .ref (A 4), .int (nI tL), .ref (A 5), .ref (A 6), .int re, .int at0, .int fa, .ref (A 7), .ref (A 8), .long hsh])), (A 1, .inl (cI, 43, .inl (slM mm G a b (i + 1)))), (A 2, .inl (cI, 430, .inl (keM hs.length mm pp))), (A 3, .inl (cI, 20, .inl fd)), (A 4, .inl (cI, 120, .inl tx)), (A 5, .inl (cI, 20, .inl rgd)), (A 6, .inl (cI, 20, .inl rmd)), (A 7, .inl (cI, 20, .inl wy)), (A 8, .inl (cI, 20, .inl cvr))] := congrArg (fun f9 : Nat → Int32 => ([(A 0, .inr (7, [.ref (A 1), .ref (A 2), .int (nI (((n, rg, bl, G, M) :: hs).take 10).length), .ref (A 3), .int (FZ fk), .ref (A 4), .int (nI tL), .ref (A 5), .ref (A 6), .int re, .int at0, .int fa, .ref (A 7), .ref (A 8), .long hsh])), (A 1, .inl (cI, 43, .inl f9)), (A 2, .inl (cI, 430, .inl (keM hs.length mm pp))), (A 3, .inl (cI, 20, .inl fd)), (A 4, .inl (cI, 120, .inl tx)), (A 5, .inl (cI, 20, .inl rgd)), (A 6, .inl (cI, 20, .inl rmd)), (A 7, .inl (cI, 20, .inl wy)), (A 8, .inl (cI, 20, .inl cvr))] : va_W)) (show upd (slM mm G a b i) (3 + i) (slp G a b i) = slM mm G a b (i + 1) from slM_s _ _ hai)
                have hP := va_P_eq e9 hP
                have hD := va_D_eq e9 hD
                refine lv_iinc (v := nI (i + 1)) (lv' := [(4, .int (nI (i + 1))), (3, .int (nI (t + 1))), (5, .int (slp G a b i)), (0, .ref (A 0)), (1, .int (nI a)), (2, .int (nI b))]) hx hb dX7_slope_111 hl (k := 5) rfl (inc1 _) (by decide) rfl (fun ls hl => ?_)
                refine lv_goto (tgt := 35) hx hb dX7_slope_114 (by decide) ?_
                exact ih_35 (i + 1) (t + 1) (by omega) (by omega) (by omega) (by first | (rw [fb_ct_T (by unfold slB; rw [decide_eq_true hai, decide_eq_true c8]; rfl), ht]; done) | (rw [fb_ct_F (by unfold slB; rw [decide_eq_false (p := G i ≠ slp G a b i) (fun q => q c9), Bool.and_false])]; exact ht) | fail) _ _ hP hD hS ls (lv_sub hl [3, 4, 5, 1, 0] rfl)
              · skip
                have c9 : G i = slp G a b i := c_90.symm
                refine lv_iconst (v := 0) hx hb dX7_slope_93 (by decide) ?_
                refine lv_goto (tgt := 98) hx hb dX7_slope_94 (by decide) ?_
                refine lv_iadd hx hb dX7_slope_98 ?_
                refine lv_topi (fun y_29 e_30 => ?_)
                have e_30 : nI (t + 0) = y_29 := (e_30.trans (nI_add t 0)).symm
                subst e_30
                refine lv_istore_n (lv' := [(3, .int (nI (t + 0))), (5, .int (slp G a b i)), (0, .ref (A 0)), (1, .int (nI a)), (2, .int (nI b)), (4, .int (nI i))]) hx hb dX7_slope_99 rfl hl (by decide) rfl (fun ls hl => ?_)
                refine lv_aload_n hx hb dX7_slope_100 rfl (lv_at hl 2 rfl) ?_
                refine va_get (D := D) (ci := 7) (v := .ref (A 1)) (C := RX7) (T := TX7) (N := 15) hx hb hts kX7_slope_ok_0 hown hK hP 0 rfl rfl 0 (by decide) (hts (.fieldLink RX7 7 "SightRidgeModel" "m" "[I") kX7_slope_ok_1) (fun _ h9 => h9) rfl dX7_slope_101 ?_
                refine lv_iconst (v := 3) hx hb dX7_slope_104 (by decide) ?_
                refine lv_iload hx hb dX7_slope_105 (lv_at hl 5 rfl) ?_
                refine lv_iadd hx hb dX7_slope_107 ?_
                refine lv_topi (fun y_31 e_32 => ?_)
                have e_32 : nI (3 + i) = y_31 := (e_32.trans (nI_add 3 i)).symm
                subst e_32
                refine lv_iload hx hb dX7_slope_108 (lv_at hl 1 rfl) ?_
                refine va_iast hx hb hK hP hD hS 1 0 rfl rfl (i := nI (3 + i)) (vp_in_nI (N := 43) (by omega) (by decide)) dX7_slope_110 (fun H locs hP hD hS => ?_)
                rw [nI_clamp (n := 3 + i) (by omega)] at hP hD
                have hP : va_P D vwCl [(A 0, .inr (7, [.ref (A 1), .ref (A 2), .int (nI (((n, rg, bl, G, M) :: hs).take 10).length), .ref (A 3), .int (FZ fk), .ref (A 4), .int (nI tL), .ref (A 5), .ref (A 6), .int re, .int at0, .int fa, .ref (A 7), .ref (A 8), .long hsh])), (A 1, .inl (cI, 43, .inl (upd (slM mm G a b i) (3 + i) (slp G a b i)))), (A 2, .inl (cI, 430, .inl (keM hs.length mm pp))), (A 3, .inl (cI, 20, .inl fd)), (A 4, .inl (cI, 120, .inl tx)), (A 5, .inl (cI, 20, .inl rgd)), (A 6, .inl (cI, 20, .inl rmd)), (A 7, .inl (cI, 20, .inl wy)), (A 8, .inl (cI, 20, .inl cvr))] _ := hP
                have hD : va_D (inW (bdW A)) [(A 0, .inr (7, [.ref (A 1), .ref (A 2), .int (nI (((n, rg, bl, G, M) :: hs).take 10).length), .ref (A 3), .int (FZ fk), .ref (A 4), .int (nI tL), .ref (A 5), .ref (A 6), .int re, .int at0, .int fa, .ref (A 7), .ref (A 8), .long hsh])), (A 1, .inl (cI, 43, .inl (upd (slM mm G a b i) (3 + i) (slp G a b i)))), (A 2, .inl (cI, 430, .inl (keM hs.length mm pp))), (A 3, .inl (cI, 20, .inl fd)), (A 4, .inl (cI, 120, .inl tx)), (A 5, .inl (cI, 20, .inl rgd)), (A 6, .inl (cI, 20, .inl rmd)), (A 7, .inl (cI, 20, .inl wy)), (A 8, .inl (cI, 20, .inl cvr))] := hD
                have e9 : ([(A 0, .inr (7, [.ref (A 1), .ref (A 2), .int (nI (((n, rg, bl, G, M) :: hs).take 10).length), .ref (A 3), .int (FZ fk), .ref (A 4), .int (nI tL), .ref (A 5), .ref (A 6), .int re, .int at0, .int fa, .ref (A 7), .ref (A 8), .long hsh])), (A 1, .inl (cI, 43, .inl (upd (slM mm G a b i) (3 + i) (slp G a b i)))), (A 2, .inl (cI, 430, .inl (keM hs.length mm pp))), (A 3, .inl (cI, 20, .inl fd)), (A 4, .inl (cI, 120, .inl tx)), (A 5, .inl (cI, 20, .inl rgd)), (A 6, .inl (cI, 20, .inl rmd)), (A 7, .inl (cI, 20, .inl wy)), (A 8, .inl (cI, 20, .inl cvr))] : va_W) = [(A 0, .inr (7, [.ref (A 1), .ref (A 2), .int (nI (((n, rg, bl, G, M) :: hs).take 10).length), .ref (A 3), .int (FZ fk), .ref (A 4), .int (nI tL), .ref (A 5), .ref (A 6), .int re, .int at0, .int fa, .ref (A 7), .ref (A 8), .long hsh])), (A 1, .inl (cI, 43, .inl (slM mm G a b (i + 1)))), (A 2, .inl (cI, 430, .inl (keM hs.length mm pp))), (A 3, .inl (cI, 20, .inl fd)), (A 4, .inl (cI, 120, .inl tx)), (A 5, .inl (cI, 20, .inl rgd)), (A 6, .inl (cI, 20, .inl rmd)), (A 7, .inl (cI, 20, .inl wy)), (A 8, .inl (cI, 20, .inl cvr))] := congrArg (fun f9 : Nat → Int32 => ([(A 0, .inr (7, [.ref (A 1), .ref (A 2), .int (nI (((n, rg, bl, G, M) :: hs).take 10).length), .ref (A 3), .int (FZ fk), .ref (A 4), .int (nI tL), .ref (A 5), .ref (A 6), .int re, .int at0, .int fa, .ref (A 7), .ref (A 8), .long hsh])), (A 1, .inl (cI, 43, .inl f9)), (A 2, .inl (cI, 430, .inl (keM hs.length mm pp))), (A 3, .inl (cI, 20, .inl fd)), (A 4, .inl (cI, 120, .inl tx)), (A 5, .inl (cI, 20, .inl rgd)), (A 6, .inl (cI, 20, .inl rmd)), (A 7, .inl (cI, 20, .inl wy)), (A 8, .inl (cI, 20, .inl cvr))] : va_W)) (show upd (slM mm G a b i) (3 + i) (slp G a b i) = slM mm G a b (i + 1) from slM_s _ _ hai)
                have hP := va_P_eq e9 hP
                have hD := va_D_eq e9 hD
                refine lv_iinc (v := nI (i + 1)) (lv' := [(4, .int (nI (i + 1))), (3, .int (nI (t + 0))), (5, .int (slp G a b i)), (0, .ref (A 0)), (1, .int (nI a)), (2, .int (nI b))]) hx hb dX7_slope_111 hl (k := 5) rfl (inc1 _) (by decide) rfl (fun ls hl => ?_)
                refine lv_goto (tgt := 35) hx hb dX7_slope_114 (by decide) ?_
                exact ih_35 (i + 1) (t + 0) (by omega) (by omega) (by omega) (by first | (rw [fb_ct_T (by unfold slB; rw [decide_eq_true hai, decide_eq_true c8]; rfl), ht]; done) | (rw [fb_ct_F (by unfold slB; rw [decide_eq_false (p := G i ≠ slp G a b i) (fun q => q c9), Bool.and_false])]; exact ht) | fail) _ _ hP hD hS ls (lv_sub hl [3, 4, 5, 1, 0] rfl)
        exact L_35 _ (a + 1) 0 (Nat.lt_succ_self _) (by omega) (by omega) ((fb_ct_zero.mpr (fun k hk => by unfold slB; rw [decide_eq_false (by omega)]; rfl)).symm) _ _ hP hD hS ls (lv_sub hl [2, 3, 4, 1, 0] rfl)
      · skip
        exact absurd (nI_lt hab (by omega)) c_18
theorem kX7_reverse_0 : ∀ w ∈ wsX70, w ∈ wsX7_reverse := by decide +kernel
theorem kX7_reverse_1 : (.fieldLink RX7 7 "SightRidgeModel" "m" "[I" : Cond) ∈ wsX7_reverse := by decide +kernel
set_option maxHeartbeats 4000000 in
set_option maxRecDepth 100000 in
theorem c_X7_reverse (l : Launch) (D : va_G) (cI cB cO : ClassId) (A : Nat → Nat) (n : Nat) (rg : Int32) (bl : Int32) (G : Nat → Int32) (M : Nat → Int32) (hs : List Prf) (tL : Nat) (tc : Nat → Nat) (fk : Nat) (fc : Nat → Nat)  (hok : okS n rg bl G M hs tL tc fk fc) : Met l yX7_reverse wsX7_reverse (rmD 8) (mrPc D cI cB cO A [.ref (A 0)] n rg bl G M hs tL tc fk fc) (mrQi A (fun (r : Int32) (u : Unit) => r = nI (fb_ct (fun k => decide (G k ≠ G (n - 1 - k) ∨ M k ≠ M (n - 1 - k))) n)) (fun (u : Unit) H => MRI D cI cB cO A H n rg bl (fun k => G (n - 1 - k)) (fun k => M (n - 1 - k)) (((n, rg, bl, G, M) :: hs).take 10) tL tc fk fc)) 0 0 (inW (bdW A)) := by
  refine Met.ofW (cc := cX7_reverse) (maxL := 6) (ret := (some .int)) (by decide) rfl ?_
  intro p e s m args below meth c s₁ B hml hv
  obtain ⟨rfl, hI, hK, hN, hA⟩ := hv
  have hx := B.exec
  have hb := B.bytes
  have hr := B.returns
  have hts := atoms_spec (ws := wsX7_reverse) B.pre
  have hown : s.vm.findClass RX7 = some m.cls := findClass_of_methodNamed B.named
  have hlocks := B.notSynchronized
  have hS : va_S (inW (bdW A)) s.heap s.heap [] := va_S.rf
  obtain ⟨mm, pp, fd, tx, rgd, rmd, wy, cvr, re, at0, fa, hsh, hP, hm, hpp, hsl, htx, hfd⟩ := hI
  have hD : va_D (inW (bdW A)) [(A 0, .inr (7, [.ref (A 1), .ref (A 2), .int (nI hs.length), .ref (A 3), .int (FZ fk), .ref (A 4), .int (nI tL), .ref (A 5), .ref (A 6), .int re, .int at0, .int fa, .ref (A 7), .ref (A 8), .long hsh])), (A 1, .inl (cI, 43, .inl mm)), (A 2, .inl (cI, 430, .inl pp)), (A 3, .inl (cI, 20, .inl fd)), (A 4, .inl (cI, 120, .inl tx)), (A 5, .inl (cI, 20, .inl rgd)), (A 6, .inl (cI, 20, .inl rmd)), (A 7, .inl (cI, 20, .inl wy)), (A 8, .inl (cI, 20, .inl cvr))] := da_D hA rfl
  have hl := lv_entry ([.ref (A 0)]) (n := 6) (Nat.le_of_ble_eq_true rfl)
  rw [lg_entry_eq]
  generalize (lg_sl ([.ref (A 0)]) ++ List.replicate (6 - (lg_sl ([.ref (A 0)])).length) Slot.unset).toArray = ls at hl ⊢
  have hl : lv_has ls 6 [(0, .ref (A 0))] := hl
  obtain ⟨hokP, hokH, hL, hcc, hfk⟩ := id hok
  have hn : n ≤ 20 := hokP.2.1
  have hn2 : 2 ≤ n := hokP.1
  obtain ⟨-, -, hm0, hm1, hm2, hG, hM⟩ := id hm
  refine lv_aload_n hx hb dX7_reverse_0 rfl (lv_at hl 0 rfl) ?_
  have hPb : va_P D vwCl ([] ++ ([(A 0, .inr (7, [.ref (A 1), .ref (A 2), .int (nI hs.length), .ref (A 3), .int (FZ fk), .ref (A 4), .int (nI tL), .ref (A 5), .ref (A 6), .int re, .int at0, .int fa, .ref (A 7), .ref (A 8), .long hsh])), (A 1, .inl (cI, 43, .inl mm)), (A 2, .inl (cI, 430, .inl pp))] ++ [(A 3, .inl (cI, 20, .inl fd)), (A 4, .inl (cI, 120, .inl tx)), (A 5, .inl (cI, 20, .inl rgd)), (A 6, .inl (cI, 20, .inl rmd)), (A 7, .inl (cI, 20, .inl wy)), (A 8, .inl (cI, 20, .inl cvr))])) _ := hP
  have hDb : va_D (inW (bdW A)) ([] ++ ([(A 0, .inr (7, [.ref (A 1), .ref (A 2), .int (nI hs.length), .ref (A 3), .int (FZ fk), .ref (A 4), .int (nI tL), .ref (A 5), .ref (A 6), .int re, .int at0, .int fa, .ref (A 7), .ref (A 8), .long hsh])), (A 1, .inl (cI, 43, .inl mm)), (A 2, .inl (cI, 430, .inl pp))] ++ [(A 3, .inl (cI, 20, .inl fd)), (A 4, .inl (cI, 120, .inl tx)), (A 5, .inl (cI, 20, .inl rgd)), (A 6, .inl (cI, 20, .inl rmd)), (A 7, .inl (cI, 20, .inl wy)), (A 8, .inl (cI, 20, .inl cvr))])) := hD
  refine wa_callv hPb hDb hS (va_runV (As := []) (rest := []) ⟨hx, hb, hml, hown, hts⟩ (c_X7_keeps l D cI cB cO (A 0) (A 1) (A 2) (A 3) (A 4) (A 5) (A 6) (A 7) (A 8) mm pp (FZ fk) (nI tL) re at0 fa hsh hs.length hsl) (cwV 0 hts gX7_reverse_X7_keeps rfl rfl rfl (by decide +kernel) ⟨Nat.le_of_ble_eq_true rfl, Nat.le_of_ble_eq_true rfl⟩) (wr_preV (r := (RX7, TX7, 15)) (ci := 7) hK (wa_P hPb) hN ((wa_D hDb).weaken (fun _ _ _ _ => trivial)) (q0 := 0) rfl rfl) rfl rfl hl.1 rfl (lv_room (Nat.le_of_ble_eq_true rfl)) dX7_reverse_1 ⟨Nat.le_refl _, Nat.le_refl _⟩) (fun _ => [(A 0, .inr (7, [.ref (A 1), .ref (A 2), .int (nI (min (hs.length + 1) 10)), .ref (A 3), .int (FZ fk), .ref (A 4), .int (nI tL), .ref (A 5), .ref (A 6), .int re, .int at0, .int fa, .ref (A 7), .ref (A 8), .long hsh])), (A 1, .inl (cI, 43, .inl mm)), (A 2, .inl (cI, 430, .inl (keM hs.length mm pp))), (A 3, .inl (cI, 20, .inl fd)), (A 4, .inl (cI, 120, .inl tx)), (A 5, .inl (cI, 20, .inl rgd)), (A 6, .inl (cI, 20, .inl rmd)), (A 7, .inl (cI, 20, .inl wy)), (A 8, .inl (cI, 20, .inl cvr))]) (fun _ => rfl) (fun _ => rfl) (fun u_1 H locs h_1 hP hD hS => ?_)
  have e9 : ([(A 0, .inr (7, [.ref (A 1), .ref (A 2), .int (nI (min (hs.length + 1) 10)), .ref (A 3), .int (FZ fk), .ref (A 4), .int (nI tL), .ref (A 5), .ref (A 6), .int re, .int at0, .int fa, .ref (A 7), .ref (A 8), .long hsh])), (A 1, .inl (cI, 43, .inl mm)), (A 2, .inl (cI, 430, .inl (keM hs.length mm pp))), (A 3, .inl (cI, 20, .inl fd)), (A 4, .inl (cI, 120, .inl tx)), (A 5, .inl (cI, 20, .inl rgd)), (A 6, .inl (cI, 20, .inl rmd)), (A 7, .inl (cI, 20, .inl wy)), (A 8, .inl (cI, 20, .inl cvr))] : va_W) = [(A 0, .inr (7, [.ref (A 1), .ref (A 2), .int (nI (((n, rg, bl, G, M) :: hs).take 10).length), .ref (A 3), .int (FZ fk), .ref (A 4), .int (nI tL), .ref (A 5), .ref (A 6), .int re, .int at0, .int fa, .ref (A 7), .ref (A 8), .long hsh])), (A 1, .inl (cI, 43, .inl mm)), (A 2, .inl (cI, 430, .inl (keM hs.length mm pp))), (A 3, .inl (cI, 20, .inl fd)), (A 4, .inl (cI, 120, .inl tx)), (A 5, .inl (cI, 20, .inl rgd)), (A 6, .inl (cI, 20, .inl rmd)), (A 7, .inl (cI, 20, .inl wy)), (A 8, .inl (cI, 20, .inl cvr))] := congrArg (fun f9 : Int32 => ([(A 0, .inr (7, [.ref (A 1), .ref (A 2), .int f9, .ref (A 3), .int (FZ fk), .ref (A 4), .int (nI tL), .ref (A 5), .ref (A 6), .int re, .int at0, .int fa, .ref (A 7), .ref (A 8), .long hsh])), (A 1, .inl (cI, 43, .inl mm)), (A 2, .inl (cI, 430, .inl (keM hs.length mm pp))), (A 3, .inl (cI, 20, .inl fd)), (A 4, .inl (cI, 120, .inl tx)), (A 5, .inl (cI, 20, .inl rgd)), (A 6, .inl (cI, 20, .inl rmd)), (A 7, .inl (cI, 20, .inl wy)), (A 8, .inl (cI, 20, .inl cvr))] : va_W)) (show nI (min (hs.length + 1) 10) = nI (((n, rg, bl, G, M) :: hs).take 10).length from congrArg nI (take10_len _ _).symm)
  have hP := va_P_eq e9 hP
  have hD := va_D_eq e9 hD
  have hP : va_P D vwCl [(A 0, .inr (7, [.ref (A 1), .ref (A 2), .int (nI (((n, rg, bl, G, M) :: hs).take 10).length), .ref (A 3), .int (FZ fk), .ref (A 4), .int (nI tL), .ref (A 5), .ref (A 6), .int re, .int at0, .int fa, .ref (A 7), .ref (A 8), .long hsh])), (A 1, .inl (cI, 43, .inl mm)), (A 2, .inl (cI, 430, .inl (keM hs.length mm pp))), (A 3, .inl (cI, 20, .inl fd)), (A 4, .inl (cI, 120, .inl tx)), (A 5, .inl (cI, 20, .inl rgd)), (A 6, .inl (cI, 20, .inl rmd)), (A 7, .inl (cI, 20, .inl wy)), (A 8, .inl (cI, 20, .inl cvr))] _ := hP
  have hD : va_D (inW (bdW A)) [(A 0, .inr (7, [.ref (A 1), .ref (A 2), .int (nI (((n, rg, bl, G, M) :: hs).take 10).length), .ref (A 3), .int (FZ fk), .ref (A 4), .int (nI tL), .ref (A 5), .ref (A 6), .int re, .int at0, .int fa, .ref (A 7), .ref (A 8), .long hsh])), (A 1, .inl (cI, 43, .inl mm)), (A 2, .inl (cI, 430, .inl (keM hs.length mm pp))), (A 3, .inl (cI, 20, .inl fd)), (A 4, .inl (cI, 120, .inl tx)), (A 5, .inl (cI, 20, .inl rgd)), (A 6, .inl (cI, 20, .inl rmd)), (A 7, .inl (cI, 20, .inl wy)), (A 8, .inl (cI, 20, .inl cvr))] := hD
  refine lv_iconst (v := 0) hx hb dX7_reverse_4 (by decide) ?_
  refine lv_istore_n (lv' := [(1, .int 0), (0, .ref (A 0))]) hx hb dX7_reverse_5 rfl hl (by decide) rfl (fun ls hl => ?_)
  refine lv_iconst (v := 0) hx hb dX7_reverse_6 (by decide) ?_
  refine lv_istore_n (lv' := [(2, .int 0), (1, .int 0), (0, .ref (A 0))]) hx hb dX7_reverse_7 rfl hl (by decide) rfl (fun ls hl => ?_)
  have L_8 : ∀ (k_8 : Nat) (i : Nat) (t : Nat), n - i < k_8 → (i ≤ n) → (t = fb_ct (fun k => decide (G k ≠ G (n - 1 - k) ∨ M k ≠ M (n - 1 - k))) i) → ∀ (H : Heap) (locs : List Loc), va_P D vwCl [(A 0, .inr (7, [.ref (A 1), .ref (A 2), .int (nI (((n, rg, bl, G, M) :: hs).take 10).length), .ref (A 3), .int (FZ fk), .ref (A 4), .int (nI tL), .ref (A 5), .ref (A 6), .int re, .int at0, .int fa, .ref (A 7), .ref (A 8), .long hsh])), (A 1, .inl (cI, 43, .inl mm)), (A 2, .inl (cI, 430, .inl (keM hs.length mm pp))), (A 3, .inl (cI, 20, .inl fd)), (A 4, .inl (cI, 120, .inl tx)), (A 5, .inl (cI, 20, .inl rgd)), (A 6, .inl (cI, 20, .inl rmd)), (A 7, .inl (cI, 20, .inl wy)), (A 8, .inl (cI, 20, .inl cvr))] H → va_D (inW (bdW A)) [(A 0, .inr (7, [.ref (A 1), .ref (A 2), .int (nI (((n, rg, bl, G, M) :: hs).take 10).length), .ref (A 3), .int (FZ fk), .ref (A 4), .int (nI tL), .ref (A 5), .ref (A 6), .int re, .int at0, .int fa, .ref (A 7), .ref (A 8), .long hsh])), (A 1, .inl (cI, 43, .inl mm)), (A 2, .inl (cI, 430, .inl (keM hs.length mm pp))), (A 3, .inl (cI, 20, .inl fd)), (A 4, .inl (cI, 120, .inl tx)), (A 5, .inl (cI, 20, .inl rgd)), (A 6, .inl (cI, 20, .inl rmd)), (A 7, .inl (cI, 20, .inl wy)), (A 8, .inl (cI, 20, .inl cvr))] → va_S (inW (bdW A)) s.heap H locs → ∀ (ls : Array Slot), lv_has ls 6 [(0, .ref (A 0)), (1, .int (nI t)), (2, .int (nI i))] → W p l e (rmD 8) s m ([.ref (A 0)] : List Value).toArray below meth c H locs 0 0 (MQ below (mrQi A (fun (r : Int32) (u : Unit) => r = nI (fb_ct (fun k => decide (G k ≠ G (n - 1 - k) ∨ M k ≠ M (n - 1 - k))) n)) (fun (u : Unit) H => MRI D cI cB cO A H n rg bl (fun k => G (n - 1 - k)) (fun k => M (n - 1 - k)) (((n, rg, bl, G, M) :: hs).take 10) tL tc fk fc)) ([.ref (A 0)] : List Value).toArray s 0 0 (inW (bdW A))) (F0 m 8 ls []) := by
    intro k_8
    induction k_8 with
    | zero => intro i t h9; exact absurd h9 (Nat.not_lt_zero _)
    | succ k_8 ih_8 =>
      intro i t hm_8 hi ht H locs hP hD hS ls hl
      refine lv_iload_n hx hb dX7_reverse_8 rfl (lv_at hl 2 rfl) ?_
      refine lv_aload_n hx hb dX7_reverse_9 rfl (lv_at hl 0 rfl) ?_
      refine va_get (D := D) (ci := 7) (v := .ref (A 1)) (C := RX7) (T := TX7) (N := 15) hx hb hts kX7_reverse_0 hown hK hP 0 rfl rfl 0 (by decide) (hts (.fieldLink RX7 7 "SightRidgeModel" "m" "[I") kX7_reverse_1) (fun _ h9 => h9) rfl dX7_reverse_10 ?_
      refine lv_iconst (v := 0) hx hb dX7_reverse_13 (by decide) ?_
      refine va_iald hx hb hK hP 1 0 rfl rfl (i := nI 0) (vp_in_nI (N := 43) (by decide) (by decide)) dX7_reverse_14 ?_
      rw [nI_clamp (n := 0) (by decide)]
      refine lv_topi (fun y_1 e_2 => ?_)
      have e_2 : nI n = y_1 := (e_2.trans (hm0)).symm
      subst e_2
      refine lv_icmp_ge (tgt := 83) hx hb dX7_reverse_15 (by decide) (fun c_15 => ?_) (fun c_15 => ?_)
      · skip
        have c0 : n ≤ i := ge_t (by omega) c_15
        refine lv_iconst (v := 0) hx hb dX7_reverse_83 (by decide) ?_
        refine lv_istore_n (lv' := [(2, .int 0), (0, .ref (A 0)), (1, .int (nI t))]) hx hb dX7_reverse_84 rfl hl (by decide) rfl (fun ls hl => ?_)
        have ei : i = n := by omega
        rw [ei] at ht
        have e9 : ([(A 0, .inr (7, [.ref (A 1), .ref (A 2), .int (nI (((n, rg, bl, G, M) :: hs).take 10).length), .ref (A 3), .int (FZ fk), .ref (A 4), .int (nI tL), .ref (A 5), .ref (A 6), .int re, .int at0, .int fa, .ref (A 7), .ref (A 8), .long hsh])), (A 1, .inl (cI, 43, .inl mm)), (A 2, .inl (cI, 430, .inl (keM hs.length mm pp))), (A 3, .inl (cI, 20, .inl fd)), (A 4, .inl (cI, 120, .inl tx)), (A 5, .inl (cI, 20, .inl rgd)), (A 6, .inl (cI, 20, .inl rmd)), (A 7, .inl (cI, 20, .inl wy)), (A 8, .inl (cI, 20, .inl cvr))] : va_W) = [(A 0, .inr (7, [.ref (A 1), .ref (A 2), .int (nI (((n, rg, bl, G, M) :: hs).take 10).length), .ref (A 3), .int (FZ fk), .ref (A 4), .int (nI tL), .ref (A 5), .ref (A 6), .int re, .int at0, .int fa, .ref (A 7), .ref (A 8), .long hsh])), (A 1, .inl (cI, 43, .inl (rvM n mm 0))), (A 2, .inl (cI, 430, .inl (keM hs.length mm pp))), (A 3, .inl (cI, 20, .inl fd)), (A 4, .inl (cI, 120, .inl tx)), (A 5, .inl (cI, 20, .inl rgd)), (A 6, .inl (cI, 20, .inl rmd)), (A 7, .inl (cI, 20, .inl wy)), (A 8, .inl (cI, 20, .inl cvr))] := congrArg (fun f9 : Nat → Int32 => ([(A 0, .inr (7, [.ref (A 1), .ref (A 2), .int (nI (((n, rg, bl, G, M) :: hs).take 10).length), .ref (A 3), .int (FZ fk), .ref (A 4), .int (nI tL), .ref (A 5), .ref (A 6), .int re, .int at0, .int fa, .ref (A 7), .ref (A 8), .long hsh])), (A 1, .inl (cI, 43, .inl f9)), (A 2, .inl (cI, 430, .inl (keM hs.length mm pp))), (A 3, .inl (cI, 20, .inl fd)), (A 4, .inl (cI, 120, .inl tx)), (A 5, .inl (cI, 20, .inl rgd)), (A 6, .inl (cI, 20, .inl rmd)), (A 7, .inl (cI, 20, .inl wy)), (A 8, .inl (cI, 20, .inl cvr))] : va_W)) (show mm = rvM n mm 0 from (rvM_0 _ _).symm)
        have hP := va_P_eq e9 hP
        have hD := va_D_eq e9 hD
        have L_85 : ∀ (k_85 : Nat) (j : Nat), n / 2 - j < k_85 → (j ≤ n / 2) → ∀ (H : Heap) (locs : List Loc), va_P D vwCl [(A 0, .inr (7, [.ref (A 1), .ref (A 2), .int (nI (((n, rg, bl, G, M) :: hs).take 10).length), .ref (A 3), .int (FZ fk), .ref (A 4), .int (nI tL), .ref (A 5), .ref (A 6), .int re, .int at0, .int fa, .ref (A 7), .ref (A 8), .long hsh])), (A 1, .inl (cI, 43, .inl (rvM n mm j))), (A 2, .inl (cI, 430, .inl (keM hs.length mm pp))), (A 3, .inl (cI, 20, .inl fd)), (A 4, .inl (cI, 120, .inl tx)), (A 5, .inl (cI, 20, .inl rgd)), (A 6, .inl (cI, 20, .inl rmd)), (A 7, .inl (cI, 20, .inl wy)), (A 8, .inl (cI, 20, .inl cvr))] H → va_D (inW (bdW A)) [(A 0, .inr (7, [.ref (A 1), .ref (A 2), .int (nI (((n, rg, bl, G, M) :: hs).take 10).length), .ref (A 3), .int (FZ fk), .ref (A 4), .int (nI tL), .ref (A 5), .ref (A 6), .int re, .int at0, .int fa, .ref (A 7), .ref (A 8), .long hsh])), (A 1, .inl (cI, 43, .inl (rvM n mm j))), (A 2, .inl (cI, 430, .inl (keM hs.length mm pp))), (A 3, .inl (cI, 20, .inl fd)), (A 4, .inl (cI, 120, .inl tx)), (A 5, .inl (cI, 20, .inl rgd)), (A 6, .inl (cI, 20, .inl rmd)), (A 7, .inl (cI, 20, .inl wy)), (A 8, .inl (cI, 20, .inl cvr))] → va_S (inW (bdW A)) s.heap H locs → ∀ (ls : Array Slot), lv_has ls 6 [(0, .ref (A 0)), (1, .int (nI t)), (2, .int (nI j))] → W p l e (rmD 8) s m ([.ref (A 0)] : List Value).toArray below meth c H locs 0 0 (MQ below (mrQi A (fun (r : Int32) (u : Unit) => r = nI (fb_ct (fun k => decide (G k ≠ G (n - 1 - k) ∨ M k ≠ M (n - 1 - k))) n)) (fun (u : Unit) H => MRI D cI cB cO A H n rg bl (fun k => G (n - 1 - k)) (fun k => M (n - 1 - k)) (((n, rg, bl, G, M) :: hs).take 10) tL tc fk fc)) ([.ref (A 0)] : List Value).toArray s 0 0 (inW (bdW A))) (F0 m 85 ls []) := by
          intro k_85
          induction k_85 with
          | zero => intro j h9; exact absurd h9 (Nat.not_lt_zero _)
          | succ k_85 ih_85 =>
            intro j hm_85 hj H locs hP hD hS ls hl
            refine lv_iload_n hx hb dX7_reverse_85 rfl (lv_at hl 2 rfl) ?_
            refine lv_aload_n hx hb dX7_reverse_86 rfl (lv_at hl 0 rfl) ?_
            refine va_get (D := D) (ci := 7) (v := .ref (A 1)) (C := RX7) (T := TX7) (N := 15) hx hb hts kX7_reverse_0 hown hK hP 0 rfl rfl 0 (by decide) (hts (.fieldLink RX7 7 "SightRidgeModel" "m" "[I") kX7_reverse_1) (fun _ h9 => h9) rfl dX7_reverse_87 ?_
            refine lv_iconst (v := 0) hx hb dX7_reverse_90 (by decide) ?_
            refine va_iald hx hb hK hP 1 0 rfl rfl (i := nI 0) (vp_in_nI (N := 43) (by decide) (by decide)) dX7_reverse_91 ?_
            rw [nI_clamp (n := 0) (by decide)]
            refine lv_topi (fun y_3 e_4 => ?_)
            have e_4 : nI n = y_3 := (e_4.trans ((show rvM n mm j 0 = mm 0 from by unfold rvM; rw [if_neg (by omega), if_neg (by omega)]).trans hm0)).symm
            subst e_4
            refine lv_iconst (v := 2) hx hb dX7_reverse_92 (by decide) ?_
            refine lv_idiv hx hb dX7_reverse_93 (by decide) ?_
            refine lv_topi (fun y_5 e_6 => ?_)
            have e_6 : nI (n / 2) = y_5 := (e_6.trans (pk_div (a := n) (d := 2) (by omega) (by decide) (by decide))).symm
            subst e_6
            refine lv_icmp_ge (tgt := 190) hx hb dX7_reverse_94 (by decide) (fun c_94 => ?_) (fun c_94 => ?_)
            · skip
              have c0 : n / 2 ≤ j := ge_t (by omega) c_94
              have ej : j = n / 2 := by omega
              rw [ej] at hP hD
              refine lv_iload_n hx hb dX7_reverse_190 rfl (lv_at hl 1 rfl) ?_
              have hI := mri_mk (D := D) (cI := cI) (cB := cB) (cO := cO) (A := A) n rg bl (fun k => G (n - 1 - k)) (fun k => M (n - 1 - k)) (((n, rg, bl, G, M) :: hs).take 10) tL tc fk fc (rvM n mm (n / 2)) (keM hs.length mm pp) fd tx rgd rmd wy cvr re at0 fa hsh hP (mok_reverse hm) (PstR_keep hm hsl hokH hpp) (take10_le _) htx hfd
              refine W.iret (v := nI t) hx hb hr ?_ hS.2.2 dX7_reverse_191
              intro tS htS hWS
              refine ⟨⟨nI t, (), rfl, ?_, ?_⟩, ?_⟩
              · exact congrArg nI ht
              · exact retM htS hI
              · exact hS.F htS
            · skip
              have c0 : j < n / 2 := ge_f (by omega) c_94
              refine lv_aload_n hx hb dX7_reverse_97 rfl (lv_at hl 0 rfl) ?_
              refine va_get (D := D) (ci := 7) (v := .ref (A 1)) (C := RX7) (T := TX7) (N := 15) hx hb hts kX7_reverse_0 hown hK hP 0 rfl rfl 0 (by decide) (hts (.fieldLink RX7 7 "SightRidgeModel" "m" "[I") kX7_reverse_1) (fun _ h9 => h9) rfl dX7_reverse_98 ?_
              refine lv_iconst (v := 0) hx hb dX7_reverse_101 (by decide) ?_
              refine va_iald hx hb hK hP 1 0 rfl rfl (i := nI 0) (vp_in_nI (N := 43) (by decide) (by decide)) dX7_reverse_102 ?_
              rw [nI_clamp (n := 0) (by decide)]
              refine lv_topi (fun y_7 e_8 => ?_)
              have e_8 : nI n = y_7 := (e_8.trans ((show rvM n mm j 0 = mm 0 from by unfold rvM; rw [if_neg (by omega), if_neg (by omega)]).trans hm0)).symm
              subst e_8
              refine lv_iconst (v := 1) hx hb dX7_reverse_103 (by decide) ?_
              refine lv_isub hx hb dX7_reverse_104 ?_
              refine lv_topi (fun y_9 e_10 => ?_)
              have e_10 : nI (n - 1) = y_9 := (e_10.trans (pk_sub (a := n) (b := 1) (by omega))).symm
              subst e_10
              refine lv_iload_n hx hb dX7_reverse_105 rfl (lv_at hl 2 rfl) ?_
              refine lv_isub hx hb dX7_reverse_106 ?_
              refine lv_topi (fun y_11 e_12 => ?_)
              have e_12 : nI (n - 1 - j) = y_11 := (e_12.trans (pk_sub (by omega))).symm
              subst e_12
              refine lv_istore_n (lv' := [(3, .int (nI (n - 1 - j))), (0, .ref (A 0)), (1, .int (nI t)), (2, .int (nI j))]) hx hb dX7_reverse_107 rfl hl (by decide) rfl (fun ls hl => ?_)
              refine lv_aload_n hx hb dX7_reverse_108 rfl (lv_at hl 1 rfl) ?_
              refine va_get (D := D) (ci := 7) (v := .ref (A 1)) (C := RX7) (T := TX7) (N := 15) hx hb hts kX7_reverse_0 hown hK hP 0 rfl rfl 0 (by decide) (hts (.fieldLink RX7 7 "SightRidgeModel" "m" "[I") kX7_reverse_1) (fun _ h9 => h9) rfl dX7_reverse_109 ?_
              refine lv_iconst (v := 3) hx hb dX7_reverse_112 (by decide) ?_
              refine lv_iload_n hx hb dX7_reverse_113 rfl (lv_at hl 3 rfl) ?_
              refine lv_iadd hx hb dX7_reverse_114 ?_
              refine lv_topi (fun y_13 e_14 => ?_)
              have e_14 : nI (3 + j) = y_13 := (e_14.trans (nI_add 3 j)).symm
              subst e_14
              refine va_iald hx hb hK hP 1 0 rfl rfl (i := nI (3 + j)) (vp_in_nI (N := 43) (by omega) (by decide)) dX7_reverse_115 ?_
              rw [nI_clamp (n := 3 + j) (by omega)]
              refine lv_topi (fun y_15 e_16 => ?_)
              have e_16 : mm (3 + j) = y_15 := (e_16.trans (rvM_g (by omega) (by omega) (by omega) hn mm)).symm
              subst e_16
              refine lv_istore (lv' := [(4, .int (mm (3 + j))), (3, .int (nI (n - 1 - j))), (0, .ref (A 0)), (1, .int (nI t)), (2, .int (nI j))]) hx hb dX7_reverse_116 hl (by decide) rfl (fun ls hl => ?_)
              refine lv_aload_n hx hb dX7_reverse_118 rfl (lv_at hl 2 rfl) ?_
              refine va_get (D := D) (ci := 7) (v := .ref (A 1)) (C := RX7) (T := TX7) (N := 15) hx hb hts kX7_reverse_0 hown hK hP 0 rfl rfl 0 (by decide) (hts (.fieldLink RX7 7 "SightRidgeModel" "m" "[I") kX7_reverse_1) (fun _ h9 => h9) rfl dX7_reverse_119 ?_
              refine lv_bipush (v := 23) hx hb dX7_reverse_122 (by decide) ?_
              refine lv_iload_n hx hb dX7_reverse_124 rfl (lv_at hl 4 rfl) ?_
              refine lv_iadd hx hb dX7_reverse_125 ?_
              refine lv_topi (fun y_17 e_18 => ?_)
              have e_18 : nI (23 + j) = y_17 := (e_18.trans (nI_add 23 j)).symm
              subst e_18
              refine va_iald hx hb hK hP 1 0 rfl rfl (i := nI (23 + j)) (vp_in_nI (N := 43) (by omega) (by decide)) dX7_reverse_126 ?_
              rw [nI_clamp (n := 23 + j) (by omega)]
              refine lv_topi (fun y_19 e_20 => ?_)
              have e_20 : mm (23 + j) = y_19 := (e_20.trans (rvM_m (by omega) (by omega) (by omega) hn mm)).symm
              subst e_20
              refine lv_istore (lv' := [(5, .int (mm (23 + j))), (4, .int (mm (3 + j))), (3, .int (nI (n - 1 - j))), (0, .ref (A 0)), (1, .int (nI t)), (2, .int (nI j))]) hx hb dX7_reverse_127 hl (by decide) rfl (fun ls hl => ?_)
              refine lv_aload_n hx hb dX7_reverse_129 rfl (lv_at hl 3 rfl) ?_
              refine va_get (D := D) (ci := 7) (v := .ref (A 1)) (C := RX7) (T := TX7) (N := 15) hx hb hts kX7_reverse_0 hown hK hP 0 rfl rfl 0 (by decide) (hts (.fieldLink RX7 7 "SightRidgeModel" "m" "[I") kX7_reverse_1) (fun _ h9 => h9) rfl dX7_reverse_130 ?_
              refine lv_iconst (v := 3) hx hb dX7_reverse_133 (by decide) ?_
              refine lv_iload_n hx hb dX7_reverse_134 rfl (lv_at hl 5 rfl) ?_
              refine lv_iadd hx hb dX7_reverse_135 ?_
              refine lv_topi (fun y_21 e_22 => ?_)
              have e_22 : nI (3 + j) = y_21 := (e_22.trans (nI_add 3 j)).symm
              subst e_22
              refine lv_aload_n hx hb dX7_reverse_136 rfl (lv_at hl 3 rfl) ?_
              refine va_get (D := D) (ci := 7) (v := .ref (A 1)) (C := RX7) (T := TX7) (N := 15) hx hb hts kX7_reverse_0 hown hK hP 0 rfl rfl 0 (by decide) (hts (.fieldLink RX7 7 "SightRidgeModel" "m" "[I") kX7_reverse_1) (fun _ h9 => h9) rfl dX7_reverse_137 ?_
              refine lv_iconst (v := 3) hx hb dX7_reverse_140 (by decide) ?_
              refine lv_iload_n hx hb dX7_reverse_141 rfl (lv_at hl 2 rfl) ?_
              refine lv_iadd hx hb dX7_reverse_142 ?_
              refine lv_topi (fun y_23 e_24 => ?_)
              have e_24 : nI (3 + (n - 1 - j)) = y_23 := (e_24.trans (nI_add 3 (n - 1 - j))).symm
              subst e_24
              refine va_iald hx hb hK hP 1 0 rfl rfl (i := nI (3 + (n - 1 - j))) (vp_in_nI (N := 43) (by omega) (by decide)) dX7_reverse_143 ?_
              rw [nI_clamp (n := 3 + (n - 1 - j)) (by omega)]
              refine lv_topi (fun y_25 e_26 => ?_)
              have e_26 : mm (3 + (n - 1 - j)) = y_25 := (e_26.trans (rvM_g (by omega) (by omega) (by omega) hn mm)).symm
              subst e_26
              refine va_iast hx hb hK hP hD hS 1 0 rfl rfl (i := nI (3 + j)) (vp_in_nI (N := 43) (by omega) (by decide)) dX7_reverse_144 (fun H locs hP hD hS => ?_)
              rw [nI_clamp (n := 3 + j) (by omega)] at hP hD
              have hP : va_P D vwCl [(A 0, .inr (7, [.ref (A 1), .ref (A 2), .int (nI (((n, rg, bl, G, M) :: hs).take 10).length), .ref (A 3), .int (FZ fk), .ref (A 4), .int (nI tL), .ref (A 5), .ref (A 6), .int re, .int at0, .int fa, .ref (A 7), .ref (A 8), .long hsh])), (A 1, .inl (cI, 43, .inl (upd (rvM n mm j) (3 + j) (mm (3 + (n - 1 - j)))))), (A 2, .inl (cI, 430, .inl (keM hs.length mm pp))), (A 3, .inl (cI, 20, .inl fd)), (A 4, .inl (cI, 120, .inl tx)), (A 5, .inl (cI, 20, .inl rgd)), (A 6, .inl (cI, 20, .inl rmd)), (A 7, .inl (cI, 20, .inl wy)), (A 8, .inl (cI, 20, .inl cvr))] _ := hP
              have hD : va_D (inW (bdW A)) [(A 0, .inr (7, [.ref (A 1), .ref (A 2), .int (nI (((n, rg, bl, G, M) :: hs).take 10).length), .ref (A 3), .int (FZ fk), .ref (A 4), .int (nI tL), .ref (A 5), .ref (A 6), .int re, .int at0, .int fa, .ref (A 7), .ref (A 8), .long hsh])), (A 1, .inl (cI, 43, .inl (upd (rvM n mm j) (3 + j) (mm (3 + (n - 1 - j)))))), (A 2, .inl (cI, 430, .inl (keM hs.length mm pp))), (A 3, .inl (cI, 20, .inl fd)), (A 4, .inl (cI, 120, .inl tx)), (A 5, .inl (cI, 20, .inl rgd)), (A 6, .inl (cI, 20, .inl rmd)), (A 7, .inl (cI, 20, .inl wy)), (A 8, .inl (cI, 20, .inl cvr))] := hD
              refine lv_aload_n hx hb dX7_reverse_145 rfl (lv_at hl 3 rfl) ?_
              refine va_get (D := D) (ci := 7) (v := .ref (A 1)) (C := RX7) (T := TX7) (N := 15) hx hb hts kX7_reverse_0 hown hK hP 0 rfl rfl 0 (by decide) (hts (.fieldLink RX7 7 "SightRidgeModel" "m" "[I") kX7_reverse_1) (fun _ h9 => h9) rfl dX7_reverse_146 ?_
              refine lv_bipush (v := 23) hx hb dX7_reverse_149 (by decide) ?_
              refine lv_iload_n hx hb dX7_reverse_151 rfl (lv_at hl 5 rfl) ?_
              refine lv_iadd hx hb dX7_reverse_152 ?_
              refine lv_topi (fun y_27 e_28 => ?_)
              have e_28 : nI (23 + j) = y_27 := (e_28.trans (nI_add 23 j)).symm
              subst e_28
              refine lv_aload_n hx hb dX7_reverse_153 rfl (lv_at hl 3 rfl) ?_
              refine va_get (D := D) (ci := 7) (v := .ref (A 1)) (C := RX7) (T := TX7) (N := 15) hx hb hts kX7_reverse_0 hown hK hP 0 rfl rfl 0 (by decide) (hts (.fieldLink RX7 7 "SightRidgeModel" "m" "[I") kX7_reverse_1) (fun _ h9 => h9) rfl dX7_reverse_154 ?_
              refine lv_bipush (v := 23) hx hb dX7_reverse_157 (by decide) ?_
              refine lv_iload_n hx hb dX7_reverse_159 rfl (lv_at hl 2 rfl) ?_
              refine lv_iadd hx hb dX7_reverse_160 ?_
              refine lv_topi (fun y_29 e_30 => ?_)
              have e_30 : nI (23 + (n - 1 - j)) = y_29 := (e_30.trans (nI_add 23 (n - 1 - j))).symm
              subst e_30
              refine va_iald hx hb hK hP 1 0 rfl rfl (i := nI (23 + (n - 1 - j))) (vp_in_nI (N := 43) (by omega) (by decide)) dX7_reverse_161 ?_
              rw [nI_clamp (n := 23 + (n - 1 - j)) (by omega)]
              refine lv_topi (fun y_31 e_32 => ?_)
              have e_32 : mm (23 + (n - 1 - j)) = y_31 := (e_32.trans ((pk_un (by omega)).trans (rvM_m (by omega) (by omega) (by omega) hn mm))).symm
              subst e_32
              refine va_iast hx hb hK hP hD hS 1 0 rfl rfl (i := nI (23 + j)) (vp_in_nI (N := 43) (by omega) (by decide)) dX7_reverse_162 (fun H locs hP hD hS => ?_)
              rw [nI_clamp (n := 23 + j) (by omega)] at hP hD
              have hP : va_P D vwCl [(A 0, .inr (7, [.ref (A 1), .ref (A 2), .int (nI (((n, rg, bl, G, M) :: hs).take 10).length), .ref (A 3), .int (FZ fk), .ref (A 4), .int (nI tL), .ref (A 5), .ref (A 6), .int re, .int at0, .int fa, .ref (A 7), .ref (A 8), .long hsh])), (A 1, .inl (cI, 43, .inl (upd (upd (rvM n mm j) (3 + j) (mm (3 + (n - 1 - j)))) (23 + j) (mm (23 + (n - 1 - j)))))), (A 2, .inl (cI, 430, .inl (keM hs.length mm pp))), (A 3, .inl (cI, 20, .inl fd)), (A 4, .inl (cI, 120, .inl tx)), (A 5, .inl (cI, 20, .inl rgd)), (A 6, .inl (cI, 20, .inl rmd)), (A 7, .inl (cI, 20, .inl wy)), (A 8, .inl (cI, 20, .inl cvr))] _ := hP
              have hD : va_D (inW (bdW A)) [(A 0, .inr (7, [.ref (A 1), .ref (A 2), .int (nI (((n, rg, bl, G, M) :: hs).take 10).length), .ref (A 3), .int (FZ fk), .ref (A 4), .int (nI tL), .ref (A 5), .ref (A 6), .int re, .int at0, .int fa, .ref (A 7), .ref (A 8), .long hsh])), (A 1, .inl (cI, 43, .inl (upd (upd (rvM n mm j) (3 + j) (mm (3 + (n - 1 - j)))) (23 + j) (mm (23 + (n - 1 - j)))))), (A 2, .inl (cI, 430, .inl (keM hs.length mm pp))), (A 3, .inl (cI, 20, .inl fd)), (A 4, .inl (cI, 120, .inl tx)), (A 5, .inl (cI, 20, .inl rgd)), (A 6, .inl (cI, 20, .inl rmd)), (A 7, .inl (cI, 20, .inl wy)), (A 8, .inl (cI, 20, .inl cvr))] := hD
              refine lv_aload_n hx hb dX7_reverse_163 rfl (lv_at hl 3 rfl) ?_
              refine va_get (D := D) (ci := 7) (v := .ref (A 1)) (C := RX7) (T := TX7) (N := 15) hx hb hts kX7_reverse_0 hown hK hP 0 rfl rfl 0 (by decide) (hts (.fieldLink RX7 7 "SightRidgeModel" "m" "[I") kX7_reverse_1) (fun _ h9 => h9) rfl dX7_reverse_164 ?_
              refine lv_iconst (v := 3) hx hb dX7_reverse_167 (by decide) ?_
              refine lv_iload_n hx hb dX7_reverse_168 rfl (lv_at hl 2 rfl) ?_
              refine lv_iadd hx hb dX7_reverse_169 ?_
              refine lv_topi (fun y_33 e_34 => ?_)
              have e_34 : nI (3 + (n - 1 - j)) = y_33 := (e_34.trans (nI_add 3 (n - 1 - j))).symm
              subst e_34
              refine lv_iload hx hb dX7_reverse_170 (lv_at hl 1 rfl) ?_
              refine va_iast hx hb hK hP hD hS 1 0 rfl rfl (i := nI (3 + (n - 1 - j))) (vp_in_nI (N := 43) (by omega) (by decide)) dX7_reverse_172 (fun H locs hP hD hS => ?_)
              rw [nI_clamp (n := 3 + (n - 1 - j)) (by omega)] at hP hD
              have hP : va_P D vwCl [(A 0, .inr (7, [.ref (A 1), .ref (A 2), .int (nI (((n, rg, bl, G, M) :: hs).take 10).length), .ref (A 3), .int (FZ fk), .ref (A 4), .int (nI tL), .ref (A 5), .ref (A 6), .int re, .int at0, .int fa, .ref (A 7), .ref (A 8), .long hsh])), (A 1, .inl (cI, 43, .inl (upd (upd (upd (rvM n mm j) (3 + j) (mm (3 + (n - 1 - j)))) (23 + j) (mm (23 + (n - 1 - j)))) (3 + (n - 1 - j)) (mm (3 + j))))), (A 2, .inl (cI, 430, .inl (keM hs.length mm pp))), (A 3, .inl (cI, 20, .inl fd)), (A 4, .inl (cI, 120, .inl tx)), (A 5, .inl (cI, 20, .inl rgd)), (A 6, .inl (cI, 20, .inl rmd)), (A 7, .inl (cI, 20, .inl wy)), (A 8, .inl (cI, 20, .inl cvr))] _ := hP
              have hD : va_D (inW (bdW A)) [(A 0, .inr (7, [.ref (A 1), .ref (A 2), .int (nI (((n, rg, bl, G, M) :: hs).take 10).length), .ref (A 3), .int (FZ fk), .ref (A 4), .int (nI tL), .ref (A 5), .ref (A 6), .int re, .int at0, .int fa, .ref (A 7), .ref (A 8), .long hsh])), (A 1, .inl (cI, 43, .inl (upd (upd (upd (rvM n mm j) (3 + j) (mm (3 + (n - 1 - j)))) (23 + j) (mm (23 + (n - 1 - j)))) (3 + (n - 1 - j)) (mm (3 + j))))), (A 2, .inl (cI, 430, .inl (keM hs.length mm pp))), (A 3, .inl (cI, 20, .inl fd)), (A 4, .inl (cI, 120, .inl tx)), (A 5, .inl (cI, 20, .inl rgd)), (A 6, .inl (cI, 20, .inl rmd)), (A 7, .inl (cI, 20, .inl wy)), (A 8, .inl (cI, 20, .inl cvr))] := hD
              refine lv_aload_n hx hb dX7_reverse_173 rfl (lv_at hl 3 rfl) ?_
              refine va_get (D := D) (ci := 7) (v := .ref (A 1)) (C := RX7) (T := TX7) (N := 15) hx hb hts kX7_reverse_0 hown hK hP 0 rfl rfl 0 (by decide) (hts (.fieldLink RX7 7 "SightRidgeModel" "m" "[I") kX7_reverse_1) (fun _ h9 => h9) rfl dX7_reverse_174 ?_
              refine lv_bipush (v := 23) hx hb dX7_reverse_177 (by decide) ?_
              refine lv_iload_n hx hb dX7_reverse_179 rfl (lv_at hl 2 rfl) ?_
              refine lv_iadd hx hb dX7_reverse_180 ?_
              refine lv_topi (fun y_35 e_36 => ?_)
              have e_36 : nI (23 + (n - 1 - j)) = y_35 := (e_36.trans (nI_add 23 (n - 1 - j))).symm
              subst e_36
              refine lv_iload hx hb dX7_reverse_181 (lv_at hl 0 rfl) ?_
              refine va_iast hx hb hK hP hD hS 1 0 rfl rfl (i := nI (23 + (n - 1 - j))) (vp_in_nI (N := 43) (by omega) (by decide)) dX7_reverse_183 (fun H locs hP hD hS => ?_)
              rw [nI_clamp (n := 23 + (n - 1 - j)) (by omega)] at hP hD
              have hP : va_P D vwCl [(A 0, .inr (7, [.ref (A 1), .ref (A 2), .int (nI (((n, rg, bl, G, M) :: hs).take 10).length), .ref (A 3), .int (FZ fk), .ref (A 4), .int (nI tL), .ref (A 5), .ref (A 6), .int re, .int at0, .int fa, .ref (A 7), .ref (A 8), .long hsh])), (A 1, .inl (cI, 43, .inl (upd (upd (upd (upd (rvM n mm j) (3 + j) (mm (3 + (n - 1 - j)))) (23 + j) (mm (23 + (n - 1 - j)))) (3 + (n - 1 - j)) (mm (3 + j))) (23 + (n - 1 - j)) (mm (23 + j))))), (A 2, .inl (cI, 430, .inl (keM hs.length mm pp))), (A 3, .inl (cI, 20, .inl fd)), (A 4, .inl (cI, 120, .inl tx)), (A 5, .inl (cI, 20, .inl rgd)), (A 6, .inl (cI, 20, .inl rmd)), (A 7, .inl (cI, 20, .inl wy)), (A 8, .inl (cI, 20, .inl cvr))] _ := hP
              have hD : va_D (inW (bdW A)) [(A 0, .inr (7, [.ref (A 1), .ref (A 2), .int (nI (((n, rg, bl, G, M) :: hs).take 10).length), .ref (A 3), .int (FZ fk), .ref (A 4), .int (nI tL), .ref (A 5), .ref (A 6), .int re, .int at0, .int fa, .ref (A 7), .ref (A 8), .long hsh])), (A 1, .inl (cI, 43, .inl (upd (upd (upd (upd (rvM n mm j) (3 + j) (mm (3 + (n - 1 - j)))) (23 + j) (mm (23 + (n - 1 - j)))) (3 + (n - 1 - j)) (mm (3 + j))) (23 + (n - 1 - j)) (mm (23 + j))))), (A 2, .inl (cI, 430, .inl (keM hs.length mm pp))), (A 3, .inl (cI, 20, .inl fd)), (A 4, .inl (cI, 120, .inl tx)), (A 5, .inl (cI, 20, .inl rgd)), (A 6, .inl (cI, 20, .inl rmd)), (A 7, .inl (cI, 20, .inl wy)), (A 8, .inl (cI, 20, .inl cvr))] := hD
              have e9 : ([(A 0, .inr (7, [.ref (A 1), .ref (A 2), .int (nI (((n, rg, bl, G, M) :: hs).take 10).length), .ref (A 3), .int (FZ fk), .ref (A 4), .int (nI tL), .ref (A 5), .ref (A 6), .int re, .int at0, .int fa, .ref (A 7), .ref (A 8), .long hsh])), (A 1, .inl (cI, 43, .inl (upd (upd (upd (upd (rvM n mm j) (3 + j) (mm (3 + (n - 1 - j)))) (23 + j) (mm (23 + (n - 1 - j)))) (3 + (n - 1 - j)) (mm (3 + j))) (23 + (n - 1 - j)) (mm (23 + j))))), (A 2, .inl (cI, 430, .inl (keM hs.length mm pp))), (A 3, .inl (cI, 20, .inl fd)), (A 4, .inl (cI, 120, .inl tx)), (A 5, .inl (cI, 20, .inl rgd)), (A 6, .inl (cI, 20, .inl rmd)), (A 7, .inl (cI, 20, .inl wy)), (A 8, .inl (cI, 20, .inl cvr))] : va_W) = [(A 0, .inr (7, [.ref (A 1), .ref (A 2), .int (nI (((n, rg, bl, G, M) :: hs).take 10).length), .ref (A 3), .int (FZ fk), .ref (A 4), .int (nI tL), .ref (A 5), .ref (A 6), .int re, .int at0, .int fa, .ref (A 7), .ref (A 8), .long hsh])), (A 1, .inl (cI, 43, .inl (rvM n mm (j + 1)))), (A 2, .inl (cI, 430, .inl (keM hs.length mm pp))), (A 3, .inl (cI, 20, .inl fd)), (A 4, .inl (cI, 120, .inl tx)), (A 5, .inl (cI, 20, .inl rgd)), (A 6, .inl (cI, 20, .inl rmd)), (A 7, .inl (cI, 20, .inl wy)), (A 8, .inl (cI, 20, .inl cvr))] := congrArg (fun f9 : Nat → Int32 => ([(A 0, .inr (7, [.ref (A 1), .ref (A 2), .int (nI (((n, rg, bl, G, M) :: hs).take 10).length), .ref (A 3), .int (FZ fk), .ref (A 4), .int (nI tL), .ref (A 5), .ref (A 6), .int re, .int at0, .int fa, .ref (A 7), .ref (A 8), .long hsh])), (A 1, .inl (cI, 43, .inl f9)), (A 2, .inl (cI, 430, .inl (keM hs.length mm pp))), (A 3, .inl (cI, 20, .inl fd)), (A 4, .inl (cI, 120, .inl tx)), (A 5, .inl (cI, 20, .inl rgd)), (A 6, .inl (cI, 20, .inl rmd)), (A 7, .inl (cI, 20, .inl wy)), (A 8, .inl (cI, 20, .inl cvr))] : va_W)) (show upd (upd (upd (upd (rvM n mm j) (3 + j) (mm (3 + (n - 1 - j)))) (23 + j) (mm (23 + (n - 1 - j)))) (3 + (n - 1 - j)) (mm (3 + j))) (23 + (n - 1 - j)) (mm (23 + j)) = rvM n mm (j + 1) from rvM_s c0 hn mm)
              have hP := va_P_eq e9 hP
              have hD := va_D_eq e9 hD
              refine lv_iinc (v := nI (j + 1)) (lv' := [(2, .int (nI (j + 1))), (5, .int (mm (23 + j))), (4, .int (mm (3 + j))), (3, .int (nI (n - 1 - j))), (0, .ref (A 0)), (1, .int (nI t))]) hx hb dX7_reverse_184 hl (k := 5) rfl (inc1 _) (by decide) rfl (fun ls hl => ?_)
              refine lv_goto (tgt := 85) hx hb dX7_reverse_187 (by decide) ?_
              exact ih_85 (j + 1) (by omega) (by omega) _ _ hP hD hS ls (lv_sub hl [4, 5, 0] rfl)
        exact L_85 _ 0 (Nat.lt_succ_self _) (by omega) _ _ hP hD hS ls (lv_sub hl [1, 2, 0] rfl)
      · skip
        have c0 : i < n := ge_f (by omega) c_15
        refine lv_aload_n hx hb dX7_reverse_18 rfl (lv_at hl 0 rfl) ?_
        refine va_get (D := D) (ci := 7) (v := .ref (A 1)) (C := RX7) (T := TX7) (N := 15) hx hb hts kX7_reverse_0 hown hK hP 0 rfl rfl 0 (by decide) (hts (.fieldLink RX7 7 "SightRidgeModel" "m" "[I") kX7_reverse_1) (fun _ h9 => h9) rfl dX7_reverse_19 ?_
        refine lv_iconst (v := 0) hx hb dX7_reverse_22 (by decide) ?_
        refine va_iald hx hb hK hP 1 0 rfl rfl (i := nI 0) (vp_in_nI (N := 43) (by decide) (by decide)) dX7_reverse_23 ?_
        rw [nI_clamp (n := 0) (by decide)]
        refine lv_topi (fun y_37 e_38 => ?_)
        have e_38 : nI n = y_37 := (e_38.trans (hm0)).symm
        subst e_38
        refine lv_iconst (v := 1) hx hb dX7_reverse_24 (by decide) ?_
        refine lv_isub hx hb dX7_reverse_25 ?_
        refine lv_topi (fun y_39 e_40 => ?_)
        have e_40 : nI (n - 1) = y_39 := (e_40.trans (pk_sub (a := n) (b := 1) (by omega))).symm
        subst e_40
        refine lv_iload_n hx hb dX7_reverse_26 rfl (lv_at hl 2 rfl) ?_
        refine lv_isub hx hb dX7_reverse_27 ?_
        refine lv_topi (fun y_41 e_42 => ?_)
        have e_42 : nI (n - 1 - i) = y_41 := (e_42.trans (pk_sub (by omega))).symm
        subst e_42
        refine lv_istore_n (lv' := [(3, .int (nI (n - 1 - i))), (0, .ref (A 0)), (1, .int (nI t)), (2, .int (nI i))]) hx hb dX7_reverse_28 rfl hl (by decide) rfl (fun ls hl => ?_)
        refine lv_iload_n hx hb dX7_reverse_29 rfl (lv_at hl 2 rfl) ?_
        refine lv_aload_n hx hb dX7_reverse_30 rfl (lv_at hl 1 rfl) ?_
        refine va_get (D := D) (ci := 7) (v := .ref (A 1)) (C := RX7) (T := TX7) (N := 15) hx hb hts kX7_reverse_0 hown hK hP 0 rfl rfl 0 (by decide) (hts (.fieldLink RX7 7 "SightRidgeModel" "m" "[I") kX7_reverse_1) (fun _ h9 => h9) rfl dX7_reverse_31 ?_
        refine lv_iconst (v := 3) hx hb dX7_reverse_34 (by decide) ?_
        refine lv_iload_n hx hb dX7_reverse_35 rfl (lv_at hl 3 rfl) ?_
        refine lv_iadd hx hb dX7_reverse_36 ?_
        refine lv_topi (fun y_43 e_44 => ?_)
        have e_44 : nI (3 + i) = y_43 := (e_44.trans (nI_add 3 i)).symm
        subst e_44
        refine va_iald hx hb hK hP 1 0 rfl rfl (i := nI (3 + i)) (vp_in_nI (N := 43) (by omega) (by decide)) dX7_reverse_37 ?_
        rw [nI_clamp (n := 3 + i) (by omega)]
        refine lv_topi (fun y_45 e_46 => ?_)
        have e_46 : G i = y_45 := (e_46.trans (hG i c0)).symm
        subst e_46
        refine lv_aload_n hx hb dX7_reverse_38 rfl (lv_at hl 1 rfl) ?_
        refine va_get (D := D) (ci := 7) (v := .ref (A 1)) (C := RX7) (T := TX7) (N := 15) hx hb hts kX7_reverse_0 hown hK hP 0 rfl rfl 0 (by decide) (hts (.fieldLink RX7 7 "SightRidgeModel" "m" "[I") kX7_reverse_1) (fun _ h9 => h9) rfl dX7_reverse_39 ?_
        refine lv_iconst (v := 3) hx hb dX7_reverse_42 (by decide) ?_
        refine lv_iload_n hx hb dX7_reverse_43 rfl (lv_at hl 0 rfl) ?_
        refine lv_iadd hx hb dX7_reverse_44 ?_
        refine lv_topi (fun y_47 e_48 => ?_)
        have e_48 : nI (3 + (n - 1 - i)) = y_47 := (e_48.trans (nI_add 3 (n - 1 - i))).symm
        subst e_48
        refine va_iald hx hb hK hP 1 0 rfl rfl (i := nI (3 + (n - 1 - i))) (vp_in_nI (N := 43) (by omega) (by decide)) dX7_reverse_45 ?_
        rw [nI_clamp (n := 3 + (n - 1 - i)) (by omega)]
        refine lv_topi (fun y_49 e_50 => ?_)
        have e_50 : G (n - 1 - i) = y_49 := (e_50.trans (hG _ (by omega))).symm
        subst e_50
        refine lv_icmp_ne (tgt := 74) hx hb dX7_reverse_46 (by decide) (fun c_46 => ?_) (fun c_46 => ?_)
        · skip
          refine lv_iconst (v := 1) hx hb dX7_reverse_74 (by decide) ?_
          refine lv_iadd hx hb dX7_reverse_75 ?_
          refine lv_topi (fun y_51 e_52 => ?_)
          have e_52 : nI (t + 1) = y_51 := (e_52.trans (nI_add t 1)).symm
          subst e_52
          refine lv_istore_n (lv' := [(1, .int (nI (t + 1))), (3, .int (nI (n - 1 - i))), (0, .ref (A 0)), (2, .int (nI i))]) hx hb dX7_reverse_76 rfl hl (by decide) rfl (fun ls hl => ?_)
          refine lv_iinc (v := nI (i + 1)) (lv' := [(2, .int (nI (i + 1))), (1, .int (nI (t + 1))), (3, .int (nI (n - 1 - i))), (0, .ref (A 0))]) hx hb dX7_reverse_77 hl (k := 3) rfl (inc1 _) (by decide) rfl (fun ls hl => ?_)
          refine lv_goto (tgt := 8) hx hb dX7_reverse_80 (by decide) ?_
          exact ih_8 (i + 1) (t + 1) (by omega) (by omega) (by first | (rw [fb_ct_T (decide_eq_true (Or.inl c_46)), ht]; done) | (rw [fb_ct_T (decide_eq_true (Or.inr c_67)), ht]; done) | (rw [fb_ct_F (decide_eq_false (fun q => q.elim (fun z => z c_46) (fun z => z c_67)))]; exact ht) | fail) _ _ hP hD hS ls (lv_sub hl [3, 1, 0] rfl)
        · skip
          refine lv_aload_n hx hb dX7_reverse_49 rfl (lv_at hl 1 rfl) ?_
          refine va_get (D := D) (ci := 7) (v := .ref (A 1)) (C := RX7) (T := TX7) (N := 15) hx hb hts kX7_reverse_0 hown hK hP 0 rfl rfl 0 (by decide) (hts (.fieldLink RX7 7 "SightRidgeModel" "m" "[I") kX7_reverse_1) (fun _ h9 => h9) rfl dX7_reverse_50 ?_
          refine lv_bipush (v := 23) hx hb dX7_reverse_53 (by decide) ?_
          refine lv_iload_n hx hb dX7_reverse_55 rfl (lv_at hl 3 rfl) ?_
          refine lv_iadd hx hb dX7_reverse_56 ?_
          refine lv_topi (fun y_53 e_54 => ?_)
          have e_54 : nI (23 + i) = y_53 := (e_54.trans (nI_add 23 i)).symm
          subst e_54
          refine va_iald hx hb hK hP 1 0 rfl rfl (i := nI (23 + i)) (vp_in_nI (N := 43) (by omega) (by decide)) dX7_reverse_57 ?_
          rw [nI_clamp (n := 23 + i) (by omega)]
          refine lv_topi (fun y_55 e_56 => ?_)
          have e_56 : M i = y_55 := (e_56.trans (hM i c0)).symm
          subst e_56
          refine lv_aload_n hx hb dX7_reverse_58 rfl (lv_at hl 1 rfl) ?_
          refine va_get (D := D) (ci := 7) (v := .ref (A 1)) (C := RX7) (T := TX7) (N := 15) hx hb hts kX7_reverse_0 hown hK hP 0 rfl rfl 0 (by decide) (hts (.fieldLink RX7 7 "SightRidgeModel" "m" "[I") kX7_reverse_1) (fun _ h9 => h9) rfl dX7_reverse_59 ?_
          refine lv_bipush (v := 23) hx hb dX7_reverse_62 (by decide) ?_
          refine lv_iload_n hx hb dX7_reverse_64 rfl (lv_at hl 0 rfl) ?_
          refine lv_iadd hx hb dX7_reverse_65 ?_
          refine lv_topi (fun y_57 e_58 => ?_)
          have e_58 : nI (23 + (n - 1 - i)) = y_57 := (e_58.trans (nI_add 23 (n - 1 - i))).symm
          subst e_58
          refine va_iald hx hb hK hP 1 0 rfl rfl (i := nI (23 + (n - 1 - i))) (vp_in_nI (N := 43) (by omega) (by decide)) dX7_reverse_66 ?_
          rw [nI_clamp (n := 23 + (n - 1 - i)) (by omega)]
          refine lv_topi (fun y_59 e_60 => ?_)
          have e_60 : M (n - 1 - i) = y_59 := (e_60.trans (hM _ (by omega))).symm
          subst e_60
          refine lv_icmp_ne (tgt := 74) hx hb dX7_reverse_67 (by decide) (fun c_67 => ?_) (fun c_67 => ?_)
          · skip
            refine lv_iconst (v := 1) hx hb dX7_reverse_74 (by decide) ?_
            refine lv_iadd hx hb dX7_reverse_75 ?_
            refine lv_topi (fun y_61 e_62 => ?_)
            have e_62 : nI (t + 1) = y_61 := (e_62.trans (nI_add t 1)).symm
            subst e_62
            refine lv_istore_n (lv' := [(1, .int (nI (t + 1))), (3, .int (nI (n - 1 - i))), (0, .ref (A 0)), (2, .int (nI i))]) hx hb dX7_reverse_76 rfl hl (by decide) rfl (fun ls hl => ?_)
            refine lv_iinc (v := nI (i + 1)) (lv' := [(2, .int (nI (i + 1))), (1, .int (nI (t + 1))), (3, .int (nI (n - 1 - i))), (0, .ref (A 0))]) hx hb dX7_reverse_77 hl (k := 3) rfl (inc1 _) (by decide) rfl (fun ls hl => ?_)
            refine lv_goto (tgt := 8) hx hb dX7_reverse_80 (by decide) ?_
            exact ih_8 (i + 1) (t + 1) (by omega) (by omega) (by first | (rw [fb_ct_T (decide_eq_true (Or.inl c_46)), ht]; done) | (rw [fb_ct_T (decide_eq_true (Or.inr c_67)), ht]; done) | (rw [fb_ct_F (decide_eq_false (fun q => q.elim (fun z => z c_46) (fun z => z c_67)))]; exact ht) | fail) _ _ hP hD hS ls (lv_sub hl [3, 1, 0] rfl)
          · skip
            refine lv_iconst (v := 0) hx hb dX7_reverse_70 (by decide) ?_
            refine lv_goto (tgt := 75) hx hb dX7_reverse_71 (by decide) ?_
            refine lv_iadd hx hb dX7_reverse_75 ?_
            refine lv_topi (fun y_63 e_64 => ?_)
            have e_64 : nI (t + 0) = y_63 := (e_64.trans (nI_add t 0)).symm
            subst e_64
            refine lv_istore_n (lv' := [(1, .int (nI (t + 0))), (3, .int (nI (n - 1 - i))), (0, .ref (A 0)), (2, .int (nI i))]) hx hb dX7_reverse_76 rfl hl (by decide) rfl (fun ls hl => ?_)
            refine lv_iinc (v := nI (i + 1)) (lv' := [(2, .int (nI (i + 1))), (1, .int (nI (t + 0))), (3, .int (nI (n - 1 - i))), (0, .ref (A 0))]) hx hb dX7_reverse_77 hl (k := 3) rfl (inc1 _) (by decide) rfl (fun ls hl => ?_)
            refine lv_goto (tgt := 8) hx hb dX7_reverse_80 (by decide) ?_
            exact ih_8 (i + 1) (t + 0) (by omega) (by omega) (by first | (rw [fb_ct_T (decide_eq_true (Or.inl c_46)), ht]; done) | (rw [fb_ct_T (decide_eq_true (Or.inr c_67)), ht]; done) | (rw [fb_ct_F (decide_eq_false (fun q => q.elim (fun z => z c_46) (fun z => z c_67)))]; exact ht) | fail) _ _ hP hD hS ls (lv_sub hl [3, 1, 0] rfl)
  exact L_8 _ 0 0 (Nat.lt_succ_self _) (by omega) (rfl) _ _ hP hD hS ls (lv_sub hl [2, 1, 0] rfl)
theorem kX7_undo_no_0 : ∀ w ∈ wsX70, w ∈ wsX7_undo := by decide +kernel
theorem kX7_undo_no_1 : (.fieldLink RX7 42 "SightRidgeModel" "undos" "I" : Cond) ∈ wsX7_undo := by decide +kernel
set_option maxHeartbeats 4000000 in
set_option maxRecDepth 100000 in
theorem c_X7_undo_no (l : Launch) (D : va_G) (cI cB cO : ClassId) (A : Nat → Nat) (n : Nat) (rg : Int32) (bl : Int32) (G : Nat → Int32) (M : Nat → Int32) (hs : List Prf) (tL : Nat) (tc : Nat → Nat) (fk : Nat) (fc : Nat → Nat)  (hok : okS n rg bl G M hs tL tc fk fc) (hno : hs = []) : Met l yX7_undo wsX7_undo (rmD 8) (mrPc D cI cB cO A [.ref (A 0)] n rg bl G M hs tL tc fk fc) (mrQi A (fun (r : Int32) (u : Unit) => r = -3) (fun (u : Unit) H => MRI D cI cB cO A H n rg bl G M hs tL tc fk fc)) 0 0 (inW (bdW A)) := by
  refine Met.ofW (cc := cX7_undo) (maxL := 2) (ret := (some .int)) (by decide) rfl ?_
  intro p e s m args below meth c s₁ B hml hv
  obtain ⟨rfl, hI, hK, hN, hA⟩ := hv
  have hx := B.exec
  have hb := B.bytes
  have hr := B.returns
  have hts := atoms_spec (ws := wsX7_undo) B.pre
  have hown : s.vm.findClass RX7 = some m.cls := findClass_of_methodNamed B.named
  have hlocks := B.notSynchronized
  have hS : va_S (inW (bdW A)) s.heap s.heap [] := va_S.rf
  obtain ⟨mm, pp, fd, tx, rgd, rmd, wy, cvr, re, at0, fa, hsh, hP, hm, hpp, hsl, htx, hfd⟩ := hI
  have hD : va_D (inW (bdW A)) [(A 0, .inr (7, [.ref (A 1), .ref (A 2), .int (nI hs.length), .ref (A 3), .int (FZ fk), .ref (A 4), .int (nI tL), .ref (A 5), .ref (A 6), .int re, .int at0, .int fa, .ref (A 7), .ref (A 8), .long hsh])), (A 1, .inl (cI, 43, .inl mm)), (A 2, .inl (cI, 430, .inl pp)), (A 3, .inl (cI, 20, .inl fd)), (A 4, .inl (cI, 120, .inl tx)), (A 5, .inl (cI, 20, .inl rgd)), (A 6, .inl (cI, 20, .inl rmd)), (A 7, .inl (cI, 20, .inl wy)), (A 8, .inl (cI, 20, .inl cvr))] := da_D hA rfl
  have hl := lv_entry ([.ref (A 0)]) (n := 2) (Nat.le_of_ble_eq_true rfl)
  rw [lg_entry_eq]
  generalize (lg_sl ([.ref (A 0)]) ++ List.replicate (2 - (lg_sl ([.ref (A 0)])).length) Slot.unset).toArray = ls at hl ⊢
  have hl : lv_has ls 2 [(0, .ref (A 0))] := hl
  obtain ⟨hokP, hokH, hL, hcc, hfk⟩ := id hok
  have hn : n ≤ 20 := hokP.2.1
  have hn2 : 2 ≤ n := hokP.1
  obtain ⟨-, -, hm0, hm1, hm2, hG, hM⟩ := id hm
  refine lv_aload_n hx hb dX7_undo_0 rfl (lv_at hl 0 rfl) ?_
  refine va_get (D := D) (ci := 7) (v := .int (nI hs.length)) (C := RX7) (T := TX7) (N := 15) hx hb hts kX7_undo_no_0 hown hK hP 0 rfl rfl 2 (by decide) (hts (.fieldLink RX7 42 "SightRidgeModel" "undos" "I") kX7_undo_no_1) (fun _ h9 => h9) rfl dX7_undo_1 ?_
  refine lv_if_ne (tgt := 10) hx hb dX7_undo_4 (by decide) (fun c_4 => ?_) (fun c_4 => ?_)
  · skip
    exact absurd (by rw [hno]; rfl) c_4
  · skip
    refine lv_bipush (v := (-3)) hx hb dX7_undo_7 (by decide) ?_
    have hI := mri_mk (D := D) (cI := cI) (cB := cB) (cO := cO) (A := A) n rg bl G M hs tL tc fk fc mm pp fd tx rgd rmd wy cvr re at0 fa hsh hP hm hpp hsl htx hfd
    refine W.iret (v := -3) hx hb hr ?_ hS.2.2 dX7_undo_9
    intro tS htS hWS
    refine ⟨⟨(-3), (), rfl, ?_, ?_⟩, ?_⟩
    · exact rfl
    · exact retM htS hI
    · exact hS.F htS
theorem kX7_undo_ok_0 : ∀ w ∈ wsX70, w ∈ wsX7_undo := by decide +kernel
theorem kX7_undo_ok_1 : (.fieldLink RX7 42 "SightRidgeModel" "undos" "I" : Cond) ∈ wsX7_undo := by decide +kernel
theorem kX7_undo_ok_2 : (.fieldLink RX7 7 "SightRidgeModel" "m" "[I" : Cond) ∈ wsX7_undo := by decide +kernel
theorem kX7_undo_ok_3 : (.fieldLink RX7 13 "SightRidgeModel" "past" "[I" : Cond) ∈ wsX7_undo := by decide +kernel
set_option maxHeartbeats 4000000 in
set_option maxRecDepth 100000 in
theorem c_X7_undo_ok (l : Launch) (D : va_G) (cI cB cO : ClassId) (A : Nat → Nat) (n : Nat) (rg : Int32) (bl : Int32) (G : Nat → Int32) (M : Nat → Int32) (hs : List Prf) (tL : Nat) (tc : Nat → Nat) (fk : Nat) (fc : Nat → Nat) (Pv : Prf) (tv : List Prf) (hok : okS n rg bl G M hs tL tc fk fc) (hhs : hs = Pv :: tv) : Met l yX7_undo wsX7_undo (rmD 8) (mrPc D cI cB cO A [.ref (A 0)] n rg bl G M hs tL tc fk fc) (mrQi A (fun (r : Int32) (u : Unit) => r = nI tv.length) (fun (u : Unit) H => MRI D cI cB cO A H Pv.1 Pv.2.1 Pv.2.2.1 Pv.2.2.2.1 Pv.2.2.2.2 tv tL tc fk fc)) 0 0 (inW (bdW A)) := by
  refine Met.ofW (cc := cX7_undo) (maxL := 2) (ret := (some .int)) (by decide) rfl ?_
  intro p e s m args below meth c s₁ B hml hv
  obtain ⟨rfl, hI, hK, hN, hA⟩ := hv
  have hx := B.exec
  have hb := B.bytes
  have hr := B.returns
  have hts := atoms_spec (ws := wsX7_undo) B.pre
  have hown : s.vm.findClass RX7 = some m.cls := findClass_of_methodNamed B.named
  have hlocks := B.notSynchronized
  have hS : va_S (inW (bdW A)) s.heap s.heap [] := va_S.rf
  obtain ⟨mm, pp, fd, tx, rgd, rmd, wy, cvr, re, at0, fa, hsh, hP, hm, hpp, hsl, htx, hfd⟩ := hI
  have hD : va_D (inW (bdW A)) [(A 0, .inr (7, [.ref (A 1), .ref (A 2), .int (nI hs.length), .ref (A 3), .int (FZ fk), .ref (A 4), .int (nI tL), .ref (A 5), .ref (A 6), .int re, .int at0, .int fa, .ref (A 7), .ref (A 8), .long hsh])), (A 1, .inl (cI, 43, .inl mm)), (A 2, .inl (cI, 430, .inl pp)), (A 3, .inl (cI, 20, .inl fd)), (A 4, .inl (cI, 120, .inl tx)), (A 5, .inl (cI, 20, .inl rgd)), (A 6, .inl (cI, 20, .inl rmd)), (A 7, .inl (cI, 20, .inl wy)), (A 8, .inl (cI, 20, .inl cvr))] := da_D hA rfl
  have hl := lv_entry ([.ref (A 0)]) (n := 2) (Nat.le_of_ble_eq_true rfl)
  rw [lg_entry_eq]
  generalize (lg_sl ([.ref (A 0)]) ++ List.replicate (2 - (lg_sl ([.ref (A 0)])).length) Slot.unset).toArray = ls at hl ⊢
  have hl : lv_has ls 2 [(0, .ref (A 0))] := hl
  obtain ⟨hokP, hokH, hL, hcc, hfk⟩ := id hok
  have hn : n ≤ 20 := hokP.2.1
  have hn2 : 2 ≤ n := hokP.1
  obtain ⟨-, -, hm0, hm1, hm2, hG, hM⟩ := id hm
  subst hhs
  have hrep := (PstR_undo hpp).2
  have hPv : okP Pv := hokH Pv List.mem_cons_self
  have hsl2 : tv.length ≤ 9 := by rw [List.length_cons] at hsl; omega
  refine lv_aload_n hx hb dX7_undo_0 rfl (lv_at hl 0 rfl) ?_
  refine va_get (D := D) (ci := 7) (v := .int (nI (Pv :: tv).length)) (C := RX7) (T := TX7) (N := 15) hx hb hts kX7_undo_ok_0 hown hK hP 0 rfl rfl 2 (by decide) (hts (.fieldLink RX7 42 "SightRidgeModel" "undos" "I") kX7_undo_ok_1) (fun _ h9 => h9) rfl dX7_undo_1 ?_
  refine lv_if_ne (tgt := 10) hx hb dX7_undo_4 (by decide) (fun c_4 => ?_) (fun c_4 => ?_)
  · skip
    refine lv_aload_n hx hb dX7_undo_10 rfl (lv_at hl 0 rfl) ?_
    refine lv_dup hx hb dX7_undo_11 rfl ?_
    refine va_get (D := D) (ci := 7) (v := .int (nI (Pv :: tv).length)) (C := RX7) (T := TX7) (N := 15) hx hb hts kX7_undo_ok_0 hown hK hP 0 rfl rfl 2 (by decide) (hts (.fieldLink RX7 42 "SightRidgeModel" "undos" "I") kX7_undo_ok_1) (fun _ h9 => h9) rfl dX7_undo_12 ?_
    refine lv_iconst (v := 1) hx hb dX7_undo_15 (by decide) ?_
    refine lv_isub hx hb dX7_undo_16 ?_
    refine lv_topi (fun y_1 e_2 => ?_)
    have e_2 : nI tv.length = y_1 := (e_2.trans (by rw [List.length_cons]; exact pk_sub (a := tv.length + 1) (b := 1) (by omega))).symm
    subst e_2
    refine va_put (D := D) (ci := 7) (v := .int (nI tv.length)) (ty := .int) (C := RX7) (T := TX7) (N := 15) hx hb hts kX7_undo_ok_0 tyX7 tyX7_ok nmX7 hown hK hP hD hS 0 rfl rfl 2 (by decide) (hts (.fieldLink RX7 42 "SightRidgeModel" "undos" "I") kX7_undo_ok_1) (fun _ h9 => h9) rfl (by decide +kernel) rfl rfl (Nat.le_of_ble_eq_true rfl) dX7_undo_17 (fun H locs hP hD hS => ?_)
    have hP : va_P D vwCl [(A 0, .inr (7, [.ref (A 1), .ref (A 2), .int (nI tv.length), .ref (A 3), .int (FZ fk), .ref (A 4), .int (nI tL), .ref (A 5), .ref (A 6), .int re, .int at0, .int fa, .ref (A 7), .ref (A 8), .long hsh])), (A 1, .inl (cI, 43, .inl mm)), (A 2, .inl (cI, 430, .inl pp)), (A 3, .inl (cI, 20, .inl fd)), (A 4, .inl (cI, 120, .inl tx)), (A 5, .inl (cI, 20, .inl rgd)), (A 6, .inl (cI, 20, .inl rmd)), (A 7, .inl (cI, 20, .inl wy)), (A 8, .inl (cI, 20, .inl cvr))] _ := hP
    have hD : va_D (inW (bdW A)) [(A 0, .inr (7, [.ref (A 1), .ref (A 2), .int (nI tv.length), .ref (A 3), .int (FZ fk), .ref (A 4), .int (nI tL), .ref (A 5), .ref (A 6), .int re, .int at0, .int fa, .ref (A 7), .ref (A 8), .long hsh])), (A 1, .inl (cI, 43, .inl mm)), (A 2, .inl (cI, 430, .inl pp)), (A 3, .inl (cI, 20, .inl fd)), (A 4, .inl (cI, 120, .inl tx)), (A 5, .inl (cI, 20, .inl rgd)), (A 6, .inl (cI, 20, .inl rmd)), (A 7, .inl (cI, 20, .inl wy)), (A 8, .inl (cI, 20, .inl cvr))] := hD
    refine lv_iconst (v := 0) hx hb dX7_undo_20 (by decide) ?_
    refine lv_istore_n (lv' := [(1, .int 0), (0, .ref (A 0))]) hx hb dX7_undo_21 rfl hl (by decide) rfl (fun ls hl => ?_)
    have e9 : ([(A 0, .inr (7, [.ref (A 1), .ref (A 2), .int (nI tv.length), .ref (A 3), .int (FZ fk), .ref (A 4), .int (nI tL), .ref (A 5), .ref (A 6), .int re, .int at0, .int fa, .ref (A 7), .ref (A 8), .long hsh])), (A 1, .inl (cI, 43, .inl mm)), (A 2, .inl (cI, 430, .inl pp)), (A 3, .inl (cI, 20, .inl fd)), (A 4, .inl (cI, 120, .inl tx)), (A 5, .inl (cI, 20, .inl rgd)), (A 6, .inl (cI, 20, .inl rmd)), (A 7, .inl (cI, 20, .inl wy)), (A 8, .inl (cI, 20, .inl cvr))] : va_W) = [(A 0, .inr (7, [.ref (A 1), .ref (A 2), .int (nI tv.length), .ref (A 3), .int (FZ fk), .ref (A 4), .int (nI tL), .ref (A 5), .ref (A 6), .int re, .int at0, .int fa, .ref (A 7), .ref (A 8), .long hsh])), (A 1, .inl (cI, 43, .inl (cpM mm pp tv.length 0))), (A 2, .inl (cI, 430, .inl pp)), (A 3, .inl (cI, 20, .inl fd)), (A 4, .inl (cI, 120, .inl tx)), (A 5, .inl (cI, 20, .inl rgd)), (A 6, .inl (cI, 20, .inl rmd)), (A 7, .inl (cI, 20, .inl wy)), (A 8, .inl (cI, 20, .inl cvr))] := congrArg (fun f9 : Nat → Int32 => ([(A 0, .inr (7, [.ref (A 1), .ref (A 2), .int (nI tv.length), .ref (A 3), .int (FZ fk), .ref (A 4), .int (nI tL), .ref (A 5), .ref (A 6), .int re, .int at0, .int fa, .ref (A 7), .ref (A 8), .long hsh])), (A 1, .inl (cI, 43, .inl f9)), (A 2, .inl (cI, 430, .inl pp)), (A 3, .inl (cI, 20, .inl fd)), (A 4, .inl (cI, 120, .inl tx)), (A 5, .inl (cI, 20, .inl rgd)), (A 6, .inl (cI, 20, .inl rmd)), (A 7, .inl (cI, 20, .inl wy)), (A 8, .inl (cI, 20, .inl cvr))] : va_W)) (show mm = cpM mm pp tv.length 0 from (cpM_0 _ _ _).symm)
    have hP := va_P_eq e9 hP
    have hD := va_D_eq e9 hD
    have L_22 : ∀ (k_22 : Nat) (i : Nat), 43 - i < k_22 → (i ≤ 43) → ∀ (H : Heap) (locs : List Loc), va_P D vwCl [(A 0, .inr (7, [.ref (A 1), .ref (A 2), .int (nI tv.length), .ref (A 3), .int (FZ fk), .ref (A 4), .int (nI tL), .ref (A 5), .ref (A 6), .int re, .int at0, .int fa, .ref (A 7), .ref (A 8), .long hsh])), (A 1, .inl (cI, 43, .inl (cpM mm pp tv.length i))), (A 2, .inl (cI, 430, .inl pp)), (A 3, .inl (cI, 20, .inl fd)), (A 4, .inl (cI, 120, .inl tx)), (A 5, .inl (cI, 20, .inl rgd)), (A 6, .inl (cI, 20, .inl rmd)), (A 7, .inl (cI, 20, .inl wy)), (A 8, .inl (cI, 20, .inl cvr))] H → va_D (inW (bdW A)) [(A 0, .inr (7, [.ref (A 1), .ref (A 2), .int (nI tv.length), .ref (A 3), .int (FZ fk), .ref (A 4), .int (nI tL), .ref (A 5), .ref (A 6), .int re, .int at0, .int fa, .ref (A 7), .ref (A 8), .long hsh])), (A 1, .inl (cI, 43, .inl (cpM mm pp tv.length i))), (A 2, .inl (cI, 430, .inl pp)), (A 3, .inl (cI, 20, .inl fd)), (A 4, .inl (cI, 120, .inl tx)), (A 5, .inl (cI, 20, .inl rgd)), (A 6, .inl (cI, 20, .inl rmd)), (A 7, .inl (cI, 20, .inl wy)), (A 8, .inl (cI, 20, .inl cvr))] → va_S (inW (bdW A)) s.heap H locs → ∀ (ls : Array Slot), lv_has ls 2 [(0, .ref (A 0)), (1, .int (nI i))] → W p l e (rmD 8) s m ([.ref (A 0)] : List Value).toArray below meth c H locs 0 0 (MQ below (mrQi A (fun (r : Int32) (u : Unit) => r = nI tv.length) (fun (u : Unit) H => MRI D cI cB cO A H Pv.1 Pv.2.1 Pv.2.2.1 Pv.2.2.2.1 Pv.2.2.2.2 tv tL tc fk fc)) ([.ref (A 0)] : List Value).toArray s 0 0 (inW (bdW A))) (F0 m 22 ls []) := by
      intro k_22
      induction k_22 with
      | zero => intro i h9; exact absurd h9 (Nat.not_lt_zero _)
      | succ k_22 ih_22 =>
        intro i hm_22 hi H locs hP hD hS ls hl
        refine lv_iload_n hx hb dX7_undo_22 rfl (lv_at hl 1 rfl) ?_
        refine lv_bipush (v := 43) hx hb dX7_undo_23 (by decide) ?_
        refine lv_icmp_ge (tgt := 54) hx hb dX7_undo_25 (by decide) (fun c_25 => ?_) (fun c_25 => ?_)
        · skip
          have c0 : 43 ≤ i := ge_t (by omega) c_25
          have ei : i = 43 := by omega
          rw [ei] at hP hD
          refine lv_aload_n hx hb dX7_undo_54 rfl (lv_at hl 0 rfl) ?_
          refine va_get (D := D) (ci := 7) (v := .int (nI tv.length)) (C := RX7) (T := TX7) (N := 15) hx hb hts kX7_undo_ok_0 hown hK hP 0 rfl rfl 2 (by decide) (hts (.fieldLink RX7 42 "SightRidgeModel" "undos" "I") kX7_undo_ok_1) (fun _ h9 => h9) rfl dX7_undo_55 ?_
          have hI := mri_mk (D := D) (cI := cI) (cB := cB) (cO := cO) (A := A) Pv.1 Pv.2.1 Pv.2.2.1 Pv.2.2.2.1 Pv.2.2.2.2 tv tL tc fk fc (cpM mm pp tv.length 43) pp fd tx rgd rmd wy cvr re at0 fa hsh hP (mok_undo hrep hPv) (PstR_undo hpp).1 (by omega) htx hfd
          refine W.iret (v := nI tv.length) hx hb hr ?_ hS.2.2 dX7_undo_58
          intro tS htS hWS
          refine ⟨⟨nI tv.length, (), rfl, ?_, ?_⟩, ?_⟩
          · exact rfl
          · exact retM htS hI
          · exact hS.F htS
        · skip
          have c0 : i < 43 := ge_f (by omega) c_25
          refine lv_aload_n hx hb dX7_undo_28 rfl (lv_at hl 0 rfl) ?_
          refine va_get (D := D) (ci := 7) (v := .ref (A 1)) (C := RX7) (T := TX7) (N := 15) hx hb hts kX7_undo_ok_0 hown hK hP 0 rfl rfl 0 (by decide) (hts (.fieldLink RX7 7 "SightRidgeModel" "m" "[I") kX7_undo_ok_2) (fun _ h9 => h9) rfl dX7_undo_29 ?_
          refine lv_iload_n hx hb dX7_undo_32 rfl (lv_at hl 1 rfl) ?_
          refine lv_aload_n hx hb dX7_undo_33 rfl (lv_at hl 0 rfl) ?_
          refine va_get (D := D) (ci := 7) (v := .ref (A 2)) (C := RX7) (T := TX7) (N := 15) hx hb hts kX7_undo_ok_0 hown hK hP 0 rfl rfl 1 (by decide) (hts (.fieldLink RX7 13 "SightRidgeModel" "past" "[I") kX7_undo_ok_3) (fun _ h9 => h9) rfl dX7_undo_34 ?_
          refine lv_bipush (v := 43) hx hb dX7_undo_37 (by decide) ?_
          refine lv_aload_n hx hb dX7_undo_39 rfl (lv_at hl 0 rfl) ?_
          refine va_get (D := D) (ci := 7) (v := .int (nI tv.length)) (C := RX7) (T := TX7) (N := 15) hx hb hts kX7_undo_ok_0 hown hK hP 0 rfl rfl 2 (by decide) (hts (.fieldLink RX7 42 "SightRidgeModel" "undos" "I") kX7_undo_ok_1) (fun _ h9 => h9) rfl dX7_undo_40 ?_
          refine lv_imul hx hb dX7_undo_43 ?_
          refine lv_topi (fun y_3 e_4 => ?_)
          have e_4 : nI (43 * tv.length) = y_3 := (e_4.trans (pk_mul 43 tv.length)).symm
          subst e_4
          refine lv_iload_n hx hb dX7_undo_44 rfl (lv_at hl 1 rfl) ?_
          refine lv_iadd hx hb dX7_undo_45 ?_
          refine lv_topi (fun y_5 e_6 => ?_)
          have e_6 : nI ((43 * tv.length) + i) = y_5 := (e_6.trans (nI_add (43 * tv.length) i)).symm
          subst e_6
          refine va_iald hx hb hK hP 2 0 rfl rfl (i := nI ((43 * tv.length) + i)) (vp_in_nI (N := 430) (by omega) (by decide)) dX7_undo_46 ?_
          rw [nI_clamp (n := (43 * tv.length) + i) (by omega)]
          refine va_iast hx hb hK hP hD hS 1 0 rfl rfl (i := nI i) (vp_in_nI (N := 43) (by omega) (by decide)) dX7_undo_47 (fun H locs hP hD hS => ?_)
          rw [nI_clamp (n := i) (by omega)] at hP hD
          have hP : va_P D vwCl [(A 0, .inr (7, [.ref (A 1), .ref (A 2), .int (nI tv.length), .ref (A 3), .int (FZ fk), .ref (A 4), .int (nI tL), .ref (A 5), .ref (A 6), .int re, .int at0, .int fa, .ref (A 7), .ref (A 8), .long hsh])), (A 1, .inl (cI, 43, .inl (upd (cpM mm pp tv.length i) i (pp ((43 * tv.length) + i))))), (A 2, .inl (cI, 430, .inl pp)), (A 3, .inl (cI, 20, .inl fd)), (A 4, .inl (cI, 120, .inl tx)), (A 5, .inl (cI, 20, .inl rgd)), (A 6, .inl (cI, 20, .inl rmd)), (A 7, .inl (cI, 20, .inl wy)), (A 8, .inl (cI, 20, .inl cvr))] _ := hP
          have hD : va_D (inW (bdW A)) [(A 0, .inr (7, [.ref (A 1), .ref (A 2), .int (nI tv.length), .ref (A 3), .int (FZ fk), .ref (A 4), .int (nI tL), .ref (A 5), .ref (A 6), .int re, .int at0, .int fa, .ref (A 7), .ref (A 8), .long hsh])), (A 1, .inl (cI, 43, .inl (upd (cpM mm pp tv.length i) i (pp ((43 * tv.length) + i))))), (A 2, .inl (cI, 430, .inl pp)), (A 3, .inl (cI, 20, .inl fd)), (A 4, .inl (cI, 120, .inl tx)), (A 5, .inl (cI, 20, .inl rgd)), (A 6, .inl (cI, 20, .inl rmd)), (A 7, .inl (cI, 20, .inl wy)), (A 8, .inl (cI, 20, .inl cvr))] := hD
          have e9 : ([(A 0, .inr (7, [.ref (A 1), .ref (A 2), .int (nI tv.length), .ref (A 3), .int (FZ fk), .ref (A 4), .int (nI tL), .ref (A 5), .ref (A 6), .int re, .int at0, .int fa, .ref (A 7), .ref (A 8), .long hsh])), (A 1, .inl (cI, 43, .inl (upd (cpM mm pp tv.length i) i (pp ((43 * tv.length) + i))))), (A 2, .inl (cI, 430, .inl pp)), (A 3, .inl (cI, 20, .inl fd)), (A 4, .inl (cI, 120, .inl tx)), (A 5, .inl (cI, 20, .inl rgd)), (A 6, .inl (cI, 20, .inl rmd)), (A 7, .inl (cI, 20, .inl wy)), (A 8, .inl (cI, 20, .inl cvr))] : va_W) = [(A 0, .inr (7, [.ref (A 1), .ref (A 2), .int (nI tv.length), .ref (A 3), .int (FZ fk), .ref (A 4), .int (nI tL), .ref (A 5), .ref (A 6), .int re, .int at0, .int fa, .ref (A 7), .ref (A 8), .long hsh])), (A 1, .inl (cI, 43, .inl (cpM mm pp tv.length (i + 1)))), (A 2, .inl (cI, 430, .inl pp)), (A 3, .inl (cI, 20, .inl fd)), (A 4, .inl (cI, 120, .inl tx)), (A 5, .inl (cI, 20, .inl rgd)), (A 6, .inl (cI, 20, .inl rmd)), (A 7, .inl (cI, 20, .inl wy)), (A 8, .inl (cI, 20, .inl cvr))] := congrArg (fun f9 : Nat → Int32 => ([(A 0, .inr (7, [.ref (A 1), .ref (A 2), .int (nI tv.length), .ref (A 3), .int (FZ fk), .ref (A 4), .int (nI tL), .ref (A 5), .ref (A 6), .int re, .int at0, .int fa, .ref (A 7), .ref (A 8), .long hsh])), (A 1, .inl (cI, 43, .inl f9)), (A 2, .inl (cI, 430, .inl pp)), (A 3, .inl (cI, 20, .inl fd)), (A 4, .inl (cI, 120, .inl tx)), (A 5, .inl (cI, 20, .inl rgd)), (A 6, .inl (cI, 20, .inl rmd)), (A 7, .inl (cI, 20, .inl wy)), (A 8, .inl (cI, 20, .inl cvr))] : va_W)) (show upd (cpM mm pp tv.length i) i (pp ((43 * tv.length) + i)) = cpM mm pp tv.length (i + 1) from cpM_s _ _ _ _)
          have hP := va_P_eq e9 hP
          have hD := va_D_eq e9 hD
          refine lv_iinc (v := nI (i + 1)) (lv' := [(1, .int (nI (i + 1))), (0, .ref (A 0))]) hx hb dX7_undo_48 hl (k := 1) rfl (inc1 _) (by decide) rfl (fun ls hl => ?_)
          refine lv_goto (tgt := 22) hx hb dX7_undo_51 (by decide) ?_
          exact ih_22 (i + 1) (by omega) (by omega) _ _ hP hD hS ls (lv_sub hl [1, 0] rfl)
    exact L_22 _ 0 (Nat.lt_succ_self _) (by omega) _ _ hP hD hS ls (lv_sub hl [1, 0] rfl)
  · skip
    exact absurd c_4 (nI_ne0 (Nat.succ_pos _) (by rw [List.length_cons]; omega))

set_option maxHeartbeats 4000000 in
set_option maxRecDepth 100000 in
theorem c_X7_type_no (l : Launch) (D : va_G) (cI cB cO : ClassId) (A : Nat → Nat) (n : Nat) (rg : Int32) (bl : Int32) (G : Nat → Int32) (M : Nat → Int32) (hs : List Prf) (tL : Nat) (tc : Nat → Nat) (fk : Nat) (fc : Nat → Nat) (x : Int32) (hok : okS n rg bl G M hs tL tc fk fc) (hno : inB x 0 127 = false) : Met l yX7_type wsX7_type (rmD 8) (mrPc D cI cB cO A [.ref (A 0), .int x] n rg bl G M hs tL tc fk fc) (mrQi A (fun (r : Int32) (u : Unit) => r = -2) (fun (u : Unit) H => MRI D cI cB cO A H n rg bl G M hs tL tc fk fc)) 0 0 (inW (bdW A)) := by
  refine Met.ofW (cc := cX7_type) (maxL := 2) (ret := (some .int)) (by decide) rfl ?_
  intro p e s m args below meth c s₁ B hml hv
  obtain ⟨rfl, hI, hK, hN, hA⟩ := hv
  have hx := B.exec
  have hb := B.bytes
  have hr := B.returns
  have hts := atoms_spec (ws := wsX7_type) B.pre
  have hown : s.vm.findClass RX7 = some m.cls := findClass_of_methodNamed B.named
  have hlocks := B.notSynchronized
  have hS : va_S (inW (bdW A)) s.heap s.heap [] := va_S.rf
  obtain ⟨mm, pp, fd, tx, rgd, rmd, wy, cvr, re, at0, fa, hsh, hP, hm, hpp, hsl, htx, hfd⟩ := hI
  have hD : va_D (inW (bdW A)) [(A 0, .inr (7, [.ref (A 1), .ref (A 2), .int (nI hs.length), .ref (A 3), .int (FZ fk), .ref (A 4), .int (nI tL), .ref (A 5), .ref (A 6), .int re, .int at0, .int fa, .ref (A 7), .ref (A 8), .long hsh])), (A 1, .inl (cI, 43, .inl mm)), (A 2, .inl (cI, 430, .inl pp)), (A 3, .inl (cI, 20, .inl fd)), (A 4, .inl (cI, 120, .inl tx)), (A 5, .inl (cI, 20, .inl rgd)), (A 6, .inl (cI, 20, .inl rmd)), (A 7, .inl (cI, 20, .inl wy)), (A 8, .inl (cI, 20, .inl cvr))] := da_D hA rfl
  have hl := lv_entry ([.ref (A 0), .int x]) (n := 2) (Nat.le_of_ble_eq_true rfl)
  rw [lg_entry_eq]
  generalize (lg_sl ([.ref (A 0), .int x]) ++ List.replicate (2 - (lg_sl ([.ref (A 0), .int x])).length) Slot.unset).toArray = ls at hl ⊢
  have hl : lv_has ls 2 [(0, .ref (A 0)), (1, .int x)] := hl
  obtain ⟨hokP, hokH, hL, hcc, hfk⟩ := id hok
  have hn : n ≤ 20 := hokP.2.1
  have hn2 : 2 ≤ n := hokP.1
  obtain ⟨-, -, hm0, hm1, hm2, hG, hM⟩ := id hm
  refine lv_iload_n hx hb dX7_type_0 rfl (lv_at hl 1 rfl) ?_
  refine lv_iconst (v := 0) hx hb dX7_type_1 (by decide) ?_
  refine lv_bipush (v := 127) hx hb dX7_type_2 (by decide) ?_
  refine rd_calli hP hS (va_runS (As := [.int x, .int 0, .int 127]) (rest := []) ⟨hx, hb, hml, hown, hts⟩ (c_X7_in l D cI cB cO x 0 127 ) (va_cwS 3 hts gX7_type_X7_in rfl rfl rfl (by decide +kernel) ⟨Nat.le_of_ble_eq_true rfl, Nat.le_of_ble_eq_true rfl⟩) (rd_preS hK (hP.pick [] rfl) hN) rfl rfl hl.1 rfl (lv_room (Nat.le_of_ble_eq_true rfl)) dX7_type_4 ⟨Nat.le_refl _, Nat.le_refl _⟩) (fun r_4 H locs h_4 hP hS => ?_)
  refine lv_if_ne (tgt := 13) hx hb dX7_type_7 (by decide) (fun c_7 => ?_) (fun c_7 => ?_)
  · skip
    have d2 := bI_n0 (fun q => c_7 (h_4.trans q))
    exact absurd hno (by rw [d2]; decide)
  · skip
    refine lv_bipush (v := (-2)) hx hb dX7_type_10 (by decide) ?_
    have hI := mri_mk (D := D) (cI := cI) (cB := cB) (cO := cO) (A := A) n rg bl G M hs tL tc fk fc mm pp fd tx rgd rmd wy cvr re at0 fa hsh hP hm hpp hsl htx hfd
    refine W.iret (v := -2) hx hb hr ?_ hS.2.2 dX7_type_12
    intro tS htS hWS
    refine ⟨⟨(-2), (), rfl, ?_, ?_⟩, ?_⟩
    · exact rfl
    · exact retM htS hI
    · exact hS.F htS
theorem kX7_type_full_0 : ∀ w ∈ wsX70, w ∈ wsX7_type := by decide +kernel
theorem kX7_type_full_1 : (.fieldLink RX7 52 "SightRidgeModel" "textLength" "I" : Cond) ∈ wsX7_type := by decide +kernel
set_option maxHeartbeats 4000000 in
set_option maxRecDepth 100000 in
theorem c_X7_type_full (l : Launch) (D : va_G) (cI cB cO : ClassId) (A : Nat → Nat) (n : Nat) (rg : Int32) (bl : Int32) (G : Nat → Int32) (M : Nat → Int32) (hs : List Prf) (tL : Nat) (tc : Nat → Nat) (fk : Nat) (fc : Nat → Nat) (v : Nat) (hok : okS n rg bl G M hs tL tc fk fc) (hv : v ≤ 127) (hful : tL = 120) : Met l yX7_type wsX7_type (rmD 8) (mrPc D cI cB cO A [.ref (A 0), .int (nI v)] n rg bl G M hs tL tc fk fc) (mrQi A (fun (r : Int32) (u : Unit) => r = -4) (fun (u : Unit) H => MRI D cI cB cO A H n rg bl G M hs tL tc fk fc)) 0 0 (inW (bdW A)) := by
  refine Met.ofW (cc := cX7_type) (maxL := 2) (ret := (some .int)) (by decide) rfl ?_
  intro p e s m args below meth c s₁ B hml hv
  obtain ⟨rfl, hI, hK, hN, hA⟩ := hv
  have hx := B.exec
  have hb := B.bytes
  have hr := B.returns
  have hts := atoms_spec (ws := wsX7_type) B.pre
  have hown : s.vm.findClass RX7 = some m.cls := findClass_of_methodNamed B.named
  have hlocks := B.notSynchronized
  have hS : va_S (inW (bdW A)) s.heap s.heap [] := va_S.rf
  obtain ⟨mm, pp, fd, tx, rgd, rmd, wy, cvr, re, at0, fa, hsh, hP, hm, hpp, hsl, htx, hfd⟩ := hI
  have hD : va_D (inW (bdW A)) [(A 0, .inr (7, [.ref (A 1), .ref (A 2), .int (nI hs.length), .ref (A 3), .int (FZ fk), .ref (A 4), .int (nI tL), .ref (A 5), .ref (A 6), .int re, .int at0, .int fa, .ref (A 7), .ref (A 8), .long hsh])), (A 1, .inl (cI, 43, .inl mm)), (A 2, .inl (cI, 430, .inl pp)), (A 3, .inl (cI, 20, .inl fd)), (A 4, .inl (cI, 120, .inl tx)), (A 5, .inl (cI, 20, .inl rgd)), (A 6, .inl (cI, 20, .inl rmd)), (A 7, .inl (cI, 20, .inl wy)), (A 8, .inl (cI, 20, .inl cvr))] := da_D hA rfl
  have hl := lv_entry ([.ref (A 0), .int (nI v)]) (n := 2) (Nat.le_of_ble_eq_true rfl)
  rw [lg_entry_eq]
  generalize (lg_sl ([.ref (A 0), .int (nI v)]) ++ List.replicate (2 - (lg_sl ([.ref (A 0), .int (nI v)])).length) Slot.unset).toArray = ls at hl ⊢
  have hl : lv_has ls 2 [(0, .ref (A 0)), (1, .int (nI v))] := hl
  obtain ⟨hokP, hokH, hL, hcc, hfk⟩ := id hok
  have hn : n ≤ 20 := hokP.2.1
  have hn2 : 2 ≤ n := hokP.1
  obtain ⟨-, -, hm0, hm1, hm2, hG, hM⟩ := id hm
  refine lv_iload_n hx hb dX7_type_0 rfl (lv_at hl 1 rfl) ?_
  refine lv_iconst (v := 0) hx hb dX7_type_1 (by decide) ?_
  refine lv_bipush (v := 127) hx hb dX7_type_2 (by decide) ?_
  refine rd_calli hP hS (va_runS (As := [.int (nI v), .int 0, .int 127]) (rest := []) ⟨hx, hb, hml, hown, hts⟩ (c_X7_in l D cI cB cO (nI v) 0 127 ) (va_cwS 3 hts gX7_type_X7_in rfl rfl rfl (by decide +kernel) ⟨Nat.le_of_ble_eq_true rfl, Nat.le_of_ble_eq_true rfl⟩) (rd_preS hK (hP.pick [] rfl) hN) rfl rfl hl.1 rfl (lv_room (Nat.le_of_ble_eq_true rfl)) dX7_type_4 ⟨Nat.le_refl _, Nat.le_refl _⟩) (fun r_4 H locs h_4 hP hS => ?_)
  refine lv_if_ne (tgt := 13) hx hb dX7_type_7 (by decide) (fun c_7 => ?_) (fun c_7 => ?_)
  · skip
    refine lv_aload_n hx hb dX7_type_13 rfl (lv_at hl 0 rfl) ?_
    refine va_get (D := D) (ci := 7) (v := .int (nI tL)) (C := RX7) (T := TX7) (N := 15) hx hb hts kX7_type_full_0 hown hK hP 0 rfl rfl 6 (by decide) (hts (.fieldLink RX7 52 "SightRidgeModel" "textLength" "I") kX7_type_full_1) (fun _ h9 => h9) rfl dX7_type_14 ?_
    refine lv_bipush (v := 120) hx hb dX7_type_17 (by decide) ?_
    refine lv_icmp_ne (tgt := 25) hx hb dX7_type_19 (by decide) (fun c_19 => ?_) (fun c_19 => ?_)
    · skip
      exact absurd (by rw [hful]; rfl) c_19
    · skip
      refine lv_bipush (v := (-4)) hx hb dX7_type_22 (by decide) ?_
      have hI := mri_mk (D := D) (cI := cI) (cB := cB) (cO := cO) (A := A) n rg bl G M hs tL tc fk fc mm pp fd tx rgd rmd wy cvr re at0 fa hsh hP hm hpp hsl htx hfd
      refine W.iret (v := -4) hx hb hr ?_ hS.2.2 dX7_type_24
      intro tS htS hWS
      refine ⟨⟨(-4), (), rfl, ?_, ?_⟩, ?_⟩
      · exact rfl
      · exact retM htS hI
      · exact hS.F htS
  · skip
    have d2 : inB (nI v) (nI 0) (nI 127) = false := bI_e0 (h_4.symm.trans c_7)
    exact absurd d2 (by rw [inB_nI (Nat.zero_le v) hv (by decide)]; decide)
theorem kX7_type_ok_0 : ∀ w ∈ wsX70, w ∈ wsX7_type := by decide +kernel
theorem kX7_type_ok_1 : (.fieldLink RX7 52 "SightRidgeModel" "textLength" "I" : Cond) ∈ wsX7_type := by decide +kernel
theorem kX7_type_ok_2 : (.fieldLink RX7 23 "SightRidgeModel" "text" "[I" : Cond) ∈ wsX7_type := by decide +kernel
set_option maxHeartbeats 4000000 in
set_option maxRecDepth 100000 in
theorem c_X7_type_ok (l : Launch) (D : va_G) (cI cB cO : ClassId) (A : Nat → Nat) (n : Nat) (rg : Int32) (bl : Int32) (G : Nat → Int32) (M : Nat → Int32) (hs : List Prf) (tL : Nat) (tc : Nat → Nat) (fk : Nat) (fc : Nat → Nat) (v : Nat) (hok : okS n rg bl G M hs tL tc fk fc) (hv : v ≤ 127) (hful : tL < 120) : Met l yX7_type wsX7_type (rmD 8) (mrPc D cI cB cO A [.ref (A 0), .int (nI v)] n rg bl G M hs tL tc fk fc) (mrQi A (fun (r : Int32) (u : Unit) => r = nI (tL + 1)) (fun (u : Unit) H => MRI D cI cB cO A H n rg bl G M hs (tL + 1) (tcU tc tL v) fk fc)) 0 0 (inW (bdW A)) := by
  refine Met.ofW (cc := cX7_type) (maxL := 2) (ret := (some .int)) (by decide) rfl ?_
  intro p e s m args below meth c s₁ B hml hv
  obtain ⟨rfl, hI, hK, hN, hA⟩ := hv
  have hx := B.exec
  have hb := B.bytes
  have hr := B.returns
  have hts := atoms_spec (ws := wsX7_type) B.pre
  have hown : s.vm.findClass RX7 = some m.cls := findClass_of_methodNamed B.named
  have hlocks := B.notSynchronized
  have hS : va_S (inW (bdW A)) s.heap s.heap [] := va_S.rf
  obtain ⟨mm, pp, fd, tx, rgd, rmd, wy, cvr, re, at0, fa, hsh, hP, hm, hpp, hsl, htx, hfd⟩ := hI
  have hD : va_D (inW (bdW A)) [(A 0, .inr (7, [.ref (A 1), .ref (A 2), .int (nI hs.length), .ref (A 3), .int (FZ fk), .ref (A 4), .int (nI tL), .ref (A 5), .ref (A 6), .int re, .int at0, .int fa, .ref (A 7), .ref (A 8), .long hsh])), (A 1, .inl (cI, 43, .inl mm)), (A 2, .inl (cI, 430, .inl pp)), (A 3, .inl (cI, 20, .inl fd)), (A 4, .inl (cI, 120, .inl tx)), (A 5, .inl (cI, 20, .inl rgd)), (A 6, .inl (cI, 20, .inl rmd)), (A 7, .inl (cI, 20, .inl wy)), (A 8, .inl (cI, 20, .inl cvr))] := da_D hA rfl
  have hl := lv_entry ([.ref (A 0), .int (nI v)]) (n := 2) (Nat.le_of_ble_eq_true rfl)
  rw [lg_entry_eq]
  generalize (lg_sl ([.ref (A 0), .int (nI v)]) ++ List.replicate (2 - (lg_sl ([.ref (A 0), .int (nI v)])).length) Slot.unset).toArray = ls at hl ⊢
  have hl : lv_has ls 2 [(0, .ref (A 0)), (1, .int (nI v))] := hl
  obtain ⟨hokP, hokH, hL, hcc, hfk⟩ := id hok
  have hn : n ≤ 20 := hokP.2.1
  have hn2 : 2 ≤ n := hokP.1
  obtain ⟨-, -, hm0, hm1, hm2, hG, hM⟩ := id hm
  refine lv_iload_n hx hb dX7_type_0 rfl (lv_at hl 1 rfl) ?_
  refine lv_iconst (v := 0) hx hb dX7_type_1 (by decide) ?_
  refine lv_bipush (v := 127) hx hb dX7_type_2 (by decide) ?_
  refine rd_calli hP hS (va_runS (As := [.int (nI v), .int 0, .int 127]) (rest := []) ⟨hx, hb, hml, hown, hts⟩ (c_X7_in l D cI cB cO (nI v) 0 127 ) (va_cwS 3 hts gX7_type_X7_in rfl rfl rfl (by decide +kernel) ⟨Nat.le_of_ble_eq_true rfl, Nat.le_of_ble_eq_true rfl⟩) (rd_preS hK (hP.pick [] rfl) hN) rfl rfl hl.1 rfl (lv_room (Nat.le_of_ble_eq_true rfl)) dX7_type_4 ⟨Nat.le_refl _, Nat.le_refl _⟩) (fun r_4 H locs h_4 hP hS => ?_)
  refine lv_if_ne (tgt := 13) hx hb dX7_type_7 (by decide) (fun c_7 => ?_) (fun c_7 => ?_)
  · skip
    refine lv_aload_n hx hb dX7_type_13 rfl (lv_at hl 0 rfl) ?_
    refine va_get (D := D) (ci := 7) (v := .int (nI tL)) (C := RX7) (T := TX7) (N := 15) hx hb hts kX7_type_ok_0 hown hK hP 0 rfl rfl 6 (by decide) (hts (.fieldLink RX7 52 "SightRidgeModel" "textLength" "I") kX7_type_ok_1) (fun _ h9 => h9) rfl dX7_type_14 ?_
    refine lv_bipush (v := 120) hx hb dX7_type_17 (by decide) ?_
    refine lv_icmp_ne (tgt := 25) hx hb dX7_type_19 (by decide) (fun c_19 => ?_) (fun c_19 => ?_)
    · skip
      refine lv_aload_n hx hb dX7_type_25 rfl (lv_at hl 0 rfl) ?_
      refine va_get (D := D) (ci := 7) (v := .ref (A 4)) (C := RX7) (T := TX7) (N := 15) hx hb hts kX7_type_ok_0 hown hK hP 0 rfl rfl 5 (by decide) (hts (.fieldLink RX7 23 "SightRidgeModel" "text" "[I") kX7_type_ok_2) (fun _ h9 => h9) rfl dX7_type_26 ?_
      refine lv_aload_n hx hb dX7_type_29 rfl (lv_at hl 0 rfl) ?_
      refine va_get (D := D) (ci := 7) (v := .int (nI tL)) (C := RX7) (T := TX7) (N := 15) hx hb hts kX7_type_ok_0 hown hK hP 0 rfl rfl 6 (by decide) (hts (.fieldLink RX7 52 "SightRidgeModel" "textLength" "I") kX7_type_ok_1) (fun _ h9 => h9) rfl dX7_type_30 ?_
      refine lv_iload_n hx hb dX7_type_33 rfl (lv_at hl 1 rfl) ?_
      refine va_iast hx hb hK hP hD hS 4 0 rfl rfl (i := nI tL) (vp_in_nI (N := 120) (by omega) (by decide)) dX7_type_34 (fun H locs hP hD hS => ?_)
      rw [nI_clamp (n := tL) (by omega)] at hP hD
      have hP : va_P D vwCl [(A 0, .inr (7, [.ref (A 1), .ref (A 2), .int (nI hs.length), .ref (A 3), .int (FZ fk), .ref (A 4), .int (nI tL), .ref (A 5), .ref (A 6), .int re, .int at0, .int fa, .ref (A 7), .ref (A 8), .long hsh])), (A 1, .inl (cI, 43, .inl mm)), (A 2, .inl (cI, 430, .inl pp)), (A 3, .inl (cI, 20, .inl fd)), (A 4, .inl (cI, 120, .inl (upd tx tL (nI v)))), (A 5, .inl (cI, 20, .inl rgd)), (A 6, .inl (cI, 20, .inl rmd)), (A 7, .inl (cI, 20, .inl wy)), (A 8, .inl (cI, 20, .inl cvr))] _ := hP
      have hD : va_D (inW (bdW A)) [(A 0, .inr (7, [.ref (A 1), .ref (A 2), .int (nI hs.length), .ref (A 3), .int (FZ fk), .ref (A 4), .int (nI tL), .ref (A 5), .ref (A 6), .int re, .int at0, .int fa, .ref (A 7), .ref (A 8), .long hsh])), (A 1, .inl (cI, 43, .inl mm)), (A 2, .inl (cI, 430, .inl pp)), (A 3, .inl (cI, 20, .inl fd)), (A 4, .inl (cI, 120, .inl (upd tx tL (nI v)))), (A 5, .inl (cI, 20, .inl rgd)), (A 6, .inl (cI, 20, .inl rmd)), (A 7, .inl (cI, 20, .inl wy)), (A 8, .inl (cI, 20, .inl cvr))] := hD
      refine lv_aload_n hx hb dX7_type_35 rfl (lv_at hl 0 rfl) ?_
      refine lv_dup hx hb dX7_type_36 rfl ?_
      refine va_get (D := D) (ci := 7) (v := .int (nI tL)) (C := RX7) (T := TX7) (N := 15) hx hb hts kX7_type_ok_0 hown hK hP 0 rfl rfl 6 (by decide) (hts (.fieldLink RX7 52 "SightRidgeModel" "textLength" "I") kX7_type_ok_1) (fun _ h9 => h9) rfl dX7_type_37 ?_
      refine lv_iconst (v := 1) hx hb dX7_type_40 (by decide) ?_
      refine lv_iadd hx hb dX7_type_41 ?_
      refine lv_topi (fun y_1 e_2 => ?_)
      have e_2 : nI (tL + 1) = y_1 := (e_2.trans (nI_add tL 1)).symm
      subst e_2
      refine va_put (D := D) (ci := 7) (v := .int (nI (tL + 1))) (ty := .int) (C := RX7) (T := TX7) (N := 15) hx hb hts kX7_type_ok_0 tyX7 tyX7_ok nmX7 hown hK hP hD hS 0 rfl rfl 6 (by decide) (hts (.fieldLink RX7 52 "SightRidgeModel" "textLength" "I") kX7_type_ok_1) (fun _ h9 => h9) rfl (by decide +kernel) rfl rfl (Nat.le_of_ble_eq_true rfl) dX7_type_42 (fun H locs hP hD hS => ?_)
      have hP : va_P D vwCl [(A 0, .inr (7, [.ref (A 1), .ref (A 2), .int (nI hs.length), .ref (A 3), .int (FZ fk), .ref (A 4), .int (nI (tL + 1)), .ref (A 5), .ref (A 6), .int re, .int at0, .int fa, .ref (A 7), .ref (A 8), .long hsh])), (A 1, .inl (cI, 43, .inl mm)), (A 2, .inl (cI, 430, .inl pp)), (A 3, .inl (cI, 20, .inl fd)), (A 4, .inl (cI, 120, .inl (upd tx tL (nI v)))), (A 5, .inl (cI, 20, .inl rgd)), (A 6, .inl (cI, 20, .inl rmd)), (A 7, .inl (cI, 20, .inl wy)), (A 8, .inl (cI, 20, .inl cvr))] _ := hP
      have hD : va_D (inW (bdW A)) [(A 0, .inr (7, [.ref (A 1), .ref (A 2), .int (nI hs.length), .ref (A 3), .int (FZ fk), .ref (A 4), .int (nI (tL + 1)), .ref (A 5), .ref (A 6), .int re, .int at0, .int fa, .ref (A 7), .ref (A 8), .long hsh])), (A 1, .inl (cI, 43, .inl mm)), (A 2, .inl (cI, 430, .inl pp)), (A 3, .inl (cI, 20, .inl fd)), (A 4, .inl (cI, 120, .inl (upd tx tL (nI v)))), (A 5, .inl (cI, 20, .inl rgd)), (A 6, .inl (cI, 20, .inl rmd)), (A 7, .inl (cI, 20, .inl wy)), (A 8, .inl (cI, 20, .inl cvr))] := hD
      refine lv_aload_n hx hb dX7_type_45 rfl (lv_at hl 0 rfl) ?_
      refine va_get (D := D) (ci := 7) (v := .int (nI (tL + 1))) (C := RX7) (T := TX7) (N := 15) hx hb hts kX7_type_ok_0 hown hK hP 0 rfl rfl 6 (by decide) (hts (.fieldLink RX7 52 "SightRidgeModel" "textLength" "I") kX7_type_ok_1) (fun _ h9 => h9) rfl dX7_type_46 ?_
      have hI := mri_mk (D := D) (cI := cI) (cB := cB) (cO := cO) (A := A) n rg bl G M hs (tL + 1) (tcU tc tL v) fk fc mm pp fd (upd tx tL (nI v)) rgd rmd wy cvr re at0 fa hsh hP hm hpp hsl (tcU_rel htx) hfd
      refine W.iret (v := nI (tL + 1)) hx hb hr ?_ hS.2.2 dX7_type_49
      intro tS htS hWS
      refine ⟨⟨nI (tL + 1), (), rfl, ?_, ?_⟩, ?_⟩
      · exact rfl
      · exact retM htS hI
      · exact hS.F htS
    · skip
      exact absurd c_19 (fun q => by have := (nI_eq (a := tL) (b := 120) (by omega) (by decide)).mp q; omega)
  · skip
    have d2 : inB (nI v) (nI 0) (nI 127) = false := bI_e0 (h_4.symm.trans c_7)
    exact absurd d2 (by rw [inB_nI (Nat.zero_le v) hv (by decide)]; decide)
theorem kX7_clearText_0 : ∀ w ∈ wsX70, w ∈ wsX7_clearText := by decide +kernel
theorem kX7_clearText_1 : (.fieldLink RX7 52 "SightRidgeModel" "textLength" "I" : Cond) ∈ wsX7_clearText := by decide +kernel
set_option maxHeartbeats 4000000 in
set_option maxRecDepth 100000 in
theorem c_X7_clearText (l : Launch) (D : va_G) (cI cB cO : ClassId) (A : Nat → Nat) (n : Nat) (rg : Int32) (bl : Int32) (G : Nat → Int32) (M : Nat → Int32) (hs : List Prf) (tL : Nat) (tc : Nat → Nat) (fk : Nat) (fc : Nat → Nat)  (hok : okS n rg bl G M hs tL tc fk fc) : Met l yX7_clearText wsX7_clearText (rmD 8) (mrPc D cI cB cO A [.ref (A 0)] n rg bl G M hs tL tc fk fc) (mrQi A (fun (r : Int32) (u : Unit) => r = nI tL) (fun (u : Unit) H => MRI D cI cB cO A H n rg bl G M hs 0 tc fk fc)) 0 0 (inW (bdW A)) := by
  refine Met.ofW (cc := cX7_clearText) (maxL := 2) (ret := (some .int)) (by decide) rfl ?_
  intro p e s m args below meth c s₁ B hml hv
  obtain ⟨rfl, hI, hK, hN, hA⟩ := hv
  have hx := B.exec
  have hb := B.bytes
  have hr := B.returns
  have hts := atoms_spec (ws := wsX7_clearText) B.pre
  have hown : s.vm.findClass RX7 = some m.cls := findClass_of_methodNamed B.named
  have hlocks := B.notSynchronized
  have hS : va_S (inW (bdW A)) s.heap s.heap [] := va_S.rf
  obtain ⟨mm, pp, fd, tx, rgd, rmd, wy, cvr, re, at0, fa, hsh, hP, hm, hpp, hsl, htx, hfd⟩ := hI
  have hD : va_D (inW (bdW A)) [(A 0, .inr (7, [.ref (A 1), .ref (A 2), .int (nI hs.length), .ref (A 3), .int (FZ fk), .ref (A 4), .int (nI tL), .ref (A 5), .ref (A 6), .int re, .int at0, .int fa, .ref (A 7), .ref (A 8), .long hsh])), (A 1, .inl (cI, 43, .inl mm)), (A 2, .inl (cI, 430, .inl pp)), (A 3, .inl (cI, 20, .inl fd)), (A 4, .inl (cI, 120, .inl tx)), (A 5, .inl (cI, 20, .inl rgd)), (A 6, .inl (cI, 20, .inl rmd)), (A 7, .inl (cI, 20, .inl wy)), (A 8, .inl (cI, 20, .inl cvr))] := da_D hA rfl
  have hl := lv_entry ([.ref (A 0)]) (n := 2) (Nat.le_of_ble_eq_true rfl)
  rw [lg_entry_eq]
  generalize (lg_sl ([.ref (A 0)]) ++ List.replicate (2 - (lg_sl ([.ref (A 0)])).length) Slot.unset).toArray = ls at hl ⊢
  have hl : lv_has ls 2 [(0, .ref (A 0))] := hl
  obtain ⟨hokP, hokH, hL, hcc, hfk⟩ := id hok
  have hn : n ≤ 20 := hokP.2.1
  have hn2 : 2 ≤ n := hokP.1
  obtain ⟨-, -, hm0, hm1, hm2, hG, hM⟩ := id hm
  refine lv_aload_n hx hb dX7_clearText_0 rfl (lv_at hl 0 rfl) ?_
  refine va_get (D := D) (ci := 7) (v := .int (nI tL)) (C := RX7) (T := TX7) (N := 15) hx hb hts kX7_clearText_0 hown hK hP 0 rfl rfl 6 (by decide) (hts (.fieldLink RX7 52 "SightRidgeModel" "textLength" "I") kX7_clearText_1) (fun _ h9 => h9) rfl dX7_clearText_1 ?_
  refine lv_istore_n (lv' := [(1, .int (nI tL)), (0, .ref (A 0))]) hx hb dX7_clearText_4 rfl hl (by decide) rfl (fun ls hl => ?_)
  refine lv_aload_n hx hb dX7_clearText_5 rfl (lv_at hl 1 rfl) ?_
  refine lv_iconst (v := 0) hx hb dX7_clearText_6 (by decide) ?_
  refine va_put (D := D) (ci := 7) (v := .int 0) (ty := .int) (C := RX7) (T := TX7) (N := 15) hx hb hts kX7_clearText_0 tyX7 tyX7_ok nmX7 hown hK hP hD hS 0 rfl rfl 6 (by decide) (hts (.fieldLink RX7 52 "SightRidgeModel" "textLength" "I") kX7_clearText_1) (fun _ h9 => h9) rfl (by decide +kernel) rfl rfl (Nat.le_of_ble_eq_true rfl) dX7_clearText_7 (fun H locs hP hD hS => ?_)
  have hP : va_P D vwCl [(A 0, .inr (7, [.ref (A 1), .ref (A 2), .int (nI hs.length), .ref (A 3), .int (FZ fk), .ref (A 4), .int 0, .ref (A 5), .ref (A 6), .int re, .int at0, .int fa, .ref (A 7), .ref (A 8), .long hsh])), (A 1, .inl (cI, 43, .inl mm)), (A 2, .inl (cI, 430, .inl pp)), (A 3, .inl (cI, 20, .inl fd)), (A 4, .inl (cI, 120, .inl tx)), (A 5, .inl (cI, 20, .inl rgd)), (A 6, .inl (cI, 20, .inl rmd)), (A 7, .inl (cI, 20, .inl wy)), (A 8, .inl (cI, 20, .inl cvr))] _ := hP
  have hD : va_D (inW (bdW A)) [(A 0, .inr (7, [.ref (A 1), .ref (A 2), .int (nI hs.length), .ref (A 3), .int (FZ fk), .ref (A 4), .int 0, .ref (A 5), .ref (A 6), .int re, .int at0, .int fa, .ref (A 7), .ref (A 8), .long hsh])), (A 1, .inl (cI, 43, .inl mm)), (A 2, .inl (cI, 430, .inl pp)), (A 3, .inl (cI, 20, .inl fd)), (A 4, .inl (cI, 120, .inl tx)), (A 5, .inl (cI, 20, .inl rgd)), (A 6, .inl (cI, 20, .inl rmd)), (A 7, .inl (cI, 20, .inl wy)), (A 8, .inl (cI, 20, .inl cvr))] := hD
  have e9 : ([(A 0, .inr (7, [.ref (A 1), .ref (A 2), .int (nI hs.length), .ref (A 3), .int (FZ fk), .ref (A 4), .int 0, .ref (A 5), .ref (A 6), .int re, .int at0, .int fa, .ref (A 7), .ref (A 8), .long hsh])), (A 1, .inl (cI, 43, .inl mm)), (A 2, .inl (cI, 430, .inl pp)), (A 3, .inl (cI, 20, .inl fd)), (A 4, .inl (cI, 120, .inl tx)), (A 5, .inl (cI, 20, .inl rgd)), (A 6, .inl (cI, 20, .inl rmd)), (A 7, .inl (cI, 20, .inl wy)), (A 8, .inl (cI, 20, .inl cvr))] : va_W) = [(A 0, .inr (7, [.ref (A 1), .ref (A 2), .int (nI hs.length), .ref (A 3), .int (FZ fk), .ref (A 4), .int (nI 0), .ref (A 5), .ref (A 6), .int re, .int at0, .int fa, .ref (A 7), .ref (A 8), .long hsh])), (A 1, .inl (cI, 43, .inl mm)), (A 2, .inl (cI, 430, .inl pp)), (A 3, .inl (cI, 20, .inl fd)), (A 4, .inl (cI, 120, .inl tx)), (A 5, .inl (cI, 20, .inl rgd)), (A 6, .inl (cI, 20, .inl rmd)), (A 7, .inl (cI, 20, .inl wy)), (A 8, .inl (cI, 20, .inl cvr))] := congrArg (fun f9 : Int32 => ([(A 0, .inr (7, [.ref (A 1), .ref (A 2), .int (nI hs.length), .ref (A 3), .int (FZ fk), .ref (A 4), .int f9, .ref (A 5), .ref (A 6), .int re, .int at0, .int fa, .ref (A 7), .ref (A 8), .long hsh])), (A 1, .inl (cI, 43, .inl mm)), (A 2, .inl (cI, 430, .inl pp)), (A 3, .inl (cI, 20, .inl fd)), (A 4, .inl (cI, 120, .inl tx)), (A 5, .inl (cI, 20, .inl rgd)), (A 6, .inl (cI, 20, .inl rmd)), (A 7, .inl (cI, 20, .inl wy)), (A 8, .inl (cI, 20, .inl cvr))] : va_W)) (show 0 = nI 0 from rfl)
  have hP := va_P_eq e9 hP
  have hD := va_D_eq e9 hD
  refine lv_iload_n hx hb dX7_clearText_10 rfl (lv_at hl 0 rfl) ?_
  have hI := mri_mk (D := D) (cI := cI) (cB := cB) (cO := cO) (A := A) n rg bl G M hs 0 tc fk fc mm pp fd tx rgd rmd wy cvr re at0 fa hsh hP hm hpp hsl (fun j hj => absurd hj (Nat.not_lt_zero j)) hfd
  refine W.iret (v := nI tL) hx hb hr ?_ hS.2.2 dX7_clearText_11
  intro tS htS hWS
  refine ⟨⟨nI tL, (), rfl, ?_, ?_⟩, ?_⟩
  · exact rfl
  · exact retM htS hI
  · exact hS.F htS
