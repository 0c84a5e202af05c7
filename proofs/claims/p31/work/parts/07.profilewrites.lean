/-! the methods of Profile that write -/
theorem retP {D : va_G} {cl : List vw_C} {ws : va_W} {t : State} {H : Heap} (h : t.heap = H) (hP : va_P D cl ws H) : va_P D cl ws t.heap := by rw [h]; exact hP
section CALLS2
variable {p : Program} {l : Launch} {e : Env} {R : Room} {s : State} {m : MethodId} {args : Array Value} {below : List Frame} {meth : Method} {c : Code} {H : Heap} {locs : List Loc} {cells slots : Nat} {Q : State → Prop}
  {Ts wsC wsC' : List Cond} {cc bytes : ByteArray} {nL maxL index n : Nat} {own C host : String} {y : MethodName} {ret : Option FieldType} {rm : Room} {b pc : Nat} {As rest st0 : List Value} {ls : Array Slot}
  {D : va_G} {tys : List (ClassId × FieldType)} {ws wc : va_W} {A0 : Nat → Prop} {H0 : Heap} {ci : Nat} {fs : List Value}
theorem wv_calli {S : Type} {post : Int32 → S → Prop} {wo : S → va_W} {a : Array Value} (hP : va_P D vwCl ws H) (hD : va_D A0 ws) (hS : va_S A0 H0 H locs) (is : List Nat) (hC : is.map (fun i => ws[i]?) = wc.map some) (hn : va_nd is = true)
    (hr : va_Run p l e R s m args below meth c H locs cells slots 0 0 (F0 m pc ls st0) rest (wrQi D wc post wo a) (inW wc)) (wn : S → va_W)
    (hw : ∀ u, wput ws is (wo u) = wn u) (ha : ∀ u, (wo u).map Prod.fst = wc.map Prod.fst)
    (kk : ∀ (r : Int32) (u : S) (H1 : Heap) (locs1 : List Loc), post r u → va_P D vwCl (wn u) H1 → va_D A0 (wn u) → va_S A0 H0 H1 locs1 → W p l e R s m args below meth c H1 locs1 cells slots Q (F0 m (pc + 3) ls (.int r :: rest))) : W p l e R s m args below meth c H locs cells slots Q (F0 m pc ls st0) :=
  va_calli hr hS (fun q _ h => inW_free hD is hC q h) (fun q h => inW_free hD is hC q h) (fun r u t H1 locs1 ht _ hp hB _ hk hS1 => by
    obtain ⟨h1, h2⟩ := wr_join hP hD is hC hn hk (by rw [← ht]; exact hB) (ha u) (hw u)
    exact kk r u H1 locs1 hp h1 h2 hS1)
theorem wv_calll {S : Type} {post : Int64 → S → Prop} {wo : S → va_W} {a : Array Value} (hP : va_P D vwCl ws H) (hD : va_D A0 ws) (hS : va_S A0 H0 H locs) (is : List Nat) (hC : is.map (fun i => ws[i]?) = wc.map some) (hn : va_nd is = true)
    (hr : va_Run p l e R s m args below meth c H locs cells slots 0 0 (F0 m pc ls st0) rest (wrQl D wc post wo a) (inW wc)) (wn : S → va_W)
    (hw : ∀ u, wput ws is (wo u) = wn u) (ha : ∀ u, (wo u).map Prod.fst = wc.map Prod.fst)
    (kk : ∀ (r : Int64) (u : S) (H1 : Heap) (locs1 : List Loc), post r u → va_P D vwCl (wn u) H1 → va_D A0 (wn u) → va_S A0 H0 H1 locs1 → W p l e R s m args below meth c H1 locs1 cells slots Q (F0 m (pc + 3) ls (.long r :: rest))) : W p l e R s m args below meth c H locs cells slots Q (F0 m pc ls st0) :=
  va_calll hr hS (fun q _ h => inW_free hD is hC q h) (fun q h => inW_free hD is hC q h) (fun r u t H1 locs1 ht _ hp hB _ hk hS1 => by
    obtain ⟨h1, h2⟩ := wr_join hP hD is hC hn hk (by rw [← ht]; exact hB) (ha u) (hw u)
    exact kk r u H1 locs1 hp h1 h2 hS1)
theorem wv_callv {S : Type} {post : S → Prop} {wo : S → va_W} {a : Array Value} (hP : va_P D vwCl ws H) (hD : va_D A0 ws) (hS : va_S A0 H0 H locs) (is : List Nat) (hC : is.map (fun i => ws[i]?) = wc.map some) (hn : va_nd is = true)
    (hr : va_Run p l e R s m args below meth c H locs cells slots 0 0 (F0 m pc ls st0) rest (wrQv D wc post wo a) (inW wc)) (wn : S → va_W)
    (hw : ∀ u, wput ws is (wo u) = wn u) (ha : ∀ u, (wo u).map Prod.fst = wc.map Prod.fst)
    (kk : ∀ (u : S) (H1 : Heap) (locs1 : List Loc), post u → va_P D vwCl (wn u) H1 → va_D A0 (wn u) → va_S A0 H0 H1 locs1 → W p l e R s m args below meth c H1 locs1 cells slots Q (F0 m (pc + 3) ls rest)) : W p l e R s m args below meth c H locs cells slots Q (F0 m pc ls st0) :=
  va_callv hr hS (fun q _ h => inW_free hD is hC q h) (fun q h => inW_free hD is hC q h) (fun u t H1 locs1 ht _ hp hB _ hk hS1 => by
    obtain ⟨h1, h2⟩ := wr_join hP hD is hC hn hk (by rw [← ht]; exact hB) (ha u) (hw u)
    exact kk u H1 locs1 hp h1 h2 hS1)
end CALLS2
theorem va_P_eq {D : va_G} {cl : List vw_C} {ws ws' : va_W} {H : Heap} (h : ws = ws') (hP : va_P D cl ws H) : va_P D cl ws' H := h ▸ hP
theorem va_D_eq {A : Nat → Prop} {ws ws' : va_W} (h : ws = ws') (hD : va_D A ws) : va_D A ws' := h ▸ hD
def app (n t : Nat) (v : Int32) (f : Nat → Int32) : Nat → Int32 := fun k => if n ≤ k ∧ k < n + t then v else f k
theorem app_0 (n : Nat) (v : Int32) (f : Nat → Int32) : app n 0 v f = f := by
  funext k; unfold app; rw [if_neg (by omega)]
theorem app_s (n t : Nat) (v : Int32) (f : Nat → Int32) : upd (app n t v f) (n + t) v = app n (t + 1) v f := by
  funext k; unfold upd app
  by_cases h : k = n + t
  · rw [if_pos h, if_pos (by omega)]
  · rw [if_neg h]
    by_cases h2 : n ≤ k ∧ k < n + t
    · rw [if_pos h2, if_pos (by omega)]
    · rw [if_neg h2, if_neg (by omega)]
def cpy (n : Nat) (f g : Nat → Int32) : Nat → Int32 := fun k => if k < n then f k else g k
theorem cpy_0 (f g : Nat → Int32) : cpy 0 f g = g := by funext k; unfold cpy; rw [if_neg (by omega)]
theorem cpy_s (n : Nat) (f g : Nat → Int32) : upd (cpy n f g) n (f n) = cpy (n + 1) f g := by
  funext k; unfold upd cpy
  by_cases h : k = n
  · rw [if_pos h, if_pos (by omega), h]
  · rw [if_neg h]
    by_cases h2 : k < n
    · rw [if_pos h2, if_pos (by omega)]
    · rw [if_neg h2, if_neg (by omega)]
theorem cpy_in {n k : Nat} (h : k < n) (f g : Nat → Int32) : cpy n f g k = f k := if_pos h
theorem kX3_clear_0 : ∀ w ∈ wsX30, w ∈ wsX3_clear := by decide +kernel
theorem kX3_clear_1 : (.fieldLink RX3 18 "SightRidge$Profile" "stations" "I" : Cond) ∈ wsX3_clear := by decide +kernel
set_option maxHeartbeats 4000000 in
set_option maxRecDepth 100000 in
/-- clear() -/
theorem c_X3_clear (l : Launch) (D : va_G) (cI cB cO : ClassId) (o ga ma : Nat) (vn rg bl : Int32) (fg fm : Nat → Int32) : Met l yX3_clear wsX3_clear (rmD 1) (wrPc D (tyL cI cB cO) [.ref o] [(o, .inr (3, [.ref ga, .ref ma, .int vn, .int rg, .int bl])), (ga, .inl (cI, 20, .inl fg)), (ma, .inl (cI, 20, .inl fm))]) (wrQv D [(o, .inr (3, [.ref ga, .ref ma, .int vn, .int rg, .int bl])), (ga, .inl (cI, 20, .inl fg)), (ma, .inl (cI, 20, .inl fm))] (fun (u : Unit) => True) (fun (u : Unit) => [(o, .inr (3, [.ref ga, .ref ma, .int 0, .int rg, .int bl])), (ga, .inl (cI, 20, .inl fg)), (ma, .inl (cI, 20, .inl fm))])) 0 0 (inW [(o, .inr (3, [.ref ga, .ref ma, .int vn, .int rg, .int bl])), (ga, .inl (cI, 20, .inl fg)), (ma, .inl (cI, 20, .inl fm))]) := by
  refine Met.ofW (cc := cX3_clear) (maxL := 1) (ret := none) (by decide) rfl ?_
  intro p e s m args below meth c s₁ B hml hv
  obtain ⟨rfl, hP, hK, hN, hD⟩ := hv
  have hx := B.exec
  have hb := B.bytes
  have hr := B.returns
  have hts := atoms_spec (ws := wsX3_clear) B.pre
  have hown : s.vm.findClass RX3 = some m.cls := findClass_of_methodNamed B.named
  have hlocks := B.notSynchronized
  have hS : va_S (inW [(o, .inr (3, [.ref ga, .ref ma, .int vn, .int rg, .int bl])), (ga, .inl (cI, 20, .inl fg)), (ma, .inl (cI, 20, .inl fm))]) s.heap s.heap [] := va_S.rf
  have hD : va_D (inW [(o, .inr (3, [.ref ga, .ref ma, .int vn, .int rg, .int bl])), (ga, .inl (cI, 20, .inl fg)), (ma, .inl (cI, 20, .inl fm))]) [(o, .inr (3, [.ref ga, .ref ma, .int vn, .int rg, .int bl])), (ga, .inl (cI, 20, .inl fg)), (ma, .inl (cI, 20, .inl fm))] := inW_self hD
  have hl := lv_entry ([.ref o]) (n := 1) (Nat.le_of_ble_eq_true rfl)
  rw [lg_entry_eq]
  generalize (lg_sl ([.ref o]) ++ List.replicate (1 - (lg_sl ([.ref o])).length) Slot.unset).toArray = ls at hl ⊢
  have hl : lv_has ls 1 [(0, .ref o)] := hl
  refine lv_aload_n hx hb dX3_clear_0 rfl (lv_at hl 0 rfl) ?_
  refine lv_iconst (v := 0) hx hb dX3_clear_1 (by decide) ?_
  refine va_put (D := D) (ci := 3) (v := .int 0) (ty := .int) (C := RX3) (T := TX3) (N := 5) hx hb hts kX3_clear_0 tyX3 tyX3_ok nmX3 hown hK hP hD hS 0 rfl rfl 2 (by decide) (hts (.fieldLink RX3 18 "SightRidge$Profile" "stations" "I") kX3_clear_1) (fun _ h9 => h9) rfl (by decide +kernel) rfl rfl (Nat.le_of_ble_eq_true rfl) dX3_clear_2 (fun H locs hP hD hS => ?_)
  have hP : va_P D vwCl [(o, .inr (3, [.ref ga, .ref ma, .int 0, .int rg, .int bl])), (ga, .inl (cI, 20, .inl fg)), (ma, .inl (cI, 20, .inl fm))] _ := hP
  have hD : va_D (inW [(o, .inr (3, [.ref ga, .ref ma, .int vn, .int rg, .int bl])), (ga, .inl (cI, 20, .inl fg)), (ma, .inl (cI, 20, .inl fm))]) [(o, .inr (3, [.ref ga, .ref ma, .int 0, .int rg, .int bl])), (ga, .inl (cI, 20, .inl fg)), (ma, .inl (cI, 20, .inl fm))] := hD
  exact W.vret hx hb hr (fun tS htS hWS => ⟨⟨(), rfl, trivial, retP htS hP⟩, hS.F htS⟩) hS.2.2 dX3_clear_5
theorem kX3_append_0 : ∀ w ∈ wsX30, w ∈ wsX3_append := by decide +kernel
theorem kX3_append_1 : (.fieldLink RX3 18 "SightRidge$Profile" "stations" "I" : Cond) ∈ wsX3_append := by decide +kernel
theorem kX3_append_2 : (.fieldLink RX3 9 "SightRidge$Profile" "grounds" "[I" : Cond) ∈ wsX3_append := by decide +kernel
theorem kX3_append_3 : (.fieldLink RX3 15 "SightRidge$Profile" "masts" "[I" : Cond) ∈ wsX3_append := by decide +kernel
set_option maxHeartbeats 4000000 in
set_option maxRecDepth 100000 in
/-- append(t, v, w) -/
theorem c_X3_append (l : Launch) (D : va_G) (cI cB cO : ClassId) (o ga ma : Nat) (n : Nat) (rg bl : Int32) (fg fm : Nat → Int32) (t : Nat) (v w : Int32) (hn : n + t ≤ 20) : Met l yX3_append wsX3_append (rmD 1) (wrPc D (tyL cI cB cO) [.ref o, .int (nI t), .int v, .int w] [(o, .inr (3, [.ref ga, .ref ma, .int (nI n), .int rg, .int bl])), (ga, .inl (cI, 20, .inl fg)), (ma, .inl (cI, 20, .inl fm))]) (wrQv D [(o, .inr (3, [.ref ga, .ref ma, .int (nI n), .int rg, .int bl])), (ga, .inl (cI, 20, .inl fg)), (ma, .inl (cI, 20, .inl fm))] (fun (u : Unit) => True) (fun (u : Unit) => [(o, .inr (3, [.ref ga, .ref ma, .int (nI (n + t)), .int rg, .int bl])), (ga, .inl (cI, 20, .inl (app n t v fg))), (ma, .inl (cI, 20, .inl (app n t w fm)))])) 0 0 (inW [(o, .inr (3, [.ref ga, .ref ma, .int (nI n), .int rg, .int bl])), (ga, .inl (cI, 20, .inl fg)), (ma, .inl (cI, 20, .inl fm))]) := by
  refine Met.ofW (cc := cX3_append) (maxL := 5) (ret := none) (by decide) rfl ?_
  intro p e s m args below meth c s₁ B hml hv
  obtain ⟨rfl, hP, hK, hN, hD⟩ := hv
  have hx := B.exec
  have hb := B.bytes
  have hr := B.returns
  have hts := atoms_spec (ws := wsX3_append) B.pre
  have hown : s.vm.findClass RX3 = some m.cls := findClass_of_methodNamed B.named
  have hlocks := B.notSynchronized
  have hS : va_S (inW [(o, .inr (3, [.ref ga, .ref ma, .int (nI n), .int rg, .int bl])), (ga, .inl (cI, 20, .inl fg)), (ma, .inl (cI, 20, .inl fm))]) s.heap s.heap [] := va_S.rf
  have hD : va_D (inW [(o, .inr (3, [.ref ga, .ref ma, .int (nI n), .int rg, .int bl])), (ga, .inl (cI, 20, .inl fg)), (ma, .inl (cI, 20, .inl fm))]) [(o, .inr (3, [.ref ga, .ref ma, .int (nI n), .int rg, .int bl])), (ga, .inl (cI, 20, .inl fg)), (ma, .inl (cI, 20, .inl fm))] := inW_self hD
  have hl := lv_entry ([.ref o, .int (nI t), .int v, .int w]) (n := 5) (Nat.le_of_ble_eq_true rfl)
  rw [lg_entry_eq]
  generalize (lg_sl ([.ref o, .int (nI t), .int v, .int w]) ++ List.replicate (5 - (lg_sl ([.ref o, .int (nI t), .int v, .int w])).length) Slot.unset).toArray = ls at hl ⊢
  have hl : lv_has ls 5 [(0, .ref o), (1, .int (nI t)), (2, .int v), (3, .int w)] := hl
  refine lv_iconst (v := 0) hx hb dX3_append_0 (by decide) ?_
  refine lv_istore (lv' := [(4, .int 0), (0, .ref o), (1, .int (nI t)), (2, .int v), (3, .int w)]) hx hb dX3_append_1 hl (by decide) rfl (fun ls hl => ?_)
  have e9 : ([(o, .inr (3, [.ref ga, .ref ma, .int (nI n), .int rg, .int bl])), (ga, .inl (cI, 20, .inl fg)), (ma, .inl (cI, 20, .inl fm))] : va_W) = [(o, .inr (3, [.ref ga, .ref ma, .int (nI n), .int rg, .int bl])), (ga, .inl (cI, 20, .inl (app n 0 v fg))), (ma, .inl (cI, 20, .inl fm))] := congrArg (fun f9 : Nat → Int32 => ([(o, .inr (3, [.ref ga, .ref ma, .int (nI n), .int rg, .int bl])), (ga, .inl (cI, 20, .inl f9)), (ma, .inl (cI, 20, .inl fm))] : va_W)) (show fg = app n 0 v fg from (app_0 _ _ _).symm)
  have hP := va_P_eq e9 hP
  have hD := va_D_eq e9 hD
  have e9 : ([(o, .inr (3, [.ref ga, .ref ma, .int (nI n), .int rg, .int bl])), (ga, .inl (cI, 20, .inl (app n 0 v fg))), (ma, .inl (cI, 20, .inl fm))] : va_W) = [(o, .inr (3, [.ref ga, .ref ma, .int (nI n), .int rg, .int bl])), (ga, .inl (cI, 20, .inl (app n 0 v fg))), (ma, .inl (cI, 20, .inl (app n 0 w fm)))] := congrArg (fun f9 : Nat → Int32 => ([(o, .inr (3, [.ref ga, .ref ma, .int (nI n), .int rg, .int bl])), (ga, .inl (cI, 20, .inl (app n 0 v fg))), (ma, .inl (cI, 20, .inl f9))] : va_W)) (show fm = app n 0 w fm from (app_0 _ _ _).symm)
  have hP := va_P_eq e9 hP
  have hD := va_D_eq e9 hD
  have L_3 : ∀ (k_3 : Nat) (i : Nat), t - i < k_3 → (i ≤ t) → ∀ (H : Heap) (locs : List Loc), va_P D vwCl [(o, .inr (3, [.ref ga, .ref ma, .int (nI (n + i)), .int rg, .int bl])), (ga, .inl (cI, 20, .inl (app n i v fg))), (ma, .inl (cI, 20, .inl (app n i w fm)))] H → va_D (inW [(o, .inr (3, [.ref ga, .ref ma, .int (nI n), .int rg, .int bl])), (ga, .inl (cI, 20, .inl fg)), (ma, .inl (cI, 20, .inl fm))]) [(o, .inr (3, [.ref ga, .ref ma, .int (nI (n + i)), .int rg, .int bl])), (ga, .inl (cI, 20, .inl (app n i v fg))), (ma, .inl (cI, 20, .inl (app n i w fm)))] → va_S (inW [(o, .inr (3, [.ref ga, .ref ma, .int (nI n), .int rg, .int bl])), (ga, .inl (cI, 20, .inl fg)), (ma, .inl (cI, 20, .inl fm))]) s.heap H locs → ∀ (ls : Array Slot), lv_has ls 5 [(0, .ref o), (1, .int (nI t)), (2, .int v), (3, .int w), (4, .int (nI i))] → W p l e (rmD 1) s m ([.ref o, .int (nI t), .int v, .int w] : List Value).toArray below meth c H locs 0 0 (MQ below (wrQv D [(o, .inr (3, [.ref ga, .ref ma, .int (nI n), .int rg, .int bl])), (ga, .inl (cI, 20, .inl fg)), (ma, .inl (cI, 20, .inl fm))] (fun (u : Unit) => True) (fun (u : Unit) => [(o, .inr (3, [.ref ga, .ref ma, .int (nI (n + t)), .int rg, .int bl])), (ga, .inl (cI, 20, .inl (app n t v fg))), (ma, .inl (cI, 20, .inl (app n t w fm)))])) ([.ref o, .int (nI t), .int v, .int w] : List Value).toArray s 0 0 (inW [(o, .inr (3, [.ref ga, .ref ma, .int (nI n), .int rg, .int bl])), (ga, .inl (cI, 20, .inl fg)), (ma, .inl (cI, 20, .inl fm))])) (F0 m 3 ls []) := by
    intro k_3
    induction k_3 with
    | zero => intro i h9; exact absurd h9 (Nat.not_lt_zero _)
    | succ k_3 ih_3 =>
      intro i hm_3 hi H locs hP hD hS ls hl
      refine lv_iload hx hb dX3_append_3 (lv_at hl 4 rfl) ?_
      refine lv_iload_n hx hb dX3_append_5 rfl (lv_at hl 1 rfl) ?_
      refine lv_icmp_ge (tgt := 54) hx hb dX3_append_6 (by decide) (fun c_6 => ?_) (fun c_6 => ?_)
      · skip
        have c0 : t ≤ i := ge_t (by omega) c_6
        have ei : i = t := by omega
        subst ei
        exact W.vret hx hb hr (fun tS htS hWS => ⟨⟨(), rfl, trivial, retP htS hP⟩, hS.F htS⟩) hS.2.2 dX3_append_54
      · skip
        have c0 : i < t := ge_f (by omega) c_6
        refine lv_aload_n hx hb dX3_append_9 rfl (lv_at hl 0 rfl) ?_
        refine va_get (D := D) (ci := 3) (v := .int (nI (n + i))) (C := RX3) (T := TX3) (N := 5) hx hb hts kX3_append_0 hown hK hP 0 rfl rfl 2 (by decide) (hts (.fieldLink RX3 18 "SightRidge$Profile" "stations" "I") kX3_append_1) (fun _ h9 => h9) rfl dX3_append_10 ?_
        refine lv_bipush (v := 20) hx hb dX3_append_13 (by decide) ?_
        refine lv_icmp_ge (tgt := 54) hx hb dX3_append_15 (by decide) (fun c_15 => ?_) (fun c_15 => ?_)
        · skip
          exact absurd (ge_t (n := 20) (by omega) c_15) (by omega)
        · skip
          refine lv_aload_n hx hb dX3_append_18 rfl (lv_at hl 0 rfl) ?_
          refine va_get (D := D) (ci := 3) (v := .ref ga) (C := RX3) (T := TX3) (N := 5) hx hb hts kX3_append_0 hown hK hP 0 rfl rfl 0 (by decide) (hts (.fieldLink RX3 9 "SightRidge$Profile" "grounds" "[I") kX3_append_2) (fun _ h9 => h9) rfl dX3_append_19 ?_
          refine lv_aload_n hx hb dX3_append_22 rfl (lv_at hl 0 rfl) ?_
          refine va_get (D := D) (ci := 3) (v := .int (nI (n + i))) (C := RX3) (T := TX3) (N := 5) hx hb hts kX3_append_0 hown hK hP 0 rfl rfl 2 (by decide) (hts (.fieldLink RX3 18 "SightRidge$Profile" "stations" "I") kX3_append_1) (fun _ h9 => h9) rfl dX3_append_23 ?_
          refine lv_iload_n hx hb dX3_append_26 rfl (lv_at hl 2 rfl) ?_
          refine va_iast hx hb hK hP hD hS 1 0 rfl rfl (i := nI (n + i)) (vp_in_nI (N := 20) (by omega) (by decide)) dX3_append_27 (fun H locs hP hD hS => ?_)
          rw [nI_clamp (n := n + i) (by omega)] at hP hD
          have hP : va_P D vwCl [(o, .inr (3, [.ref ga, .ref ma, .int (nI (n + i)), .int rg, .int bl])), (ga, .inl (cI, 20, .inl (upd (app n i v fg) (n + i) v))), (ma, .inl (cI, 20, .inl (app n i w fm)))] _ := hP
          have hD : va_D (inW [(o, .inr (3, [.ref ga, .ref ma, .int (nI n), .int rg, .int bl])), (ga, .inl (cI, 20, .inl fg)), (ma, .inl (cI, 20, .inl fm))]) [(o, .inr (3, [.ref ga, .ref ma, .int (nI (n + i)), .int rg, .int bl])), (ga, .inl (cI, 20, .inl (upd (app n i v fg) (n + i) v))), (ma, .inl (cI, 20, .inl (app n i w fm)))] := hD
          have e9 : ([(o, .inr (3, [.ref ga, .ref ma, .int (nI (n + i)), .int rg, .int bl])), (ga, .inl (cI, 20, .inl (upd (app n i v fg) (n + i) v))), (ma, .inl (cI, 20, .inl (app n i w fm)))] : va_W) = [(o, .inr (3, [.ref ga, .ref ma, .int (nI (n + i)), .int rg, .int bl])), (ga, .inl (cI, 20, .inl (app n (i + 1) v fg))), (ma, .inl (cI, 20, .inl (app n i w fm)))] := congrArg (fun f9 : Nat → Int32 => ([(o, .inr (3, [.ref ga, .ref ma, .int (nI (n + i)), .int rg, .int bl])), (ga, .inl (cI, 20, .inl f9)), (ma, .inl (cI, 20, .inl (app n i w fm)))] : va_W)) (show upd (app n i v fg) (n + i) v = app n (i + 1) v fg from app_s _ _ _ _)
          have hP := va_P_eq e9 hP
          have hD := va_D_eq e9 hD
          refine lv_aload_n hx hb dX3_append_28 rfl (lv_at hl 0 rfl) ?_
          refine va_get (D := D) (ci := 3) (v := .ref ma) (C := RX3) (T := TX3) (N := 5) hx hb hts kX3_append_0 hown hK hP 0 rfl rfl 1 (by decide) (hts (.fieldLink RX3 15 "SightRidge$Profile" "masts" "[I") kX3_append_3) (fun _ h9 => h9) rfl dX3_append_29 ?_
          refine lv_aload_n hx hb dX3_append_32 rfl (lv_at hl 0 rfl) ?_
          refine va_get (D := D) (ci := 3) (v := .int (nI (n + i))) (C := RX3) (T := TX3) (N := 5) hx hb hts kX3_append_0 hown hK hP 0 rfl rfl 2 (by decide) (hts (.fieldLink RX3 18 "SightRidge$Profile" "stations" "I") kX3_append_1) (fun _ h9 => h9) rfl dX3_append_33 ?_
          refine lv_iload_n hx hb dX3_append_36 rfl (lv_at hl 3 rfl) ?_
          refine va_iast hx hb hK hP hD hS 2 0 rfl rfl (i := nI (n + i)) (vp_in_nI (N := 20) (by omega) (by decide)) dX3_append_37 (fun H locs hP hD hS => ?_)
          rw [nI_clamp (n := n + i) (by omega)] at hP hD
          have hP : va_P D vwCl [(o, .inr (3, [.ref ga, .ref ma, .int (nI (n + i)), .int rg, .int bl])), (ga, .inl (cI, 20, .inl (app n (i + 1) v fg))), (ma, .inl (cI, 20, .inl (upd (app n i w fm) (n + i) w)))] _ := hP
          have hD : va_D (inW [(o, .inr (3, [.ref ga, .ref ma, .int (nI n), .int rg, .int bl])), (ga, .inl (cI, 20, .inl fg)), (ma, .inl (cI, 20, .inl fm))]) [(o, .inr (3, [.ref ga, .ref ma, .int (nI (n + i)), .int rg, .int bl])), (ga, .inl (cI, 20, .inl (app n (i + 1) v fg))), (ma, .inl (cI, 20, .inl (upd (app n i w fm) (n + i) w)))] := hD
          have e9 : ([(o, .inr (3, [.ref ga, .ref ma, .int (nI (n + i)), .int rg, .int bl])), (ga, .inl (cI, 20, .inl (app n (i + 1) v fg))), (ma, .inl (cI, 20, .inl (upd (app n i w fm) (n + i) w)))] : va_W) = [(o, .inr (3, [.ref ga, .ref ma, .int (nI (n + i)), .int rg, .int bl])), (ga, .inl (cI, 20, .inl (app n (i + 1) v fg))), (ma, .inl (cI, 20, .inl (app n (i + 1) w fm)))] := congrArg (fun f9 : Nat → Int32 => ([(o, .inr (3, [.ref ga, .ref ma, .int (nI (n + i)), .int rg, .int bl])), (ga, .inl (cI, 20, .inl (app n (i + 1) v fg))), (ma, .inl (cI, 20, .inl f9))] : va_W)) (show upd (app n i w fm) (n + i) w = app n (i + 1) w fm from app_s _ _ _ _)
          have hP := va_P_eq e9 hP
          have hD := va_D_eq e9 hD
          refine lv_aload_n hx hb dX3_append_38 rfl (lv_at hl 0 rfl) ?_
          refine lv_dup hx hb dX3_append_39 rfl ?_
          refine va_get (D := D) (ci := 3) (v := .int (nI (n + i))) (C := RX3) (T := TX3) (N := 5) hx hb hts kX3_append_0 hown hK hP 0 rfl rfl 2 (by decide) (hts (.fieldLink RX3 18 "SightRidge$Profile" "stations" "I") kX3_append_1) (fun _ h9 => h9) rfl dX3_append_40 ?_
          refine lv_iconst (v := 1) hx hb dX3_append_43 (by decide) ?_
          refine lv_iadd hx hb dX3_append_44 ?_
          refine lv_topi (fun y_1 e_2 => ?_)
          have e_2 : nI (n + i + 1) = y_1 := (e_2.trans (nI_add (n + i) 1)).symm
          subst e_2
          refine lv_topi (fun y_3 e_4 => ?_)
          have e_4 : nI (n + (i + 1)) = y_3 := (e_4.trans (by rw [Nat.add_assoc])).symm
          subst e_4
          refine va_put (D := D) (ci := 3) (v := .int (nI (n + (i + 1)))) (ty := .int) (C := RX3) (T := TX3) (N := 5) hx hb hts kX3_append_0 tyX3 tyX3_ok nmX3 hown hK hP hD hS 0 rfl rfl 2 (by decide) (hts (.fieldLink RX3 18 "SightRidge$Profile" "stations" "I") kX3_append_1) (fun _ h9 => h9) rfl (by decide +kernel) rfl rfl (Nat.le_of_ble_eq_true rfl) dX3_append_45 (fun H locs hP hD hS => ?_)
          have hP : va_P D vwCl [(o, .inr (3, [.ref ga, .ref ma, .int (nI (n + (i + 1))), .int rg, .int bl])), (ga, .inl (cI, 20, .inl (app n (i + 1) v fg))), (ma, .inl (cI, 20, .inl (app n (i + 1) w fm)))] _ := hP
          have hD : va_D (inW [(o, .inr (3, [.ref ga, .ref ma, .int (nI n), .int rg, .int bl])), (ga, .inl (cI, 20, .inl fg)), (ma, .inl (cI, 20, .inl fm))]) [(o, .inr (3, [.ref ga, .ref ma, .int (nI (n + (i + 1))), .int rg, .int bl])), (ga, .inl (cI, 20, .inl (app n (i + 1) v fg))), (ma, .inl (cI, 20, .inl (app n (i + 1) w fm)))] := hD
          refine lv_iinc (v := nI (i + 1)) (lv' := [(4, .int (nI (i + 1))), (0, .ref o), (1, .int (nI t)), (2, .int v), (3, .int w)]) hx hb dX3_append_48 hl (k := 4) rfl (inc1 _) (by decide) rfl (fun ls hl => ?_)
          refine lv_goto (tgt := 3) hx hb dX3_append_51 (by decide) ?_
          exact ih_3 (i + 1) (by omega) (by omega) _ _ hP hD hS ls (lv_sub hl [1, 2, 3, 4, 0] rfl)
  exact L_3 _ 0 (Nat.lt_succ_self _) (by omega) _ _ hP hD hS ls (lv_sub hl [1, 2, 3, 4, 0] rfl)
theorem kX3_takeStations_0 : ∀ w ∈ wsX30, w ∈ wsX3_takeStations := by decide +kernel
theorem kX3_takeStations_1 : (.fieldLink RX3 18 "SightRidge$Profile" "stations" "I" : Cond) ∈ wsX3_takeStations := by decide +kernel
theorem kX3_takeStations_2 : (.fieldLink RX3 9 "SightRidge$Profile" "grounds" "[I" : Cond) ∈ wsX3_takeStations := by decide +kernel
theorem kX3_takeStations_3 : (.fieldLink RX3 15 "SightRidge$Profile" "masts" "[I" : Cond) ∈ wsX3_takeStations := by decide +kernel
set_option maxHeartbeats 4000000 in
set_option maxRecDepth 100000 in
/-- takeStations(other) -/
theorem c_X3_takeStations (l : Launch) (D : va_G) (cI cB cO : ClassId) (o ga ma : Nat) (vn rg bl : Int32) (fg fm : Nat → Int32) (o2 ga2 ma2 : Nat) (n : Nat) (rg2 bl2 : Int32) (fg2 fm2 : Nat → Int32) (hn : n ≤ 20) : Met l yX3_takeStations wsX3_takeStations (rmD 1) (wrPc D (tyL cI cB cO) [.ref o, .ref o2] [(o, .inr (3, [.ref ga, .ref ma, .int vn, .int rg, .int bl])), (ga, .inl (cI, 20, .inl fg)), (ma, .inl (cI, 20, .inl fm)), (o2, .inr (3, [.ref ga2, .ref ma2, .int (nI n), .int rg2, .int bl2])), (ga2, .inl (cI, 20, .inl fg2)), (ma2, .inl (cI, 20, .inl fm2))]) (wrQv D [(o, .inr (3, [.ref ga, .ref ma, .int vn, .int rg, .int bl])), (ga, .inl (cI, 20, .inl fg)), (ma, .inl (cI, 20, .inl fm)), (o2, .inr (3, [.ref ga2, .ref ma2, .int (nI n), .int rg2, .int bl2])), (ga2, .inl (cI, 20, .inl fg2)), (ma2, .inl (cI, 20, .inl fm2))] (fun (u : Unit) => True) (fun (u : Unit) => [(o, .inr (3, [.ref ga, .ref ma, .int (nI n), .int rg, .int bl])), (ga, .inl (cI, 20, .inl (cpy n fg2 fg))), (ma, .inl (cI, 20, .inl (cpy n fm2 fm))), (o2, .inr (3, [.ref ga2, .ref ma2, .int (nI n), .int rg2, .int bl2])), (ga2, .inl (cI, 20, .inl fg2)), (ma2, .inl (cI, 20, .inl fm2))])) 0 0 (inW [(o, .inr (3, [.ref ga, .ref ma, .int vn, .int rg, .int bl])), (ga, .inl (cI, 20, .inl fg)), (ma, .inl (cI, 20, .inl fm)), (o2, .inr (3, [.ref ga2, .ref ma2, .int (nI n), .int rg2, .int bl2])), (ga2, .inl (cI, 20, .inl fg2)), (ma2, .inl (cI, 20, .inl fm2))]) := by
  refine Met.ofW (cc := cX3_takeStations) (maxL := 3) (ret := none) (by decide) rfl ?_
  intro p e s m args below meth c s₁ B hml hv
  obtain ⟨rfl, hP, hK, hN, hD⟩ := hv
  have hx := B.exec
  have hb := B.bytes
  have hr := B.returns
  have hts := atoms_spec (ws := wsX3_takeStations) B.pre
  have hown : s.vm.findClass RX3 = some m.cls := findClass_of_methodNamed B.named
  have hlocks := B.notSynchronized
  have hS : va_S (inW [(o, .inr (3, [.ref ga, .ref ma, .int vn, .int rg, .int bl])), (ga, .inl (cI, 20, .inl fg)), (ma, .inl (cI, 20, .inl fm)), (o2, .inr (3, [.ref ga2, .ref ma2, .int (nI n), .int rg2, .int bl2])), (ga2, .inl (cI, 20, .inl fg2)), (ma2, .inl (cI, 20, .inl fm2))]) s.heap s.heap [] := va_S.rf
  have hD : va_D (inW [(o, .inr (3, [.ref ga, .ref ma, .int vn, .int rg, .int bl])), (ga, .inl (cI, 20, .inl fg)), (ma, .inl (cI, 20, .inl fm)), (o2, .inr (3, [.ref ga2, .ref ma2, .int (nI n), .int rg2, .int bl2])), (ga2, .inl (cI, 20, .inl fg2)), (ma2, .inl (cI, 20, .inl fm2))]) [(o, .inr (3, [.ref ga, .ref ma, .int vn, .int rg, .int bl])), (ga, .inl (cI, 20, .inl fg)), (ma, .inl (cI, 20, .inl fm)), (o2, .inr (3, [.ref ga2, .ref ma2, .int (nI n), .int rg2, .int bl2])), (ga2, .inl (cI, 20, .inl fg2)), (ma2, .inl (cI, 20, .inl fm2))] := inW_self hD
  have hl := lv_entry ([.ref o, .ref o2]) (n := 3) (Nat.le_of_ble_eq_true rfl)
  rw [lg_entry_eq]
  generalize (lg_sl ([.ref o, .ref o2]) ++ List.replicate (3 - (lg_sl ([.ref o, .ref o2])).length) Slot.unset).toArray = ls at hl ⊢
  have hl : lv_has ls 3 [(0, .ref o), (1, .ref o2)] := hl
  refine lv_aload_n hx hb dX3_takeStations_0 rfl (lv_at hl 0 rfl) ?_
  refine lv_aload_n hx hb dX3_takeStations_1 rfl (lv_at hl 1 rfl) ?_
  refine va_get (D := D) (ci := 3) (v := .int (nI n)) (C := RX3) (T := TX3) (N := 5) hx hb hts kX3_takeStations_0 hown hK hP 3 rfl rfl 2 (by decide) (hts (.fieldLink RX3 18 "SightRidge$Profile" "stations" "I") kX3_takeStations_1) (fun _ h9 => h9) rfl dX3_takeStations_2 ?_
  refine va_put (D := D) (ci := 3) (v := .int (nI n)) (ty := .int) (C := RX3) (T := TX3) (N := 5) hx hb hts kX3_takeStations_0 tyX3 tyX3_ok nmX3 hown hK hP hD hS 0 rfl rfl 2 (by decide) (hts (.fieldLink RX3 18 "SightRidge$Profile" "stations" "I") kX3_takeStations_1) (fun _ h9 => h9) rfl (by decide +kernel) rfl rfl (Nat.le_of_ble_eq_true rfl) dX3_takeStations_5 (fun H locs hP hD hS => ?_)
  have hP : va_P D vwCl [(o, .inr (3, [.ref ga, .ref ma, .int (nI n), .int rg, .int bl])), (ga, .inl (cI, 20, .inl fg)), (ma, .inl (cI, 20, .inl fm)), (o2, .inr (3, [.ref ga2, .ref ma2, .int (nI n), .int rg2, .int bl2])), (ga2, .inl (cI, 20, .inl fg2)), (ma2, .inl (cI, 20, .inl fm2))] _ := hP
  have hD : va_D (inW [(o, .inr (3, [.ref ga, .ref ma, .int vn, .int rg, .int bl])), (ga, .inl (cI, 20, .inl fg)), (ma, .inl (cI, 20, .inl fm)), (o2, .inr (3, [.ref ga2, .ref ma2, .int (nI n), .int rg2, .int bl2])), (ga2, .inl (cI, 20, .inl fg2)), (ma2, .inl (cI, 20, .inl fm2))]) [(o, .inr (3, [.ref ga, .ref ma, .int (nI n), .int rg, .int bl])), (ga, .inl (cI, 20, .inl fg)), (ma, .inl (cI, 20, .inl fm)), (o2, .inr (3, [.ref ga2, .ref ma2, .int (nI n), .int rg2, .int bl2])), (ga2, .inl (cI, 20, .inl fg2)), (ma2, .inl (cI, 20, .inl fm2))] := hD
  refine lv_iconst (v := 0) hx hb dX3_takeStations_8 (by decide) ?_
  refine lv_istore_n (lv' := [(2, .int 0), (0, .ref o), (1, .ref o2)]) hx hb dX3_takeStations_9 rfl hl (by decide) rfl (fun ls hl => ?_)
  have e9 : ([(o, .inr (3, [.ref ga, .ref ma, .int (nI n), .int rg, .int bl])), (ga, .inl (cI, 20, .inl fg)), (ma, .inl (cI, 20, .inl fm)), (o2, .inr (3, [.ref ga2, .ref ma2, .int (nI n), .int rg2, .int bl2])), (ga2, .inl (cI, 20, .inl fg2)), (ma2, .inl (cI, 20, .inl fm2))] : va_W) = [(o, .inr (3, [.ref ga, .ref ma, .int (nI n), .int rg, .int bl])), (ga, .inl (cI, 20, .inl (cpy 0 fg2 fg))), (ma, .inl (cI, 20, .inl fm)), (o2, .inr (3, [.ref ga2, .ref ma2, .int (nI n), .int rg2, .int bl2])), (ga2, .inl (cI, 20, .inl fg2)), (ma2, .inl (cI, 20, .inl fm2))] := congrArg (fun f9 : Nat → Int32 => ([(o, .inr (3, [.ref ga, .ref ma, .int (nI n), .int rg, .int bl])), (ga, .inl (cI, 20, .inl f9)), (ma, .inl (cI, 20, .inl fm)), (o2, .inr (3, [.ref ga2, .ref ma2, .int (nI n), .int rg2, .int bl2])), (ga2, .inl (cI, 20, .inl fg2)), (ma2, .inl (cI, 20, .inl fm2))] : va_W)) (show fg = cpy 0 fg2 fg from (cpy_0 _ _).symm)
  have hP := va_P_eq e9 hP
  have hD := va_D_eq e9 hD
  have e9 : ([(o, .inr (3, [.ref ga, .ref ma, .int (nI n), .int rg, .int bl])), (ga, .inl (cI, 20, .inl (cpy 0 fg2 fg))), (ma, .inl (cI, 20, .inl fm)), (o2, .inr (3, [.ref ga2, .ref ma2, .int (nI n), .int rg2, .int bl2])), (ga2, .inl (cI, 20, .inl fg2)), (ma2, .inl (cI, 20, .inl fm2))] : va_W) = [(o, .inr (3, [.ref ga, .ref ma, .int (nI n), .int rg, .int bl])), (ga, .inl (cI, 20, .inl (cpy 0 fg2 fg))), (ma, .inl (cI, 20, .inl (cpy 0 fm2 fm))), (o2, .inr (3, [.ref ga2, .ref ma2, .int (nI n), .int rg2, .int bl2])), (ga2, .inl (cI, 20, .inl fg2)), (ma2, .inl (cI, 20, .inl fm2))] := congrArg (fun f9 : Nat → Int32 => ([(o, .inr (3, [.ref ga, .ref ma, .int (nI n), .int rg, .int bl])), (ga, .inl (cI, 20, .inl (cpy 0 fg2 fg))), (ma, .inl (cI, 20, .inl f9)), (o2, .inr (3, [.ref ga2, .ref ma2, .int (nI n), .int rg2, .int bl2])), (ga2, .inl (cI, 20, .inl fg2)), (ma2, .inl (cI, 20, .inl fm2))] : va_W)) (show fm = cpy 0 fm2 fm from (cpy_0 _ _).symm)
  have hP := va_P_eq e9 hP
  have hD := va_D_eq e9 hD
  have L_10 : ∀ (k_10 : Nat) (i : Nat), n - i < k_10 → (i ≤ n) → ∀ (H : Heap) (locs : List Loc), va_P D vwCl [(o, .inr (3, [.ref ga, .ref ma, .int (nI n), .int rg, .int bl])), (ga, .inl (cI, 20, .inl (cpy i fg2 fg))), (ma, .inl (cI, 20, .inl (cpy i fm2 fm))), (o2, .inr (3, [.ref ga2, .ref ma2, .int (nI n), .int rg2, .int bl2])), (ga2, .inl (cI, 20, .inl fg2)), (ma2, .inl (cI, 20, .inl fm2))] H → va_D (inW [(o, .inr (3, [.ref ga, .ref ma, .int vn, .int rg, .int bl])), (ga, .inl (cI, 20, .inl fg)), (ma, .inl (cI, 20, .inl fm)), (o2, .inr (3, [.ref ga2, .ref ma2, .int (nI n), .int rg2, .int bl2])), (ga2, .inl (cI, 20, .inl fg2)), (ma2, .inl (cI, 20, .inl fm2))]) [(o, .inr (3, [.ref ga, .ref ma, .int (nI n), .int rg, .int bl])), (ga, .inl (cI, 20, .inl (cpy i fg2 fg))), (ma, .inl (cI, 20, .inl (cpy i fm2 fm))), (o2, .inr (3, [.ref ga2, .ref ma2, .int (nI n), .int rg2, .int bl2])), (ga2, .inl (cI, 20, .inl fg2)), (ma2, .inl (cI, 20, .inl fm2))] → va_S (inW [(o, .inr (3, [.ref ga, .ref ma, .int vn, .int rg, .int bl])), (ga, .inl (cI, 20, .inl fg)), (ma, .inl (cI, 20, .inl fm)), (o2, .inr (3, [.ref ga2, .ref ma2, .int (nI n), .int rg2, .int bl2])), (ga2, .inl (cI, 20, .inl fg2)), (ma2, .inl (cI, 20, .inl fm2))]) s.heap H locs → ∀ (ls : Array Slot), lv_has ls 3 [(0, .ref o), (1, .ref o2), (2, .int (nI i))] → W p l e (rmD 1) s m ([.ref o, .ref o2] : List Value).toArray below meth c H locs 0 0 (MQ below (wrQv D [(o, .inr (3, [.ref ga, .ref ma, .int vn, .int rg, .int bl])), (ga, .inl (cI, 20, .inl fg)), (ma, .inl (cI, 20, .inl fm)), (o2, .inr (3, [.ref ga2, .ref ma2, .int (nI n), .int rg2, .int bl2])), (ga2, .inl (cI, 20, .inl fg2)), (ma2, .inl (cI, 20, .inl fm2))] (fun (u : Unit) => True) (fun (u : Unit) => [(o, .inr (3, [.ref ga, .ref ma, .int (nI n), .int rg, .int bl])), (ga, .inl (cI, 20, .inl (cpy n fg2 fg))), (ma, .inl (cI, 20, .inl (cpy n fm2 fm))), (o2, .inr (3, [.ref ga2, .ref ma2, .int (nI n), .int rg2, .int bl2])), (ga2, .inl (cI, 20, .inl fg2)), (ma2, .inl (cI, 20, .inl fm2))])) ([.ref o, .ref o2] : List Value).toArray s 0 0 (inW [(o, .inr (3, [.ref ga, .ref ma, .int vn, .int rg, .int bl])), (ga, .inl (cI, 20, .inl fg)), (ma, .inl (cI, 20, .inl fm)), (o2, .inr (3, [.ref ga2, .ref ma2, .int (nI n), .int rg2, .int bl2])), (ga2, .inl (cI, 20, .inl fg2)), (ma2, .inl (cI, 20, .inl fm2))])) (F0 m 10 ls []) := by
    intro k_10
    induction k_10 with
    | zero => intro i h9; exact absurd h9 (Nat.not_lt_zero _)
    | succ k_10 ih_10 =>
      intro i hm_10 hi H locs hP hD hS ls hl
      refine lv_iload_n hx hb dX3_takeStations_10 rfl (lv_at hl 2 rfl) ?_
      refine lv_aload_n hx hb dX3_takeStations_11 rfl (lv_at hl 0 rfl) ?_
      refine va_get (D := D) (ci := 3) (v := .int (nI n)) (C := RX3) (T := TX3) (N := 5) hx hb hts kX3_takeStations_0 hown hK hP 0 rfl rfl 2 (by decide) (hts (.fieldLink RX3 18 "SightRidge$Profile" "stations" "I") kX3_takeStations_1) (fun _ h9 => h9) rfl dX3_takeStations_12 ?_
      refine lv_icmp_ge (tgt := 48) hx hb dX3_takeStations_15 (by decide) (fun c_15 => ?_) (fun c_15 => ?_)
      · skip
        have c0 : n ≤ i := ge_t (by omega) c_15
        have ei : i = n := by omega
        subst ei
        exact W.vret hx hb hr (fun tS htS hWS => ⟨⟨(), rfl, trivial, retP htS hP⟩, hS.F htS⟩) hS.2.2 dX3_takeStations_48
      · skip
        have c0 : i < n := ge_f (by omega) c_15
        refine lv_aload_n hx hb dX3_takeStations_18 rfl (lv_at hl 0 rfl) ?_
        refine va_get (D := D) (ci := 3) (v := .ref ga) (C := RX3) (T := TX3) (N := 5) hx hb hts kX3_takeStations_0 hown hK hP 0 rfl rfl 0 (by decide) (hts (.fieldLink RX3 9 "SightRidge$Profile" "grounds" "[I") kX3_takeStations_2) (fun _ h9 => h9) rfl dX3_takeStations_19 ?_
        refine lv_iload_n hx hb dX3_takeStations_22 rfl (lv_at hl 2 rfl) ?_
        refine lv_aload_n hx hb dX3_takeStations_23 rfl (lv_at hl 1 rfl) ?_
        refine va_get (D := D) (ci := 3) (v := .ref ga2) (C := RX3) (T := TX3) (N := 5) hx hb hts kX3_takeStations_0 hown hK hP 3 rfl rfl 0 (by decide) (hts (.fieldLink RX3 9 "SightRidge$Profile" "grounds" "[I") kX3_takeStations_2) (fun _ h9 => h9) rfl dX3_takeStations_24 ?_
        refine lv_iload_n hx hb dX3_takeStations_27 rfl (lv_at hl 2 rfl) ?_
        refine va_iald hx hb hK hP 4 0 rfl rfl (i := nI i) (vp_in_nI (N := 20) (by omega) (by decide)) dX3_takeStations_28 ?_
        rw [nI_clamp (n := i) (by omega)]
        refine va_iast hx hb hK hP hD hS 1 0 rfl rfl (i := nI i) (vp_in_nI (N := 20) (by omega) (by decide)) dX3_takeStations_29 (fun H locs hP hD hS => ?_)
        rw [nI_clamp (n := i) (by omega)] at hP hD
        have hP : va_P D vwCl [(o, .inr (3, [.ref ga, .ref ma, .int (nI n), .int rg, .int bl])), (ga, .inl (cI, 20, .inl (upd (cpy i fg2 fg) i (fg2 i)))), (ma, .inl (cI, 20, .inl (cpy i fm2 fm))), (o2, .inr (3, [.ref ga2, .ref ma2, .int (nI n), .int rg2, .int bl2])), (ga2, .inl (cI, 20, .inl fg2)), (ma2, .inl (cI, 20, .inl fm2))] _ := hP
        have hD : va_D (inW [(o, .inr (3, [.ref ga, .ref ma, .int vn, .int rg, .int bl])), (ga, .inl (cI, 20, .inl fg)), (ma, .inl (cI, 20, .inl fm)), (o2, .inr (3, [.ref ga2, .ref ma2, .int (nI n), .int rg2, .int bl2])), (ga2, .inl (cI, 20, .inl fg2)), (ma2, .inl (cI, 20, .inl fm2))]) [(o, .inr (3, [.ref ga, .ref ma, .int (nI n), .int rg, .int bl])), (ga, .inl (cI, 20, .inl (upd (cpy i fg2 fg) i (fg2 i)))), (ma, .inl (cI, 20, .inl (cpy i fm2 fm))), (o2, .inr (3, [.ref ga2, .ref ma2, .int (nI n), .int rg2, .int bl2])), (ga2, .inl (cI, 20, .inl fg2)), (ma2, .inl (cI, 20, .inl fm2))] := hD
        have e9 : ([(o, .inr (3, [.ref ga, .ref ma, .int (nI n), .int rg, .int bl])), (ga, .inl (cI, 20, .inl (upd (cpy i fg2 fg) i (fg2 i)))), (ma, .inl (cI, 20, .inl (cpy i fm2 fm))), (o2, .inr (3, [.ref ga2, .ref ma2, .int (nI n), .int rg2, .int bl2])), (ga2, .inl (cI, 20, .inl fg2)), (ma2, .inl (cI, 20, .inl fm2))] : va_W) = [(o, .inr (3, [.ref ga, .ref ma, .int (nI n), .int rg, .int bl])), (ga, .inl (cI, 20, .inl (cpy (i + 1) fg2 fg))), (ma, .inl (cI, 20, .inl (cpy i fm2 fm))), (o2, .inr (3, [.ref ga2, .ref ma2, .int (nI n), .int rg2, .int bl2])), (ga2, .inl (cI, 20, .inl fg2)), (ma2, .inl (cI, 20, .inl fm2))] := congrArg (fun f9 : Nat → Int32 => ([(o, .inr (3, [.ref ga, .ref ma, .int (nI n), .int rg, .int bl])), (ga, .inl (cI, 20, .inl f9)), (ma, .inl (cI, 20, .inl (cpy i fm2 fm))), (o2, .inr (3, [.ref ga2, .ref ma2, .int (nI n), .int rg2, .int bl2])), (ga2, .inl (cI, 20, .inl fg2)), (ma2, .inl (cI, 20, .inl fm2))] : va_W)) (show upd (cpy i fg2 fg) i (fg2 i) = cpy (i + 1) fg2 fg from cpy_s _ _ _)
        have hP := va_P_eq e9 hP
        have hD := va_D_eq e9 hD
        refine lv_aload_n hx hb dX3_takeStations_30 rfl (lv_at hl 0 rfl) ?_
        refine va_get (D := D) (ci := 3) (v := .ref ma) (C := RX3) (T := TX3) (N := 5) hx hb hts kX3_takeStations_0 hown hK hP 0 rfl rfl 1 (by decide) (hts (.fieldLink RX3 15 "SightRidge$Profile" "masts" "[I") kX3_takeStations_3) (fun _ h9 => h9) rfl dX3_takeStations_31 ?_
        refine lv_iload_n hx hb dX3_takeStations_34 rfl (lv_at hl 2 rfl) ?_
        refine lv_aload_n hx hb dX3_takeStations_35 rfl (lv_at hl 1 rfl) ?_
        refine va_get (D := D) (ci := 3) (v := .ref ma2) (C := RX3) (T := TX3) (N := 5) hx hb hts kX3_takeStations_0 hown hK hP 3 rfl rfl 1 (by decide) (hts (.fieldLink RX3 15 "SightRidge$Profile" "masts" "[I") kX3_takeStations_3) (fun _ h9 => h9) rfl dX3_takeStations_36 ?_
        refine lv_iload_n hx hb dX3_takeStations_39 rfl (lv_at hl 2 rfl) ?_
        refine va_iald hx hb hK hP 5 0 rfl rfl (i := nI i) (vp_in_nI (N := 20) (by omega) (by decide)) dX3_takeStations_40 ?_
        rw [nI_clamp (n := i) (by omega)]
        refine va_iast hx hb hK hP hD hS 2 0 rfl rfl (i := nI i) (vp_in_nI (N := 20) (by omega) (by decide)) dX3_takeStations_41 (fun H locs hP hD hS => ?_)
        rw [nI_clamp (n := i) (by omega)] at hP hD
        have hP : va_P D vwCl [(o, .inr (3, [.ref ga, .ref ma, .int (nI n), .int rg, .int bl])), (ga, .inl (cI, 20, .inl (cpy (i + 1) fg2 fg))), (ma, .inl (cI, 20, .inl (upd (cpy i fm2 fm) i (fm2 i)))), (o2, .inr (3, [.ref ga2, .ref ma2, .int (nI n), .int rg2, .int bl2])), (ga2, .inl (cI, 20, .inl fg2)), (ma2, .inl (cI, 20, .inl fm2))] _ := hP
        have hD : va_D (inW [(o, .inr (3, [.ref ga, .ref ma, .int vn, .int rg, .int bl])), (ga, .inl (cI, 20, .inl fg)), (ma, .inl (cI, 20, .inl fm)), (o2, .inr (3, [.ref ga2, .ref ma2, .int (nI n), .int rg2, .int bl2])), (ga2, .inl (cI, 20, .inl fg2)), (ma2, .inl (cI, 20, .inl fm2))]) [(o, .inr (3, [.ref ga, .ref ma, .int (nI n), .int rg, .int bl])), (ga, .inl (cI, 20, .inl (cpy (i + 1) fg2 fg))), (ma, .inl (cI, 20, .inl (upd (cpy i fm2 fm) i (fm2 i)))), (o2, .inr (3, [.ref ga2, .ref ma2, .int (nI n), .int rg2, .int bl2])), (ga2, .inl (cI, 20, .inl fg2)), (ma2, .inl (cI, 20, .inl fm2))] := hD
        have e9 : ([(o, .inr (3, [.ref ga, .ref ma, .int (nI n), .int rg, .int bl])), (ga, .inl (cI, 20, .inl (cpy (i + 1) fg2 fg))), (ma, .inl (cI, 20, .inl (upd (cpy i fm2 fm) i (fm2 i)))), (o2, .inr (3, [.ref ga2, .ref ma2, .int (nI n), .int rg2, .int bl2])), (ga2, .inl (cI, 20, .inl fg2)), (ma2, .inl (cI, 20, .inl fm2))] : va_W) = [(o, .inr (3, [.ref ga, .ref ma, .int (nI n), .int rg, .int bl])), (ga, .inl (cI, 20, .inl (cpy (i + 1) fg2 fg))), (ma, .inl (cI, 20, .inl (cpy (i + 1) fm2 fm))), (o2, .inr (3, [.ref ga2, .ref ma2, .int (nI n), .int rg2, .int bl2])), (ga2, .inl (cI, 20, .inl fg2)), (ma2, .inl (cI, 20, .inl fm2))] := congrArg (fun f9 : Nat → Int32 => ([(o, .inr (3, [.ref ga, .ref ma, .int (nI n), .int rg, .int bl])), (ga, .inl (cI, 20, .inl (cpy (i + 1) fg2 fg))), (ma, .inl (cI, 20, .inl f9)), (o2, .inr (3, [.ref ga2, .ref ma2, .int (nI n), .int rg2, .int bl2])), (ga2, .inl (cI, 20, .inl fg2)), (ma2, .inl (cI, 20, .inl fm2))] : va_W)) (show upd (cpy i fm2 fm) i (fm2 i) = cpy (i + 1) fm2 fm from cpy_s _ _ _)
        have hP := va_P_eq e9 hP
        have hD := va_D_eq e9 hD
        refine lv_iinc (v := nI (i + 1)) (lv' := [(2, .int (nI (i + 1))), (0, .ref o), (1, .ref o2)]) hx hb dX3_takeStations_42 hl (k := 2) rfl (inc1 _) (by decide) rfl (fun ls hl => ?_)
        refine lv_goto (tgt := 10) hx hb dX3_takeStations_45 (by decide) ?_
        exact ih_10 (i + 1) (by omega) (by omega) _ _ hP hD hS ls (lv_sub hl [1, 2, 0] rfl)
  exact L_10 _ 0 (Nat.lt_succ_self _) (by omega) _ _ hP hD hS ls (lv_sub hl [1, 2, 0] rfl)
theorem kX3_copyFrom_0 : ∀ w ∈ wsX30, w ∈ wsX3_copyFrom := by decide +kernel
theorem kX3_copyFrom_1 : (.fieldLink RX3 22 "SightRidge$Profile" "range" "I" : Cond) ∈ wsX3_copyFrom := by decide +kernel
theorem kX3_copyFrom_2 : (.fieldLink RX3 25 "SightRidge$Profile" "bulge" "I" : Cond) ∈ wsX3_copyFrom := by decide +kernel
set_option maxHeartbeats 4000000 in
set_option maxRecDepth 100000 in
/-- copyFrom(other) -/
theorem c_X3_copyFrom (l : Launch) (D : va_G) (cI cB cO : ClassId) (o ga ma : Nat) (vn rg bl : Int32) (fg fm : Nat → Int32) (o2 ga2 ma2 : Nat) (n : Nat) (rg2 bl2 : Int32) (fg2 fm2 : Nat → Int32) (hn : n ≤ 20) : Met l yX3_copyFrom wsX3_copyFrom (rmD 2) (wrPc D (tyL cI cB cO) [.ref o, .ref o2] [(o, .inr (3, [.ref ga, .ref ma, .int vn, .int rg, .int bl])), (ga, .inl (cI, 20, .inl fg)), (ma, .inl (cI, 20, .inl fm)), (o2, .inr (3, [.ref ga2, .ref ma2, .int (nI n), .int rg2, .int bl2])), (ga2, .inl (cI, 20, .inl fg2)), (ma2, .inl (cI, 20, .inl fm2))]) (wrQv D [(o, .inr (3, [.ref ga, .ref ma, .int vn, .int rg, .int bl])), (ga, .inl (cI, 20, .inl fg)), (ma, .inl (cI, 20, .inl fm)), (o2, .inr (3, [.ref ga2, .ref ma2, .int (nI n), .int rg2, .int bl2])), (ga2, .inl (cI, 20, .inl fg2)), (ma2, .inl (cI, 20, .inl fm2))] (fun (u : Unit) => True) (fun (u : Unit) => [(o, .inr (3, [.ref ga, .ref ma, .int (nI n), .int rg2, .int bl2])), (ga, .inl (cI, 20, .inl (cpy n fg2 fg))), (ma, .inl (cI, 20, .inl (cpy n fm2 fm))), (o2, .inr (3, [.ref ga2, .ref ma2, .int (nI n), .int rg2, .int bl2])), (ga2, .inl (cI, 20, .inl fg2)), (ma2, .inl (cI, 20, .inl fm2))])) 0 0 (inW [(o, .inr (3, [.ref ga, .ref ma, .int vn, .int rg, .int bl])), (ga, .inl (cI, 20, .inl fg)), (ma, .inl (cI, 20, .inl fm)), (o2, .inr (3, [.ref ga2, .ref ma2, .int (nI n), .int rg2, .int bl2])), (ga2, .inl (cI, 20, .inl fg2)), (ma2, .inl (cI, 20, .inl fm2))]) := by
  refine Met.ofW (cc := cX3_copyFrom) (maxL := 2) (ret := none) (by decide) rfl ?_
  intro p e s m args below meth c s₁ B hml hv
  obtain ⟨rfl, hP, hK, hN, hD⟩ := hv
  have hx := B.exec
  have hb := B.bytes
  have hr := B.returns
  have hts := atoms_spec (ws := wsX3_copyFrom) B.pre
  have hown : s.vm.findClass RX3 = some m.cls := findClass_of_methodNamed B.named
  have hlocks := B.notSynchronized
  have hS : va_S (inW [(o, .inr (3, [.ref ga, .ref ma, .int vn, .int rg, .int bl])), (ga, .inl (cI, 20, .inl fg)), (ma, .inl (cI, 20, .inl fm)), (o2, .inr (3, [.ref ga2, .ref ma2, .int (nI n), .int rg2, .int bl2])), (ga2, .inl (cI, 20, .inl fg2)), (ma2, .inl (cI, 20, .inl fm2))]) s.heap s.heap [] := va_S.rf
  have hD : va_D (inW [(o, .inr (3, [.ref ga, .ref ma, .int vn, .int rg, .int bl])), (ga, .inl (cI, 20, .inl fg)), (ma, .inl (cI, 20, .inl fm)), (o2, .inr (3, [.ref ga2, .ref ma2, .int (nI n), .int rg2, .int bl2])), (ga2, .inl (cI, 20, .inl fg2)), (ma2, .inl (cI, 20, .inl fm2))]) [(o, .inr (3, [.ref ga, .ref ma, .int vn, .int rg, .int bl])), (ga, .inl (cI, 20, .inl fg)), (ma, .inl (cI, 20, .inl fm)), (o2, .inr (3, [.ref ga2, .ref ma2, .int (nI n), .int rg2, .int bl2])), (ga2, .inl (cI, 20, .inl fg2)), (ma2, .inl (cI, 20, .inl fm2))] := inW_self hD
  have hl := lv_entry ([.ref o, .ref o2]) (n := 2) (Nat.le_of_ble_eq_true rfl)
  rw [lg_entry_eq]
  generalize (lg_sl ([.ref o, .ref o2]) ++ List.replicate (2 - (lg_sl ([.ref o, .ref o2])).length) Slot.unset).toArray = ls at hl ⊢
  have hl : lv_has ls 2 [(0, .ref o), (1, .ref o2)] := hl
  refine lv_aload_n hx hb dX3_copyFrom_0 rfl (lv_at hl 0 rfl) ?_
  refine lv_aload_n hx hb dX3_copyFrom_1 rfl (lv_at hl 1 rfl) ?_
  refine wv_callv (wc := [(o, .inr (3, [.ref ga, .ref ma, .int vn, .int rg, .int bl])), (ga, .inl (cI, 20, .inl fg)), (ma, .inl (cI, 20, .inl fm)), (o2, .inr (3, [.ref ga2, .ref ma2, .int (nI n), .int rg2, .int bl2])), (ga2, .inl (cI, 20, .inl fg2)), (ma2, .inl (cI, 20, .inl fm2))]) hP hD hS [0, 1, 2, 3, 4, 5] rfl rfl (va_runV (As := [.ref o2]) (rest := []) ⟨hx, hb, hml, hown, hts⟩ (c_X3_takeStations l D cI cB cO o ga ma vn rg bl fg fm o2 ga2 ma2 n rg2 bl2 fg2 fm2 hn) (cwV 1 hts gX3_copyFrom_X3_takeStations rfl rfl rfl (by decide +kernel) ⟨Nat.le_of_ble_eq_true rfl, Nat.le_of_ble_eq_true rfl⟩) (wr_preV (wc := [(o, .inr (3, [.ref ga, .ref ma, .int vn, .int rg, .int bl])), (ga, .inl (cI, 20, .inl fg)), (ma, .inl (cI, 20, .inl fm)), (o2, .inr (3, [.ref ga2, .ref ma2, .int (nI n), .int rg2, .int bl2])), (ga2, .inl (cI, 20, .inl fg2)), (ma2, .inl (cI, 20, .inl fm2))]) (r := (RX3, TX3, 5)) (ci := 3) hK (hP.pick [0, 1, 2, 3, 4, 5] rfl) hN (wr_dsub hD [0, 1, 2, 3, 4, 5] rfl rfl) (q0 := 0) rfl rfl) rfl rfl hl.1 rfl (lv_room (Nat.le_of_ble_eq_true rfl)) dX3_copyFrom_2 ⟨Nat.le_refl _, Nat.le_refl _⟩) (fun _ => [(o, .inr (3, [.ref ga, .ref ma, .int (nI n), .int rg, .int bl])), (ga, .inl (cI, 20, .inl (cpy n fg2 fg))), (ma, .inl (cI, 20, .inl (cpy n fm2 fm))), (o2, .inr (3, [.ref ga2, .ref ma2, .int (nI n), .int rg2, .int bl2])), (ga2, .inl (cI, 20, .inl fg2)), (ma2, .inl (cI, 20, .inl fm2))]) (fun _ => rfl) (fun _ => rfl) (fun u_2 H locs h_2 hP hD hS => ?_)
  have hP : va_P D vwCl [(o, .inr (3, [.ref ga, .ref ma, .int (nI n), .int rg, .int bl])), (ga, .inl (cI, 20, .inl (cpy n fg2 fg))), (ma, .inl (cI, 20, .inl (cpy n fm2 fm))), (o2, .inr (3, [.ref ga2, .ref ma2, .int (nI n), .int rg2, .int bl2])), (ga2, .inl (cI, 20, .inl fg2)), (ma2, .inl (cI, 20, .inl fm2))] _ := hP
  have hD : va_D (inW [(o, .inr (3, [.ref ga, .ref ma, .int vn, .int rg, .int bl])), (ga, .inl (cI, 20, .inl fg)), (ma, .inl (cI, 20, .inl fm)), (o2, .inr (3, [.ref ga2, .ref ma2, .int (nI n), .int rg2, .int bl2])), (ga2, .inl (cI, 20, .inl fg2)), (ma2, .inl (cI, 20, .inl fm2))]) [(o, .inr (3, [.ref ga, .ref ma, .int (nI n), .int rg, .int bl])), (ga, .inl (cI, 20, .inl (cpy n fg2 fg))), (ma, .inl (cI, 20, .inl (cpy n fm2 fm))), (o2, .inr (3, [.ref ga2, .ref ma2, .int (nI n), .int rg2, .int bl2])), (ga2, .inl (cI, 20, .inl fg2)), (ma2, .inl (cI, 20, .inl fm2))] := hD
  refine lv_aload_n hx hb dX3_copyFrom_5 rfl (lv_at hl 0 rfl) ?_
  refine lv_aload_n hx hb dX3_copyFrom_6 rfl (lv_at hl 1 rfl) ?_
  refine va_get (D := D) (ci := 3) (v := .int rg2) (C := RX3) (T := TX3) (N := 5) hx hb hts kX3_copyFrom_0 hown hK hP 3 rfl rfl 3 (by decide) (hts (.fieldLink RX3 22 "SightRidge$Profile" "range" "I") kX3_copyFrom_1) (fun _ h9 => h9) rfl dX3_copyFrom_7 ?_
  refine va_put (D := D) (ci := 3) (v := .int rg2) (ty := .int) (C := RX3) (T := TX3) (N := 5) hx hb hts kX3_copyFrom_0 tyX3 tyX3_ok nmX3 hown hK hP hD hS 0 rfl rfl 3 (by decide) (hts (.fieldLink RX3 22 "SightRidge$Profile" "range" "I") kX3_copyFrom_1) (fun _ h9 => h9) rfl (by decide +kernel) rfl rfl (Nat.le_of_ble_eq_true rfl) dX3_copyFrom_10 (fun H locs hP hD hS => ?_)
  have hP : va_P D vwCl [(o, .inr (3, [.ref ga, .ref ma, .int (nI n), .int rg2, .int bl])), (ga, .inl (cI, 20, .inl (cpy n fg2 fg))), (ma, .inl (cI, 20, .inl (cpy n fm2 fm))), (o2, .inr (3, [.ref ga2, .ref ma2, .int (nI n), .int rg2, .int bl2])), (ga2, .inl (cI, 20, .inl fg2)), (ma2, .inl (cI, 20, .inl fm2))] _ := hP
  have hD : va_D (inW [(o, .inr (3, [.ref ga, .ref ma, .int vn, .int rg, .int bl])), (ga, .inl (cI, 20, .inl fg)), (ma, .inl (cI, 20, .inl fm)), (o2, .inr (3, [.ref ga2, .ref ma2, .int (nI n), .int rg2, .int bl2])), (ga2, .inl (cI, 20, .inl fg2)), (ma2, .inl (cI, 20, .inl fm2))]) [(o, .inr (3, [.ref ga, .ref ma, .int (nI n), .int rg2, .int bl])), (ga, .inl (cI, 20, .inl (cpy n fg2 fg))), (ma, .inl (cI, 20, .inl (cpy n fm2 fm))), (o2, .inr (3, [.ref ga2, .ref ma2, .int (nI n), .int rg2, .int bl2])), (ga2, .inl (cI, 20, .inl fg2)), (ma2, .inl (cI, 20, .inl fm2))] := hD
  refine lv_aload_n hx hb dX3_copyFrom_13 rfl (lv_at hl 0 rfl) ?_
  refine lv_aload_n hx hb dX3_copyFrom_14 rfl (lv_at hl 1 rfl) ?_
  refine va_get (D := D) (ci := 3) (v := .int bl2) (C := RX3) (T := TX3) (N := 5) hx hb hts kX3_copyFrom_0 hown hK hP 3 rfl rfl 4 (by decide) (hts (.fieldLink RX3 25 "SightRidge$Profile" "bulge" "I") kX3_copyFrom_2) (fun _ h9 => h9) rfl dX3_copyFrom_15 ?_
  refine va_put (D := D) (ci := 3) (v := .int bl2) (ty := .int) (C := RX3) (T := TX3) (N := 5) hx hb hts kX3_copyFrom_0 tyX3 tyX3_ok nmX3 hown hK hP hD hS 0 rfl rfl 4 (by decide) (hts (.fieldLink RX3 25 "SightRidge$Profile" "bulge" "I") kX3_copyFrom_2) (fun _ h9 => h9) rfl (by decide +kernel) rfl rfl (Nat.le_of_ble_eq_true rfl) dX3_copyFrom_18 (fun H locs hP hD hS => ?_)
  have hP : va_P D vwCl [(o, .inr (3, [.ref ga, .ref ma, .int (nI n), .int rg2, .int bl2])), (ga, .inl (cI, 20, .inl (cpy n fg2 fg))), (ma, .inl (cI, 20, .inl (cpy n fm2 fm))), (o2, .inr (3, [.ref ga2, .ref ma2, .int (nI n), .int rg2, .int bl2])), (ga2, .inl (cI, 20, .inl fg2)), (ma2, .inl (cI, 20, .inl fm2))] _ := hP
  have hD : va_D (inW [(o, .inr (3, [.ref ga, .ref ma, .int vn, .int rg, .int bl])), (ga, .inl (cI, 20, .inl fg)), (ma, .inl (cI, 20, .inl fm)), (o2, .inr (3, [.ref ga2, .ref ma2, .int (nI n), .int rg2, .int bl2])), (ga2, .inl (cI, 20, .inl fg2)), (ma2, .inl (cI, 20, .inl fm2))]) [(o, .inr (3, [.ref ga, .ref ma, .int (nI n), .int rg2, .int bl2])), (ga, .inl (cI, 20, .inl (cpy n fg2 fg))), (ma, .inl (cI, 20, .inl (cpy n fm2 fm))), (o2, .inr (3, [.ref ga2, .ref ma2, .int (nI n), .int rg2, .int bl2])), (ga2, .inl (cI, 20, .inl fg2)), (ma2, .inl (cI, 20, .inl fm2))] := hD
  exact W.vret hx hb hr (fun tS htS hWS => ⟨⟨(), rfl, trivial, retP htS hP⟩, hS.F htS⟩) hS.2.2 dX3_copyFrom_21
def rev (n : Nat) (f : Nat → Int32) (k : Nat) : Int32 := f (n - 1 - k)
def rvB (n : Nat) (fg fm fg2 fm2 : Nat → Int32) (k : Nat) : Bool := decide (fg k ≠ fg2 (n - 1 - k) ∨ fm k ≠ fm2 (n - 1 - k))
theorem kX3_takeReversed_0 : ∀ w ∈ wsX30, w ∈ wsX3_takeReversed := by decide +kernel
theorem kX3_takeReversed_1 : (.fieldLink RX3 18 "SightRidge$Profile" "stations" "I" : Cond) ∈ wsX3_takeReversed := by decide +kernel
theorem kX3_takeReversed_2 : (.fieldLink RX3 9 "SightRidge$Profile" "grounds" "[I" : Cond) ∈ wsX3_takeReversed := by decide +kernel
theorem kX3_takeReversed_3 : (.fieldLink RX3 15 "SightRidge$Profile" "masts" "[I" : Cond) ∈ wsX3_takeReversed := by decide +kernel
set_option maxHeartbeats 4000000 in
set_option maxRecDepth 100000 in
/-- takeReversed(other) -/
theorem c_X3_takeReversed (l : Launch) (D : va_G) (cI cB cO : ClassId) (o ga ma : Nat) (rg bl : Int32) (fg fm : Nat → Int32) (o2 ga2 ma2 : Nat) (n : Nat) (rg2 bl2 : Int32) (fg2 fm2 : Nat → Int32) (hn : n ≤ 20) : Met l yX3_takeReversed wsX3_takeReversed (rmD 1) (wrPc D (tyL cI cB cO) [.ref o, .ref o2] [(o, .inr (3, [.ref ga, .ref ma, .int (nI n), .int rg, .int bl])), (ga, .inl (cI, 20, .inl fg)), (ma, .inl (cI, 20, .inl fm)), (o2, .inr (3, [.ref ga2, .ref ma2, .int (nI n), .int rg2, .int bl2])), (ga2, .inl (cI, 20, .inl fg2)), (ma2, .inl (cI, 20, .inl fm2))]) (wrQi D [(o, .inr (3, [.ref ga, .ref ma, .int (nI n), .int rg, .int bl])), (ga, .inl (cI, 20, .inl fg)), (ma, .inl (cI, 20, .inl fm)), (o2, .inr (3, [.ref ga2, .ref ma2, .int (nI n), .int rg2, .int bl2])), (ga2, .inl (cI, 20, .inl fg2)), (ma2, .inl (cI, 20, .inl fm2))] (fun (r : Int32) (u : Unit) => r = nI (fb_ct (rvB n fg fm fg2 fm2) n)) (fun (u : Unit) => [(o, .inr (3, [.ref ga, .ref ma, .int (nI n), .int rg, .int bl])), (ga, .inl (cI, 20, .inl (cpy n (rev n fg2) fg))), (ma, .inl (cI, 20, .inl (cpy n (rev n fm2) fm))), (o2, .inr (3, [.ref ga2, .ref ma2, .int (nI n), .int rg2, .int bl2])), (ga2, .inl (cI, 20, .inl fg2)), (ma2, .inl (cI, 20, .inl fm2))])) 0 0 (inW [(o, .inr (3, [.ref ga, .ref ma, .int (nI n), .int rg, .int bl])), (ga, .inl (cI, 20, .inl fg)), (ma, .inl (cI, 20, .inl fm)), (o2, .inr (3, [.ref ga2, .ref ma2, .int (nI n), .int rg2, .int bl2])), (ga2, .inl (cI, 20, .inl fg2)), (ma2, .inl (cI, 20, .inl fm2))]) := by
  refine Met.ofW (cc := cX3_takeReversed) (maxL := 5) (ret := (some .int)) (by decide) rfl ?_
  intro p e s m args below meth c s₁ B hml hv
  obtain ⟨rfl, hP, hK, hN, hD⟩ := hv
  have hx := B.exec
  have hb := B.bytes
  have hr := B.returns
  have hts := atoms_spec (ws := wsX3_takeReversed) B.pre
  have hown : s.vm.findClass RX3 = some m.cls := findClass_of_methodNamed B.named
  have hlocks := B.notSynchronized
  have hS : va_S (inW [(o, .inr (3, [.ref ga, .ref ma, .int (nI n), .int rg, .int bl])), (ga, .inl (cI, 20, .inl fg)), (ma, .inl (cI, 20, .inl fm)), (o2, .inr (3, [.ref ga2, .ref ma2, .int (nI n), .int rg2, .int bl2])), (ga2, .inl (cI, 20, .inl fg2)), (ma2, .inl (cI, 20, .inl fm2))]) s.heap s.heap [] := va_S.rf
  have hD : va_D (inW [(o, .inr (3, [.ref ga, .ref ma, .int (nI n), .int rg, .int bl])), (ga, .inl (cI, 20, .inl fg)), (ma, .inl (cI, 20, .inl fm)), (o2, .inr (3, [.ref ga2, .ref ma2, .int (nI n), .int rg2, .int bl2])), (ga2, .inl (cI, 20, .inl fg2)), (ma2, .inl (cI, 20, .inl fm2))]) [(o, .inr (3, [.ref ga, .ref ma, .int (nI n), .int rg, .int bl])), (ga, .inl (cI, 20, .inl fg)), (ma, .inl (cI, 20, .inl fm)), (o2, .inr (3, [.ref ga2, .ref ma2, .int (nI n), .int rg2, .int bl2])), (ga2, .inl (cI, 20, .inl fg2)), (ma2, .inl (cI, 20, .inl fm2))] := inW_self hD
  have hl := lv_entry ([.ref o, .ref o2]) (n := 5) (Nat.le_of_ble_eq_true rfl)
  rw [lg_entry_eq]
  generalize (lg_sl ([.ref o, .ref o2]) ++ List.replicate (5 - (lg_sl ([.ref o, .ref o2])).length) Slot.unset).toArray = ls at hl ⊢
  have hl : lv_has ls 5 [(0, .ref o), (1, .ref o2)] := hl
  refine lv_iconst (v := 0) hx hb dX3_takeReversed_0 (by decide) ?_
  refine lv_istore_n (lv' := [(2, .int 0), (0, .ref o), (1, .ref o2)]) hx hb dX3_takeReversed_1 rfl hl (by decide) rfl (fun ls hl => ?_)
  refine lv_iconst (v := 0) hx hb dX3_takeReversed_2 (by decide) ?_
  refine lv_istore_n (lv' := [(3, .int 0), (2, .int 0), (0, .ref o), (1, .ref o2)]) hx hb dX3_takeReversed_3 rfl hl (by decide) rfl (fun ls hl => ?_)
  have e9 : ([(o, .inr (3, [.ref ga, .ref ma, .int (nI n), .int rg, .int bl])), (ga, .inl (cI, 20, .inl fg)), (ma, .inl (cI, 20, .inl fm)), (o2, .inr (3, [.ref ga2, .ref ma2, .int (nI n), .int rg2, .int bl2])), (ga2, .inl (cI, 20, .inl fg2)), (ma2, .inl (cI, 20, .inl fm2))] : va_W) = [(o, .inr (3, [.ref ga, .ref ma, .int (nI n), .int rg, .int bl])), (ga, .inl (cI, 20, .inl (cpy 0 (rev n fg2) fg))), (ma, .inl (cI, 20, .inl fm)), (o2, .inr (3, [.ref ga2, .ref ma2, .int (nI n), .int rg2, .int bl2])), (ga2, .inl (cI, 20, .inl fg2)), (ma2, .inl (cI, 20, .inl fm2))] := congrArg (fun f9 : Nat → Int32 => ([(o, .inr (3, [.ref ga, .ref ma, .int (nI n), .int rg, .int bl])), (ga, .inl (cI, 20, .inl f9)), (ma, .inl (cI, 20, .inl fm)), (o2, .inr (3, [.ref ga2, .ref ma2, .int (nI n), .int rg2, .int bl2])), (ga2, .inl (cI, 20, .inl fg2)), (ma2, .inl (cI, 20, .inl fm2))] : va_W)) (show fg = cpy 0 (rev n fg2) fg from (cpy_0 _ _).symm)
  have hP := va_P_eq e9 hP
  have hD := va_D_eq e9 hD
  have e9 : ([(o, .inr (3, [.ref ga, .ref ma, .int (nI n), .int rg, .int bl])), (ga, .inl (cI, 20, .inl (cpy 0 (rev n fg2) fg))), (ma, .inl (cI, 20, .inl fm)), (o2, .inr (3, [.ref ga2, .ref ma2, .int (nI n), .int rg2, .int bl2])), (ga2, .inl (cI, 20, .inl fg2)), (ma2, .inl (cI, 20, .inl fm2))] : va_W) = [(o, .inr (3, [.ref ga, .ref ma, .int (nI n), .int rg, .int bl])), (ga, .inl (cI, 20, .inl (cpy 0 (rev n fg2) fg))), (ma, .inl (cI, 20, .inl (cpy 0 (rev n fm2) fm))), (o2, .inr (3, [.ref ga2, .ref ma2, .int (nI n), .int rg2, .int bl2])), (ga2, .inl (cI, 20, .inl fg2)), (ma2, .inl (cI, 20, .inl fm2))] := congrArg (fun f9 : Nat → Int32 => ([(o, .inr (3, [.ref ga, .ref ma, .int (nI n), .int rg, .int bl])), (ga, .inl (cI, 20, .inl (cpy 0 (rev n fg2) fg))), (ma, .inl (cI, 20, .inl f9)), (o2, .inr (3, [.ref ga2, .ref ma2, .int (nI n), .int rg2, .int bl2])), (ga2, .inl (cI, 20, .inl fg2)), (ma2, .inl (cI, 20, .inl fm2))] : va_W)) (show fm = cpy 0 (rev n fm2) fm from (cpy_0 _ _).symm)
  have hP := va_P_eq e9 hP
  have hD := va_D_eq e9 hD
  have L_4 : ∀ (k_4 : Nat) (i : Nat) (t : Nat), n - i < k_4 → (i ≤ n) → (t = fb_ct (rvB n fg fm fg2 fm2) i) → ∀ (H : Heap) (locs : List Loc), va_P D vwCl [(o, .inr (3, [.ref ga, .ref ma, .int (nI n), .int rg, .int bl])), (ga, .inl (cI, 20, .inl (cpy i (rev n fg2) fg))), (ma, .inl (cI, 20, .inl (cpy i (rev n fm2) fm))), (o2, .inr (3, [.ref ga2, .ref ma2, .int (nI n), .int rg2, .int bl2])), (ga2, .inl (cI, 20, .inl fg2)), (ma2, .inl (cI, 20, .inl fm2))] H → va_D (inW [(o, .inr (3, [.ref ga, .ref ma, .int (nI n), .int rg, .int bl])), (ga, .inl (cI, 20, .inl fg)), (ma, .inl (cI, 20, .inl fm)), (o2, .inr (3, [.ref ga2, .ref ma2, .int (nI n), .int rg2, .int bl2])), (ga2, .inl (cI, 20, .inl fg2)), (ma2, .inl (cI, 20, .inl fm2))]) [(o, .inr (3, [.ref ga, .ref ma, .int (nI n), .int rg, .int bl])), (ga, .inl (cI, 20, .inl (cpy i (rev n fg2) fg))), (ma, .inl (cI, 20, .inl (cpy i (rev n fm2) fm))), (o2, .inr (3, [.ref ga2, .ref ma2, .int (nI n), .int rg2, .int bl2])), (ga2, .inl (cI, 20, .inl fg2)), (ma2, .inl (cI, 20, .inl fm2))] → va_S (inW [(o, .inr (3, [.ref ga, .ref ma, .int (nI n), .int rg, .int bl])), (ga, .inl (cI, 20, .inl fg)), (ma, .inl (cI, 20, .inl fm)), (o2, .inr (3, [.ref ga2, .ref ma2, .int (nI n), .int rg2, .int bl2])), (ga2, .inl (cI, 20, .inl fg2)), (ma2, .inl (cI, 20, .inl fm2))]) s.heap H locs → ∀ (ls : Array Slot), lv_has ls 5 [(0, .ref o), (1, .ref o2), (2, .int (nI t)), (3, .int (nI i))] → W p l e (rmD 1) s m ([.ref o, .ref o2] : List Value).toArray below meth c H locs 0 0 (MQ below (wrQi D [(o, .inr (3, [.ref ga, .ref ma, .int (nI n), .int rg, .int bl])), (ga, .inl (cI, 20, .inl fg)), (ma, .inl (cI, 20, .inl fm)), (o2, .inr (3, [.ref ga2, .ref ma2, .int (nI n), .int rg2, .int bl2])), (ga2, .inl (cI, 20, .inl fg2)), (ma2, .inl (cI, 20, .inl fm2))] (fun (r : Int32) (u : Unit) => r = nI (fb_ct (rvB n fg fm fg2 fm2) n)) (fun (u : Unit) => [(o, .inr (3, [.ref ga, .ref ma, .int (nI n), .int rg, .int bl])), (ga, .inl (cI, 20, .inl (cpy n (rev n fg2) fg))), (ma, .inl (cI, 20, .inl (cpy n (rev n fm2) fm))), (o2, .inr (3, [.ref ga2, .ref ma2, .int (nI n), .int rg2, .int bl2])), (ga2, .inl (cI, 20, .inl fg2)), (ma2, .inl (cI, 20, .inl fm2))])) ([.ref o, .ref o2] : List Value).toArray s 0 0 (inW [(o, .inr (3, [.ref ga, .ref ma, .int (nI n), .int rg, .int bl])), (ga, .inl (cI, 20, .inl fg)), (ma, .inl (cI, 20, .inl fm)), (o2, .inr (3, [.ref ga2, .ref ma2, .int (nI n), .int rg2, .int bl2])), (ga2, .inl (cI, 20, .inl fg2)), (ma2, .inl (cI, 20, .inl fm2))])) (F0 m 4 ls []) := by
    intro k_4
    induction k_4 with
    | zero => intro i t h9; exact absurd h9 (Nat.not_lt_zero _)
    | succ k_4 ih_4 =>
      intro i t hm_4 hi ht H locs hP hD hS ls hl
      refine lv_iload_n hx hb dX3_takeReversed_4 rfl (lv_at hl 3 rfl) ?_
      refine lv_aload_n hx hb dX3_takeReversed_5 rfl (lv_at hl 0 rfl) ?_
      refine va_get (D := D) (ci := 3) (v := .int (nI n)) (C := RX3) (T := TX3) (N := 5) hx hb hts kX3_takeReversed_0 hown hK hP 0 rfl rfl 2 (by decide) (hts (.fieldLink RX3 18 "SightRidge$Profile" "stations" "I") kX3_takeReversed_1) (fun _ h9 => h9) rfl dX3_takeReversed_6 ?_
      refine lv_icmp_ge (tgt := 89) hx hb dX3_takeReversed_9 (by decide) (fun c_9 => ?_) (fun c_9 => ?_)
      · skip
        have c0 : n ≤ i := ge_t (by omega) c_9
        have ei : i = n := by omega
        subst ei
        refine lv_iload_n hx hb dX3_takeReversed_89 rfl (lv_at hl 2 rfl) ?_
        exact W.iret (v := nI t) hx hb hr (fun tS htS hWS => ⟨⟨nI t, (), rfl, congrArg nI ht, retP htS hP⟩, hS.F htS⟩) hS.2.2 dX3_takeReversed_90
      · skip
        have c0 : i < n := ge_f (by omega) c_9
        refine lv_aload_n hx hb dX3_takeReversed_12 rfl (lv_at hl 0 rfl) ?_
        refine va_get (D := D) (ci := 3) (v := .int (nI n)) (C := RX3) (T := TX3) (N := 5) hx hb hts kX3_takeReversed_0 hown hK hP 0 rfl rfl 2 (by decide) (hts (.fieldLink RX3 18 "SightRidge$Profile" "stations" "I") kX3_takeReversed_1) (fun _ h9 => h9) rfl dX3_takeReversed_13 ?_
        refine lv_iconst (v := 1) hx hb dX3_takeReversed_16 (by decide) ?_
        refine lv_isub hx hb dX3_takeReversed_17 ?_
        refine lv_topi (fun y_1 e_2 => ?_)
        have e_2 : nI (n - 1) = y_1 := (e_2.trans (pk_sub (a := n) (b := 1) (by omega))).symm
        subst e_2
        refine lv_iload_n hx hb dX3_takeReversed_18 rfl (lv_at hl 3 rfl) ?_
        refine lv_isub hx hb dX3_takeReversed_19 ?_
        refine lv_topi (fun y_3 e_4 => ?_)
        have e_4 : nI (n - 1 - i) = y_3 := (e_4.trans (pk_sub (by omega))).symm
        subst e_4
        refine lv_istore (lv' := [(4, .int (nI (n - 1 - i))), (0, .ref o), (1, .ref o2), (2, .int (nI t)), (3, .int (nI i))]) hx hb dX3_takeReversed_20 hl (by decide) rfl (fun ls hl => ?_)
        refine lv_aload_n hx hb dX3_takeReversed_22 rfl (lv_at hl 1 rfl) ?_
        refine va_get (D := D) (ci := 3) (v := .ref ga) (C := RX3) (T := TX3) (N := 5) hx hb hts kX3_takeReversed_0 hown hK hP 0 rfl rfl 0 (by decide) (hts (.fieldLink RX3 9 "SightRidge$Profile" "grounds" "[I") kX3_takeReversed_2) (fun _ h9 => h9) rfl dX3_takeReversed_23 ?_
        refine lv_iload_n hx hb dX3_takeReversed_26 rfl (lv_at hl 4 rfl) ?_
        refine va_iald hx hb hK hP 1 0 rfl rfl (i := nI i) (vp_in_nI (N := 20) (by omega) (by decide)) dX3_takeReversed_27 ?_
        rw [nI_clamp (n := i) (by omega)]
        refine lv_topi (fun y_5 e_6 => ?_)
        have e_6 : fg i = y_5 := (e_6.trans (show cpy i (rev n fg2) fg i = fg i from if_neg (Nat.lt_irrefl i))).symm
        subst e_6
        refine lv_aload_n hx hb dX3_takeReversed_28 rfl (lv_at hl 2 rfl) ?_
        refine va_get (D := D) (ci := 3) (v := .ref ga2) (C := RX3) (T := TX3) (N := 5) hx hb hts kX3_takeReversed_0 hown hK hP 3 rfl rfl 0 (by decide) (hts (.fieldLink RX3 9 "SightRidge$Profile" "grounds" "[I") kX3_takeReversed_2) (fun _ h9 => h9) rfl dX3_takeReversed_29 ?_
        refine lv_iload hx hb dX3_takeReversed_32 (lv_at hl 0 rfl) ?_
        refine va_iald hx hb hK hP 4 0 rfl rfl (i := nI (n - 1 - i)) (vp_in_nI (N := 20) (by omega) (by decide)) dX3_takeReversed_34 ?_
        rw [nI_clamp (n := n - 1 - i) (by omega)]
        refine lv_icmp_ne (tgt := 54) hx hb dX3_takeReversed_35 (by decide) (fun c_35 => ?_) (fun c_35 => ?_)
        · skip
          refine lv_iinc (v := nI (t + 1)) (lv' := [(2, .int (nI (t + 1))), (4, .int (nI (n - 1 - i))), (0, .ref o), (1, .ref o2), (3, .int (nI i))]) hx hb dX3_takeReversed_54 hl (k := 3) rfl (inc1 _) (by decide) rfl (fun ls hl => ?_)
          refine lv_aload_n hx hb dX3_takeReversed_57 rfl (lv_at hl 2 rfl) ?_
          refine va_get (D := D) (ci := 3) (v := .ref ga) (C := RX3) (T := TX3) (N := 5) hx hb hts kX3_takeReversed_0 hown hK hP 0 rfl rfl 0 (by decide) (hts (.fieldLink RX3 9 "SightRidge$Profile" "grounds" "[I") kX3_takeReversed_2) (fun _ h9 => h9) rfl dX3_takeReversed_58 ?_
          refine lv_iload_n hx hb dX3_takeReversed_61 rfl (lv_at hl 4 rfl) ?_
          refine lv_aload_n hx hb dX3_takeReversed_62 rfl (lv_at hl 3 rfl) ?_
          refine va_get (D := D) (ci := 3) (v := .ref ga2) (C := RX3) (T := TX3) (N := 5) hx hb hts kX3_takeReversed_0 hown hK hP 3 rfl rfl 0 (by decide) (hts (.fieldLink RX3 9 "SightRidge$Profile" "grounds" "[I") kX3_takeReversed_2) (fun _ h9 => h9) rfl dX3_takeReversed_63 ?_
          refine lv_iload hx hb dX3_takeReversed_66 (lv_at hl 1 rfl) ?_
          refine va_iald hx hb hK hP 4 0 rfl rfl (i := nI (n - 1 - i)) (vp_in_nI (N := 20) (by omega) (by decide)) dX3_takeReversed_68 ?_
          rw [nI_clamp (n := n - 1 - i) (by omega)]
          refine va_iast hx hb hK hP hD hS 1 0 rfl rfl (i := nI i) (vp_in_nI (N := 20) (by omega) (by decide)) dX3_takeReversed_69 (fun H locs hP hD hS => ?_)
          rw [nI_clamp (n := i) (by omega)] at hP hD
          have hP : va_P D vwCl [(o, .inr (3, [.ref ga, .ref ma, .int (nI n), .int rg, .int bl])), (ga, .inl (cI, 20, .inl (upd (cpy i (rev n fg2) fg) i (fg2 (n - 1 - i))))), (ma, .inl (cI, 20, .inl (cpy i (rev n fm2) fm))), (o2, .inr (3, [.ref ga2, .ref ma2, .int (nI n), .int rg2, .int bl2])), (ga2, .inl (cI, 20, .inl fg2)), (ma2, .inl (cI, 20, .inl fm2))] _ := hP
          have hD : va_D (inW [(o, .inr (3, [.ref ga, .ref ma, .int (nI n), .int rg, .int bl])), (ga, .inl (cI, 20, .inl fg)), (ma, .inl (cI, 20, .inl fm)), (o2, .inr (3, [.ref ga2, .ref ma2, .int (nI n), .int rg2, .int bl2])), (ga2, .inl (cI, 20, .inl fg2)), (ma2, .inl (cI, 20, .inl fm2))]) [(o, .inr (3, [.ref ga, .ref ma, .int (nI n), .int rg, .int bl])), (ga, .inl (cI, 20, .inl (upd (cpy i (rev n fg2) fg) i (fg2 (n - 1 - i))))), (ma, .inl (cI, 20, .inl (cpy i (rev n fm2) fm))), (o2, .inr (3, [.ref ga2, .ref ma2, .int (nI n), .int rg2, .int bl2])), (ga2, .inl (cI, 20, .inl fg2)), (ma2, .inl (cI, 20, .inl fm2))] := hD
          have e9 : ([(o, .inr (3, [.ref ga, .ref ma, .int (nI n), .int rg, .int bl])), (ga, .inl (cI, 20, .inl (upd (cpy i (rev n fg2) fg) i (fg2 (n - 1 - i))))), (ma, .inl (cI, 20, .inl (cpy i (rev n fm2) fm))), (o2, .inr (3, [.ref ga2, .ref ma2, .int (nI n), .int rg2, .int bl2])), (ga2, .inl (cI, 20, .inl fg2)), (ma2, .inl (cI, 20, .inl fm2))] : va_W) = [(o, .inr (3, [.ref ga, .ref ma, .int (nI n), .int rg, .int bl])), (ga, .inl (cI, 20, .inl (cpy (i + 1) (rev n fg2) fg))), (ma, .inl (cI, 20, .inl (cpy i (rev n fm2) fm))), (o2, .inr (3, [.ref ga2, .ref ma2, .int (nI n), .int rg2, .int bl2])), (ga2, .inl (cI, 20, .inl fg2)), (ma2, .inl (cI, 20, .inl fm2))] := congrArg (fun f9 : Nat → Int32 => ([(o, .inr (3, [.ref ga, .ref ma, .int (nI n), .int rg, .int bl])), (ga, .inl (cI, 20, .inl f9)), (ma, .inl (cI, 20, .inl (cpy i (rev n fm2) fm))), (o2, .inr (3, [.ref ga2, .ref ma2, .int (nI n), .int rg2, .int bl2])), (ga2, .inl (cI, 20, .inl fg2)), (ma2, .inl (cI, 20, .inl fm2))] : va_W)) (show upd (cpy i (rev n fg2) fg) i (fg2 (n - 1 - i)) = cpy (i + 1) (rev n fg2) fg from cpy_s _ (rev n fg2) _)
          have hP := va_P_eq e9 hP
          have hD := va_D_eq e9 hD
          refine lv_aload_n hx hb dX3_takeReversed_70 rfl (lv_at hl 2 rfl) ?_
          refine va_get (D := D) (ci := 3) (v := .ref ma) (C := RX3) (T := TX3) (N := 5) hx hb hts kX3_takeReversed_0 hown hK hP 0 rfl rfl 1 (by decide) (hts (.fieldLink RX3 15 "SightRidge$Profile" "masts" "[I") kX3_takeReversed_3) (fun _ h9 => h9) rfl dX3_takeReversed_71 ?_
          refine lv_iload_n hx hb dX3_takeReversed_74 rfl (lv_at hl 4 rfl) ?_
          refine lv_aload_n hx hb dX3_takeReversed_75 rfl (lv_at hl 3 rfl) ?_
          refine va_get (D := D) (ci := 3) (v := .ref ma2) (C := RX3) (T := TX3) (N := 5) hx hb hts kX3_takeReversed_0 hown hK hP 3 rfl rfl 1 (by decide) (hts (.fieldLink RX3 15 "SightRidge$Profile" "masts" "[I") kX3_takeReversed_3) (fun _ h9 => h9) rfl dX3_takeReversed_76 ?_
          refine lv_iload hx hb dX3_takeReversed_79 (lv_at hl 1 rfl) ?_
          refine va_iald hx hb hK hP 5 0 rfl rfl (i := nI (n - 1 - i)) (vp_in_nI (N := 20) (by omega) (by decide)) dX3_takeReversed_81 ?_
          rw [nI_clamp (n := n - 1 - i) (by omega)]
          refine va_iast hx hb hK hP hD hS 2 0 rfl rfl (i := nI i) (vp_in_nI (N := 20) (by omega) (by decide)) dX3_takeReversed_82 (fun H locs hP hD hS => ?_)
          rw [nI_clamp (n := i) (by omega)] at hP hD
          have hP : va_P D vwCl [(o, .inr (3, [.ref ga, .ref ma, .int (nI n), .int rg, .int bl])), (ga, .inl (cI, 20, .inl (cpy (i + 1) (rev n fg2) fg))), (ma, .inl (cI, 20, .inl (upd (cpy i (rev n fm2) fm) i (fm2 (n - 1 - i))))), (o2, .inr (3, [.ref ga2, .ref ma2, .int (nI n), .int rg2, .int bl2])), (ga2, .inl (cI, 20, .inl fg2)), (ma2, .inl (cI, 20, .inl fm2))] _ := hP
          have hD : va_D (inW [(o, .inr (3, [.ref ga, .ref ma, .int (nI n), .int rg, .int bl])), (ga, .inl (cI, 20, .inl fg)), (ma, .inl (cI, 20, .inl fm)), (o2, .inr (3, [.ref ga2, .ref ma2, .int (nI n), .int rg2, .int bl2])), (ga2, .inl (cI, 20, .inl fg2)), (ma2, .inl (cI, 20, .inl fm2))]) [(o, .inr (3, [.ref ga, .ref ma, .int (nI n), .int rg, .int bl])), (ga, .inl (cI, 20, .inl (cpy (i + 1) (rev n fg2) fg))), (ma, .inl (cI, 20, .inl (upd (cpy i (rev n fm2) fm) i (fm2 (n - 1 - i))))), (o2, .inr (3, [.ref ga2, .ref ma2, .int (nI n), .int rg2, .int bl2])), (ga2, .inl (cI, 20, .inl fg2)), (ma2, .inl (cI, 20, .inl fm2))] := hD
          have e9 : ([(o, .inr (3, [.ref ga, .ref ma, .int (nI n), .int rg, .int bl])), (ga, .inl (cI, 20, .inl (cpy (i + 1) (rev n fg2) fg))), (ma, .inl (cI, 20, .inl (upd (cpy i (rev n fm2) fm) i (fm2 (n - 1 - i))))), (o2, .inr (3, [.ref ga2, .ref ma2, .int (nI n), .int rg2, .int bl2])), (ga2, .inl (cI, 20, .inl fg2)), (ma2, .inl (cI, 20, .inl fm2))] : va_W) = [(o, .inr (3, [.ref ga, .ref ma, .int (nI n), .int rg, .int bl])), (ga, .inl (cI, 20, .inl (cpy (i + 1) (rev n fg2) fg))), (ma, .inl (cI, 20, .inl (cpy (i + 1) (rev n fm2) fm))), (o2, .inr (3, [.ref ga2, .ref ma2, .int (nI n), .int rg2, .int bl2])), (ga2, .inl (cI, 20, .inl fg2)), (ma2, .inl (cI, 20, .inl fm2))] := congrArg (fun f9 : Nat → Int32 => ([(o, .inr (3, [.ref ga, .ref ma, .int (nI n), .int rg, .int bl])), (ga, .inl (cI, 20, .inl (cpy (i + 1) (rev n fg2) fg))), (ma, .inl (cI, 20, .inl f9)), (o2, .inr (3, [.ref ga2, .ref ma2, .int (nI n), .int rg2, .int bl2])), (ga2, .inl (cI, 20, .inl fg2)), (ma2, .inl (cI, 20, .inl fm2))] : va_W)) (show upd (cpy i (rev n fm2) fm) i (fm2 (n - 1 - i)) = cpy (i + 1) (rev n fm2) fm from cpy_s _ (rev n fm2) _)
          have hP := va_P_eq e9 hP
          have hD := va_D_eq e9 hD
          refine lv_iinc (v := nI (i + 1)) (lv' := [(3, .int (nI (i + 1))), (2, .int (nI (t + 1))), (4, .int (nI (n - 1 - i))), (0, .ref o), (1, .ref o2)]) hx hb dX3_takeReversed_83 hl (k := 4) rfl (inc1 _) (by decide) rfl (fun ls hl => ?_)
          refine lv_goto (tgt := 4) hx hb dX3_takeReversed_86 (by decide) ?_
          exact ih_4 (i + 1) (t + 1) (by omega) (by omega) (by first | (rw [fb_ct_T (decide_eq_true (Or.inl c_35)), ht]; done) | (rw [fb_ct_T (decide_eq_true (Or.inr c_51)), ht]; done) | (rw [fb_ct_F (decide_eq_false (fun q => q.elim (fun z => z c_35) (fun z => z c_51))), ht]; done) | fail) _ _ hP hD hS ls (lv_sub hl [3, 4, 1, 0] rfl)
        · skip
          refine lv_aload_n hx hb dX3_takeReversed_38 rfl (lv_at hl 1 rfl) ?_
          refine va_get (D := D) (ci := 3) (v := .ref ma) (C := RX3) (T := TX3) (N := 5) hx hb hts kX3_takeReversed_0 hown hK hP 0 rfl rfl 1 (by decide) (hts (.fieldLink RX3 15 "SightRidge$Profile" "masts" "[I") kX3_takeReversed_3) (fun _ h9 => h9) rfl dX3_takeReversed_39 ?_
          refine lv_iload_n hx hb dX3_takeReversed_42 rfl (lv_at hl 4 rfl) ?_
          refine va_iald hx hb hK hP 2 0 rfl rfl (i := nI i) (vp_in_nI (N := 20) (by omega) (by decide)) dX3_takeReversed_43 ?_
          rw [nI_clamp (n := i) (by omega)]
          refine lv_topi (fun y_7 e_8 => ?_)
          have e_8 : fm i = y_7 := (e_8.trans (show cpy i (rev n fm2) fm i = fm i from if_neg (Nat.lt_irrefl i))).symm
          subst e_8
          refine lv_aload_n hx hb dX3_takeReversed_44 rfl (lv_at hl 2 rfl) ?_
          refine va_get (D := D) (ci := 3) (v := .ref ma2) (C := RX3) (T := TX3) (N := 5) hx hb hts kX3_takeReversed_0 hown hK hP 3 rfl rfl 1 (by decide) (hts (.fieldLink RX3 15 "SightRidge$Profile" "masts" "[I") kX3_takeReversed_3) (fun _ h9 => h9) rfl dX3_takeReversed_45 ?_
          refine lv_iload hx hb dX3_takeReversed_48 (lv_at hl 0 rfl) ?_
          refine va_iald hx hb hK hP 5 0 rfl rfl (i := nI (n - 1 - i)) (vp_in_nI (N := 20) (by omega) (by decide)) dX3_takeReversed_50 ?_
          rw [nI_clamp (n := n - 1 - i) (by omega)]
          refine lv_icmp_eq (tgt := 57) hx hb dX3_takeReversed_51 (by decide) (fun c_51 => ?_) (fun c_51 => ?_)
          · skip
            have c_51 := c_51
            refine lv_aload_n hx hb dX3_takeReversed_57 rfl (lv_at hl 1 rfl) ?_
            refine va_get (D := D) (ci := 3) (v := .ref ga) (C := RX3) (T := TX3) (N := 5) hx hb hts kX3_takeReversed_0 hown hK hP 0 rfl rfl 0 (by decide) (hts (.fieldLink RX3 9 "SightRidge$Profile" "grounds" "[I") kX3_takeReversed_2) (fun _ h9 => h9) rfl dX3_takeReversed_58 ?_
            refine lv_iload_n hx hb dX3_takeReversed_61 rfl (lv_at hl 4 rfl) ?_
            refine lv_aload_n hx hb dX3_takeReversed_62 rfl (lv_at hl 2 rfl) ?_
            refine va_get (D := D) (ci := 3) (v := .ref ga2) (C := RX3) (T := TX3) (N := 5) hx hb hts kX3_takeReversed_0 hown hK hP 3 rfl rfl 0 (by decide) (hts (.fieldLink RX3 9 "SightRidge$Profile" "grounds" "[I") kX3_takeReversed_2) (fun _ h9 => h9) rfl dX3_takeReversed_63 ?_
            refine lv_iload hx hb dX3_takeReversed_66 (lv_at hl 0 rfl) ?_
            refine va_iald hx hb hK hP 4 0 rfl rfl (i := nI (n - 1 - i)) (vp_in_nI (N := 20) (by omega) (by decide)) dX3_takeReversed_68 ?_
            rw [nI_clamp (n := n - 1 - i) (by omega)]
            refine va_iast hx hb hK hP hD hS 1 0 rfl rfl (i := nI i) (vp_in_nI (N := 20) (by omega) (by decide)) dX3_takeReversed_69 (fun H locs hP hD hS => ?_)
            rw [nI_clamp (n := i) (by omega)] at hP hD
            have hP : va_P D vwCl [(o, .inr (3, [.ref ga, .ref ma, .int (nI n), .int rg, .int bl])), (ga, .inl (cI, 20, .inl (upd (cpy i (rev n fg2) fg) i (fg2 (n - 1 - i))))), (ma, .inl (cI, 20, .inl (cpy i (rev n fm2) fm))), (o2, .inr (3, [.ref ga2, .ref ma2, .int (nI n), .int rg2, .int bl2])), (ga2, .inl (cI, 20, .inl fg2)), (ma2, .inl (cI, 20, .inl fm2))] _ := hP
            have hD : va_D (inW [(o, .inr (3, [.ref ga, .ref ma, .int (nI n), .int rg, .int bl])), (ga, .inl (cI, 20, .inl fg)), (ma, .inl (cI, 20, .inl fm)), (o2, .inr (3, [.ref ga2, .ref ma2, .int (nI n), .int rg2, .int bl2])), (ga2, .inl (cI, 20, .inl fg2)), (ma2, .inl (cI, 20, .inl fm2))]) [(o, .inr (3, [.ref ga, .ref ma, .int (nI n), .int rg, .int bl])), (ga, .inl (cI, 20, .inl (upd (cpy i (rev n fg2) fg) i (fg2 (n - 1 - i))))), (ma, .inl (cI, 20, .inl (cpy i (rev n fm2) fm))), (o2, .inr (3, [.ref ga2, .ref ma2, .int (nI n), .int rg2, .int bl2])), (ga2, .inl (cI, 20, .inl fg2)), (ma2, .inl (cI, 20, .inl fm2))] := hD
            have e9 : ([(o, .inr (3, [.ref ga, .ref ma, .int (nI n), .int rg, .int bl])), (ga, .inl (cI, 20, .inl (upd (cpy i (rev n fg2) fg) i (fg2 (n - 1 - i))))), (ma, .inl (cI, 20, .inl (cpy i (rev n fm2) fm))), (o2, .inr (3, [.ref ga2, .ref ma2, .int (nI n), .int rg2, .int bl2])), (ga2, .inl (cI, 20, .inl fg2)), (ma2, .inl (cI, 20, .inl fm2))] : va_W) = [(o, .inr (3, [.ref ga, .ref ma, .int (nI n), .int rg, .int bl])), (ga, .inl (cI, 20, .inl (cpy (i + 1) (rev n fg2) fg))), (ma, .inl (cI, 20, .inl (cpy i (rev n fm2) fm))), (o2, .inr (3, [.ref ga2, .ref ma2, .int (nI n), .int rg2, .int bl2])), (ga2, .inl (cI, 20, .inl fg2)), (ma2, .inl (cI, 20, .inl fm2))] := congrArg (fun f9 : Nat → Int32 => ([(o, .inr (3, [.ref ga, .ref ma, .int (nI n), .int rg, .int bl])), (ga, .inl (cI, 20, .inl f9)), (ma, .inl (cI, 20, .inl (cpy i (rev n fm2) fm))), (o2, .inr (3, [.ref ga2, .ref ma2, .int (nI n), .int rg2, .int bl2])), (ga2, .inl (cI, 20, .inl fg2)), (ma2, .inl (cI, 20, .inl fm2))] : va_W)) (show upd (cpy i (rev n fg2) fg) i (fg2 (n - 1 - i)) = cpy (i + 1) (rev n fg2) fg from cpy_s _ (rev n fg2) _)
            have hP := va_P_eq e9 hP
            have hD := va_D_eq e9 hD
            refine lv_aload_n hx hb dX3_takeReversed_70 rfl (lv_at hl 1 rfl) ?_
            refine va_get (D := D) (ci := 3) (v := .ref ma) (C := RX3) (T := TX3) (N := 5) hx hb hts kX3_takeReversed_0 hown hK hP 0 rfl rfl 1 (by decide) (hts (.fieldLink RX3 15 "SightRidge$Profile" "masts" "[I") kX3_takeReversed_3) (fun _ h9 => h9) rfl dX3_takeReversed_71 ?_
            refine lv_iload_n hx hb dX3_takeReversed_74 rfl (lv_at hl 4 rfl) ?_
            refine lv_aload_n hx hb dX3_takeReversed_75 rfl (lv_at hl 2 rfl) ?_
            refine va_get (D := D) (ci := 3) (v := .ref ma2) (C := RX3) (T := TX3) (N := 5) hx hb hts kX3_takeReversed_0 hown hK hP 3 rfl rfl 1 (by decide) (hts (.fieldLink RX3 15 "SightRidge$Profile" "masts" "[I") kX3_takeReversed_3) (fun _ h9 => h9) rfl dX3_takeReversed_76 ?_
            refine lv_iload hx hb dX3_takeReversed_79 (lv_at hl 0 rfl) ?_
            refine va_iald hx hb hK hP 5 0 rfl rfl (i := nI (n - 1 - i)) (vp_in_nI (N := 20) (by omega) (by decide)) dX3_takeReversed_81 ?_
            rw [nI_clamp (n := n - 1 - i) (by omega)]
            refine va_iast hx hb hK hP hD hS 2 0 rfl rfl (i := nI i) (vp_in_nI (N := 20) (by omega) (by decide)) dX3_takeReversed_82 (fun H locs hP hD hS => ?_)
            rw [nI_clamp (n := i) (by omega)] at hP hD
            have hP : va_P D vwCl [(o, .inr (3, [.ref ga, .ref ma, .int (nI n), .int rg, .int bl])), (ga, .inl (cI, 20, .inl (cpy (i + 1) (rev n fg2) fg))), (ma, .inl (cI, 20, .inl (upd (cpy i (rev n fm2) fm) i (fm2 (n - 1 - i))))), (o2, .inr (3, [.ref ga2, .ref ma2, .int (nI n), .int rg2, .int bl2])), (ga2, .inl (cI, 20, .inl fg2)), (ma2, .inl (cI, 20, .inl fm2))] _ := hP
            have hD : va_D (inW [(o, .inr (3, [.ref ga, .ref ma, .int (nI n), .int rg, .int bl])), (ga, .inl (cI, 20, .inl fg)), (ma, .inl (cI, 20, .inl fm)), (o2, .inr (3, [.ref ga2, .ref ma2, .int (nI n), .int rg2, .int bl2])), (ga2, .inl (cI, 20, .inl fg2)), (ma2, .inl (cI, 20, .inl fm2))]) [(o, .inr (3, [.ref ga, .ref ma, .int (nI n), .int rg, .int bl])), (ga, .inl (cI, 20, .inl (cpy (i + 1) (rev n fg2) fg))), (ma, .inl (cI, 20, .inl (upd (cpy i (rev n fm2) fm) i (fm2 (n - 1 - i))))), (o2, .inr (3, [.ref ga2, .ref ma2, .int (nI n), .int rg2, .int bl2])), (ga2, .inl (cI, 20, .inl fg2)), (ma2, .inl (cI, 20, .inl fm2))] := hD
            have e9 : ([(o, .inr (3, [.ref ga, .ref ma, .int (nI n), .int rg, .int bl])), (ga, .inl (cI, 20, .inl (cpy (i + 1) (rev n fg2) fg))), (ma, .inl (cI, 20, .inl (upd (cpy i (rev n fm2) fm) i (fm2 (n - 1 - i))))), (o2, .inr (3, [.ref ga2, .ref ma2, .int (nI n), .int rg2, .int bl2])), (ga2, .inl (cI, 20, .inl fg2)), (ma2, .inl (cI, 20, .inl fm2))] : va_W) = [(o, .inr (3, [.ref ga, .ref ma, .int (nI n), .int rg, .int bl])), (ga, .inl (cI, 20, .inl (cpy (i + 1) (rev n fg2) fg))), (ma, .inl (cI, 20, .inl (cpy (i + 1) (rev n fm2) fm))), (o2, .inr (3, [.ref ga2, .ref ma2, .int (nI n), .int rg2, .int bl2])), (ga2, .inl (cI, 20, .inl fg2)), (ma2, .inl (cI, 20, .inl fm2))] := congrArg (fun f9 : Nat → Int32 => ([(o, .inr (3, [.ref ga, .ref ma, .int (nI n), .int rg, .int bl])), (ga, .inl (cI, 20, .inl (cpy (i + 1) (rev n fg2) fg))), (ma, .inl (cI, 20, .inl f9)), (o2, .inr (3, [.ref ga2, .ref ma2, .int (nI n), .int rg2, .int bl2])), (ga2, .inl (cI, 20, .inl fg2)), (ma2, .inl (cI, 20, .inl fm2))] : va_W)) (show upd (cpy i (rev n fm2) fm) i (fm2 (n - 1 - i)) = cpy (i + 1) (rev n fm2) fm from cpy_s _ (rev n fm2) _)
            have hP := va_P_eq e9 hP
            have hD := va_D_eq e9 hD
            refine lv_iinc (v := nI (i + 1)) (lv' := [(3, .int (nI (i + 1))), (4, .int (nI (n - 1 - i))), (0, .ref o), (1, .ref o2), (2, .int (nI t))]) hx hb dX3_takeReversed_83 hl (k := 4) rfl (inc1 _) (by decide) rfl (fun ls hl => ?_)
            refine lv_goto (tgt := 4) hx hb dX3_takeReversed_86 (by decide) ?_
            exact ih_4 (i + 1) t (by omega) (by omega) (by first | (rw [fb_ct_T (decide_eq_true (Or.inl c_35)), ht]; done) | (rw [fb_ct_T (decide_eq_true (Or.inr c_51)), ht]; done) | (rw [fb_ct_F (decide_eq_false (fun q => q.elim (fun z => z c_35) (fun z => z c_51))), ht]; done) | fail) _ _ hP hD hS ls (lv_sub hl [2, 3, 4, 0] rfl)
          · skip
            have c_51 := c_51
            refine lv_iinc (v := nI (t + 1)) (lv' := [(2, .int (nI (t + 1))), (4, .int (nI (n - 1 - i))), (0, .ref o), (1, .ref o2), (3, .int (nI i))]) hx hb dX3_takeReversed_54 hl (k := 3) rfl (inc1 _) (by decide) rfl (fun ls hl => ?_)
            refine lv_aload_n hx hb dX3_takeReversed_57 rfl (lv_at hl 2 rfl) ?_
            refine va_get (D := D) (ci := 3) (v := .ref ga) (C := RX3) (T := TX3) (N := 5) hx hb hts kX3_takeReversed_0 hown hK hP 0 rfl rfl 0 (by decide) (hts (.fieldLink RX3 9 "SightRidge$Profile" "grounds" "[I") kX3_takeReversed_2) (fun _ h9 => h9) rfl dX3_takeReversed_58 ?_
            refine lv_iload_n hx hb dX3_takeReversed_61 rfl (lv_at hl 4 rfl) ?_
            refine lv_aload_n hx hb dX3_takeReversed_62 rfl (lv_at hl 3 rfl) ?_
            refine va_get (D := D) (ci := 3) (v := .ref ga2) (C := RX3) (T := TX3) (N := 5) hx hb hts kX3_takeReversed_0 hown hK hP 3 rfl rfl 0 (by decide) (hts (.fieldLink RX3 9 "SightRidge$Profile" "grounds" "[I") kX3_takeReversed_2) (fun _ h9 => h9) rfl dX3_takeReversed_63 ?_
            refine lv_iload hx hb dX3_takeReversed_66 (lv_at hl 1 rfl) ?_
            refine va_iald hx hb hK hP 4 0 rfl rfl (i := nI (n - 1 - i)) (vp_in_nI (N := 20) (by omega) (by decide)) dX3_takeReversed_68 ?_
            rw [nI_clamp (n := n - 1 - i) (by omega)]
            refine va_iast hx hb hK hP hD hS 1 0 rfl rfl (i := nI i) (vp_in_nI (N := 20) (by omega) (by decide)) dX3_takeReversed_69 (fun H locs hP hD hS => ?_)
            rw [nI_clamp (n := i) (by omega)] at hP hD
            have hP : va_P D vwCl [(o, .inr (3, [.ref ga, .ref ma, .int (nI n), .int rg, .int bl])), (ga, .inl (cI, 20, .inl (upd (cpy i (rev n fg2) fg) i (fg2 (n - 1 - i))))), (ma, .inl (cI, 20, .inl (cpy i (rev n fm2) fm))), (o2, .inr (3, [.ref ga2, .ref ma2, .int (nI n), .int rg2, .int bl2])), (ga2, .inl (cI, 20, .inl fg2)), (ma2, .inl (cI, 20, .inl fm2))] _ := hP
            have hD : va_D (inW [(o, .inr (3, [.ref ga, .ref ma, .int (nI n), .int rg, .int bl])), (ga, .inl (cI, 20, .inl fg)), (ma, .inl (cI, 20, .inl fm)), (o2, .inr (3, [.ref ga2, .ref ma2, .int (nI n), .int rg2, .int bl2])), (ga2, .inl (cI, 20, .inl fg2)), (ma2, .inl (cI, 20, .inl fm2))]) [(o, .inr (3, [.ref ga, .ref ma, .int (nI n), .int rg, .int bl])), (ga, .inl (cI, 20, .inl (upd (cpy i (rev n fg2) fg) i (fg2 (n - 1 - i))))), (ma, .inl (cI, 20, .inl (cpy i (rev n fm2) fm))), (o2, .inr (3, [.ref ga2, .ref ma2, .int (nI n), .int rg2, .int bl2])), (ga2, .inl (cI, 20, .inl fg2)), (ma2, .inl (cI, 20, .inl fm2))] := hD
            have e9 : ([(o, .inr (3, [.ref ga, .ref ma, .int (nI n), .int rg, .int bl])), (ga, .inl (cI, 20, .inl (upd (cpy i (rev n fg2) fg) i (fg2 (n - 1 - i))))), (ma, .inl (cI, 20, .inl (cpy i (rev n fm2) fm))), (o2, .inr (3, [.ref ga2, .ref ma2, .int (nI n), .int rg2, .int bl2])), (ga2, .inl (cI, 20, .inl fg2)), (ma2, .inl (cI, 20, .inl fm2))] : va_W) = [(o, .inr (3, [.ref ga, .ref ma, .int (nI n), .int rg, .int bl])), (ga, .inl (cI, 20, .inl (cpy (i + 1) (rev n fg2) fg))), (ma, .inl (cI, 20, .inl (cpy i (rev n fm2) fm))), (o2, .inr (3, [.ref ga2, .ref ma2, .int (nI n), .int rg2, .int bl2])), (ga2, .inl (cI, 20, .inl fg2)), (ma2, .inl (cI, 20, .inl fm2))] := congrArg (fun f9 : Nat → Int32 => ([(o, .inr (3, [.ref ga, .ref ma, .int (nI n), .int rg, .int bl])), (ga, .inl (cI, 20, .inl f9)), (ma, .inl (cI, 20, .inl (cpy i (rev n fm2) fm))), (o2, .inr (3, [.ref ga2, .ref ma2, .int (nI n), .int rg2, .int bl2])), (ga2, .inl (cI, 20, .inl fg2)), (ma2, .inl (cI, 20, .inl fm2))] : va_W)) (show upd (cpy i (rev n fg2) fg) i (fg2 (n - 1 - i)) = cpy (i + 1) (rev n fg2) fg from cpy_s _ (rev n fg2) _)
            have hP := va_P_eq e9 hP
            have hD := va_D_eq e9 hD
            refine lv_aload_n hx hb dX3_takeReversed_70 rfl (lv_at hl 2 rfl) ?_
            refine va_get (D := D) (ci := 3) (v := .ref ma) (C := RX3) (T := TX3) (N := 5) hx hb hts kX3_takeReversed_0 hown hK hP 0 rfl rfl 1 (by decide) (hts (.fieldLink RX3 15 "SightRidge$Profile" "masts" "[I") kX3_takeReversed_3) (fun _ h9 => h9) rfl dX3_takeReversed_71 ?_
            refine lv_iload_n hx hb dX3_takeReversed_74 rfl (lv_at hl 4 rfl) ?_
            refine lv_aload_n hx hb dX3_takeReversed_75 rfl (lv_at hl 3 rfl) ?_
            refine va_get (D := D) (ci := 3) (v := .ref ma2) (C := RX3) (T := TX3) (N := 5) hx hb hts kX3_takeReversed_0 hown hK hP 3 rfl rfl 1 (by decide) (hts (.fieldLink RX3 15 "SightRidge$Profile" "masts" "[I") kX3_takeReversed_3) (fun _ h9 => h9) rfl dX3_takeReversed_76 ?_
            refine lv_iload hx hb dX3_takeReversed_79 (lv_at hl 1 rfl) ?_
            refine va_iald hx hb hK hP 5 0 rfl rfl (i := nI (n - 1 - i)) (vp_in_nI (N := 20) (by omega) (by decide)) dX3_takeReversed_81 ?_
            rw [nI_clamp (n := n - 1 - i) (by omega)]
            refine va_iast hx hb hK hP hD hS 2 0 rfl rfl (i := nI i) (vp_in_nI (N := 20) (by omega) (by decide)) dX3_takeReversed_82 (fun H locs hP hD hS => ?_)
            rw [nI_clamp (n := i) (by omega)] at hP hD
            have hP : va_P D vwCl [(o, .inr (3, [.ref ga, .ref ma, .int (nI n), .int rg, .int bl])), (ga, .inl (cI, 20, .inl (cpy (i + 1) (rev n fg2) fg))), (ma, .inl (cI, 20, .inl (upd (cpy i (rev n fm2) fm) i (fm2 (n - 1 - i))))), (o2, .inr (3, [.ref ga2, .ref ma2, .int (nI n), .int rg2, .int bl2])), (ga2, .inl (cI, 20, .inl fg2)), (ma2, .inl (cI, 20, .inl fm2))] _ := hP
            have hD : va_D (inW [(o, .inr (3, [.ref ga, .ref ma, .int (nI n), .int rg, .int bl])), (ga, .inl (cI, 20, .inl fg)), (ma, .inl (cI, 20, .inl fm)), (o2, .inr (3, [.ref ga2, .ref ma2, .int (nI n), .int rg2, .int bl2])), (ga2, .inl (cI, 20, .inl fg2)), (ma2, .inl (cI, 20, .inl fm2))]) [(o, .inr (3, [.ref ga, .ref ma, .int (nI n), .int rg, .int bl])), (ga, .inl (cI, 20, .inl (cpy (i + 1) (rev n fg2) fg))), (ma, .inl (cI, 20, .inl (upd (cpy i (rev n fm2) fm) i (fm2 (n - 1 - i))))), (o2, .inr (3, [.ref ga2, .ref ma2, .int (nI n), .int rg2, .int bl2])), (ga2, .inl (cI, 20, .inl fg2)), (ma2, .inl (cI, 20, .inl fm2))] := hD
            have e9 : ([(o, .inr (3, [.ref ga, .ref ma, .int (nI n), .int rg, .int bl])), (ga, .inl (cI, 20, .inl (cpy (i + 1) (rev n fg2) fg))), (ma, .inl (cI, 20, .inl (upd (cpy i (rev n fm2) fm) i (fm2 (n - 1 - i))))), (o2, .inr (3, [.ref ga2, .ref ma2, .int (nI n), .int rg2, .int bl2])), (ga2, .inl (cI, 20, .inl fg2)), (ma2, .inl (cI, 20, .inl fm2))] : va_W) = [(o, .inr (3, [.ref ga, .ref ma, .int (nI n), .int rg, .int bl])), (ga, .inl (cI, 20, .inl (cpy (i + 1) (rev n fg2) fg))), (ma, .inl (cI, 20, .inl (cpy (i + 1) (rev n fm2) fm))), (o2, .inr (3, [.ref ga2, .ref ma2, .int (nI n), .int rg2, .int bl2])), (ga2, .inl (cI, 20, .inl fg2)), (ma2, .inl (cI, 20, .inl fm2))] := congrArg (fun f9 : Nat → Int32 => ([(o, .inr (3, [.ref ga, .ref ma, .int (nI n), .int rg, .int bl])), (ga, .inl (cI, 20, .inl (cpy (i + 1) (rev n fg2) fg))), (ma, .inl (cI, 20, .inl f9)), (o2, .inr (3, [.ref ga2, .ref ma2, .int (nI n), .int rg2, .int bl2])), (ga2, .inl (cI, 20, .inl fg2)), (ma2, .inl (cI, 20, .inl fm2))] : va_W)) (show upd (cpy i (rev n fm2) fm) i (fm2 (n - 1 - i)) = cpy (i + 1) (rev n fm2) fm from cpy_s _ (rev n fm2) _)
            have hP := va_P_eq e9 hP
            have hD := va_D_eq e9 hD
            refine lv_iinc (v := nI (i + 1)) (lv' := [(3, .int (nI (i + 1))), (2, .int (nI (t + 1))), (4, .int (nI (n - 1 - i))), (0, .ref o), (1, .ref o2)]) hx hb dX3_takeReversed_83 hl (k := 4) rfl (inc1 _) (by decide) rfl (fun ls hl => ?_)
            refine lv_goto (tgt := 4) hx hb dX3_takeReversed_86 (by decide) ?_
            exact ih_4 (i + 1) (t + 1) (by omega) (by omega) (by first | (rw [fb_ct_T (decide_eq_true (Or.inl c_35)), ht]; done) | (rw [fb_ct_T (decide_eq_true (Or.inr c_51)), ht]; done) | (rw [fb_ct_F (decide_eq_false (fun q => q.elim (fun z => z c_35) (fun z => z c_51))), ht]; done) | fail) _ _ hP hD hS ls (lv_sub hl [3, 4, 1, 0] rfl)
  exact L_4 _ 0 0 (Nat.lt_succ_self _) (by omega) (rfl) _ _ hP hD hS ls (lv_sub hl [2, 3, 1, 0] rfl)
/-- the ground at k of an even slope from a to b -/
def slp (G : Nat → Int32) (a b k : Nat) : Int32 := G a + (G b - G a) * nI (k - a) / nI (b - a)
def slG (G : Nat → Int32) (a b : Nat) (k : Nat) : Int32 := if a < k ∧ k < b then slp G a b k else G k
/-- the first i places behind a are even already -/
def slI (f : Nat → Int32) (G : Nat → Int32) (a b i : Nat) : Nat → Int32 := fun k => if a < k ∧ k < i then slp G a b k else f k
theorem slI_0 (f G : Nat → Int32) (a b : Nat) : slI f G a b (a + 1) = f := by funext k; unfold slI; rw [if_neg (by omega)]
theorem slI_s (f G : Nat → Int32) {a b i : Nat} (h : a < i) : upd (slI f G a b i) i (slp G a b i) = slI f G a b (i + 1) := by
  funext k; unfold upd slI
  by_cases h1 : k = i
  · rw [if_pos h1, if_pos (by omega), h1]
  · rw [if_neg h1]
    by_cases h2 : a < k ∧ k < i
    · rw [if_pos h2, if_pos (by omega)]
    · rw [if_neg h2, if_neg (by omega)]
def slB (G : Nat → Int32) (a b : Nat) (k : Nat) : Bool := decide (a < k) && decide (G k ≠ slp G a b k)
theorem kX3_even_0 : ∀ w ∈ wsX30, w ∈ wsX3_even := by decide +kernel
theorem kX3_even_1 : (.fieldLink RX3 9 "SightRidge$Profile" "grounds" "[I" : Cond) ∈ wsX3_even := by decide +kernel
set_option maxHeartbeats 4000000 in
set_option maxRecDepth 100000 in
/-- even(a, b) -/
theorem c_X3_even (l : Launch) (D : va_G) (cI cB cO : ClassId) (o ga ma : Nat) (n : Nat) (rg bl : Int32) (fg fm : Nat → Int32) (G : Nat → Int32) (a b : Nat) (hn : n ≤ 20) (hG : ∀ k, k < n → fg k = G k) (hab : a < b) (hb0 : b < n) : Met l yX3_even wsX3_even (rmD 2) (wrPc D (tyL cI cB cO) [.ref o, .int (nI a), .int (nI b)] [(o, .inr (3, [.ref ga, .ref ma, .int (nI n), .int rg, .int bl])), (ga, .inl (cI, 20, .inl fg)), (ma, .inl (cI, 20, .inl fm))]) (wrQi D [(o, .inr (3, [.ref ga, .ref ma, .int (nI n), .int rg, .int bl])), (ga, .inl (cI, 20, .inl fg)), (ma, .inl (cI, 20, .inl fm))] (fun (r : Int32) (u : Unit) => r = nI (fb_ct (slB G a b) b)) (fun (u : Unit) => [(o, .inr (3, [.ref ga, .ref ma, .int (nI n), .int rg, .int bl])), (ga, .inl (cI, 20, .inl (slI fg G a b b))), (ma, .inl (cI, 20, .inl fm))])) 0 0 (inW [(o, .inr (3, [.ref ga, .ref ma, .int (nI n), .int rg, .int bl])), (ga, .inl (cI, 20, .inl fg)), (ma, .inl (cI, 20, .inl fm))]) := by
  refine Met.ofW (cc := cX3_even) (maxL := 7) (ret := (some .int)) (by decide) rfl ?_
  intro p e s m args below meth c s₁ B hml hv
  obtain ⟨rfl, hP, hK, hN, hD⟩ := hv
  have hx := B.exec
  have hb := B.bytes
  have hr := B.returns
  have hts := atoms_spec (ws := wsX3_even) B.pre
  have hown : s.vm.findClass RX3 = some m.cls := findClass_of_methodNamed B.named
  have hlocks := B.notSynchronized
  have hS : va_S (inW [(o, .inr (3, [.ref ga, .ref ma, .int (nI n), .int rg, .int bl])), (ga, .inl (cI, 20, .inl fg)), (ma, .inl (cI, 20, .inl fm))]) s.heap s.heap [] := va_S.rf
  have hD : va_D (inW [(o, .inr (3, [.ref ga, .ref ma, .int (nI n), .int rg, .int bl])), (ga, .inl (cI, 20, .inl fg)), (ma, .inl (cI, 20, .inl fm))]) [(o, .inr (3, [.ref ga, .ref ma, .int (nI n), .int rg, .int bl])), (ga, .inl (cI, 20, .inl fg)), (ma, .inl (cI, 20, .inl fm))] := inW_self hD
  have hl := lv_entry ([.ref o, .int (nI a), .int (nI b)]) (n := 7) (Nat.le_of_ble_eq_true rfl)
  rw [lg_entry_eq]
  generalize (lg_sl ([.ref o, .int (nI a), .int (nI b)]) ++ List.replicate (7 - (lg_sl ([.ref o, .int (nI a), .int (nI b)])).length) Slot.unset).toArray = ls at hl ⊢
  have hl : lv_has ls 7 [(0, .ref o), (1, .int (nI a)), (2, .int (nI b))] := hl
  refine lv_aload_n hx hb dX3_even_0 rfl (lv_at hl 0 rfl) ?_
  refine lv_iload_n hx hb dX3_even_1 rfl (lv_at hl 1 rfl) ?_
  refine rd_calli hP hS (va_runV (As := [.int (nI a)]) (rest := []) ⟨hx, hb, hml, hown, hts⟩ (c_X3_has l D cI cB cO o ga ma n rg bl fg fm (nI a) ) (cwV 1 hts gX3_even_X3_has rfl rfl rfl (by decide +kernel) ⟨Nat.le_of_ble_eq_true rfl, Nat.le_of_ble_eq_true rfl⟩) (rd_preV (r := (RX3, TX3, 5)) (ci := 3) hK (hP.pick [0, 1, 2] rfl) hN (q0 := 0) rfl rfl) rfl rfl hl.1 rfl (lv_room (Nat.le_of_ble_eq_true rfl)) dX3_even_2 ⟨Nat.le_refl _, Nat.le_refl _⟩) (fun r_2 H locs h_2 hP hS => ?_)
  rw [hasB_in (by omega) hn] at h_2
  subst h_2
  refine lv_if_eq (tgt := 21) hx hb dX3_even_5 (by decide) (fun c_5 => ?_) (fun c_5 => ?_)
  · skip
    exact absurd c_5 (by decide)
  · skip
    refine lv_aload_n hx hb dX3_even_8 rfl (lv_at hl 0 rfl) ?_
    refine lv_iload_n hx hb dX3_even_9 rfl (lv_at hl 2 rfl) ?_
    refine rd_calli hP hS (va_runV (As := [.int (nI b)]) (rest := []) ⟨hx, hb, hml, hown, hts⟩ (c_X3_has l D cI cB cO o ga ma n rg bl fg fm (nI b) ) (cwV 1 hts gX3_even_X3_has rfl rfl rfl (by decide +kernel) ⟨Nat.le_of_ble_eq_true rfl, Nat.le_of_ble_eq_true rfl⟩) (rd_preV (r := (RX3, TX3, 5)) (ci := 3) hK (hP.pick [0, 1, 2] rfl) hN (q0 := 0) rfl rfl) rfl rfl hl.1 rfl (lv_room (Nat.le_of_ble_eq_true rfl)) dX3_even_10 ⟨Nat.le_refl _, Nat.le_refl _⟩) (fun r_10 H locs h_10 hP hS => ?_)
    rw [hasB_in (by omega) hn] at h_10
    subst h_10
    refine lv_if_eq (tgt := 21) hx hb dX3_even_13 (by decide) (fun c_13 => ?_) (fun c_13 => ?_)
    · skip
      exact absurd c_13 (by decide)
    · skip
      refine lv_iload_n hx hb dX3_even_16 rfl (lv_at hl 1 rfl) ?_
      refine lv_iload_n hx hb dX3_even_17 rfl (lv_at hl 2 rfl) ?_
      refine lv_icmp_lt (tgt := 23) hx hb dX3_even_18 (by decide) (fun c_18 => ?_) (fun c_18 => ?_)
      · skip
        refine lv_iconst (v := 0) hx hb dX3_even_23 (by decide) ?_
        refine lv_istore_n (lv' := [(3, .int 0), (0, .ref o), (1, .int (nI a)), (2, .int (nI b))]) hx hb dX3_even_24 rfl hl (by decide) rfl (fun ls hl => ?_)
        refine lv_aload_n hx hb dX3_even_25 rfl (lv_at hl 1 rfl) ?_
        refine va_get (D := D) (ci := 3) (v := .ref ga) (C := RX3) (T := TX3) (N := 5) hx hb hts kX3_even_0 hown hK hP 0 rfl rfl 0 (by decide) (hts (.fieldLink RX3 9 "SightRidge$Profile" "grounds" "[I") kX3_even_1) (fun _ h9 => h9) rfl dX3_even_26 ?_
        refine lv_iload_n hx hb dX3_even_29 rfl (lv_at hl 3 rfl) ?_
        refine va_iald hx hb hK hP 1 0 rfl rfl (i := nI b) (vp_in_nI (N := 20) (by omega) (by decide)) dX3_even_30 ?_
        rw [nI_clamp (n := b) (by omega)]
        refine lv_topi (fun y_1 e_2 => ?_)
        have e_2 : G b = y_1 := (e_2.trans (hG b hb0)).symm
        subst e_2
        refine lv_aload_n hx hb dX3_even_31 rfl (lv_at hl 1 rfl) ?_
        refine va_get (D := D) (ci := 3) (v := .ref ga) (C := RX3) (T := TX3) (N := 5) hx hb hts kX3_even_0 hown hK hP 0 rfl rfl 0 (by decide) (hts (.fieldLink RX3 9 "SightRidge$Profile" "grounds" "[I") kX3_even_1) (fun _ h9 => h9) rfl dX3_even_32 ?_
        refine lv_iload_n hx hb dX3_even_35 rfl (lv_at hl 2 rfl) ?_
        refine va_iald hx hb hK hP 1 0 rfl rfl (i := nI a) (vp_in_nI (N := 20) (by omega) (by decide)) dX3_even_36 ?_
        rw [nI_clamp (n := a) (by omega)]
        refine lv_topi (fun y_3 e_4 => ?_)
        have e_4 : G a = y_3 := (e_4.trans (hG a (by omega))).symm
        subst e_4
        refine lv_isub hx hb dX3_even_37 ?_
        refine lv_istore (lv' := [(4, .int ((G b) - (G a))), (3, .int 0), (0, .ref o), (1, .int (nI a)), (2, .int (nI b))]) hx hb dX3_even_38 hl (by decide) rfl (fun ls hl => ?_)
        refine lv_iload_n hx hb dX3_even_40 rfl (lv_at hl 3 rfl) ?_
        refine lv_iconst (v := 1) hx hb dX3_even_41 (by decide) ?_
        refine lv_iadd hx hb dX3_even_42 ?_
        refine lv_topi (fun y_5 e_6 => ?_)
        have e_6 : nI (a + 1) = y_5 := (e_6.trans (nI_add a 1)).symm
        subst e_6
        refine lv_istore (lv' := [(5, .int (nI (a + 1))), (4, .int ((G b) - (G a))), (3, .int 0), (0, .ref o), (1, .int (nI a)), (2, .int (nI b))]) hx hb dX3_even_43 hl (by decide) rfl (fun ls hl => ?_)
        have e9 : ([(o, .inr (3, [.ref ga, .ref ma, .int (nI n), .int rg, .int bl])), (ga, .inl (cI, 20, .inl fg)), (ma, .inl (cI, 20, .inl fm))] : va_W) = [(o, .inr (3, [.ref ga, .ref ma, .int (nI n), .int rg, .int bl])), (ga, .inl (cI, 20, .inl (slI fg G a b (a + 1)))), (ma, .inl (cI, 20, .inl fm))] := congrArg (fun f9 : Nat → Int32 => ([(o, .inr (3, [.ref ga, .ref ma, .int (nI n), .int rg, .int bl])), (ga, .inl (cI, 20, .inl f9)), (ma, .inl (cI, 20, .inl fm))] : va_W)) (show fg = slI fg G a b (a + 1) from (slI_0 _ _ _ _).symm)
        have hP := va_P_eq e9 hP
        have hD := va_D_eq e9 hD
        have L_45 : ∀ (k_45 : Nat) (i : Nat) (t : Nat), b - i < k_45 → (i ≤ b) → (a < i) → (t = fb_ct (slB G a b) i) → ∀ (H : Heap) (locs : List Loc), va_P D vwCl [(o, .inr (3, [.ref ga, .ref ma, .int (nI n), .int rg, .int bl])), (ga, .inl (cI, 20, .inl (slI fg G a b i))), (ma, .inl (cI, 20, .inl fm))] H → va_D (inW [(o, .inr (3, [.ref ga, .ref ma, .int (nI n), .int rg, .int bl])), (ga, .inl (cI, 20, .inl fg)), (ma, .inl (cI, 20, .inl fm))]) [(o, .inr (3, [.ref ga, .ref ma, .int (nI n), .int rg, .int bl])), (ga, .inl (cI, 20, .inl (slI fg G a b i))), (ma, .inl (cI, 20, .inl fm))] → va_S (inW [(o, .inr (3, [.ref ga, .ref ma, .int (nI n), .int rg, .int bl])), (ga, .inl (cI, 20, .inl fg)), (ma, .inl (cI, 20, .inl fm))]) s.heap H locs → ∀ (ls : Array Slot), lv_has ls 7 [(0, .ref o), (1, .int (nI a)), (2, .int (nI b)), (3, .int (nI t)), (4, .int (G b - G a)), (5, .int (nI i))] → W p l e (rmD 2) s m ([.ref o, .int (nI a), .int (nI b)] : List Value).toArray below meth c H locs 0 0 (MQ below (wrQi D [(o, .inr (3, [.ref ga, .ref ma, .int (nI n), .int rg, .int bl])), (ga, .inl (cI, 20, .inl fg)), (ma, .inl (cI, 20, .inl fm))] (fun (r : Int32) (u : Unit) => r = nI (fb_ct (slB G a b) b)) (fun (u : Unit) => [(o, .inr (3, [.ref ga, .ref ma, .int (nI n), .int rg, .int bl])), (ga, .inl (cI, 20, .inl (slI fg G a b b))), (ma, .inl (cI, 20, .inl fm))])) ([.ref o, .int (nI a), .int (nI b)] : List Value).toArray s 0 0 (inW [(o, .inr (3, [.ref ga, .ref ma, .int (nI n), .int rg, .int bl])), (ga, .inl (cI, 20, .inl fg)), (ma, .inl (cI, 20, .inl fm))])) (F0 m 45 ls []) := by
          intro k_45
          induction k_45 with
          | zero => intro i t h9; exact absurd h9 (Nat.not_lt_zero _)
          | succ k_45 ih_45 =>
            intro i t hm_45 hi hai ht H locs hP hD hS ls hl
            refine lv_iload hx hb dX3_even_45 (lv_at hl 5 rfl) ?_
            refine lv_iload_n hx hb dX3_even_47 rfl (lv_at hl 2 rfl) ?_
            refine lv_icmp_ge (tgt := 101) hx hb dX3_even_48 (by decide) (fun c_48 => ?_) (fun c_48 => ?_)
            · skip
              have c0 : b ≤ i := ge_t (by omega) c_48
              have ei : i = b := by omega
              subst ei
              refine lv_iload_n hx hb dX3_even_101 rfl (lv_at hl 3 rfl) ?_
              exact W.iret (v := nI t) hx hb hr (fun tS htS hWS => ⟨⟨nI t, (), rfl, congrArg nI ht, retP htS hP⟩, hS.F htS⟩) hS.2.2 dX3_even_102
            · skip
              have c0 : i < b := ge_f (by omega) c_48
              refine lv_aload_n hx hb dX3_even_51 rfl (lv_at hl 0 rfl) ?_
              refine va_get (D := D) (ci := 3) (v := .ref ga) (C := RX3) (T := TX3) (N := 5) hx hb hts kX3_even_0 hown hK hP 0 rfl rfl 0 (by decide) (hts (.fieldLink RX3 9 "SightRidge$Profile" "grounds" "[I") kX3_even_1) (fun _ h9 => h9) rfl dX3_even_52 ?_
              refine lv_iload_n hx hb dX3_even_55 rfl (lv_at hl 1 rfl) ?_
              refine va_iald hx hb hK hP 1 0 rfl rfl (i := nI a) (vp_in_nI (N := 20) (by omega) (by decide)) dX3_even_56 ?_
              rw [nI_clamp (n := a) (by omega)]
              refine lv_topi (fun y_7 e_8 => ?_)
              have e_8 : G a = y_7 := (e_8.trans ((show slI fg G a b i a = fg a from if_neg (by omega)).trans (hG a (by omega)))).symm
              subst e_8
              refine lv_iload hx hb dX3_even_57 (lv_at hl 4 rfl) ?_
              refine lv_iload hx hb dX3_even_59 (lv_at hl 5 rfl) ?_
              refine lv_iload_n hx hb dX3_even_61 rfl (lv_at hl 1 rfl) ?_
              refine lv_isub hx hb dX3_even_62 ?_
              refine lv_topi (fun y_9 e_10 => ?_)
              have e_10 : nI (i - a) = y_9 := (e_10.trans (pk_sub (by omega))).symm
              subst e_10
              refine lv_imul hx hb dX3_even_63 ?_
              refine lv_iload_n hx hb dX3_even_64 rfl (lv_at hl 2 rfl) ?_
              refine lv_iload_n hx hb dX3_even_65 rfl (lv_at hl 1 rfl) ?_
              refine lv_isub hx hb dX3_even_66 ?_
              refine lv_topi (fun y_11 e_12 => ?_)
              have e_12 : nI (b - a) = y_11 := (e_12.trans (pk_sub (by omega))).symm
              subst e_12
              refine lv_idiv hx hb dX3_even_67 (nI_ne0 (by omega) (by omega)) ?_
              refine lv_iadd hx hb dX3_even_68 ?_
              refine lv_topi (fun y_13 e_14 => ?_)
              have e_14 : slp G a b i = y_13 := (e_14.trans (rfl)).symm
              subst e_14
              refine lv_istore (lv' := [(6, .int (slp G a b i)), (0, .ref o), (1, .int (nI a)), (2, .int (nI b)), (3, .int (nI t)), (4, .int (G b - G a)), (5, .int (nI i))]) hx hb dX3_even_69 hl (by decide) rfl (fun ls hl => ?_)
              refine lv_aload_n hx hb dX3_even_71 rfl (lv_at hl 1 rfl) ?_
              refine va_get (D := D) (ci := 3) (v := .ref ga) (C := RX3) (T := TX3) (N := 5) hx hb hts kX3_even_0 hown hK hP 0 rfl rfl 0 (by decide) (hts (.fieldLink RX3 9 "SightRidge$Profile" "grounds" "[I") kX3_even_1) (fun _ h9 => h9) rfl dX3_even_72 ?_
              refine lv_iload hx hb dX3_even_75 (lv_at hl 6 rfl) ?_
              refine va_iald hx hb hK hP 1 0 rfl rfl (i := nI i) (vp_in_nI (N := 20) (by omega) (by decide)) dX3_even_77 ?_
              rw [nI_clamp (n := i) (by omega)]
              refine lv_topi (fun y_15 e_16 => ?_)
              have e_16 : G i = y_15 := (e_16.trans ((show slI fg G a b i i = fg i from if_neg (by omega)).trans (hG i (by omega)))).symm
              subst e_16
              refine lv_iload hx hb dX3_even_78 (lv_at hl 0 rfl) ?_
              refine lv_icmp_eq (tgt := 86) hx hb dX3_even_80 (by decide) (fun c_80 => ?_) (fun c_80 => ?_)
              · skip
                have c_80 : G i = slp G a b i := c_80
                refine lv_aload_n hx hb dX3_even_86 rfl (lv_at hl 1 rfl) ?_
                refine va_get (D := D) (ci := 3) (v := .ref ga) (C := RX3) (T := TX3) (N := 5) hx hb hts kX3_even_0 hown hK hP 0 rfl rfl 0 (by decide) (hts (.fieldLink RX3 9 "SightRidge$Profile" "grounds" "[I") kX3_even_1) (fun _ h9 => h9) rfl dX3_even_87 ?_
                refine lv_iload hx hb dX3_even_90 (lv_at hl 6 rfl) ?_
                refine lv_iload hx hb dX3_even_92 (lv_at hl 0 rfl) ?_
                refine va_iast hx hb hK hP hD hS 1 0 rfl rfl (i := nI i) (vp_in_nI (N := 20) (by omega) (by decide)) dX3_even_94 (fun H locs hP hD hS => ?_)
                rw [nI_clamp (n := i) (by omega)] at hP hD
                have hP : va_P D vwCl [(o, .inr (3, [.ref ga, .ref ma, .int (nI n), .int rg, .int bl])), (ga, .inl (cI, 20, .inl (upd (slI fg G a b i) i (slp G a b i)))), (ma, .inl (cI, 20, .inl fm))] _ := hP
                have hD : va_D (inW [(o, .inr (3, [.ref ga, .ref ma, .int (nI n), .int rg, .int bl])), (ga, .inl (cI, 20, .inl fg)), (ma, .inl (cI, 20, .inl fm))]) [(o, .inr (3, [.ref ga, .ref ma, .int (nI n), .int rg, .int bl])), (ga, .inl (cI, 20, .inl (upd (slI fg G a b i) i (slp G a b i)))), (ma, .inl (cI, 20, .inl fm))] := hD
                have e9 : ([(o, .inr (3, [.ref ga, .ref ma, .int (nI n), .int rg, .int bl])), (ga, .inl (cI, 20, .inl (upd (slI fg G a b i) i (slp G a b i)))), (ma, .inl (cI, 20, .inl fm))] : va_W) = [(o, .inr (3, [.ref ga, .ref ma, .int (nI n), .int rg, .int bl])), (ga, .inl (cI, 20, .inl (slI fg G a b (i + 1)))), (ma, .inl (cI, 20, .inl fm))] := congrArg (fun f9 : Nat → Int32 => ([(o, .inr (3, [.ref ga, .ref ma, .int (nI n), .int rg, .int bl])), (ga, .inl (cI, 20, .inl f9)), (ma, .inl (cI, 20, .inl fm))] : va_W)) (show upd (slI fg G a b i) i (slp G a b i) = slI fg G a b (i + 1) from slI_s _ _ hai)
                have hP := va_P_eq e9 hP
                have hD := va_D_eq e9 hD
                refine lv_iinc (v := nI (i + 1)) (lv' := [(5, .int (nI (i + 1))), (6, .int (slp G a b i)), (0, .ref o), (1, .int (nI a)), (2, .int (nI b)), (3, .int (nI t)), (4, .int (G b - G a))]) hx hb dX3_even_95 hl (k := 6) rfl (inc1 _) (by decide) rfl (fun ls hl => ?_)
                refine lv_goto (tgt := 45) hx hb dX3_even_98 (by decide) ?_
                exact ih_45 (i + 1) t (by omega) (by omega) (by omega) (by first | (rw [fb_ct_T (by unfold slB; rw [decide_eq_true hai, decide_eq_true c_80]; rfl), ht]; done) | (rw [fb_ct_F (by unfold slB; rw [decide_eq_false (p := G i ≠ slp G a b i) (fun q => q c_80), Bool.and_false]), ht]; done) | fail) _ _ hP hD hS ls (lv_sub hl [2, 3, 4, 5, 6, 0] rfl)
              · skip
                have c_80 : G i ≠ slp G a b i := c_80
                refine lv_iinc (v := nI (t + 1)) (lv' := [(3, .int (nI (t + 1))), (6, .int (slp G a b i)), (0, .ref o), (1, .int (nI a)), (2, .int (nI b)), (4, .int (G b - G a)), (5, .int (nI i))]) hx hb dX3_even_83 hl (k := 4) rfl (inc1 _) (by decide) rfl (fun ls hl => ?_)
                refine lv_aload_n hx hb dX3_even_86 rfl (lv_at hl 2 rfl) ?_
                refine va_get (D := D) (ci := 3) (v := .ref ga) (C := RX3) (T := TX3) (N := 5) hx hb hts kX3_even_0 hown hK hP 0 rfl rfl 0 (by decide) (hts (.fieldLink RX3 9 "SightRidge$Profile" "grounds" "[I") kX3_even_1) (fun _ h9 => h9) rfl dX3_even_87 ?_
                refine lv_iload hx hb dX3_even_90 (lv_at hl 6 rfl) ?_
                refine lv_iload hx hb dX3_even_92 (lv_at hl 1 rfl) ?_
                refine va_iast hx hb hK hP hD hS 1 0 rfl rfl (i := nI i) (vp_in_nI (N := 20) (by omega) (by decide)) dX3_even_94 (fun H locs hP hD hS => ?_)
                rw [nI_clamp (n := i) (by omega)] at hP hD
                have hP : va_P D vwCl [(o, .inr (3, [.ref ga, .ref ma, .int (nI n), .int rg, .int bl])), (ga, .inl (cI, 20, .inl (upd (slI fg G a b i) i (slp G a b i)))), (ma, .inl (cI, 20, .inl fm))] _ := hP
                have hD : va_D (inW [(o, .inr (3, [.ref ga, .ref ma, .int (nI n), .int rg, .int bl])), (ga, .inl (cI, 20, .inl fg)), (ma, .inl (cI, 20, .inl fm))]) [(o, .inr (3, [.ref ga, .ref ma, .int (nI n), .int rg, .int bl])), (ga, .inl (cI, 20, .inl (upd (slI fg G a b i) i (slp G a b i)))), (ma, .inl (cI, 20, .inl fm))] := hD
                have e9 : ([(o, .inr (3, [.ref ga, .ref ma, .int (nI n), .int rg, .int bl])), (ga, .inl (cI, 20, .inl (upd (slI fg G a b i) i (slp G a b i)))), (ma, .inl (cI, 20, .inl fm))] : va_W) = [(o, .inr (3, [.ref ga, .ref ma, .int (nI n), .int rg, .int bl])), (ga, .inl (cI, 20, .inl (slI fg G a b (i + 1)))), (ma, .inl (cI, 20, .inl fm))] := congrArg (fun f9 : Nat → Int32 => ([(o, .inr (3, [.ref ga, .ref ma, .int (nI n), .int rg, .int bl])), (ga, .inl (cI, 20, .inl f9)), (ma, .inl (cI, 20, .inl fm))] : va_W)) (show upd (slI fg G a b i) i (slp G a b i) = slI fg G a b (i + 1) from slI_s _ _ hai)
                have hP := va_P_eq e9 hP
                have hD := va_D_eq e9 hD
                refine lv_iinc (v := nI (i + 1)) (lv' := [(5, .int (nI (i + 1))), (3, .int (nI (t + 1))), (6, .int (slp G a b i)), (0, .ref o), (1, .int (nI a)), (2, .int (nI b)), (4, .int (G b - G a))]) hx hb dX3_even_95 hl (k := 6) rfl (inc1 _) (by decide) rfl (fun ls hl => ?_)
                refine lv_goto (tgt := 45) hx hb dX3_even_98 (by decide) ?_
                exact ih_45 (i + 1) (t + 1) (by omega) (by omega) (by omega) (by first | (rw [fb_ct_T (by unfold slB; rw [decide_eq_true hai, decide_eq_true c_80]; rfl), ht]; done) | (rw [fb_ct_F (by unfold slB; rw [decide_eq_false (p := G i ≠ slp G a b i) (fun q => q c_80), Bool.and_false]), ht]; done) | fail) _ _ hP hD hS ls (lv_sub hl [3, 4, 5, 1, 6, 0] rfl)
        exact L_45 _ (a + 1) 0 (Nat.lt_succ_self _) (by omega) (by omega) ((fb_ct_zero.mpr (fun k hk => by unfold slB; rw [decide_eq_false (by omega)]; rfl)).symm) _ _ hP hD hS ls (lv_sub hl [3, 4, 5, 2, 1, 0] rfl)
      · skip
        exact absurd (nI_lt hab (by omega)) c_18
