/-! the law's own frames: the arrays in front, the object's cells X behind -/
theorem wz_P {D : va_G} {cl : List vw_C} {pre wc : va_W} {H : Heap} (hP : va_P D cl (pre ++ wc) H) : va_P D cl wc H := wa_P (suf := []) (by rw [List.append_nil]; exact hP)
theorem wz_D {A : Nat → Prop} {pre wc : va_W} (hD : va_D A (pre ++ wc)) : va_D A wc := wa_D (suf := []) (by rw [List.append_nil]; exact hD)
theorem wz_in {A0 : Nat → Prop} {pre wc : va_W} (hD : va_D A0 (pre ++ wc)) : ∀ q, inW wc q → A0 q := wa_in (suf := []) (by rw [List.append_nil]; exact hD)
theorem wz_join {A0 : Nat → Prop} {D : va_G} {cl : List vw_C} {pre wc w1 : va_W} {H H1 : Heap} (hP : va_P D cl (pre ++ wc) H) (hD : va_D A0 (pre ++ wc))
    (hk : ∀ q : Nat, q < H.size → ¬ inW wc q → H1[q]? = H[q]?) (hP1 : va_P D cl w1 H1) (ha : w1.map Prod.fst = wc.map Prod.fst) : va_P D cl (pre ++ w1) H1 ∧ va_D A0 (pre ++ w1) := by
  have h := wa_join (suf := []) (by rw [List.append_nil]; exact hP) (by rw [List.append_nil]; exact hD) hk hP1 ha
  rw [List.append_nil] at h
  exact h
theorem SRX.inA {cI cB cO : ClassId} {A : Nat → Nat} {X : va_W} {n : Nat} {rg bl : Int32} {G M : Nat → Int32} (h : SRX cI cB cO A X n rg bl G M) : ∀ q, inW (adW A) q → inW X q := fun q ⟨k, e, hk⟩ => fst_in (ws := adW A) (ws0 := X) h.fst.symm k (q, e) hk
theorem SRX.inX {cI cB cO : ClassId} {A : Nat → Nat} {X : va_W} {n : Nat} {rg bl : Int32} {G M : Nat → Int32} (h : SRX cI cB cO A X n rg bl G M) : ∀ q, inW X q → inW (adW A) q := fun q ⟨k, e, hk⟩ => fst_in (ws := X) (ws0 := adW A) h.fst k (q, e) hk
section LAWF
variable {p : Program} {l : Launch} {e : Env} {R : Room} {s : State} {m : MethodId} {args : Array Value} {below : List Frame} {meth : Method} {c : Code} {H : Heap} {locs : List Loc} {cells slots : Nat} {Q : State → Prop}
  {st0 rest : List Value} {ls : Array Slot} {pc : Nat} {A0 : Nat → Prop} {H0 : Heap} {D : va_G} {cI cB cO : ClassId} {A : Nat → Nat} {pre wc X : va_W} {n n2 : Nat} {rg bl rg2 bl2 : Int32} {G M G2 M2 : Nat → Int32} {As : List Value} {tys : List (ClassId × FieldType)}
theorem W_join {pc2 : Nat} {st1 st2 : List Value} (E : Int32) (h : W p l e R s m args below meth c H locs cells slots Q (F0 m pc2 ls (.int E :: st2)))
    (k : (∀ x : Int32, x = E → W p l e R s m args below meth c H locs cells slots Q (F0 m pc2 ls (.int x :: st2))) → W p l e R s m args below meth c H locs cells slots Q (F0 m pc ls st1)) : W p l e R s m args below meth c H locs cells slots Q (F0 m pc ls st1) := k (fun x h9 => by rw [h9]; exact h)
theorem W_joinH {pc2 : Nat} {st1 st2 : List Value} {ws : va_W} (P : Int32 → Prop) (hP : va_P D vwCl ws H) (hD : va_D A0 ws) (hS : va_S A0 H0 H locs) (h : ∀ x : Int32, P x → ∀ (H1 : Heap) (locs1 : List Loc), va_P D vwCl ws H1 → va_D A0 ws → va_S A0 H0 H1 locs1 → W p l e R s m args below meth c H1 locs1 cells slots Q (F0 m pc2 ls (.int x :: st2)))
    (k : (∀ x : Int32, P x → ∀ (H1 : Heap) (locs1 : List Loc), va_P D vwCl ws H1 → va_D A0 ws → va_S A0 H0 H1 locs1 → W p l e R s m args below meth c H1 locs1 cells slots Q (F0 m pc2 ls (.int x :: st2))) → W p l e R s m args below meth c H locs cells slots Q (F0 m pc ls st1)) : W p l e R s m args below meth c H locs cells slots Q (F0 m pc ls st1) := k h
theorem ox_pre (hK : va_K D vwCl (tyL cI cB cO) s) (hP : va_P D vwCl (pre ++ X) H) (hD : va_D A0 (pre ++ X)) (hX : SRX cI cB cO A X n rg bl G M) (hN : NW s) : PreV s H RX6 (A 0) (yPc D cI cB cO A (.ref (A 0) :: As) n rg bl G M) As :=
  have hI : SRx D cI cB cO A H n rg bl G M := hX.to (wz_P hP)
  have hA : va_D (fun _ => True) (adW A) := va_D_fst hX.fst.symm ((wz_D hD).weaken (fun _ _ _ _ => trivial))
  ⟨fun a U g mk q => by obtain ⟨q0, qI, qK, qN, qD⟩ := q; exact ⟨q0, qI, va_K.moved (u := U) (U := U.calling g mk a) (Vm.Alike.refl U.vm) qK, NW.same (u := U) (U := U.calling g mk a) rfl qN, qD⟩, hI.recv hK, fun U hU hW => ⟨rfl, by rw [hU]; exact hI, va_K.moved hW.alike hK, hN.warm hW, hA⟩⟩
theorem ox_calli {v : Int32} {a : Array Value} (hP : va_P D vwCl (pre ++ X) H) (hD : va_D A0 (pre ++ X)) (hX : SRX cI cB cO A X n rg bl G M) (hS : va_S A0 H0 H locs)
    (hr : va_Run p l e R s m args below meth c H locs cells slots 0 0 (F0 m pc ls st0) rest (yQi D cI cB cO A v n2 rg2 bl2 G2 M2 a) (inW (adW A)))
    (kk : ∀ (X1 : va_W) (H1 : Heap) (locs1 : List Loc), SRX cI cB cO A X1 n2 rg2 bl2 G2 M2 → va_P D vwCl (pre ++ X1) H1 → va_D A0 (pre ++ X1) → va_S A0 H0 H1 locs1 → W p l e R s m args below meth c H1 locs1 cells slots Q (F0 m (pc + 3) ls (.int v :: rest))) : W p l e R s m args below meth c H locs cells slots Q (F0 m pc ls st0) :=
  va_calli hr hS (fun q _ h => wz_in hD q (hX.inA q h)) (fun q h => wz_in hD q (hX.inA q h)) (fun r u t H1 locs1 ht _ hp hB _ hk hS1 => by
    subst hp
    rw [ht] at hB
    obtain ⟨X1, hX1, hP1⟩ := SRx.to hB
    obtain ⟨h1, h2⟩ := wz_join hP hD (fun q h9 h8 => hk q h9 (fun w => h8 (hX.inA q w))) hP1 (hX1.fst.trans hX.fst.symm)
    exact kk X1 H1 locs1 hX1 h1 h2 hS1)
theorem wz_preS (hK : va_K D vwCl tys s) (hP : va_P D vwCl (pre ++ wc) H) (hD : va_D A0 (pre ++ wc)) (hN : NW s) : PreS s H (wrPc D tys As wc) As :=
  ⟨wrBlind, fun U hU hW => ⟨rfl, by rw [hU]; exact wz_P hP, va_K.moved hW.alike hK, hN.warm hW, (wz_D hD).weaken (fun _ _ _ _ => trivial)⟩⟩
theorem wz_calli {S : Type} {post : Int32 → S → Prop} {wo : S → va_W} {a : Array Value} (hP : va_P D vwCl (pre ++ wc) H) (hD : va_D A0 (pre ++ wc)) (hS : va_S A0 H0 H locs) (ha : ∀ r u, post r u → (wo u).map Prod.fst = wc.map Prod.fst)
    (hr : va_Run p l e R s m args below meth c H locs cells slots 0 0 (F0 m pc ls st0) rest (wrQi D wc post wo a) (inW wc))
    (kk : ∀ (r : Int32) (u : S) (H1 : Heap) (locs1 : List Loc), post r u → va_P D vwCl (pre ++ wo u) H1 → va_D A0 (pre ++ wo u) → va_S A0 H0 H1 locs1 → W p l e R s m args below meth c H1 locs1 cells slots Q (F0 m (pc + 3) ls (.int r :: rest))) : W p l e R s m args below meth c H locs cells slots Q (F0 m pc ls st0) :=
  va_calli hr hS (fun q _ h => wz_in hD q h) (fun q h => wz_in hD q h) (fun r u t H1 locs1 ht _ hp hB _ hk hS1 => by
    obtain ⟨h1, h2⟩ := wz_join hP hD hk (by rw [← ht]; exact hB) (ha r u hp)
    exact kk r u H1 locs1 hp h1 h2 hS1)
end LAWF
