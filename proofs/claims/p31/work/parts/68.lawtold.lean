/-! the law's great check -/
theorem va_P_front {D : va_G} {cl : List vw_C} {ws : va_W} {q : Nat × va_E} {H : Heap} (h : va_P D cl (ws ++ [q]) H) : va_P D cl (q :: ws) H := by
  intro k z hz
  cases k with
  | zero =>
    have hz : some q = some z := hz
    refine h ws.length z ?_
    rw [List.getElem?_append_right (Nat.le_refl _), Nat.sub_self]; exact hz
  | succ k =>
    have hz : ws[k]? = some z := hz
    refine h k z ?_
    rw [List.getElem?_append_left (List.getElem?_eq_some_iff.mp hz).1]; exact hz
theorem va_D_front {A : Nat → Prop} {ws : va_W} {q : Nat × va_E} (h : va_D A (ws ++ [q])) : va_D A (q :: ws) := by
  have key : ∀ (k : Nat) (z : Nat × va_E), (q :: ws)[k]? = some z → (ws ++ [q])[if k = 0 then ws.length else k - 1]? = some z := by
    intro k z hz
    cases k with
    | zero =>
      have hz : some q = some z := hz
      rw [if_pos rfl, List.getElem?_append_right (Nat.le_refl _), Nat.sub_self]; exact hz
    | succ k =>
      have hz : ws[k]? = some z := hz
      rw [if_neg (Nat.succ_ne_zero k), Nat.add_sub_cancel, List.getElem?_append_left (List.getElem?_eq_some_iff.mp hz).1]; exact hz
  have len : ∀ (k : Nat) (z : Nat × va_E), (q :: ws)[k]? = some z → k < ws.length + 1 := fun k z hz => (List.getElem?_eq_some_iff.mp hz).1
  refine ⟨fun i j x y hx hy hxy => ?_, fun k z hz => h.2 _ z (key k z hz)⟩
  have e := h.1 _ _ x y (key i x hx) (key j y hy) hxy
  have := len i x hx
  have := len j y hy
  split at e <;> split at e <;> omega
def pS (f : Nat → Int32) (k b : Nat) : Bool := decide (k < b) && seesB f (f 18) k (tp f (M8 f) k) b (tp f (M8 f) b)
def pC (f : Nat → Int32) (k b : Nat) : Bool := decide (k < b) && conB f (M8 f) (f 17) (f 18) k b
def lS (f : Nat → Int32) (n k : Nat) : Nat := fb_ct (pS f k) n
def lC (f : Nat → Int32) (n k : Nat) : Nat := fb_ct (pC f k) n
def lM (f : Nat → Int32) (k : Nat) : Nat := if 0 < f (8 + k) then 1 else 0
def lH (f : Nat → Int32) (k : Nat) : Nat := cN (f (8 + k))
theorem lH_eq {f : Nat → Int32} {n k : Nat} (hR : RF f n) (hk : k < n) : f (8 + k) = nI (lH f k) := by
  obtain ⟨q, hq, e⟩ := hR.m hk
  unfold lH
  rw [e, cN_nI (by omega)]
theorem pS_T {f : Nat → Int32} {k t : Nat} (h : k < t) (hs : seesB f (f 18) k (tp f (M8 f) k) t (tp f (M8 f) t) = true) : fb_ct (pS f k) (t + 1) = fb_ct (pS f k) t + 1 := fb_ct_T (by unfold pS; rw [decide_eq_true h, hs]; rfl)
theorem pS_F {f : Nat → Int32} {k t : Nat} (hs : seesB f (f 18) k (tp f (M8 f) k) t (tp f (M8 f) t) = false) : fb_ct (pS f k) (t + 1) = fb_ct (pS f k) t := fb_ct_F (by unfold pS; rw [hs, Bool.and_false])
theorem pS_G {f : Nat → Int32} {k t : Nat} (h : t ≤ k) : fb_ct (pS f k) (t + 1) = fb_ct (pS f k) t := fb_ct_F (by unfold pS; rw [decide_eq_false (Nat.not_lt.mpr h)]; rfl)
theorem pC_T {f : Nat → Int32} {k t : Nat} (h : k < t) (hs : conB f (M8 f) (f 17) (f 18) k t = true) : fb_ct (pC f k) (t + 1) = fb_ct (pC f k) t + 1 := fb_ct_T (by unfold pC; rw [decide_eq_true h, hs]; rfl)
theorem pC_F {f : Nat → Int32} {k t : Nat} (hs : conB f (M8 f) (f 17) (f 18) k t = false) : fb_ct (pC f k) (t + 1) = fb_ct (pC f k) t := fb_ct_F (by unfold pC; rw [hs, Bool.and_false])
theorem pC_G {f : Nat → Int32} {k t : Nat} (h : t ≤ k) : fb_ct (pC f k) (t + 1) = fb_ct (pC f k) t := fb_ct_F (by unfold pC; rw [decide_eq_false (Nat.not_lt.mpr h)]; rfl)
theorem fsR_lt {C : Nat → Nat → Bool} {n k t d v : Nat} (z : fsG (fsR C n k t) 0 d v) : d ≤ n := by
  rcases z with ⟨h1, h2, h3⟩ | ⟨a, b, h1, h2, h3, h4, h5⟩
  · omega
  · have := h1.2.1; omega
def hn1 (T : Nat → Int32) (a : Nat) : Nat := if 0 < a ∧ T a < T (a - 1) then 1 else 0
def hn2 (T : Nat → Int32) (n a : Nat) : Nat := if a + 1 < n ∧ T a < T (a + 1) then 1 else 0
theorem hn1_T {T : Nat → Int32} {a : Nat} (h : 0 < a) (c : ¬ T (a - 1) ≤ T a) : (1 : Int32) = nI (hn1 T a) := by unfold hn1; rw [if_pos ⟨h, Int32.not_le.mp c⟩]; rfl
theorem hn1_F {T : Nat → Int32} {a : Nat} (c : T (a - 1) ≤ T a) : (0 : Int32) = nI (hn1 T a) := by unfold hn1; rw [if_neg (fun q => absurd q.2 (Int32.not_lt.mpr c))]; rfl
theorem hn1_0 {T : Nat → Int32} {a : Nat} (h : a = 0) : (0 : Int32) = nI (hn1 T a) := by unfold hn1; rw [if_neg (fun q => by omega)]; rfl
theorem hn2_T {T : Nat → Int32} {n a : Nat} (h : a + 1 < n) (c : ¬ T (a + 1) ≤ T a) : (1 : Int32) = nI (hn2 T n a) := by unfold hn2; rw [if_pos ⟨h, Int32.not_le.mp c⟩]; rfl
theorem hn2_F {T : Nat → Int32} {n a : Nat} (c : T (a + 1) ≤ T a) : (0 : Int32) = nI (hn2 T n a) := by unfold hn2; rw [if_neg (fun q => absurd q.2 (Int32.not_lt.mpr c))]; rfl
theorem hn2_0 {T : Nat → Int32} {n a : Nat} (h : n ≤ a + 1) : (0 : Int32) = nI (hn2 T n a) := by unfold hn2; rw [if_neg (fun q => by omega)]; rfl
theorem cnt1 {f : Nat → Int32} {n : Nat} {rg bl : Int32} : A_count n rg bl f (M8 f) 0 0 1 = nI (dn (lM f) n 0) := by
  show nI (fb_ct (fun k => decide (0 < M8 f k)) n) = _
  rw [dn_0, ct_sm]
  refine congrArg nI (fb_sm_cong (fun k hk => ?_))
  unfold lM
  by_cases h : 0 < f (8 + k)
  · rw [if_pos (decide_eq_true h), if_pos h]
  · rw [if_neg (by rw [decide_eq_true_iff]; exact h), if_neg h]
theorem cnt4 {f : Nat → Int32} {n : Nat} {rg : Int32} : A_count n rg (f 18) f (M8 f) 0 0 4 = nI (dn (lS f n) n 0) := by
  show nI (prN _ n) = _
  rw [dn_0]; rfl
theorem cnt5 {f : Nat → Int32} {n : Nat} : A_count n (f 17) (f 18) f (M8 f) 0 0 5 = nI (dn (lC f n) n 0) := by
  show nI (prN _ n) = _
  rw [dn_0, pr5]; rfl
theorem cnt8 {f : Nat → Int32} {n : Nat} {rg bl : Int32} (hR : RF f n) : A_count n rg bl f (M8 f) 0 0 8 = nI (dn (lH f) n 0) := by
  show smI (M8 f) n = _
  rw [dn_0, sm_nI (n := n) (fun k hk => hR.m hk) n (Nat.le_refl n)]; rfl
theorem kL_isTold_0 : (.arrayClass .int : Cond) ∈ wsL_isTold := by decide +kernel
set_option maxHeartbeats 8000000 in
set_option maxRecDepth 100000 in
theorem c_L_isTold (l : Launch) (D : va_G) (cI cB cO : ClassId) (A : Nat → Nat) (qa : Nat) (f : Nat → Int32) (n : Nat) (X0 : va_W) (sz : Nat) (hR : RF f n) (hX0 : SRX cI cB cO A X0 n (f 17) (f 18) f (M8 f)) : Met l yL_isTold wsL_isTold ({ frames := 8, cells := 1, slots := 8, locals := 320 } : Room) (va_Pc [.ref (A 0), .ref qa] (fun U => U.heap.size = sz ∧ va_P D vwCl ((qa, .inl (cI, 20, .inl f)) :: X0) U.heap ∧ va_K D vwCl (tyL cI cB cO) U ∧ NW U ∧ va_D (fun _ => True) ((qa, .inl (cI, 20, .inl f)) :: X0))) (va_Qi (fun (r : Int32) (u : va_W) => r = 1 ∧ SRX cI cB cO A u n (f 17) (f 18) f (M8 f)) (fun (u : va_W) t => va_P D vwCl ((qa, .inl (cI, 20, .inl f)) :: u) t.heap) (va_A ((qa, .inl (cI, 20, .inl f)) :: X0) sz)) 1 8 (va_A ((qa, .inl (cI, 20, .inl f)) :: X0) sz) := by
  refine Met.ofW (cc := cL_isTold) (maxL := 15) (ret := (some .boolean)) (by decide) rfl ?_
  intro p e s m args below meth c s₁ B hml hv
  obtain ⟨rfl, hsz, hP, hK, hN, hD0⟩ := hv
  have hx := B.exec
  have hb := B.bytes
  have hr := B.returns
  have hts := atoms_spec (ws := wsL_isTold) B.pre
  have hown : s.vm.findClass RL = some m.cls := findClass_of_methodNamed B.named
  have hlocks := B.notSynchronized
  subst hsz
  have hD := hD0.self (sz := s.heap.size)
  generalize hAe : va_A ((qa, .inl (cI, 20, .inl f)) :: X0) s.heap.size = CA at hD ⊢
  have hA : ∀ q : Nat, s.heap.size ≤ q → CA q := fun q h => by rw [← hAe]; exact Or.inr h
  have hS : va_S CA s.heap s.heap [] := va_S.rf
  obtain ⟨X, hX, hP, hD⟩ : ∃ X : va_W, SRX cI cB cO A X n (f 17) (f 18) f (M8 f) ∧ va_P D vwCl ((qa, .inl (cI, 20, .inl f)) :: X) s.heap ∧ va_D CA ((qa, .inl (cI, 20, .inl f)) :: X) := ⟨X0, hX0, hP, hD⟩
  have hl := lv_entry ([.ref (A 0), .ref qa]) (n := 15) (Nat.le_of_ble_eq_true rfl)
  rw [lg_entry_eq]
  generalize (lg_sl ([.ref (A 0), .ref qa]) ++ List.replicate (15 - (lg_sl ([.ref (A 0), .ref qa])).length) Slot.unset).toArray = ls at hl ⊢
  have hl : lv_has ls 15 [(0, .ref (A 0)), (1, .ref qa)] := hl
  have h8 : n ≤ 8 := hR.2.1
  have h2n : 2 ≤ n := hR.n2
  have hn : n ≤ 20 := by omega
  have h16 : f 16 = nI n := hR.1
  refine lv_iconst (v := 0) hx hb dL_isTold_0 (by decide) ?_
  refine lv_istore_n (lv' := [(2, .int 0), (0, .ref (A 0)), (1, .ref qa)]) hx hb dL_isTold_1 rfl hl (by decide) rfl (fun ls hl => ?_)
  refine lv_iconst (v := 0) hx hb dL_isTold_2 (by decide) ?_
  refine lv_istore_n (lv' := [(3, .int 0), (2, .int 0), (0, .ref (A 0)), (1, .ref qa)]) hx hb dL_isTold_3 rfl hl (by decide) rfl (fun ls hl => ?_)
  refine lv_iconst (v := 0) hx hb dL_isTold_4 (by decide) ?_
  refine lv_istore (lv' := [(4, .int 0), (3, .int 0), (2, .int 0), (0, .ref (A 0)), (1, .ref qa)]) hx hb dL_isTold_5 hl (by decide) rfl (fun ls hl => ?_)
  refine lv_iconst (v := 0) hx hb dL_isTold_7 (by decide) ?_
  refine lv_istore (lv' := [(5, .int 0), (4, .int 0), (3, .int 0), (2, .int 0), (0, .ref (A 0)), (1, .ref qa)]) hx hb dL_isTold_8 hl (by decide) rfl (fun ls hl => ?_)
  refine lv_iconst (v := 0) hx hb dL_isTold_10 (by decide) ?_
  refine lv_istore (lv' := [(6, .int 0), (5, .int 0), (4, .int 0), (3, .int 0), (2, .int 0), (0, .ref (A 0)), (1, .ref qa)]) hx hb dL_isTold_11 hl (by decide) rfl (fun ls hl => ?_)
  refine lv_iconst (v := 0) hx hb dL_isTold_13 (by decide) ?_
  refine lv_istore (lv' := [(7, .int 0), (6, .int 0), (5, .int 0), (4, .int 0), (3, .int 0), (2, .int 0), (0, .ref (A 0)), (1, .ref qa)]) hx hb dL_isTold_14 hl (by decide) rfl (fun ls hl => ?_)
  refine lv_iconst (v := 0) hx hb dL_isTold_16 (by decide) ?_
  refine lv_istore (lv' := [(8, .int 0), (7, .int 0), (6, .int 0), (5, .int 0), (4, .int 0), (3, .int 0), (2, .int 0), (0, .ref (A 0)), (1, .ref qa)]) hx hb dL_isTold_17 hl (by decide) rfl (fun ls hl => ?_)
  refine lv_bipush (v := 8) hx hb dL_isTold_19 (by decide) ?_
  refine va_newa (atype := .int) (ty := .int) (N' := 8) (a0 := (8, .inl (fun _ => 0))) hx hb (hts (.arrayClass .int) kL_isTold_0) rfl hK hP hD hS hA (fun cA => (vp_cell_i cA 8 (fun _ => 0)).trans rfl) (by decide) rfl (Nat.le_of_ble_eq_true rfl) (Nat.le_of_ble_eq_true rfl) (Nat.le_of_ble_eq_true rfl) dL_isTold_21 (fun qg kg H hK hP hD hS => ?_)
  have e9 : kg = cI := ty_uni hK 3 0 rfl rfl
  rw [e9] at hP hD hK
  have hK : va_K D vwCl (tyL cI cB cO) s := hK.sub [0, 1, 2] rfl
  have hP : va_P D vwCl ((qg, .inl (cI, 8, .inl (fun _ => 0))) :: (qa, .inl (cI, 20, .inl f)) :: X) H := va_P_front hP
  have hD : va_D CA ((qg, .inl (cI, 8, .inl (fun _ => 0))) :: (qa, .inl (cI, 20, .inl f)) :: X) := va_D_front hD
  refine W.widen (k := 1) (n := 8) (by omega) (by omega) ?_
  refine lv_astore (lv' := [(9, .ref qg), (8, .int 0), (7, .int 0), (6, .int 0), (5, .int 0), (4, .int 0), (3, .int 0), (2, .int 0), (0, .ref (A 0)), (1, .ref qa)]) hx hb dL_isTold_23 hl (by decide) rfl (fun ls hl => ?_)
  refine lv_aload_n hx hb dL_isTold_25 rfl (lv_at hl 9 rfl) ?_
  refine lv_bipush (v := 16) hx hb dL_isTold_26 (by decide) ?_
  refine va_iald hx hb hK hP 1 0 rfl rfl (i := nI 16) (vp_in_nI (N := 20) (by decide) (by decide)) dL_isTold_28 ?_
  rw [nI_clamp (n := 16) (by decide)]
  refine lv_topi (fun y_1 e_2 => ?_)
  have e_2 : nI n = y_1 := (e_2.trans (h16)).symm
  subst e_2
  refine lv_iconst (v := 1) hx hb dL_isTold_29 (by decide) ?_
  refine lv_isub hx hb dL_isTold_30 ?_
  refine lv_istore (lv' := [(10, .int ((nI n) - 1)), (9, .ref qg), (8, .int 0), (7, .int 0), (6, .int 0), (5, .int 0), (4, .int 0), (3, .int 0), (2, .int 0), (0, .ref (A 0)), (1, .ref qa)]) hx hb dL_isTold_31 hl (by decide) rfl (fun ls hl => ?_)
  have L_33 : ∀ (k_33 : Nat) (q : Nat) (z : Int32) (sg : Nat) (nr : Nat) (ms : Nat) (hh : Nat) (d0 : Nat) (v0 : Nat) (g : Nat → Int32) (X : va_W), q < k_33 → (q ≤ n) → (z = FZ q) → (SRX cI cB cO A X n (f 17) (f 18) f (M8 f)) → (sg = dn (lS f n) n q) → (nr = dn (lC f n) n q) → (ms = dn (lM f) n q) → (hh = dn (lH f) n q) → (fsG (fsR (conB f (M8 f) (f 17) (f 18)) n q n) 0 d0 v0) → (∀ a, q ≤ a → a < n → g a = nI (2 ^ a)) → ∀ (H : Heap) (locs : List Loc), va_P D vwCl ((qg, .inl (cI, 8, .inl g)) :: (qa, .inl (cI, 20, .inl f)) :: X) H → va_D CA ((qg, .inl (cI, 8, .inl g)) :: (qa, .inl (cI, 20, .inl f)) :: X) → va_S CA s.heap H locs → ∀ (ls : Array Slot), lv_has ls 15 [(0, .ref (A 0)), (1, .ref qa), (2, .int (nI sg)), (3, .int (nI nr)), (4, .int (nI ms)), (5, .int (nI hh)), (6, .int (nI d0)), (7, .int 0), (8, .int (nI v0)), (9, .ref qg), (10, .int z)] → W p l e ({ frames := 8, cells := 1, slots := 8, locals := 320 } : Room) s m ([.ref (A 0), .ref qa] : List Value).toArray below meth c H locs 1 8 (MQ below (va_Qi (fun (r : Int32) (u : va_W) => r = 1 ∧ SRX cI cB cO A u n (f 17) (f 18) f (M8 f)) (fun (u : va_W) t => va_P D vwCl ((qa, .inl (cI, 20, .inl f)) :: u) t.heap) CA) ([.ref (A 0), .ref qa] : List Value).toArray s 1 8 CA) (F0 m 33 ls []) := by
    intro k_33
    induction k_33 with
    | zero => intro q z sg nr ms hh d0 v0 g X h9; exact absurd h9 (Nat.not_lt_zero _)
    | succ k_33 ih_33 =>
      intro q z sg nr ms hh d0 v0 g X hm_33 hq hz hX hsg hnr hms hhh hfs hg H locs hP hD hS ls hl
      refine lv_iload hx hb dL_isTold_33 (lv_at hl 10 rfl) ?_
      cases q with
      | zero =>
        have hz : z = -1 := hz
        subst hz
        refine lv_if_lt (tgt := 444) hx hb dL_isTold_35 (by decide) (fun c_35 => ?_) (fun c_35 => ?_)
        · skip
          refine lv_iconst (v := 0) hx hb dL_isTold_444 (by decide) ?_
          refine lv_istore (lv' := [(10, .int 0), (0, .ref (A 0)), (1, .ref qa), (2, .int (nI sg)), (3, .int (nI nr)), (4, .int (nI ms)), (5, .int (nI hh)), (6, .int (nI d0)), (7, .int 0), (8, .int (nI v0)), (9, .ref qg)]) hx hb dL_isTold_445 hl (by decide) rfl (fun ls hl => ?_)
          have L_447 : ∀ (k_447 : Nat) (k3 : Nat) (g : Nat → Int32), 64 * n - k3 < k_447 → (k3 ≤ 64 * n) → (grI g n k3) → ∀ (H : Heap) (locs : List Loc), va_P D vwCl ((qg, .inl (cI, 8, .inl g)) :: (qa, .inl (cI, 20, .inl f)) :: X) H → va_D CA ((qg, .inl (cI, 8, .inl g)) :: (qa, .inl (cI, 20, .inl f)) :: X) → va_S CA s.heap H locs → ∀ (ls : Array Slot), lv_has ls 15 [(0, .ref (A 0)), (1, .ref qa), (2, .int (nI sg)), (3, .int (nI nr)), (4, .int (nI ms)), (5, .int (nI hh)), (7, .int 0), (8, .int (nI v0)), (9, .ref qg), (10, .int (nI k3))] → W p l e ({ frames := 8, cells := 1, slots := 8, locals := 320 } : Room) s m ([.ref (A 0), .ref qa] : List Value).toArray below meth c H locs 1 8 (MQ below (va_Qi (fun (r : Int32) (u : va_W) => r = 1 ∧ SRX cI cB cO A u n (f 17) (f 18) f (M8 f)) (fun (u : va_W) t => va_P D vwCl ((qa, .inl (cI, 20, .inl f)) :: u) t.heap) CA) ([.ref (A 0), .ref qa] : List Value).toArray s 1 8 CA) (F0 m 447 ls []) := by
            intro k_447
            induction k_447 with
            | zero => intro k3 g h9; exact absurd h9 (Nat.not_lt_zero _)
            | succ k_447 ih_447 =>
              intro k3 g hm_447 hk3 hgr H locs hP hD hS ls hl
              refine lv_iload hx hb dL_isTold_447 (lv_at hl 9 rfl) ?_
              refine lv_bipush (v := 64) hx hb dL_isTold_449 (by decide) ?_
              refine lv_aload_n hx hb dL_isTold_451 rfl (lv_at hl 1 rfl) ?_
              refine lv_bipush (v := 16) hx hb dL_isTold_452 (by decide) ?_
              refine va_iald hx hb hK hP 1 0 rfl rfl (i := nI 16) (vp_in_nI (N := 20) (by decide) (by decide)) dL_isTold_454 ?_
              rw [nI_clamp (n := 16) (by decide)]
              refine lv_topi (fun y_3 e_4 => ?_)
              have e_4 : nI n = y_3 := (e_4.trans (h16)).symm
              subst e_4
              refine lv_imul hx hb dL_isTold_455 ?_
              refine lv_topi (fun y_5 e_6 => ?_)
              have e_6 : nI (64 * n) = y_5 := (e_6.trans (pk_mul 64 n)).symm
              subst e_6
              refine lv_icmp_ge (tgt := 524) hx hb dL_isTold_456 (by decide) (fun c_456 => ?_) (fun c_456 => ?_)
              · skip
                have g456 : 64 * n ≤ k3 := ge_t (by omega) c_456
                refine lv_iconst (v := 0) hx hb dL_isTold_524 (by decide) ?_
                refine lv_istore (lv' := [(10, .int 0), (0, .ref (A 0)), (1, .ref qa), (2, .int (nI sg)), (3, .int (nI nr)), (4, .int (nI ms)), (5, .int (nI hh)), (7, .int 0), (8, .int (nI v0)), (9, .ref qg)]) hx hb dL_isTold_525 hl (by decide) rfl (fun ls hl => ?_)
                have L_527 : ∀ (k_527 : Nat) (s4 : Nat) (gr : Nat), n - s4 < k_527 → (s4 ≤ n) → (gr = min s4 1) → ∀ (H : Heap) (locs : List Loc), va_P D vwCl ((qg, .inl (cI, 8, .inl g)) :: (qa, .inl (cI, 20, .inl f)) :: X) H → va_D CA ((qg, .inl (cI, 8, .inl g)) :: (qa, .inl (cI, 20, .inl f)) :: X) → va_S CA s.heap H locs → ∀ (ls : Array Slot), lv_has ls 15 [(0, .ref (A 0)), (1, .ref qa), (2, .int (nI sg)), (3, .int (nI nr)), (4, .int (nI ms)), (5, .int (nI hh)), (7, .int (nI gr)), (8, .int (nI v0)), (9, .ref qg), (10, .int (nI s4))] → W p l e ({ frames := 8, cells := 1, slots := 8, locals := 320 } : Room) s m ([.ref (A 0), .ref qa] : List Value).toArray below meth c H locs 1 8 (MQ below (va_Qi (fun (r : Int32) (u : va_W) => r = 1 ∧ SRX cI cB cO A u n (f 17) (f 18) f (M8 f)) (fun (u : va_W) t => va_P D vwCl ((qa, .inl (cI, 20, .inl f)) :: u) t.heap) CA) ([.ref (A 0), .ref qa] : List Value).toArray s 1 8 CA) (F0 m 527 ls []) := by
                  intro k_527
                  induction k_527 with
                  | zero => intro s4 gr h9; exact absurd h9 (Nat.not_lt_zero _)
                  | succ k_527 ih_527 =>
                    intro s4 gr hm_527 hs4 hgr4 H locs hP hD hS ls hl
                    refine lv_iload hx hb dL_isTold_527 (lv_at hl 9 rfl) ?_
                    refine lv_aload_n hx hb dL_isTold_529 rfl (lv_at hl 1 rfl) ?_
                    refine lv_bipush (v := 16) hx hb dL_isTold_530 (by decide) ?_
                    refine va_iald hx hb hK hP 1 0 rfl rfl (i := nI 16) (vp_in_nI (N := 20) (by decide) (by decide)) dL_isTold_532 ?_
                    rw [nI_clamp (n := 16) (by decide)]
                    refine lv_topi (fun y_7 e_8 => ?_)
                    have e_8 : nI n = y_7 := (e_8.trans (h16)).symm
                    subst e_8
                    refine lv_icmp_ge (tgt := 567) hx hb dL_isTold_533 (by decide) (fun c_533 => ?_) (fun c_533 => ?_)
                    · skip
                      have g533 : n ≤ s4 := ge_t (by omega) c_533
                      refine lv_aload_n hx hb dL_isTold_567 rfl (lv_at hl 0 rfl) ?_
                      have hPb : va_P D vwCl ([(qg, .inl (cI, 8, .inl g)), (qa, .inl (cI, 20, .inl f))] ++ X) _ := hP
                      have hDb : va_D CA ([(qg, .inl (cI, 8, .inl g)), (qa, .inl (cI, 20, .inl f))] ++ X) := hD
                      refine ox_calli hPb hDb hX hS (va_runV (As := []) (rest := []) ⟨hx, hb, hml, hown, hts⟩ (y_groups l D cI cB cO A n (f 17) (f 18) f (M8 f)) (cwV 0 hts gL_isTold_X6_groups rfl rfl rfl (by decide +kernel) ⟨Nat.le_of_ble_eq_true rfl, Nat.le_of_ble_eq_true rfl⟩) (ox_pre hK hPb hDb hX hN) rfl rfl hl.1 rfl (lv_room (Nat.le_of_ble_eq_true rfl)) dL_isTold_568 ⟨Nat.le_of_ble_eq_true rfl, Nat.le_of_ble_eq_true rfl⟩) (fun X H locs hX hP hD hS => ?_)
                      have hP : va_P D vwCl ((qg, .inl (cI, 8, .inl g)) :: (qa, .inl (cI, 20, .inl f)) :: X) _ := hP
                      have hD : va_D CA ((qg, .inl (cI, 8, .inl g)) :: (qa, .inl (cI, 20, .inl f)) :: X) := hD
                      refine lv_iload hx hb dL_isTold_571 (lv_at hl 6 rfl) ?_
                      refine lv_icmp_ne (tgt := 635) hx hb dL_isTold_573 (by decide) (fun c_573 => ?_) (fun c_573 => ?_)
                      · skip
                        exact absurd (by rw [hgr4, show min s4 1 = 1 by omega]; rfl) c_573
                      · skip
                        refine lv_aload_n hx hb dL_isTold_576 rfl (lv_at hl 0 rfl) ?_
                        have hPb : va_P D vwCl ([(qg, .inl (cI, 8, .inl g)), (qa, .inl (cI, 20, .inl f))] ++ X) _ := hP
                        have hDb : va_D CA ([(qg, .inl (cI, 8, .inl g)), (qa, .inl (cI, 20, .inl f))] ++ X) := hD
                        refine ox_calli hPb hDb hX hS (va_runV (As := []) (rest := []) ⟨hx, hb, hml, hown, hts⟩ (y_farthest l D cI cB cO A n (f 17) (f 18) f (M8 f)) (cwV 0 hts gL_isTold_X6_farthest rfl rfl rfl (by decide +kernel) ⟨Nat.le_of_ble_eq_true rfl, Nat.le_of_ble_eq_true rfl⟩) (ox_pre hK hPb hDb hX hN) rfl rfl hl.1 rfl (lv_room (Nat.le_of_ble_eq_true rfl)) dL_isTold_577 ⟨Nat.le_of_ble_eq_true rfl, Nat.le_of_ble_eq_true rfl⟩) (fun X H locs hX hP hD hS => ?_)
                        have hP : va_P D vwCl ((qg, .inl (cI, 8, .inl g)) :: (qa, .inl (cI, 20, .inl f)) :: X) _ := hP
                        have hD : va_D CA ((qg, .inl (cI, 8, .inl g)) :: (qa, .inl (cI, 20, .inl f)) :: X) := hD
                        refine lv_topi (fun y_9 e_10 => ?_)
                        have e_10 : nI v0 = y_9 := (e_10.trans (far_eq h2n (con_01 hR.rg) hfs trivial)).symm
                        subst e_10
                        refine lv_iload hx hb dL_isTold_580 (lv_at hl 7 rfl) ?_
                        refine lv_icmp_ne (tgt := 635) hx hb dL_isTold_582 (by decide) (fun c_582 => ?_) (fun c_582 => ?_)
                        · skip
                          exact absurd (rfl) c_582
                        · skip
                          refine lv_aload_n hx hb dL_isTold_585 rfl (lv_at hl 0 rfl) ?_
                          refine lv_iconst (v := 0) hx hb dL_isTold_586 (by decide) ?_
                          have hPb : va_P D vwCl ([(qg, .inl (cI, 8, .inl g)), (qa, .inl (cI, 20, .inl f))] ++ X) _ := hP
                          have hDb : va_D CA ([(qg, .inl (cI, 8, .inl g)), (qa, .inl (cI, 20, .inl f))] ++ X) := hD
                          refine ox_calli hPb hDb hX hS (va_runV (As := [.int 0]) (rest := []) ⟨hx, hb, hml, hown, hts⟩ (y_count l D cI cB cO A n (f 17) (f 18) f (M8 f) 0 (by decide) (by decide)) (cwV 1 hts gL_isTold_X6_count rfl rfl rfl (by decide +kernel) ⟨Nat.le_of_ble_eq_true rfl, Nat.le_of_ble_eq_true rfl⟩) (ox_pre hK hPb hDb hX hN) rfl rfl hl.1 rfl (lv_room (Nat.le_of_ble_eq_true rfl)) dL_isTold_587 ⟨Nat.le_of_ble_eq_true rfl, Nat.le_of_ble_eq_true rfl⟩) (fun X H locs hX hP hD hS => ?_)
                          have hP : va_P D vwCl ((qg, .inl (cI, 8, .inl g)) :: (qa, .inl (cI, 20, .inl f)) :: X) _ := hP
                          have hD : va_D CA ((qg, .inl (cI, 8, .inl g)) :: (qa, .inl (cI, 20, .inl f)) :: X) := hD
                          refine lv_topi (fun y_11 e_12 => ?_)
                          have e_12 : nI n = y_11 := (e_12.trans (rfl)).symm
                          subst e_12
                          refine lv_aload_n hx hb dL_isTold_590 rfl (lv_at hl 1 rfl) ?_
                          refine lv_bipush (v := 16) hx hb dL_isTold_591 (by decide) ?_
                          refine va_iald hx hb hK hP 1 0 rfl rfl (i := nI 16) (vp_in_nI (N := 20) (by decide) (by decide)) dL_isTold_593 ?_
                          rw [nI_clamp (n := 16) (by decide)]
                          refine lv_topi (fun y_13 e_14 => ?_)
                          have e_14 : nI n = y_13 := (e_14.trans (h16)).symm
                          subst e_14
                          refine lv_icmp_ne (tgt := 635) hx hb dL_isTold_594 (by decide) (fun c_594 => ?_) (fun c_594 => ?_)
                          · skip
                            exact absurd (rfl) c_594
                          · skip
                            refine lv_aload_n hx hb dL_isTold_597 rfl (lv_at hl 0 rfl) ?_
                            refine lv_iconst (v := 1) hx hb dL_isTold_598 (by decide) ?_
                            have hPb : va_P D vwCl ([(qg, .inl (cI, 8, .inl g)), (qa, .inl (cI, 20, .inl f))] ++ X) _ := hP
                            have hDb : va_D CA ([(qg, .inl (cI, 8, .inl g)), (qa, .inl (cI, 20, .inl f))] ++ X) := hD
                            refine ox_calli hPb hDb hX hS (va_runV (As := [.int 1]) (rest := []) ⟨hx, hb, hml, hown, hts⟩ (y_count l D cI cB cO A n (f 17) (f 18) f (M8 f) 1 (by decide) (by decide)) (cwV 1 hts gL_isTold_X6_count rfl rfl rfl (by decide +kernel) ⟨Nat.le_of_ble_eq_true rfl, Nat.le_of_ble_eq_true rfl⟩) (ox_pre hK hPb hDb hX hN) rfl rfl hl.1 rfl (lv_room (Nat.le_of_ble_eq_true rfl)) dL_isTold_599 ⟨Nat.le_of_ble_eq_true rfl, Nat.le_of_ble_eq_true rfl⟩) (fun X H locs hX hP hD hS => ?_)
                            have hP : va_P D vwCl ((qg, .inl (cI, 8, .inl g)) :: (qa, .inl (cI, 20, .inl f)) :: X) _ := hP
                            have hD : va_D CA ((qg, .inl (cI, 8, .inl g)) :: (qa, .inl (cI, 20, .inl f)) :: X) := hD
                            refine lv_topi (fun y_15 e_16 => ?_)
                            have e_16 : nI ms = y_15 := (e_16.trans (cnt1.trans (congrArg nI hms.symm))).symm
                            subst e_16
                            refine lv_iload hx hb dL_isTold_602 (lv_at hl 4 rfl) ?_
                            refine lv_icmp_ne (tgt := 635) hx hb dL_isTold_604 (by decide) (fun c_604 => ?_) (fun c_604 => ?_)
                            · skip
                              exact absurd (rfl) c_604
                            · skip
                              refine lv_aload_n hx hb dL_isTold_607 rfl (lv_at hl 0 rfl) ?_
                              refine lv_iconst (v := 2) hx hb dL_isTold_608 (by decide) ?_
                              have hPb : va_P D vwCl ([(qg, .inl (cI, 8, .inl g)), (qa, .inl (cI, 20, .inl f))] ++ X) _ := hP
                              have hDb : va_D CA ([(qg, .inl (cI, 8, .inl g)), (qa, .inl (cI, 20, .inl f))] ++ X) := hD
                              refine ox_calli hPb hDb hX hS (va_runV (As := [.int 2]) (rest := []) ⟨hx, hb, hml, hown, hts⟩ (y_count l D cI cB cO A n (f 17) (f 18) f (M8 f) 2 (by decide) (by decide)) (cwV 1 hts gL_isTold_X6_count rfl rfl rfl (by decide +kernel) ⟨Nat.le_of_ble_eq_true rfl, Nat.le_of_ble_eq_true rfl⟩) (ox_pre hK hPb hDb hX hN) rfl rfl hl.1 rfl (lv_room (Nat.le_of_ble_eq_true rfl)) dL_isTold_609 ⟨Nat.le_of_ble_eq_true rfl, Nat.le_of_ble_eq_true rfl⟩) (fun X H locs hX hP hD hS => ?_)
                              have hP : va_P D vwCl ((qg, .inl (cI, 8, .inl g)) :: (qa, .inl (cI, 20, .inl f)) :: X) _ := hP
                              have hD : va_D CA ((qg, .inl (cI, 8, .inl g)) :: (qa, .inl (cI, 20, .inl f)) :: X) := hD
                              refine lv_topi (fun y_17 e_18 => ?_)
                              have e_18 : f 17 = y_17 := (e_18.trans (rfl)).symm
                              subst e_18
                              refine lv_aload_n hx hb dL_isTold_612 rfl (lv_at hl 1 rfl) ?_
                              refine lv_bipush (v := 17) hx hb dL_isTold_613 (by decide) ?_
                              refine va_iald hx hb hK hP 1 0 rfl rfl (i := nI 17) (vp_in_nI (N := 20) (by decide) (by decide)) dL_isTold_615 ?_
                              rw [nI_clamp (n := 17) (by decide)]
                              refine lv_icmp_ne (tgt := 635) hx hb dL_isTold_616 (by decide) (fun c_616 => ?_) (fun c_616 => ?_)
                              · skip
                                exact absurd (rfl) c_616
                              · skip
                                refine lv_aload_n hx hb dL_isTold_619 rfl (lv_at hl 0 rfl) ?_
                                refine lv_iconst (v := 3) hx hb dL_isTold_620 (by decide) ?_
                                have hPb : va_P D vwCl ([(qg, .inl (cI, 8, .inl g)), (qa, .inl (cI, 20, .inl f))] ++ X) _ := hP
                                have hDb : va_D CA ([(qg, .inl (cI, 8, .inl g)), (qa, .inl (cI, 20, .inl f))] ++ X) := hD
                                refine ox_calli hPb hDb hX hS (va_runV (As := [.int 3]) (rest := []) ⟨hx, hb, hml, hown, hts⟩ (y_count l D cI cB cO A n (f 17) (f 18) f (M8 f) 3 (by decide) (by decide)) (cwV 1 hts gL_isTold_X6_count rfl rfl rfl (by decide +kernel) ⟨Nat.le_of_ble_eq_true rfl, Nat.le_of_ble_eq_true rfl⟩) (ox_pre hK hPb hDb hX hN) rfl rfl hl.1 rfl (lv_room (Nat.le_of_ble_eq_true rfl)) dL_isTold_621 ⟨Nat.le_of_ble_eq_true rfl, Nat.le_of_ble_eq_true rfl⟩) (fun X H locs hX hP hD hS => ?_)
                                have hP : va_P D vwCl ((qg, .inl (cI, 8, .inl g)) :: (qa, .inl (cI, 20, .inl f)) :: X) _ := hP
                                have hD : va_D CA ((qg, .inl (cI, 8, .inl g)) :: (qa, .inl (cI, 20, .inl f)) :: X) := hD
                                refine lv_topi (fun y_19 e_20 => ?_)
                                have e_20 : f 18 = y_19 := (e_20.trans (rfl)).symm
                                subst e_20
                                refine lv_aload_n hx hb dL_isTold_624 rfl (lv_at hl 1 rfl) ?_
                                refine lv_bipush (v := 18) hx hb dL_isTold_625 (by decide) ?_
                                refine va_iald hx hb hK hP 1 0 rfl rfl (i := nI 18) (vp_in_nI (N := 20) (by decide) (by decide)) dL_isTold_627 ?_
                                rw [nI_clamp (n := 18) (by decide)]
                                refine lv_icmp_ne (tgt := 635) hx hb dL_isTold_628 (by decide) (fun c_628 => ?_) (fun c_628 => ?_)
                                · skip
                                  exact absurd (rfl) c_628
                                · skip
                                  refine lv_iconst (v := 1) hx hb dL_isTold_631 (by decide) ?_
                                  refine lv_goto (tgt := 636) hx hb dL_isTold_632 (by decide) ?_
                                  refine lv_istore (lv' := [(10, .int 1), (0, .ref (A 0)), (1, .ref qa), (2, .int (nI sg)), (3, .int (nI nr)), (4, .int (nI ms)), (5, .int (nI hh)), (7, .int (nI gr)), (8, .int (nI v0)), (9, .ref qg)]) hx hb dL_isTold_636 hl (by decide) rfl (fun ls hl => ?_)
                                  refine lv_iload hx hb dL_isTold_638 (lv_at hl 0 rfl) ?_
                                  refine lv_if_eq (tgt := 690) hx hb dL_isTold_640 (by decide) (fun c_640 => ?_) (fun c_640 => ?_)
                                  · skip
                                    exact absurd c_640 (by decide)
                                  · skip
                                    refine lv_aload_n hx hb dL_isTold_643 rfl (lv_at hl 1 rfl) ?_
                                    refine lv_iconst (v := 4) hx hb dL_isTold_644 (by decide) ?_
                                    have hPb : va_P D vwCl ([(qg, .inl (cI, 8, .inl g)), (qa, .inl (cI, 20, .inl f))] ++ X) _ := hP
                                    have hDb : va_D CA ([(qg, .inl (cI, 8, .inl g)), (qa, .inl (cI, 20, .inl f))] ++ X) := hD
                                    refine ox_calli hPb hDb hX hS (va_runV (As := [.int 4]) (rest := []) ⟨hx, hb, hml, hown, hts⟩ (y_count l D cI cB cO A n (f 17) (f 18) f (M8 f) 4 (by decide) (by decide)) (cwV 1 hts gL_isTold_X6_count rfl rfl rfl (by decide +kernel) ⟨Nat.le_of_ble_eq_true rfl, Nat.le_of_ble_eq_true rfl⟩) (ox_pre hK hPb hDb hX hN) rfl rfl hl.1 rfl (lv_room (Nat.le_of_ble_eq_true rfl)) dL_isTold_645 ⟨Nat.le_of_ble_eq_true rfl, Nat.le_of_ble_eq_true rfl⟩) (fun X H locs hX hP hD hS => ?_)
                                    have hP : va_P D vwCl ((qg, .inl (cI, 8, .inl g)) :: (qa, .inl (cI, 20, .inl f)) :: X) _ := hP
                                    have hD : va_D CA ((qg, .inl (cI, 8, .inl g)) :: (qa, .inl (cI, 20, .inl f)) :: X) := hD
                                    refine lv_topi (fun y_21 e_22 => ?_)
                                    have e_22 : nI sg = y_21 := (e_22.trans (cnt4.trans (congrArg nI hsg.symm))).symm
                                    subst e_22
                                    refine lv_iload_n hx hb dL_isTold_648 rfl (lv_at hl 3 rfl) ?_
                                    refine lv_icmp_ne (tgt := 690) hx hb dL_isTold_649 (by decide) (fun c_649 => ?_) (fun c_649 => ?_)
                                    · skip
                                      exact absurd (rfl) c_649
                                    · skip
                                      refine lv_aload_n hx hb dL_isTold_652 rfl (lv_at hl 1 rfl) ?_
                                      refine lv_iconst (v := 5) hx hb dL_isTold_653 (by decide) ?_
                                      have hPb : va_P D vwCl ([(qg, .inl (cI, 8, .inl g)), (qa, .inl (cI, 20, .inl f))] ++ X) _ := hP
                                      have hDb : va_D CA ([(qg, .inl (cI, 8, .inl g)), (qa, .inl (cI, 20, .inl f))] ++ X) := hD
                                      refine ox_calli hPb hDb hX hS (va_runV (As := [.int 5]) (rest := []) ⟨hx, hb, hml, hown, hts⟩ (y_count l D cI cB cO A n (f 17) (f 18) f (M8 f) 5 (by decide) (by decide)) (cwV 1 hts gL_isTold_X6_count rfl rfl rfl (by decide +kernel) ⟨Nat.le_of_ble_eq_true rfl, Nat.le_of_ble_eq_true rfl⟩) (ox_pre hK hPb hDb hX hN) rfl rfl hl.1 rfl (lv_room (Nat.le_of_ble_eq_true rfl)) dL_isTold_654 ⟨Nat.le_of_ble_eq_true rfl, Nat.le_of_ble_eq_true rfl⟩) (fun X H locs hX hP hD hS => ?_)
                                      have hP : va_P D vwCl ((qg, .inl (cI, 8, .inl g)) :: (qa, .inl (cI, 20, .inl f)) :: X) _ := hP
                                      have hD : va_D CA ((qg, .inl (cI, 8, .inl g)) :: (qa, .inl (cI, 20, .inl f)) :: X) := hD
                                      refine lv_topi (fun y_23 e_24 => ?_)
                                      have e_24 : nI nr = y_23 := (e_24.trans (cnt5.trans (congrArg nI hnr.symm))).symm
                                      subst e_24
                                      refine lv_iload_n hx hb dL_isTold_657 rfl (lv_at hl 4 rfl) ?_
                                      refine lv_icmp_ne (tgt := 690) hx hb dL_isTold_658 (by decide) (fun c_658 => ?_) (fun c_658 => ?_)
                                      · skip
                                        exact absurd (rfl) c_658
                                      · skip
                                        refine lv_aload_n hx hb dL_isTold_661 rfl (lv_at hl 1 rfl) ?_
                                        refine lv_bipush (v := 8) hx hb dL_isTold_662 (by decide) ?_
                                        have hPb : va_P D vwCl ([(qg, .inl (cI, 8, .inl g)), (qa, .inl (cI, 20, .inl f))] ++ X) _ := hP
                                        have hDb : va_D CA ([(qg, .inl (cI, 8, .inl g)), (qa, .inl (cI, 20, .inl f))] ++ X) := hD
                                        refine ox_calli hPb hDb hX hS (va_runV (As := [.int 8]) (rest := []) ⟨hx, hb, hml, hown, hts⟩ (y_count l D cI cB cO A n (f 17) (f 18) f (M8 f) 8 (by decide) (by decide)) (cwV 1 hts gL_isTold_X6_count rfl rfl rfl (by decide +kernel) ⟨Nat.le_of_ble_eq_true rfl, Nat.le_of_ble_eq_true rfl⟩) (ox_pre hK hPb hDb hX hN) rfl rfl hl.1 rfl (lv_room (Nat.le_of_ble_eq_true rfl)) dL_isTold_664 ⟨Nat.le_of_ble_eq_true rfl, Nat.le_of_ble_eq_true rfl⟩) (fun X H locs hX hP hD hS => ?_)
                                        have hP : va_P D vwCl ((qg, .inl (cI, 8, .inl g)) :: (qa, .inl (cI, 20, .inl f)) :: X) _ := hP
                                        have hD : va_D CA ((qg, .inl (cI, 8, .inl g)) :: (qa, .inl (cI, 20, .inl f)) :: X) := hD
                                        refine lv_topi (fun y_25 e_26 => ?_)
                                        have e_26 : nI hh = y_25 := (e_26.trans ((cnt8 hR).trans (congrArg nI hhh.symm))).symm
                                        subst e_26
                                        refine lv_iload hx hb dL_isTold_667 (lv_at hl 6 rfl) ?_
                                        refine lv_icmp_ne (tgt := 690) hx hb dL_isTold_669 (by decide) (fun c_669 => ?_) (fun c_669 => ?_)
                                        · skip
                                          exact absurd (rfl) c_669
                                        · skip
                                          refine lv_aload_n hx hb dL_isTold_672 rfl (lv_at hl 1 rfl) ?_
                                          refine lv_aload_n hx hb dL_isTold_673 rfl (lv_at hl 2 rfl) ?_
                                          refine lv_bipush (v := 16) hx hb dL_isTold_674 (by decide) ?_
                                          refine va_iald hx hb hK hP 1 0 rfl rfl (i := nI 16) (vp_in_nI (N := 20) (by decide) (by decide)) dL_isTold_676 ?_
                                          rw [nI_clamp (n := 16) (by decide)]
                                          refine lv_topi (fun y_27 e_28 => ?_)
                                          have e_28 : nI n = y_27 := (e_28.trans (h16)).symm
                                          subst e_28
                                          refine lv_iconst (v := 0) hx hb dL_isTold_677 (by decide) ?_
                                          have hPb : va_P D vwCl ([(qg, .inl (cI, 8, .inl g)), (qa, .inl (cI, 20, .inl f))] ++ X) _ := hP
                                          have hDb : va_D CA ([(qg, .inl (cI, 8, .inl g)), (qa, .inl (cI, 20, .inl f))] ++ X) := hD
                                          refine ox_calli hPb hDb hX hS (va_runV (As := [.int (nI n), .int 0]) (rest := []) ⟨hx, hb, hml, hown, hts⟩ (y_station l D cI cB cO A n (f 17) (f 18) f (M8 f) (nI n) 0) (cwV 2 hts gL_isTold_X6_station rfl rfl rfl (by decide +kernel) ⟨Nat.le_of_ble_eq_true rfl, Nat.le_of_ble_eq_true rfl⟩) (ox_pre hK hPb hDb hX hN) rfl rfl hl.1 rfl (lv_room (Nat.le_of_ble_eq_true rfl)) dL_isTold_678 ⟨Nat.le_of_ble_eq_true rfl, Nat.le_of_ble_eq_true rfl⟩) (fun X H locs hX hP hD hS => ?_)
                                          have hP : va_P D vwCl ((qg, .inl (cI, 8, .inl g)) :: (qa, .inl (cI, 20, .inl f)) :: X) _ := hP
                                          have hD : va_D CA ((qg, .inl (cI, 8, .inl g)) :: (qa, .inl (cI, 20, .inl f)) :: X) := hD
                                          refine lv_topi (fun y_29 e_30 => ?_)
                                          have e_30 : -2 = y_29 := (e_30.trans (A_station_no (by rw [hasB_nI (by omega) (by omega)]; exact decide_eq_false (by omega)))).symm
                                          subst e_30
                                          refine lv_bipush (v := (-2)) hx hb dL_isTold_681 (by decide) ?_
                                          refine lv_icmp_ne (tgt := 690) hx hb dL_isTold_683 (by decide) (fun c_683 => ?_) (fun c_683 => ?_)
                                          · skip
                                            exact absurd (by decide) c_683
                                          · skip
                                            refine lv_iconst (v := 1) hx hb dL_isTold_686 (by decide) ?_
                                            refine lv_goto (tgt := 691) hx hb dL_isTold_687 (by decide) ?_
                                            have hP9 : va_P D vwCl ((qa, .inl (cI, 20, .inl f)) :: X) _ := wz_P (pre := [(qg, .inl (cI, 8, .inl g))]) (wc := ((qa, .inl (cI, 20, .inl f)) :: X)) hP
                                            exact W.zret (v := 1) hx hb hr (rfl) (fun tS htS hWS => ⟨⟨1, X, rfl, ⟨rfl, hX⟩, retP htS hP9⟩, hS.F htS⟩) hS.2.2 dL_isTold_691
                    · skip
                      have g533 : s4 < n := ge_f (by omega) c_533
                      refine lv_iload hx hb dL_isTold_536 (lv_at hl 6 rfl) ?_
                      refine lv_aload hx hb dL_isTold_538 (lv_at hl 8 rfl) ?_
                      refine lv_iload hx hb dL_isTold_540 (lv_at hl 9 rfl) ?_
                      refine va_iald hx hb hK hP 0 0 rfl rfl (i := nI s4) (vp_in_nI (N := 8) (by omega) (by decide)) dL_isTold_542 ?_
                      rw [nI_clamp (n := s4) (by omega)]
                      refine lv_iconst (v := 1) hx hb dL_isTold_543 (by decide) ?_
                      refine lv_iload hx hb dL_isTold_544 (lv_at hl 9 rfl) ?_
                      refine lv_ishl hx hb dL_isTold_546 ?_
                      refine lv_topi (fun y_31 e_32 => ?_)
                      have e_32 : nI (2 ^ s4) = y_31 := (e_32.trans (shl1 (by omega))).symm
                      subst e_32
                      refine lv_iconst (v := 1) hx hb dL_isTold_547 (by decide) ?_
                      refine lv_isub hx hb dL_isTold_548 ?_
                      refine lv_topi (fun y_33 e_34 => ?_)
                      have e_34 : nI (2 ^ s4 - 1) = y_33 := (e_34.trans (pk_sub (Nat.two_pow_pos s4))).symm
                      subst e_34
                      refine lv_iand hx hb dL_isTold_549 ?_
                      refine lv_if_ne (tgt := 557) hx hb dL_isTold_550 (by decide) (fun c_550 => ?_) (fun c_550 => ?_)
                      · skip
                        have h0 : 1 ≤ s4 := by
                          rcases Nat.eq_zero_or_pos s4 with r | r
                          · rw [r] at c_550; exact absurd gr_z0 c_550
                          · exact r
                        refine lv_iconst (v := 0) hx hb dL_isTold_557 (by decide) ?_
                        refine lv_iadd hx hb dL_isTold_558 ?_
                        refine lv_topi (fun y_35 e_36 => ?_)
                        have e_36 : nI (gr + 0) = y_35 := (e_36.trans (nI_add gr 0)).symm
                        subst e_36
                        refine lv_istore (lv' := [(7, .int (nI (gr + 0))), (0, .ref (A 0)), (1, .ref qa), (2, .int (nI sg)), (3, .int (nI nr)), (4, .int (nI ms)), (5, .int (nI hh)), (8, .int (nI v0)), (9, .ref qg), (10, .int (nI s4))]) hx hb dL_isTold_559 hl (by decide) rfl (fun ls hl => ?_)
                        refine lv_iinc (v := nI (s4 + 1)) (lv' := [(10, .int (nI (s4 + 1))), (7, .int (nI (gr + 0))), (0, .ref (A 0)), (1, .ref qa), (2, .int (nI sg)), (3, .int (nI nr)), (4, .int (nI ms)), (5, .int (nI hh)), (8, .int (nI v0)), (9, .ref qg)]) hx hb dL_isTold_561 hl (k := 9) rfl (inc1 _) (by decide) rfl (fun ls hl => ?_)
                        refine lv_goto (tgt := 527) hx hb dL_isTold_564 (by decide) ?_
                        exact ih_527 (s4 + 1) (gr + 0) (by omega) (by omega) (by omega) _ _ hP hD hS ls (lv_sub hl [2, 3, 4, 5, 6, 7, 1, 8, 9, 0] rfl)
                      · skip
                        have h0 : s4 = 0 := by
                          rcases Nat.eq_zero_or_pos s4 with r | r
                          · exact r
                          · exact absurd c_550 (gr_s h8 hgr g533 r (by omega))
                        refine lv_iconst (v := 1) hx hb dL_isTold_553 (by decide) ?_
                        refine lv_goto (tgt := 558) hx hb dL_isTold_554 (by decide) ?_
                        refine lv_iadd hx hb dL_isTold_558 ?_
                        refine lv_topi (fun y_37 e_38 => ?_)
                        have e_38 : nI (gr + 1) = y_37 := (e_38.trans (nI_add gr 1)).symm
                        subst e_38
                        refine lv_istore (lv' := [(7, .int (nI (gr + 1))), (0, .ref (A 0)), (1, .ref qa), (2, .int (nI sg)), (3, .int (nI nr)), (4, .int (nI ms)), (5, .int (nI hh)), (8, .int (nI v0)), (9, .ref qg), (10, .int (nI s4))]) hx hb dL_isTold_559 hl (by decide) rfl (fun ls hl => ?_)
                        refine lv_iinc (v := nI (s4 + 1)) (lv' := [(10, .int (nI (s4 + 1))), (7, .int (nI (gr + 1))), (0, .ref (A 0)), (1, .ref qa), (2, .int (nI sg)), (3, .int (nI nr)), (4, .int (nI ms)), (5, .int (nI hh)), (8, .int (nI v0)), (9, .ref qg)]) hx hb dL_isTold_561 hl (k := 9) rfl (inc1 _) (by decide) rfl (fun ls hl => ?_)
                        refine lv_goto (tgt := 527) hx hb dL_isTold_564 (by decide) ?_
                        exact ih_527 (s4 + 1) (gr + 1) (by omega) (by omega) (by omega) _ _ hP hD hS ls (lv_sub hl [2, 3, 4, 5, 6, 7, 1, 8, 9, 0] rfl)
                exact L_527 _ 0 0 (Nat.lt_succ_self _) (Nat.zero_le _) (rfl) _ _ hP hD hS ls (lv_sub hl [1, 2, 3, 4, 5, 6, 7, 8, 9, 0] rfl)
              · skip
                have g456 : k3 < 64 * n := ge_f (by omega) c_456
                refine lv_iload hx hb dL_isTold_459 (lv_at hl 9 rfl) ?_
                refine lv_bipush (v := 8) hx hb dL_isTold_461 (by decide) ?_
                refine lv_idiv hx hb dL_isTold_463 (by decide) ?_
                refine lv_topi (fun y_39 e_40 => ?_)
                have e_40 : nI (k3 / 8) = y_39 := (e_40.trans (pk_div (d := 8) (by omega) (by decide) (by decide))).symm
                subst e_40
                refine lv_bipush (v := 8) hx hb dL_isTold_464 (by decide) ?_
                refine lv_irem hx hb dL_isTold_466 (by decide) ?_
                refine lv_topi (fun y_41 e_42 => ?_)
                have e_42 : nI (k3 / 8 % 8) = y_41 := (e_42.trans (pk_rem (d := 8) (by omega) (by decide) (by decide))).symm
                subst e_42
                refine lv_istore (lv' := [(11, .int (nI (k3 / 8 % 8))), (0, .ref (A 0)), (1, .ref qa), (2, .int (nI sg)), (3, .int (nI nr)), (4, .int (nI ms)), (5, .int (nI hh)), (7, .int 0), (8, .int (nI v0)), (9, .ref qg), (10, .int (nI k3))]) hx hb dL_isTold_467 hl (by decide) rfl (fun ls hl => ?_)
                refine lv_iload hx hb dL_isTold_469 (lv_at hl 10 rfl) ?_
                refine lv_bipush (v := 8) hx hb dL_isTold_471 (by decide) ?_
                refine lv_irem hx hb dL_isTold_473 (by decide) ?_
                refine lv_topi (fun y_43 e_44 => ?_)
                have e_44 : nI (k3 % 8) = y_43 := (e_44.trans (pk_rem (d := 8) (by omega) (by decide) (by decide))).symm
                subst e_44
                refine lv_istore (lv' := [(12, .int (nI (k3 % 8))), (11, .int (nI (k3 / 8 % 8))), (0, .ref (A 0)), (1, .ref qa), (2, .int (nI sg)), (3, .int (nI nr)), (4, .int (nI ms)), (5, .int (nI hh)), (7, .int 0), (8, .int (nI v0)), (9, .ref qg), (10, .int (nI k3))]) hx hb dL_isTold_474 hl (by decide) rfl (fun ls hl => ?_)
                refine lv_iload hx hb dL_isTold_476 (lv_at hl 1 rfl) ?_
                refine lv_aload_n hx hb dL_isTold_478 rfl (lv_at hl 3 rfl) ?_
                refine lv_bipush (v := 16) hx hb dL_isTold_479 (by decide) ?_
                refine va_iald hx hb hK hP 1 0 rfl rfl (i := nI 16) (vp_in_nI (N := 20) (by decide) (by decide)) dL_isTold_481 ?_
                rw [nI_clamp (n := 16) (by decide)]
                refine lv_topi (fun y_45 e_46 => ?_)
                have e_46 : nI n = y_45 := (e_46.trans (h16)).symm
                subst e_46
                refine lv_icmp_ge (tgt := 518) hx hb dL_isTold_482 (by decide) (fun c_482 => ?_) (fun c_482 => ?_)
                · skip
                  have g482 : n ≤ k3 / 8 % 8 := ge_t (by omega) c_482
                  refine lv_iinc (v := nI (k3 + 1)) (lv' := [(10, .int (nI (k3 + 1))), (12, .int (nI (k3 % 8))), (11, .int (nI (k3 / 8 % 8))), (0, .ref (A 0)), (1, .ref qa), (2, .int (nI sg)), (3, .int (nI nr)), (4, .int (nI ms)), (5, .int (nI hh)), (7, .int 0), (8, .int (nI v0)), (9, .ref qg)]) hx hb dL_isTold_518 hl (k := 11) rfl (inc1 _) (by decide) rfl (fun ls hl => ?_)
                  refine lv_goto (tgt := 447) hx hb dL_isTold_521 (by decide) ?_
                  exact ih_447 (k3 + 1) g (by omega) (by omega) (grI_no h8 hgr (fun a h1 h2 e1 e2 => by omega)) _ _ hP hD hS ls (lv_sub hl [3, 4, 5, 6, 7, 8, 9, 10, 11, 0] rfl)
                · skip
                  have g482 : k3 / 8 % 8 < n := ge_f (by omega) c_482
                  refine lv_iload hx hb dL_isTold_485 (lv_at hl 0 rfl) ?_
                  refine lv_aload_n hx hb dL_isTold_487 rfl (lv_at hl 3 rfl) ?_
                  refine lv_bipush (v := 16) hx hb dL_isTold_488 (by decide) ?_
                  refine va_iald hx hb hK hP 1 0 rfl rfl (i := nI 16) (vp_in_nI (N := 20) (by decide) (by decide)) dL_isTold_490 ?_
                  rw [nI_clamp (n := 16) (by decide)]
                  refine lv_topi (fun y_47 e_48 => ?_)
                  have e_48 : nI n = y_47 := (e_48.trans (h16)).symm
                  subst e_48
                  refine lv_icmp_ge (tgt := 518) hx hb dL_isTold_491 (by decide) (fun c_491 => ?_) (fun c_491 => ?_)
                  · skip
                    have g491 : n ≤ k3 % 8 := ge_t (by omega) c_491
                    refine lv_iinc (v := nI (k3 + 1)) (lv' := [(10, .int (nI (k3 + 1))), (12, .int (nI (k3 % 8))), (11, .int (nI (k3 / 8 % 8))), (0, .ref (A 0)), (1, .ref qa), (2, .int (nI sg)), (3, .int (nI nr)), (4, .int (nI ms)), (5, .int (nI hh)), (7, .int 0), (8, .int (nI v0)), (9, .ref qg)]) hx hb dL_isTold_518 hl (k := 11) rfl (inc1 _) (by decide) rfl (fun ls hl => ?_)
                    refine lv_goto (tgt := 447) hx hb dL_isTold_521 (by decide) ?_
                    exact ih_447 (k3 + 1) g (by omega) (by omega) (grI_no h8 hgr (fun a h1 h2 e1 e2 => by omega)) _ _ hP hD hS ls (lv_sub hl [3, 4, 5, 6, 7, 8, 9, 10, 11, 0] rfl)
                  · skip
                    have g491 : k3 % 8 < n := ge_f (by omega) c_491
                    refine lv_aload_n hx hb dL_isTold_494 rfl (lv_at hl 3 rfl) ?_
                    refine lv_iload hx hb dL_isTold_495 (lv_at hl 1 rfl) ?_
                    refine lv_iload hx hb dL_isTold_497 (lv_at hl 0 rfl) ?_
                    refine rd_calli hP hS (va_runS (As := [.ref qa, .int (nI (k3 / 8 % 8)), .int (nI (k3 % 8))]) (rest := []) ⟨hx, hb, hml, hown, hts⟩ (c_L_contact l D cI cB cO qa f n (k3 / 8 % 8) (k3 % 8) hR g482 g491) (va_cwS 3 hts gL_isTold_L_contact rfl rfl rfl (by decide +kernel) ⟨Nat.le_of_ble_eq_true rfl, Nat.le_of_ble_eq_true rfl⟩) (rd_preS hK (hP.pick [1] rfl) hN) rfl rfl hl.1 rfl (lv_room (Nat.le_of_ble_eq_true rfl)) dL_isTold_499 ⟨Nat.le_of_ble_eq_true rfl, Nat.le_of_ble_eq_true rfl⟩) (fun r_499 H locs h_499 hP hS => ?_)
                    refine lv_if_eq (tgt := 518) hx hb dL_isTold_502 (by decide) (fun c_502 => ?_) (fun c_502 => ?_)
                    · skip
                      have hcb := bI_e0 (h_499.symm.trans c_502)
                      refine lv_iinc (v := nI (k3 + 1)) (lv' := [(10, .int (nI (k3 + 1))), (12, .int (nI (k3 % 8))), (11, .int (nI (k3 / 8 % 8))), (0, .ref (A 0)), (1, .ref qa), (2, .int (nI sg)), (3, .int (nI nr)), (4, .int (nI ms)), (5, .int (nI hh)), (7, .int 0), (8, .int (nI v0)), (9, .ref qg)]) hx hb dL_isTold_518 hl (k := 11) rfl (inc1 _) (by decide) rfl (fun ls hl => ?_)
                      refine lv_goto (tgt := 447) hx hb dL_isTold_521 (by decide) ?_
                      exact ih_447 (k3 + 1) g (by omega) (by omega) (grI_no h8 hgr (fun a h1 h2 e1 e2 => by
                        rw [e1, e2] at hcb
                        exact Bool.false_ne_true (hcb.symm.trans (con_adj (n := n) hR.rg h1)))) _ _ hP hD hS ls (lv_sub hl [3, 4, 5, 6, 7, 8, 9, 10, 11, 0] rfl)
                    · skip
                      refine lv_aload hx hb dL_isTold_505 (lv_at hl 10 rfl) ?_
                      refine lv_iload hx hb dL_isTold_507 (lv_at hl 1 rfl) ?_
                      refine lv_dup2_11 hx hb dL_isTold_509 rfl rfl ?_
                      refine va_iald hx hb hK hP 0 0 rfl rfl (i := nI (k3 / 8 % 8)) (vp_in_nI (N := 8) (by omega) (by decide)) dL_isTold_510 ?_
                      rw [nI_clamp (n := k3 / 8 % 8) (by omega)]
                      refine lv_aload hx hb dL_isTold_511 (lv_at hl 10 rfl) ?_
                      refine lv_iload hx hb dL_isTold_513 (lv_at hl 0 rfl) ?_
                      refine va_iald hx hb hK hP 0 0 rfl rfl (i := nI (k3 % 8)) (vp_in_nI (N := 8) (by omega) (by decide)) dL_isTold_515 ?_
                      rw [nI_clamp (n := k3 % 8) (by omega)]
                      refine lv_ior hx hb dL_isTold_516 ?_
                      refine va_iast hx hb hK hP hD hS 0 0 rfl rfl (i := nI (k3 / 8 % 8)) (vp_in_nI (N := 8) (by omega) (by decide)) dL_isTold_517 (fun H locs hP hD hS => ?_)
                      rw [nI_clamp (n := k3 / 8 % 8) (by omega)] at hP hD
                      have hP : va_P D vwCl ((qg, .inl (cI, 8, .inl (upd g (k3 / 8 % 8) ((g (k3 / 8 % 8)) ||| (g (k3 % 8)))))) :: (qa, .inl (cI, 20, .inl f)) :: X) _ := hP
                      have hD : va_D CA ((qg, .inl (cI, 8, .inl (upd g (k3 / 8 % 8) ((g (k3 / 8 % 8)) ||| (g (k3 % 8)))))) :: (qa, .inl (cI, 20, .inl f)) :: X) := hD
                      refine lv_iinc (v := nI (k3 + 1)) (lv' := [(10, .int (nI (k3 + 1))), (12, .int (nI (k3 % 8))), (11, .int (nI (k3 / 8 % 8))), (0, .ref (A 0)), (1, .ref qa), (2, .int (nI sg)), (3, .int (nI nr)), (4, .int (nI ms)), (5, .int (nI hh)), (7, .int 0), (8, .int (nI v0)), (9, .ref qg)]) hx hb dL_isTold_518 hl (k := 11) rfl (inc1 _) (by decide) rfl (fun ls hl => ?_)
                      refine lv_goto (tgt := 447) hx hb dL_isTold_521 (by decide) ?_
                      exact ih_447 (k3 + 1) (upd g (k3 / 8 % 8) ((g (k3 / 8 % 8)) ||| (g (k3 % 8)))) (by omega) (by omega) (grI_or h8 hgr g482 g491) _ _ hP hD hS ls (lv_sub hl [3, 4, 5, 6, 7, 8, 9, 10, 11, 0] rfl)
          exact L_447 _ 0 g (Nat.lt_succ_self _) (Nat.zero_le _) (grI_0 h8 (fun a h9 => hg a (Nat.zero_le a) h9)) _ _ hP hD hS ls (lv_sub hl [1, 2, 3, 4, 5, 6, 8, 9, 10, 0] rfl)
        · skip
          exact absurd (by decide) c_35
      | succ k =>
        have hz : z = nI k := hz.trans (FZ_s k)
        subst hz
        refine lv_if_lt (tgt := 444) hx hb dL_isTold_35 (by decide) (fun c_35 => ?_) (fun c_35 => ?_)
        · skip
          exact absurd c_35 (nI_pos (by omega))
        · skip
          have hk : k < n := hq
          refine lv_aload hx hb dL_isTold_38 (lv_at hl 9 rfl) ?_
          refine lv_iload hx hb dL_isTold_40 (lv_at hl 10 rfl) ?_
          refine lv_iconst (v := 1) hx hb dL_isTold_42 (by decide) ?_
          refine lv_iload hx hb dL_isTold_43 (lv_at hl 10 rfl) ?_
          refine lv_ishl hx hb dL_isTold_45 ?_
          refine lv_topi (fun y_49 e_50 => ?_)
          have e_50 : nI (2 ^ k) = y_49 := (e_50.trans (shl1 (by omega))).symm
          subst e_50
          refine va_iast hx hb hK hP hD hS 0 0 rfl rfl (i := nI k) (vp_in_nI (N := 8) (by omega) (by decide)) dL_isTold_46 (fun H locs hP hD hS => ?_)
          rw [nI_clamp (n := k) (by omega)] at hP hD
          have hP : va_P D vwCl ((qg, .inl (cI, 8, .inl (upd g k (nI (2 ^ k))))) :: (qa, .inl (cI, 20, .inl f)) :: X) _ := hP
          have hD : va_D CA ((qg, .inl (cI, 8, .inl (upd g k (nI (2 ^ k))))) :: (qa, .inl (cI, 20, .inl f)) :: X) := hD
          have hg2 : ∀ a, k ≤ a → a < n → (upd g k (nI (2 ^ k))) a = nI (2 ^ a) := fun a h1 h2 => by
            rcases Nat.eq_or_lt_of_le h1 with r | r
            · rw [← r, pk_us]
            · rw [pk_un (by omega)]; exact hg a r h2
          refine lv_iconst (v := 0) hx hb dL_isTold_47 (by decide) ?_
          refine lv_istore (lv' := [(11, .int 0), (0, .ref (A 0)), (1, .ref qa), (2, .int (nI sg)), (3, .int (nI nr)), (4, .int (nI ms)), (5, .int (nI hh)), (6, .int (nI d0)), (7, .int 0), (8, .int (nI v0)), (9, .ref qg), (10, .int (nI k))]) hx hb dL_isTold_48 hl (by decide) rfl (fun ls hl => ?_)
          refine lv_iconst (v := 0) hx hb dL_isTold_50 (by decide) ?_
          refine lv_istore (lv' := [(12, .int 0), (11, .int 0), (0, .ref (A 0)), (1, .ref qa), (2, .int (nI sg)), (3, .int (nI nr)), (4, .int (nI ms)), (5, .int (nI hh)), (6, .int (nI d0)), (7, .int 0), (8, .int (nI v0)), (9, .ref qg), (10, .int (nI k))]) hx hb dL_isTold_51 hl (by decide) rfl (fun ls hl => ?_)
          have L_53 : ∀ (k_53 : Nat) (t : Nat) (sv : Int32) (sg2 : Nat) (nr2 : Nat) (d2 : Nat) (v2 : Nat) (X : va_W), n - t < k_53 → (t ≤ n) → (SRX cI cB cO A X n (f 17) (f 18) f (M8 f)) → (sv = nI (bs (conB f (M8 f) (f 17) (f 18) k) t)) → (sg2 = dn (lS f n) n (k + 1) + fb_ct (pS f k) t) → (nr2 = dn (lC f n) n (k + 1) + fb_ct (pC f k) t) → (fsG (fsR (conB f (M8 f) (f 17) (f 18)) n k t) 0 d2 v2) → ∀ (H : Heap) (locs : List Loc), va_P D vwCl ((qg, .inl (cI, 8, .inl (upd g k (nI (2 ^ k))))) :: (qa, .inl (cI, 20, .inl f)) :: X) H → va_D CA ((qg, .inl (cI, 8, .inl (upd g k (nI (2 ^ k))))) :: (qa, .inl (cI, 20, .inl f)) :: X) → va_S CA s.heap H locs → ∀ (ls : Array Slot), lv_has ls 15 [(0, .ref (A 0)), (1, .ref qa), (2, .int (nI sg2)), (3, .int (nI nr2)), (4, .int (nI ms)), (5, .int (nI hh)), (6, .int (nI d2)), (7, .int 0), (8, .int (nI v2)), (9, .ref qg), (10, .int (nI k)), (11, .int sv), (12, .int (nI t))] → W p l e ({ frames := 8, cells := 1, slots := 8, locals := 320 } : Room) s m ([.ref (A 0), .ref qa] : List Value).toArray below meth c H locs 1 8 (MQ below (va_Qi (fun (r : Int32) (u : va_W) => r = 1 ∧ SRX cI cB cO A u n (f 17) (f 18) f (M8 f)) (fun (u : va_W) t => va_P D vwCl ((qa, .inl (cI, 20, .inl f)) :: u) t.heap) CA) ([.ref (A 0), .ref qa] : List Value).toArray s 1 8 CA) (F0 m 53 ls []) := by
            intro k_53
            induction k_53 with
            | zero => intro t sv sg2 nr2 d2 v2 X h9; exact absurd h9 (Nat.not_lt_zero _)
            | succ k_53 ih_53 =>
              intro t sv sg2 nr2 d2 v2 X hm_53 ht hX hsv hsg2 hnr2 hfs2 H locs hP hD hS ls hl
              refine lv_iload hx hb dL_isTold_53 (lv_at hl 12 rfl) ?_
              refine lv_aload_n hx hb dL_isTold_55 rfl (lv_at hl 1 rfl) ?_
              refine lv_bipush (v := 16) hx hb dL_isTold_56 (by decide) ?_
              refine va_iald hx hb hK hP 1 0 rfl rfl (i := nI 16) (vp_in_nI (N := 20) (by decide) (by decide)) dL_isTold_58 ?_
              rw [nI_clamp (n := 16) (by decide)]
              refine lv_topi (fun y_51 e_52 => ?_)
              have e_52 : nI n = y_51 := (e_52.trans (h16)).symm
              subst e_52
              refine lv_icmp_ge (tgt := 240) hx hb dL_isTold_59 (by decide) (fun c_59 => ?_) (fun c_59 => ?_)
              · skip
                have g59 : n ≤ t := ge_t (by omega) c_59
                have hsv9 : sv = nI (bs (conB f (M8 f) (f 17) (f 18) k) n) := by rw [hsv, show t = n by omega]
                have hsg9 : sg2 = dn (lS f n) n k := by
                  have e := dn_step (lS f n) hk
                  have e2 : lS f n k = fb_ct (pS f k) n := rfl
                  rw [show t = n by omega] at hsg2
                  omega
                have hnr9 : nr2 = dn (lC f n) n k := by
                  have e := dn_step (lC f n) hk
                  have e2 : lC f n k = fb_ct (pC f k) n := rfl
                  rw [show t = n by omega] at hnr2
                  omega
                refine lv_aload_n hx hb dL_isTold_240 rfl (lv_at hl 1 rfl) ?_
                refine lv_iload hx hb dL_isTold_241 (lv_at hl 10 rfl) ?_
                refine rd_calli hP hS (va_runS (As := [.ref qa, .int (nI k)]) (rest := []) ⟨hx, hb, hml, hown, hts⟩ (c_L_grounds l D cI cB cO qa f n k hR hk) (va_cwS 2 hts gL_isTold_L_grounds rfl rfl rfl (by decide +kernel) ⟨Nat.le_of_ble_eq_true rfl, Nat.le_of_ble_eq_true rfl⟩) (rd_preS hK (hP.pick [1] rfl) hN) rfl rfl hl.1 rfl (lv_room (Nat.le_of_ble_eq_true rfl)) dL_isTold_243 ⟨Nat.le_of_ble_eq_true rfl, Nat.le_of_ble_eq_true rfl⟩) (fun r_243 H locs h_243 hP hS => ?_)
                subst h_243
                refine lv_istore (lv' := [(12, .int (nI (bs (gsB f (f 18) k (tp f (M8 f) k)) n))), (0, .ref (A 0)), (1, .ref qa), (2, .int (nI sg2)), (3, .int (nI nr2)), (4, .int (nI ms)), (5, .int (nI hh)), (6, .int (nI d2)), (7, .int 0), (8, .int (nI v2)), (9, .ref qg), (10, .int (nI k)), (11, .int sv)]) hx hb dL_isTold_246 hl (by decide) rfl (fun ls hl => ?_)
                refine W_joinH (D := D) (ws := ((qg, .inl (cI, 8, .inl (upd g k (nI (2 ^ k))))) :: (qa, .inl (cI, 20, .inl f)) :: X)) (A0 := CA) (H0 := s.heap) (pc2 := 275) (st2 := []) (fun x9 => x9 = nI (hn1 (tp f (M8 f)) k)) hP hD hS (fun x9 hx9 H locs hP hD hS => ?_) (fun J_275 => ?_)
                · skip
                  subst hx9
                  refine W_joinH (D := D) (ws := ((qg, .inl (cI, 8, .inl (upd g k (nI (2 ^ k))))) :: (qa, .inl (cI, 20, .inl f)) :: X)) (A0 := CA) (H0 := s.heap) (pc2 := 308) (st2 := [.int (nI (hn1 (tp f (M8 f)) k))]) (fun x9 => x9 = nI (hn2 (tp f (M8 f)) n k)) hP hD hS (fun x9 hx9 H locs hP hD hS => ?_) (fun J_308 => ?_)
                  · skip
                    subst hx9
                    refine lv_iadd hx hb dL_isTold_308 ?_
                    refine lv_topi (fun y_53 e_54 => ?_)
                    have e_54 : nI ((hn1 (tp f (M8 f)) k) + (hn2 (tp f (M8 f)) n k)) = y_53 := (e_54.trans (nI_add (hn1 (tp f (M8 f)) k) (hn2 (tp f (M8 f)) n k))).symm
                    subst e_54
                    refine lv_istore (lv' := [(13, .int (nI ((hn1 (tp f (M8 f)) k) + (hn2 (tp f (M8 f)) n k)))), (12, .int (nI (bs (gsB f (f 18) k (tp f (M8 f) k)) n))), (0, .ref (A 0)), (1, .ref qa), (2, .int (nI sg2)), (3, .int (nI nr2)), (4, .int (nI ms)), (5, .int (nI hh)), (6, .int (nI d2)), (7, .int 0), (8, .int (nI v2)), (9, .ref qg), (10, .int (nI k)), (11, .int sv)]) hx hb dL_isTold_309 hl (by decide) rfl (fun ls hl => ?_)
                    refine lv_aload_n hx hb dL_isTold_311 rfl (lv_at hl 2 rfl) ?_
                    refine lv_iload hx hb dL_isTold_312 (lv_at hl 12 rfl) ?_
                    refine lv_iconst (v := 0) hx hb dL_isTold_314 (by decide) ?_
                    have hPb : va_P D vwCl ([(qg, .inl (cI, 8, .inl (upd g k (nI (2 ^ k))))), (qa, .inl (cI, 20, .inl f))] ++ X) _ := hP
                    have hDb : va_D CA ([(qg, .inl (cI, 8, .inl (upd g k (nI (2 ^ k))))), (qa, .inl (cI, 20, .inl f))] ++ X) := hD
                    refine ox_calli hPb hDb hX hS (va_runV (As := [.int (nI k), .int 0]) (rest := []) ⟨hx, hb, hml, hown, hts⟩ (y_station l D cI cB cO A n (f 17) (f 18) f (M8 f) (nI k) 0) (cwV 2 hts gL_isTold_X6_station rfl rfl rfl (by decide +kernel) ⟨Nat.le_of_ble_eq_true rfl, Nat.le_of_ble_eq_true rfl⟩) (ox_pre hK hPb hDb hX hN) rfl rfl hl.1 rfl (lv_room (Nat.le_of_ble_eq_true rfl)) dL_isTold_315 ⟨Nat.le_of_ble_eq_true rfl, Nat.le_of_ble_eq_true rfl⟩) (fun X H locs hX hP hD hS => ?_)
                    have hP : va_P D vwCl ((qg, .inl (cI, 8, .inl (upd g k (nI (2 ^ k))))) :: (qa, .inl (cI, 20, .inl f)) :: X) _ := hP
                    have hD : va_D CA ((qg, .inl (cI, 8, .inl (upd g k (nI (2 ^ k))))) :: (qa, .inl (cI, 20, .inl f)) :: X) := hD
                    refine lv_topi (fun y_55 e_56 => ?_)
                    have e_56 : f k = y_55 := (e_56.trans ((by rw [A_station_k hk hn]; rfl))).symm
                    subst e_56
                    refine lv_aload_n hx hb dL_isTold_318 rfl (lv_at hl 3 rfl) ?_
                    refine lv_iload hx hb dL_isTold_319 (lv_at hl 12 rfl) ?_
                    refine va_iald hx hb hK hP 1 0 rfl rfl (i := nI k) (vp_in_nI (N := 20) (by omega) (by decide)) dL_isTold_321 ?_
                    rw [nI_clamp (n := k) (by omega)]
                    refine lv_icmp_ne (tgt := 404) hx hb dL_isTold_322 (by decide) (fun c_322 => ?_) (fun c_322 => ?_)
                    · skip
                      exact absurd (rfl) c_322
                    · skip
                      refine lv_aload_n hx hb dL_isTold_325 rfl (lv_at hl 2 rfl) ?_
                      refine lv_iload hx hb dL_isTold_326 (lv_at hl 12 rfl) ?_
                      refine lv_iconst (v := 1) hx hb dL_isTold_328 (by decide) ?_
                      have hPb : va_P D vwCl ([(qg, .inl (cI, 8, .inl (upd g k (nI (2 ^ k))))), (qa, .inl (cI, 20, .inl f))] ++ X) _ := hP
                      have hDb : va_D CA ([(qg, .inl (cI, 8, .inl (upd g k (nI (2 ^ k))))), (qa, .inl (cI, 20, .inl f))] ++ X) := hD
                      refine ox_calli hPb hDb hX hS (va_runV (As := [.int (nI k), .int 1]) (rest := []) ⟨hx, hb, hml, hown, hts⟩ (y_station l D cI cB cO A n (f 17) (f 18) f (M8 f) (nI k) 1) (cwV 2 hts gL_isTold_X6_station rfl rfl rfl (by decide +kernel) ⟨Nat.le_of_ble_eq_true rfl, Nat.le_of_ble_eq_true rfl⟩) (ox_pre hK hPb hDb hX hN) rfl rfl hl.1 rfl (lv_room (Nat.le_of_ble_eq_true rfl)) dL_isTold_329 ⟨Nat.le_of_ble_eq_true rfl, Nat.le_of_ble_eq_true rfl⟩) (fun X H locs hX hP hD hS => ?_)
                      have hP : va_P D vwCl ((qg, .inl (cI, 8, .inl (upd g k (nI (2 ^ k))))) :: (qa, .inl (cI, 20, .inl f)) :: X) _ := hP
                      have hD : va_D CA ((qg, .inl (cI, 8, .inl (upd g k (nI (2 ^ k))))) :: (qa, .inl (cI, 20, .inl f)) :: X) := hD
                      refine lv_topi (fun y_57 e_58 => ?_)
                      have e_58 : f (8 + k) = y_57 := (e_58.trans ((by rw [A_station_k hk hn]; rfl))).symm
                      subst e_58
                      refine lv_aload_n hx hb dL_isTold_332 rfl (lv_at hl 3 rfl) ?_
                      refine lv_bipush (v := 8) hx hb dL_isTold_333 (by decide) ?_
                      refine lv_iload hx hb dL_isTold_335 (lv_at hl 12 rfl) ?_
                      refine lv_iadd hx hb dL_isTold_337 ?_
                      refine lv_topi (fun y_59 e_60 => ?_)
                      have e_60 : nI (8 + k) = y_59 := (e_60.trans (nI_add 8 k)).symm
                      subst e_60
                      refine va_iald hx hb hK hP 1 0 rfl rfl (i := nI (8 + k)) (vp_in_nI (N := 20) (by omega) (by decide)) dL_isTold_338 ?_
                      rw [nI_clamp (n := 8 + k) (by omega)]
                      refine lv_icmp_ne (tgt := 404) hx hb dL_isTold_339 (by decide) (fun c_339 => ?_) (fun c_339 => ?_)
                      · skip
                        exact absurd (rfl) c_339
                      · skip
                        refine lv_aload_n hx hb dL_isTold_342 rfl (lv_at hl 2 rfl) ?_
                        refine lv_iload hx hb dL_isTold_343 (lv_at hl 12 rfl) ?_
                        refine lv_iconst (v := 2) hx hb dL_isTold_345 (by decide) ?_
                        have hPb : va_P D vwCl ([(qg, .inl (cI, 8, .inl (upd g k (nI (2 ^ k))))), (qa, .inl (cI, 20, .inl f))] ++ X) _ := hP
                        have hDb : va_D CA ([(qg, .inl (cI, 8, .inl (upd g k (nI (2 ^ k))))), (qa, .inl (cI, 20, .inl f))] ++ X) := hD
                        refine ox_calli hPb hDb hX hS (va_runV (As := [.int (nI k), .int 2]) (rest := []) ⟨hx, hb, hml, hown, hts⟩ (y_station l D cI cB cO A n (f 17) (f 18) f (M8 f) (nI k) 2) (cwV 2 hts gL_isTold_X6_station rfl rfl rfl (by decide +kernel) ⟨Nat.le_of_ble_eq_true rfl, Nat.le_of_ble_eq_true rfl⟩) (ox_pre hK hPb hDb hX hN) rfl rfl hl.1 rfl (lv_room (Nat.le_of_ble_eq_true rfl)) dL_isTold_346 ⟨Nat.le_of_ble_eq_true rfl, Nat.le_of_ble_eq_true rfl⟩) (fun X H locs hX hP hD hS => ?_)
                        have hP : va_P D vwCl ((qg, .inl (cI, 8, .inl (upd g k (nI (2 ^ k))))) :: (qa, .inl (cI, 20, .inl f)) :: X) _ := hP
                        have hD : va_D CA ((qg, .inl (cI, 8, .inl (upd g k (nI (2 ^ k))))) :: (qa, .inl (cI, 20, .inl f)) :: X) := hD
                        refine lv_topi (fun y_61 e_62 => ?_)
                        have e_62 : tp f (M8 f) k = y_61 := (e_62.trans ((by rw [A_station_k hk hn]; rfl))).symm
                        subst e_62
                        refine lv_aload_n hx hb dL_isTold_349 rfl (lv_at hl 3 rfl) ?_
                        refine lv_iload hx hb dL_isTold_350 (lv_at hl 12 rfl) ?_
                        refine rd_calli hP hS (va_runS (As := [.ref qa, .int (nI k)]) (rest := [.int (tp f (M8 f) k)]) ⟨hx, hb, hml, hown, hts⟩ (c_L_top l D cI cB cO qa f k (by omega)) (va_cwS 2 hts gL_isTold_L_top rfl rfl rfl (by decide +kernel) ⟨Nat.le_of_ble_eq_true rfl, Nat.le_of_ble_eq_true rfl⟩) (rd_preS hK (hP.pick [1] rfl) hN) rfl rfl hl.1 rfl (lv_room (Nat.le_of_ble_eq_true rfl)) dL_isTold_352 ⟨Nat.le_of_ble_eq_true rfl, Nat.le_of_ble_eq_true rfl⟩) (fun r_352 H locs h_352 hP hS => ?_)
                        subst h_352
                        refine lv_icmp_ne (tgt := 404) hx hb dL_isTold_355 (by decide) (fun c_355 => ?_) (fun c_355 => ?_)
                        · skip
                          exact absurd (rfl) c_355
                        · skip
                          refine lv_aload_n hx hb dL_isTold_358 rfl (lv_at hl 2 rfl) ?_
                          refine lv_iload hx hb dL_isTold_359 (lv_at hl 12 rfl) ?_
                          refine lv_iconst (v := 3) hx hb dL_isTold_361 (by decide) ?_
                          have hPb : va_P D vwCl ([(qg, .inl (cI, 8, .inl (upd g k (nI (2 ^ k))))), (qa, .inl (cI, 20, .inl f))] ++ X) _ := hP
                          have hDb : va_D CA ([(qg, .inl (cI, 8, .inl (upd g k (nI (2 ^ k))))), (qa, .inl (cI, 20, .inl f))] ++ X) := hD
                          refine ox_calli hPb hDb hX hS (va_runV (As := [.int (nI k), .int 3]) (rest := []) ⟨hx, hb, hml, hown, hts⟩ (y_station l D cI cB cO A n (f 17) (f 18) f (M8 f) (nI k) 3) (cwV 2 hts gL_isTold_X6_station rfl rfl rfl (by decide +kernel) ⟨Nat.le_of_ble_eq_true rfl, Nat.le_of_ble_eq_true rfl⟩) (ox_pre hK hPb hDb hX hN) rfl rfl hl.1 rfl (lv_room (Nat.le_of_ble_eq_true rfl)) dL_isTold_362 ⟨Nat.le_of_ble_eq_true rfl, Nat.le_of_ble_eq_true rfl⟩) (fun X H locs hX hP hD hS => ?_)
                          have hP : va_P D vwCl ((qg, .inl (cI, 8, .inl (upd g k (nI (2 ^ k))))) :: (qa, .inl (cI, 20, .inl f)) :: X) _ := hP
                          have hD : va_D CA ((qg, .inl (cI, 8, .inl (upd g k (nI (2 ^ k))))) :: (qa, .inl (cI, 20, .inl f)) :: X) := hD
                          refine lv_topi (fun y_63 e_64 => ?_)
                          have e_64 : nI (bs (conB f (M8 f) (f 17) (f 18) k) n) = y_63 := (e_64.trans ((by rw [A_station_k hk hn]; rfl))).symm
                          subst e_64
                          refine lv_iload hx hb dL_isTold_365 (lv_at hl 13 rfl) ?_
                          refine lv_icmp_ne (tgt := 404) hx hb dL_isTold_367 (by decide) (fun c_367 => ?_) (fun c_367 => ?_)
                          · skip
                            exact absurd (hsv9.symm) c_367
                          · skip
                            refine lv_aload_n hx hb dL_isTold_370 rfl (lv_at hl 2 rfl) ?_
                            refine lv_iload hx hb dL_isTold_371 (lv_at hl 12 rfl) ?_
                            refine lv_iconst (v := 4) hx hb dL_isTold_373 (by decide) ?_
                            have hPb : va_P D vwCl ([(qg, .inl (cI, 8, .inl (upd g k (nI (2 ^ k))))), (qa, .inl (cI, 20, .inl f))] ++ X) _ := hP
                            have hDb : va_D CA ([(qg, .inl (cI, 8, .inl (upd g k (nI (2 ^ k))))), (qa, .inl (cI, 20, .inl f))] ++ X) := hD
                            refine ox_calli hPb hDb hX hS (va_runV (As := [.int (nI k), .int 4]) (rest := []) ⟨hx, hb, hml, hown, hts⟩ (y_station l D cI cB cO A n (f 17) (f 18) f (M8 f) (nI k) 4) (cwV 2 hts gL_isTold_X6_station rfl rfl rfl (by decide +kernel) ⟨Nat.le_of_ble_eq_true rfl, Nat.le_of_ble_eq_true rfl⟩) (ox_pre hK hPb hDb hX hN) rfl rfl hl.1 rfl (lv_room (Nat.le_of_ble_eq_true rfl)) dL_isTold_374 ⟨Nat.le_of_ble_eq_true rfl, Nat.le_of_ble_eq_true rfl⟩) (fun X H locs hX hP hD hS => ?_)
                            have hP : va_P D vwCl ((qg, .inl (cI, 8, .inl (upd g k (nI (2 ^ k))))) :: (qa, .inl (cI, 20, .inl f)) :: X) _ := hP
                            have hD : va_D CA ((qg, .inl (cI, 8, .inl (upd g k (nI (2 ^ k))))) :: (qa, .inl (cI, 20, .inl f)) :: X) := hD
                            refine lv_topi (fun y_65 e_66 => ?_)
                            have e_66 : nI (bs (gsB f (f 18) k (tp f (M8 f) k)) n) = y_65 := (e_66.trans ((by rw [A_station_k hk hn]; rfl))).symm
                            subst e_66
                            refine lv_iload hx hb dL_isTold_377 (lv_at hl 1 rfl) ?_
                            refine lv_icmp_ne (tgt := 404) hx hb dL_isTold_379 (by decide) (fun c_379 => ?_) (fun c_379 => ?_)
                            · skip
                              exact absurd (rfl) c_379
                            · skip
                              refine lv_aload_n hx hb dL_isTold_382 rfl (lv_at hl 2 rfl) ?_
                              refine lv_iload hx hb dL_isTold_383 (lv_at hl 12 rfl) ?_
                              refine lv_iconst (v := 5) hx hb dL_isTold_385 (by decide) ?_
                              have hPb : va_P D vwCl ([(qg, .inl (cI, 8, .inl (upd g k (nI (2 ^ k))))), (qa, .inl (cI, 20, .inl f))] ++ X) _ := hP
                              have hDb : va_D CA ([(qg, .inl (cI, 8, .inl (upd g k (nI (2 ^ k))))), (qa, .inl (cI, 20, .inl f))] ++ X) := hD
                              refine ox_calli hPb hDb hX hS (va_runV (As := [.int (nI k), .int 5]) (rest := []) ⟨hx, hb, hml, hown, hts⟩ (y_station l D cI cB cO A n (f 17) (f 18) f (M8 f) (nI k) 5) (cwV 2 hts gL_isTold_X6_station rfl rfl rfl (by decide +kernel) ⟨Nat.le_of_ble_eq_true rfl, Nat.le_of_ble_eq_true rfl⟩) (ox_pre hK hPb hDb hX hN) rfl rfl hl.1 rfl (lv_room (Nat.le_of_ble_eq_true rfl)) dL_isTold_386 ⟨Nat.le_of_ble_eq_true rfl, Nat.le_of_ble_eq_true rfl⟩) (fun X H locs hX hP hD hS => ?_)
                              have hP : va_P D vwCl ((qg, .inl (cI, 8, .inl (upd g k (nI (2 ^ k))))) :: (qa, .inl (cI, 20, .inl f)) :: X) _ := hP
                              have hD : va_D CA ((qg, .inl (cI, 8, .inl (upd g k (nI (2 ^ k))))) :: (qa, .inl (cI, 20, .inl f)) :: X) := hD
                              refine lv_topi (fun y_67 e_68 => ?_)
                              have e_68 : nI (hn1 (tp f (M8 f)) k + hn2 (tp f (M8 f)) n k) = y_67 := (e_68.trans ((by rw [A_station_k hk hn]; rfl))).symm
                              subst e_68
                              refine lv_iload hx hb dL_isTold_389 (lv_at hl 0 rfl) ?_
                              refine lv_icmp_ne (tgt := 404) hx hb dL_isTold_391 (by decide) (fun c_391 => ?_) (fun c_391 => ?_)
                              · skip
                                exact absurd (rfl) c_391
                              · skip
                                refine lv_aload_n hx hb dL_isTold_394 rfl (lv_at hl 2 rfl) ?_
                                refine lv_aload_n hx hb dL_isTold_395 rfl (lv_at hl 3 rfl) ?_
                                refine lv_iload hx hb dL_isTold_396 (lv_at hl 12 rfl) ?_
                                have hPb : va_P D vwCl ([(qg, .inl (cI, 8, .inl (upd g k (nI (2 ^ k)))))] ++ ((qa, .inl (cI, 20, .inl f)) :: X)) _ := hP
                                have hDb : va_D CA ([(qg, .inl (cI, 8, .inl (upd g k (nI (2 ^ k)))))] ++ ((qa, .inl (cI, 20, .inl f)) :: X)) := hD
                                refine wz_calli hPb hDb hS (fun r u h => by exact congrArg (List.cons _) (h.2.fst.trans hX.fst.symm)) (va_runS (As := [.ref (A 0), .ref qa, .int (nI k)]) (rest := []) ⟨hx, hb, hml, hown, hts⟩ (c_L_areShadows l D cI cB cO A qa f n X k hR hX hk) (va_cwS 3 hts gL_isTold_L_areShadows rfl rfl rfl (by decide +kernel) ⟨Nat.le_of_ble_eq_true rfl, Nat.le_of_ble_eq_true rfl⟩) (wz_preS hK hPb hDb hN) rfl rfl hl.1 rfl (lv_room (Nat.le_of_ble_eq_true rfl)) dL_isTold_398 ⟨Nat.le_of_ble_eq_true rfl, Nat.le_of_ble_eq_true rfl⟩) (fun r_398 X H locs h_398 hP hD hS => ?_)
                                obtain ⟨h_398, hX⟩ := h_398
                                subst h_398
                                have hP : va_P D vwCl ((qg, .inl (cI, 8, .inl (upd g k (nI (2 ^ k))))) :: (qa, .inl (cI, 20, .inl f)) :: X) _ := hP
                                have hD : va_D CA ((qg, .inl (cI, 8, .inl (upd g k (nI (2 ^ k))))) :: (qa, .inl (cI, 20, .inl f)) :: X) := hD
                                refine lv_if_ne (tgt := 406) hx hb dL_isTold_401 (by decide) (fun c_401 => ?_) (fun c_401 => ?_)
                                · skip
                                  refine lv_iload hx hb dL_isTold_406 (lv_at hl 6 rfl) ?_
                                  refine lv_aload_n hx hb dL_isTold_408 rfl (lv_at hl 3 rfl) ?_
                                  refine lv_bipush (v := 8) hx hb dL_isTold_409 (by decide) ?_
                                  refine lv_iload hx hb dL_isTold_411 (lv_at hl 12 rfl) ?_
                                  refine lv_iadd hx hb dL_isTold_413 ?_
                                  refine lv_topi (fun y_69 e_70 => ?_)
                                  have e_70 : nI (8 + k) = y_69 := (e_70.trans (nI_add 8 k)).symm
                                  subst e_70
                                  refine va_iald hx hb hK hP 1 0 rfl rfl (i := nI (8 + k)) (vp_in_nI (N := 20) (by omega) (by decide)) dL_isTold_414 ?_
                                  rw [nI_clamp (n := 8 + k) (by omega)]
                                  refine lv_if_le (tgt := 422) hx hb dL_isTold_415 (by decide) (fun c_415 => ?_) (fun c_415 => ?_)
                                  · skip
                                    refine lv_iconst (v := 0) hx hb dL_isTold_422 (by decide) ?_
                                    refine lv_iadd hx hb dL_isTold_423 ?_
                                    refine lv_topi (fun y_71 e_72 => ?_)
                                    have e_72 : nI (ms + 0) = y_71 := (e_72.trans (nI_add ms 0)).symm
                                    subst e_72
                                    refine lv_istore (lv' := [(4, .int (nI (ms + 0))), (13, .int (nI ((hn1 (tp f (M8 f)) k) + (hn2 (tp f (M8 f)) n k)))), (12, .int (nI (bs (gsB f (f 18) k (tp f (M8 f) k)) n))), (0, .ref (A 0)), (1, .ref qa), (2, .int (nI sg2)), (3, .int (nI nr2)), (5, .int (nI hh)), (6, .int (nI d2)), (7, .int 0), (8, .int (nI v2)), (9, .ref qg), (10, .int (nI k)), (11, .int sv)]) hx hb dL_isTold_424 hl (by decide) rfl (fun ls hl => ?_)
                                    refine lv_iload hx hb dL_isTold_426 (lv_at hl 7 rfl) ?_
                                    refine lv_aload_n hx hb dL_isTold_428 rfl (lv_at hl 4 rfl) ?_
                                    refine lv_bipush (v := 8) hx hb dL_isTold_429 (by decide) ?_
                                    refine lv_iload hx hb dL_isTold_431 (lv_at hl 12 rfl) ?_
                                    refine lv_iadd hx hb dL_isTold_433 ?_
                                    refine lv_topi (fun y_73 e_74 => ?_)
                                    have e_74 : nI (8 + k) = y_73 := (e_74.trans (nI_add 8 k)).symm
                                    subst e_74
                                    refine va_iald hx hb hK hP 1 0 rfl rfl (i := nI (8 + k)) (vp_in_nI (N := 20) (by omega) (by decide)) dL_isTold_434 ?_
                                    rw [nI_clamp (n := 8 + k) (by omega)]
                                    refine lv_topi (fun y_75 e_76 => ?_)
                                    have e_76 : nI (lH f k) = y_75 := (e_76.trans (lH_eq hR hk)).symm
                                    subst e_76
                                    refine lv_iadd hx hb dL_isTold_435 ?_
                                    refine lv_topi (fun y_77 e_78 => ?_)
                                    have e_78 : nI (hh + (lH f k)) = y_77 := (e_78.trans (nI_add hh (lH f k))).symm
                                    subst e_78
                                    refine lv_istore (lv' := [(5, .int (nI (hh + (lH f k)))), (4, .int (nI (ms + 0))), (13, .int (nI ((hn1 (tp f (M8 f)) k) + (hn2 (tp f (M8 f)) n k)))), (12, .int (nI (bs (gsB f (f 18) k (tp f (M8 f) k)) n))), (0, .ref (A 0)), (1, .ref qa), (2, .int (nI sg2)), (3, .int (nI nr2)), (6, .int (nI d2)), (7, .int 0), (8, .int (nI v2)), (9, .ref qg), (10, .int (nI k)), (11, .int sv)]) hx hb dL_isTold_436 hl (by decide) rfl (fun ls hl => ?_)
                                    refine lv_iinc (v := (nI k) + (-1)) (lv' := [(10, .int ((nI k) + (-1))), (5, .int (nI (hh + (lH f k)))), (4, .int (nI (ms + 0))), (13, .int (nI ((hn1 (tp f (M8 f)) k) + (hn2 (tp f (M8 f)) n k)))), (12, .int (nI (bs (gsB f (f 18) k (tp f (M8 f) k)) n))), (0, .ref (A 0)), (1, .ref qa), (2, .int (nI sg2)), (3, .int (nI nr2)), (6, .int (nI d2)), (7, .int 0), (8, .int (nI v2)), (9, .ref qg), (11, .int sv)]) hx hb dL_isTold_438 hl (k := 12) rfl (rfl) (by decide) rfl (fun ls hl => ?_)
                                    refine lv_goto (tgt := 33) hx hb dL_isTold_441 (by decide) ?_
                                    exact ih_33 k ((nI k) + (-1)) sg2 nr2 (ms + 0) (hh + (lH f k)) d2 v2 (upd g k (nI (2 ^ k))) X (by omega) (by omega) (fz_dec k) (hX) (hsg9) (hnr9) (by have e := dn_step (lM f) hk; have e2 : lM f k = 0 := if_neg (Int32.not_lt.mpr c_415); omega) (by have e := dn_step (lH f) hk; omega) (by rw [show t = n by omega] at hfs2; exact hfs2) (hg2) _ _ hP hD hS ls (lv_sub hl [5, 6, 7, 8, 2, 1, 9, 10, 11, 12, 0] rfl)
                                  · skip
                                    refine lv_iconst (v := 1) hx hb dL_isTold_418 (by decide) ?_
                                    refine lv_goto (tgt := 423) hx hb dL_isTold_419 (by decide) ?_
                                    refine lv_iadd hx hb dL_isTold_423 ?_
                                    refine lv_topi (fun y_79 e_80 => ?_)
                                    have e_80 : nI (ms + 1) = y_79 := (e_80.trans (nI_add ms 1)).symm
                                    subst e_80
                                    refine lv_istore (lv' := [(4, .int (nI (ms + 1))), (13, .int (nI ((hn1 (tp f (M8 f)) k) + (hn2 (tp f (M8 f)) n k)))), (12, .int (nI (bs (gsB f (f 18) k (tp f (M8 f) k)) n))), (0, .ref (A 0)), (1, .ref qa), (2, .int (nI sg2)), (3, .int (nI nr2)), (5, .int (nI hh)), (6, .int (nI d2)), (7, .int 0), (8, .int (nI v2)), (9, .ref qg), (10, .int (nI k)), (11, .int sv)]) hx hb dL_isTold_424 hl (by decide) rfl (fun ls hl => ?_)
                                    refine lv_iload hx hb dL_isTold_426 (lv_at hl 7 rfl) ?_
                                    refine lv_aload_n hx hb dL_isTold_428 rfl (lv_at hl 4 rfl) ?_
                                    refine lv_bipush (v := 8) hx hb dL_isTold_429 (by decide) ?_
                                    refine lv_iload hx hb dL_isTold_431 (lv_at hl 12 rfl) ?_
                                    refine lv_iadd hx hb dL_isTold_433 ?_
                                    refine lv_topi (fun y_81 e_82 => ?_)
                                    have e_82 : nI (8 + k) = y_81 := (e_82.trans (nI_add 8 k)).symm
                                    subst e_82
                                    refine va_iald hx hb hK hP 1 0 rfl rfl (i := nI (8 + k)) (vp_in_nI (N := 20) (by omega) (by decide)) dL_isTold_434 ?_
                                    rw [nI_clamp (n := 8 + k) (by omega)]
                                    refine lv_topi (fun y_83 e_84 => ?_)
                                    have e_84 : nI (lH f k) = y_83 := (e_84.trans (lH_eq hR hk)).symm
                                    subst e_84
                                    refine lv_iadd hx hb dL_isTold_435 ?_
                                    refine lv_topi (fun y_85 e_86 => ?_)
                                    have e_86 : nI (hh + (lH f k)) = y_85 := (e_86.trans (nI_add hh (lH f k))).symm
                                    subst e_86
                                    refine lv_istore (lv' := [(5, .int (nI (hh + (lH f k)))), (4, .int (nI (ms + 1))), (13, .int (nI ((hn1 (tp f (M8 f)) k) + (hn2 (tp f (M8 f)) n k)))), (12, .int (nI (bs (gsB f (f 18) k (tp f (M8 f) k)) n))), (0, .ref (A 0)), (1, .ref qa), (2, .int (nI sg2)), (3, .int (nI nr2)), (6, .int (nI d2)), (7, .int 0), (8, .int (nI v2)), (9, .ref qg), (10, .int (nI k)), (11, .int sv)]) hx hb dL_isTold_436 hl (by decide) rfl (fun ls hl => ?_)
                                    refine lv_iinc (v := (nI k) + (-1)) (lv' := [(10, .int ((nI k) + (-1))), (5, .int (nI (hh + (lH f k)))), (4, .int (nI (ms + 1))), (13, .int (nI ((hn1 (tp f (M8 f)) k) + (hn2 (tp f (M8 f)) n k)))), (12, .int (nI (bs (gsB f (f 18) k (tp f (M8 f) k)) n))), (0, .ref (A 0)), (1, .ref qa), (2, .int (nI sg2)), (3, .int (nI nr2)), (6, .int (nI d2)), (7, .int 0), (8, .int (nI v2)), (9, .ref qg), (11, .int sv)]) hx hb dL_isTold_438 hl (k := 12) rfl (rfl) (by decide) rfl (fun ls hl => ?_)
                                    refine lv_goto (tgt := 33) hx hb dL_isTold_441 (by decide) ?_
                                    exact ih_33 k ((nI k) + (-1)) sg2 nr2 (ms + 1) (hh + (lH f k)) d2 v2 (upd g k (nI (2 ^ k))) X (by omega) (by omega) (fz_dec k) (hX) (hsg9) (hnr9) (by have e := dn_step (lM f) hk; have e2 : lM f k = 1 := if_pos (Int32.not_le.mp c_415); omega) (by have e := dn_step (lH f) hk; omega) (by rw [show t = n by omega] at hfs2; exact hfs2) (hg2) _ _ hP hD hS ls (lv_sub hl [5, 6, 7, 8, 2, 1, 9, 10, 11, 12, 0] rfl)
                                · skip
                                  exact absurd c_401 (by decide)
                  · skip
                    refine lv_iload hx hb dL_isTold_275 (lv_at hl 11 rfl) ?_
                    refine lv_iconst (v := 1) hx hb dL_isTold_277 (by decide) ?_
                    refine lv_iadd hx hb dL_isTold_278 ?_
                    refine lv_topi (fun y_87 e_88 => ?_)
                    have e_88 : nI (k + 1) = y_87 := (e_88.trans (nI_add k 1)).symm
                    subst e_88
                    refine lv_aload_n hx hb dL_isTold_279 rfl (lv_at hl 2 rfl) ?_
                    refine lv_bipush (v := 16) hx hb dL_isTold_280 (by decide) ?_
                    refine va_iald hx hb hK hP 1 0 rfl rfl (i := nI 16) (vp_in_nI (N := 20) (by decide) (by decide)) dL_isTold_282 ?_
                    rw [nI_clamp (n := 16) (by decide)]
                    refine lv_topi (fun y_89 e_90 => ?_)
                    have e_90 : nI n = y_89 := (e_90.trans (h16)).symm
                    subst e_90
                    refine lv_icmp_ge (tgt := 307) hx hb dL_isTold_283 (by decide) (fun c_283 => ?_) (fun c_283 => ?_)
                    · skip
                      have g283 : n ≤ k + 1 := ge_t (by omega) c_283
                      refine lv_iconst (v := 0) hx hb dL_isTold_307 (by decide) ?_
                      exact J_308 _ (hn2_0 g283) _ _ hP hD hS
                    · skip
                      have g283 : k + 1 < n := ge_f (by omega) c_283
                      refine lv_aload_n hx hb dL_isTold_286 rfl (lv_at hl 2 rfl) ?_
                      refine lv_iload hx hb dL_isTold_287 (lv_at hl 11 rfl) ?_
                      refine lv_iconst (v := 1) hx hb dL_isTold_289 (by decide) ?_
                      refine lv_iadd hx hb dL_isTold_290 ?_
                      refine lv_topi (fun y_91 e_92 => ?_)
                      have e_92 : nI (k + 1) = y_91 := (e_92.trans (nI_add k 1)).symm
                      subst e_92
                      refine rd_calli hP hS (va_runS (As := [.ref qa, .int (nI (k + 1))]) (rest := [.int (nI (hn1 (tp f (M8 f)) k))]) ⟨hx, hb, hml, hown, hts⟩ (c_L_top l D cI cB cO qa f (k + 1) (by omega)) (va_cwS 2 hts gL_isTold_L_top rfl rfl rfl (by decide +kernel) ⟨Nat.le_of_ble_eq_true rfl, Nat.le_of_ble_eq_true rfl⟩) (rd_preS hK (hP.pick [1] rfl) hN) rfl rfl hl.1 rfl (lv_room (Nat.le_of_ble_eq_true rfl)) dL_isTold_291 ⟨Nat.le_of_ble_eq_true rfl, Nat.le_of_ble_eq_true rfl⟩) (fun r_291 H locs h_291 hP hS => ?_)
                      subst h_291
                      refine lv_aload_n hx hb dL_isTold_294 rfl (lv_at hl 2 rfl) ?_
                      refine lv_iload hx hb dL_isTold_295 (lv_at hl 11 rfl) ?_
                      refine rd_calli hP hS (va_runS (As := [.ref qa, .int (nI k)]) (rest := [.int (tp f (M8 f) (k + 1)), .int (nI (hn1 (tp f (M8 f)) k))]) ⟨hx, hb, hml, hown, hts⟩ (c_L_top l D cI cB cO qa f k (by omega)) (va_cwS 2 hts gL_isTold_L_top rfl rfl rfl (by decide +kernel) ⟨Nat.le_of_ble_eq_true rfl, Nat.le_of_ble_eq_true rfl⟩) (rd_preS hK (hP.pick [1] rfl) hN) rfl rfl hl.1 rfl (lv_room (Nat.le_of_ble_eq_true rfl)) dL_isTold_297 ⟨Nat.le_of_ble_eq_true rfl, Nat.le_of_ble_eq_true rfl⟩) (fun r_297 H locs h_297 hP hS => ?_)
                      subst h_297
                      refine lv_icmp_le (tgt := 307) hx hb dL_isTold_300 (by decide) (fun c_300 => ?_) (fun c_300 => ?_)
                      · skip
                        refine lv_iconst (v := 0) hx hb dL_isTold_307 (by decide) ?_
                        exact J_308 _ (hn2_F c_300) _ _ hP hD hS
                      · skip
                        refine lv_iconst (v := 1) hx hb dL_isTold_303 (by decide) ?_
                        refine lv_goto (tgt := 308) hx hb dL_isTold_304 (by decide) ?_
                        exact J_308 _ (hn2_T g283 c_300) _ _ hP hD hS
                · skip
                  refine lv_iload hx hb dL_isTold_248 (lv_at hl 11 rfl) ?_
                  refine lv_if_le (tgt := 274) hx hb dL_isTold_250 (by decide) (fun c_250 => ?_) (fun c_250 => ?_)
                  · skip
                    have g250 : k = 0 := le_n0 c_250 (by omega)
                    refine lv_iconst (v := 0) hx hb dL_isTold_274 (by decide) ?_
                    exact J_275 _ (hn1_0 g250) _ _ hP hD hS
                  · skip
                    have g250 : 0 < k := by
                      rcases Nat.eq_zero_or_pos k with r | r
                      · exact absurd (by rw [r]; decide) c_250
                      · exact r
                    refine lv_aload_n hx hb dL_isTold_253 rfl (lv_at hl 2 rfl) ?_
                    refine lv_iload hx hb dL_isTold_254 (lv_at hl 11 rfl) ?_
                    refine lv_iconst (v := 1) hx hb dL_isTold_256 (by decide) ?_
                    refine lv_isub hx hb dL_isTold_257 ?_
                    refine lv_topi (fun y_93 e_94 => ?_)
                    have e_94 : nI (k - 1) = y_93 := (e_94.trans (pk_sub g250)).symm
                    subst e_94
                    refine rd_calli hP hS (va_runS (As := [.ref qa, .int (nI (k - 1))]) (rest := []) ⟨hx, hb, hml, hown, hts⟩ (c_L_top l D cI cB cO qa f (k - 1) (by omega)) (va_cwS 2 hts gL_isTold_L_top rfl rfl rfl (by decide +kernel) ⟨Nat.le_of_ble_eq_true rfl, Nat.le_of_ble_eq_true rfl⟩) (rd_preS hK (hP.pick [1] rfl) hN) rfl rfl hl.1 rfl (lv_room (Nat.le_of_ble_eq_true rfl)) dL_isTold_258 ⟨Nat.le_of_ble_eq_true rfl, Nat.le_of_ble_eq_true rfl⟩) (fun r_258 H locs h_258 hP hS => ?_)
                    subst h_258
                    refine lv_aload_n hx hb dL_isTold_261 rfl (lv_at hl 2 rfl) ?_
                    refine lv_iload hx hb dL_isTold_262 (lv_at hl 11 rfl) ?_
                    refine rd_calli hP hS (va_runS (As := [.ref qa, .int (nI k)]) (rest := [.int (tp f (M8 f) (k - 1))]) ⟨hx, hb, hml, hown, hts⟩ (c_L_top l D cI cB cO qa f k (by omega)) (va_cwS 2 hts gL_isTold_L_top rfl rfl rfl (by decide +kernel) ⟨Nat.le_of_ble_eq_true rfl, Nat.le_of_ble_eq_true rfl⟩) (rd_preS hK (hP.pick [1] rfl) hN) rfl rfl hl.1 rfl (lv_room (Nat.le_of_ble_eq_true rfl)) dL_isTold_264 ⟨Nat.le_of_ble_eq_true rfl, Nat.le_of_ble_eq_true rfl⟩) (fun r_264 H locs h_264 hP hS => ?_)
                    subst h_264
                    refine lv_icmp_le (tgt := 274) hx hb dL_isTold_267 (by decide) (fun c_267 => ?_) (fun c_267 => ?_)
                    · skip
                      refine lv_iconst (v := 0) hx hb dL_isTold_274 (by decide) ?_
                      exact J_275 _ (hn1_F c_267) _ _ hP hD hS
                    · skip
                      refine lv_iconst (v := 1) hx hb dL_isTold_270 (by decide) ?_
                      refine lv_goto (tgt := 275) hx hb dL_isTold_271 (by decide) ?_
                      exact J_275 _ (hn1_T g250 c_267) _ _ hP hD hS
              · skip
                have ht9 : t < n := ge_f (by omega) c_59
                refine lv_aload_n hx hb dL_isTold_62 rfl (lv_at hl 1 rfl) ?_
                refine lv_iload hx hb dL_isTold_63 (lv_at hl 10 rfl) ?_
                refine lv_iload hx hb dL_isTold_65 (lv_at hl 12 rfl) ?_
                refine rd_calli hP hS (va_runS (As := [.ref qa, .int (nI k), .int (nI t)]) (rest := []) ⟨hx, hb, hml, hown, hts⟩ (c_L_sees l D cI cB cO qa f n k t hR hk ht9) (va_cwS 3 hts gL_isTold_L_sees rfl rfl rfl (by decide +kernel) ⟨Nat.le_of_ble_eq_true rfl, Nat.le_of_ble_eq_true rfl⟩) (rd_preS hK (hP.pick [1] rfl) hN) rfl rfl hl.1 rfl (lv_room (Nat.le_of_ble_eq_true rfl)) dL_isTold_67 ⟨Nat.le_of_ble_eq_true rfl, Nat.le_of_ble_eq_true rfl⟩) (fun r_67 H locs h_67 hP hS => ?_)
                refine lv_istore (lv' := [(13, .int r_67), (0, .ref (A 0)), (1, .ref qa), (2, .int (nI sg2)), (3, .int (nI nr2)), (4, .int (nI ms)), (5, .int (nI hh)), (6, .int (nI d2)), (7, .int 0), (8, .int (nI v2)), (9, .ref qg), (10, .int (nI k)), (11, .int sv), (12, .int (nI t))]) hx hb dL_isTold_70 hl (by decide) rfl (fun ls hl => ?_)
                refine lv_aload_n hx hb dL_isTold_72 rfl (lv_at hl 2 rfl) ?_
                refine lv_iload hx hb dL_isTold_73 (lv_at hl 11 rfl) ?_
                refine lv_iload hx hb dL_isTold_75 (lv_at hl 13 rfl) ?_
                refine rd_calli hP hS (va_runS (As := [.ref qa, .int (nI k), .int (nI t)]) (rest := []) ⟨hx, hb, hml, hown, hts⟩ (c_L_contact l D cI cB cO qa f n k t hR hk ht9) (va_cwS 3 hts gL_isTold_L_contact rfl rfl rfl (by decide +kernel) ⟨Nat.le_of_ble_eq_true rfl, Nat.le_of_ble_eq_true rfl⟩) (rd_preS hK (hP.pick [1] rfl) hN) rfl rfl hl.1 rfl (lv_room (Nat.le_of_ble_eq_true rfl)) dL_isTold_77 ⟨Nat.le_of_ble_eq_true rfl, Nat.le_of_ble_eq_true rfl⟩) (fun r_77 H locs h_77 hP hS => ?_)
                refine lv_istore (lv' := [(14, .int r_77), (13, .int r_67), (0, .ref (A 0)), (1, .ref qa), (2, .int (nI sg2)), (3, .int (nI nr2)), (4, .int (nI ms)), (5, .int (nI hh)), (6, .int (nI d2)), (7, .int 0), (8, .int (nI v2)), (9, .ref qg), (10, .int (nI k)), (11, .int sv), (12, .int (nI t))]) hx hb dL_isTold_80 hl (by decide) rfl (fun ls hl => ?_)
                refine bool_3 (seesB f (f 18) k (tp f (M8 f) k) t (tp f (M8 f) t)) (fun hsb => ?_) (fun hsb => ?_)
                · skip
                  have e9 : r_67 = 1 := h_67.trans (congrArg bI hsb)
                  subst e9
                  refine bool_3 (conB f (M8 f) (f 17) (f 18) k t) (fun hcb => ?_) (fun hcb => ?_)
                  · skip
                    have e9 : r_77 = 1 := h_77.trans (congrArg bI hcb)
                    subst e9
                    rcases Nat.lt_or_ge k t with hkt | hkt
                    · skip
                      have hps := pS_T hkt hsb
                      have hpc := pC_T hkt hcb
                      refine lv_aload_n hx hb dL_isTold_82 rfl (lv_at hl 2 rfl) ?_
                      refine lv_iload hx hb dL_isTold_83 (lv_at hl 12 rfl) ?_
                      refine lv_iload hx hb dL_isTold_85 (lv_at hl 14 rfl) ?_
                      have hPb : va_P D vwCl ([(qg, .inl (cI, 8, .inl (upd g k (nI (2 ^ k))))), (qa, .inl (cI, 20, .inl f))] ++ X) _ := hP
                      have hDb : va_D CA ([(qg, .inl (cI, 8, .inl (upd g k (nI (2 ^ k))))), (qa, .inl (cI, 20, .inl f))] ++ X) := hD
                      refine ox_calli hPb hDb hX hS (va_runV (As := [.int (nI k), .int (nI t)]) (rest := []) ⟨hx, hb, hml, hown, hts⟩ (y_sees l D cI cB cO A n (f 17) (f 18) f (M8 f) (nI k) (nI t)) (cwV 2 hts gL_isTold_X6_sees rfl rfl rfl (by decide +kernel) ⟨Nat.le_of_ble_eq_true rfl, Nat.le_of_ble_eq_true rfl⟩) (ox_pre hK hPb hDb hX hN) rfl rfl hl.1 rfl (lv_room (Nat.le_of_ble_eq_true rfl)) dL_isTold_87 ⟨Nat.le_of_ble_eq_true rfl, Nat.le_of_ble_eq_true rfl⟩) (fun X H locs hX hP hD hS => ?_)
                      have hP : va_P D vwCl ((qg, .inl (cI, 8, .inl (upd g k (nI (2 ^ k))))) :: (qa, .inl (cI, 20, .inl f)) :: X) _ := hP
                      have hD : va_D CA ((qg, .inl (cI, 8, .inl (upd g k (nI (2 ^ k))))) :: (qa, .inl (cI, 20, .inl f)) :: X) := hD
                      refine lv_topi (fun y_95 e_96 => ?_)
                      have e_96 : 1 = y_95 := (e_96.trans ((se_nI hn hk ht9).trans (congrArg bI hsb))).symm
                      subst e_96
                      refine lv_iload hx hb dL_isTold_90 (lv_at hl 1 rfl) ?_
                      refine lv_if_eq (tgt := 99) hx hb dL_isTold_92 (by decide) (fun c_92 => ?_) (fun c_92 => ?_)
                      · skip
                        exact absurd c_92 (by decide)
                      · skip
                        refine lv_iconst (v := 1) hx hb dL_isTold_95 (by decide) ?_
                        refine lv_goto (tgt := 100) hx hb dL_isTold_96 (by decide) ?_
                        refine lv_icmp_eq (tgt := 105) hx hb dL_isTold_100 (by decide) (fun c_100 => ?_) (fun c_100 => ?_)
                        · skip
                          refine lv_iload hx hb dL_isTold_105 (lv_at hl 13 rfl) ?_
                          refine lv_iload hx hb dL_isTold_107 (lv_at hl 0 rfl) ?_
                          refine lv_if_eq (tgt := 119) hx hb dL_isTold_109 (by decide) (fun c_109 => ?_) (fun c_109 => ?_)
                          · skip
                            exact absurd c_109 (by decide)
                          · skip
                            refine lv_iconst (v := 1) hx hb dL_isTold_112 (by decide) ?_
                            refine lv_iload hx hb dL_isTold_113 (lv_at hl 14 rfl) ?_
                            refine lv_ishl hx hb dL_isTold_115 ?_
                            refine lv_goto (tgt := 120) hx hb dL_isTold_116 (by decide) ?_
                            refine lv_ior hx hb dL_isTold_120 ?_
                            refine lv_istore (lv' := [(11, .int (sv ||| (1 <<< ((nI t) &&& 31)))), (14, .int 1), (13, .int 1), (0, .ref (A 0)), (1, .ref qa), (2, .int (nI sg2)), (3, .int (nI nr2)), (4, .int (nI ms)), (5, .int (nI hh)), (6, .int (nI d2)), (7, .int 0), (8, .int (nI v2)), (9, .ref qg), (10, .int (nI k)), (12, .int (nI t))]) hx hb dL_isTold_121 hl (by decide) rfl (fun ls hl => ?_)
                            refine lv_iload_n hx hb dL_isTold_123 rfl (lv_at hl 5 rfl) ?_
                            refine lv_iload hx hb dL_isTold_124 (lv_at hl 14 rfl) ?_
                            refine lv_iload hx hb dL_isTold_126 (lv_at hl 13 rfl) ?_
                            refine lv_icmp_le (tgt := 140) hx hb dL_isTold_128 (by decide) (fun c_128 => ?_) (fun c_128 => ?_)
                            · skip
                              exact absurd c_128 (nI_ge hkt (by omega))
                            · skip
                              refine lv_iload hx hb dL_isTold_131 (lv_at hl 2 rfl) ?_
                              refine lv_if_eq (tgt := 140) hx hb dL_isTold_133 (by decide) (fun c_133 => ?_) (fun c_133 => ?_)
                              · skip
                                exact absurd c_133 (by decide)
                              · skip
                                refine lv_iconst (v := 1) hx hb dL_isTold_136 (by decide) ?_
                                refine lv_goto (tgt := 141) hx hb dL_isTold_137 (by decide) ?_
                                refine lv_iadd hx hb dL_isTold_141 ?_
                                refine lv_topi (fun y_97 e_98 => ?_)
                                have e_98 : nI (sg2 + 1) = y_97 := (e_98.trans (nI_add sg2 1)).symm
                                subst e_98
                                refine lv_istore_n (lv' := [(2, .int (nI (sg2 + 1))), (11, .int (sv ||| (1 <<< ((nI t) &&& 31)))), (14, .int 1), (13, .int 1), (0, .ref (A 0)), (1, .ref qa), (3, .int (nI nr2)), (4, .int (nI ms)), (5, .int (nI hh)), (6, .int (nI d2)), (7, .int 0), (8, .int (nI v2)), (9, .ref qg), (10, .int (nI k)), (12, .int (nI t))]) hx hb dL_isTold_142 rfl hl (by decide) rfl (fun ls hl => ?_)
                                refine lv_iload_n hx hb dL_isTold_143 rfl (lv_at hl 6 rfl) ?_
                                refine lv_iload hx hb dL_isTold_144 (lv_at hl 14 rfl) ?_
                                refine lv_iload hx hb dL_isTold_146 (lv_at hl 13 rfl) ?_
                                refine lv_icmp_le (tgt := 160) hx hb dL_isTold_148 (by decide) (fun c_148 => ?_) (fun c_148 => ?_)
                                · skip
                                  exact absurd c_148 (nI_ge hkt (by omega))
                                · skip
                                  refine lv_iload hx hb dL_isTold_151 (lv_at hl 2 rfl) ?_
                                  refine lv_if_eq (tgt := 160) hx hb dL_isTold_153 (by decide) (fun c_153 => ?_) (fun c_153 => ?_)
                                  · skip
                                    exact absurd c_153 (by decide)
                                  · skip
                                    refine lv_iconst (v := 1) hx hb dL_isTold_156 (by decide) ?_
                                    refine lv_goto (tgt := 161) hx hb dL_isTold_157 (by decide) ?_
                                    refine lv_iadd hx hb dL_isTold_161 ?_
                                    refine lv_topi (fun y_99 e_100 => ?_)
                                    have e_100 : nI (nr2 + 1) = y_99 := (e_100.trans (nI_add nr2 1)).symm
                                    subst e_100
                                    refine lv_istore_n (lv' := [(3, .int (nI (nr2 + 1))), (2, .int (nI (sg2 + 1))), (11, .int (sv ||| (1 <<< ((nI t) &&& 31)))), (14, .int 1), (13, .int 1), (0, .ref (A 0)), (1, .ref qa), (4, .int (nI ms)), (5, .int (nI hh)), (6, .int (nI d2)), (7, .int 0), (8, .int (nI v2)), (9, .ref qg), (10, .int (nI k)), (12, .int (nI t))]) hx hb dL_isTold_162 rfl hl (by decide) rfl (fun ls hl => ?_)
                                    refine lv_iload hx hb dL_isTold_163 (lv_at hl 14 rfl) ?_
                                    refine lv_iload hx hb dL_isTold_165 (lv_at hl 13 rfl) ?_
                                    refine lv_icmp_le (tgt := 196) hx hb dL_isTold_167 (by decide) (fun c_167 => ?_) (fun c_167 => ?_)
                                    · skip
                                      exact absurd c_167 (nI_ge hkt (by omega))
                                    · skip
                                      refine lv_iload hx hb dL_isTold_170 (lv_at hl 3 rfl) ?_
                                      refine lv_if_eq (tgt := 196) hx hb dL_isTold_172 (by decide) (fun c_172 => ?_) (fun c_172 => ?_)
                                      · skip
                                        exact absurd c_172 (by decide)
                                      · skip
                                        refine lv_iload hx hb dL_isTold_175 (lv_at hl 14 rfl) ?_
                                        refine lv_iload hx hb dL_isTold_177 (lv_at hl 13 rfl) ?_
                                        refine lv_isub hx hb dL_isTold_179 ?_
                                        refine lv_topi (fun y_101 e_102 => ?_)
                                        have e_102 : nI (t - k) = y_101 := (e_102.trans (pk_sub (Nat.le_of_lt hkt))).symm
                                        subst e_102
                                        refine lv_iload hx hb dL_isTold_180 (lv_at hl 9 rfl) ?_
                                        refine lv_icmp_lt (tgt := 196) hx hb dL_isTold_182 (by decide) (fun c_182 => ?_) (fun c_182 => ?_)
                                        · skip
                                          have hd9 := fsR_lt hfs2
                                          have gd : t - k < d2 := (nI_ltI (by omega) (by omega)).mp c_182
                                          refine lv_iload hx hb dL_isTold_196 (lv_at hl 11 rfl) ?_
                                          refine lv_istore (lv' := [(8, .int (nI v2)), (3, .int (nI (nr2 + 1))), (2, .int (nI (sg2 + 1))), (11, .int (sv ||| (1 <<< ((nI t) &&& 31)))), (14, .int 1), (13, .int 1), (0, .ref (A 0)), (1, .ref qa), (4, .int (nI ms)), (5, .int (nI hh)), (6, .int (nI d2)), (7, .int 0), (9, .ref qg), (10, .int (nI k)), (12, .int (nI t))]) hx hb dL_isTold_198 hl (by decide) rfl (fun ls hl => ?_)
                                          refine lv_iload hx hb dL_isTold_200 (lv_at hl 14 rfl) ?_
                                          refine lv_iload hx hb dL_isTold_202 (lv_at hl 13 rfl) ?_
                                          refine lv_icmp_le (tgt := 230) hx hb dL_isTold_204 (by decide) (fun c_204 => ?_) (fun c_204 => ?_)
                                          · skip
                                            exact absurd c_204 (nI_ge hkt (by omega))
                                          · skip
                                            refine lv_iload hx hb dL_isTold_207 (lv_at hl 4 rfl) ?_
                                            refine lv_if_eq (tgt := 230) hx hb dL_isTold_209 (by decide) (fun c_209 => ?_) (fun c_209 => ?_)
                                            · skip
                                              exact absurd c_209 (by decide)
                                            · skip
                                              refine lv_iload hx hb dL_isTold_212 (lv_at hl 14 rfl) ?_
                                              refine lv_iload hx hb dL_isTold_214 (lv_at hl 13 rfl) ?_
                                              refine lv_isub hx hb dL_isTold_216 ?_
                                              refine lv_topi (fun y_103 e_104 => ?_)
                                              have e_104 : nI (t - k) = y_103 := (e_104.trans (pk_sub (Nat.le_of_lt hkt))).symm
                                              subst e_104
                                              refine lv_iload hx hb dL_isTold_217 (lv_at hl 10 rfl) ?_
                                              refine lv_icmp_le (tgt := 230) hx hb dL_isTold_219 (by decide) (fun c_219 => ?_) (fun c_219 => ?_)
                                              · skip
                                                refine lv_iload hx hb dL_isTold_230 (lv_at hl 10 rfl) ?_
                                                refine lv_istore (lv' := [(6, .int (nI d2)), (8, .int (nI v2)), (3, .int (nI (nr2 + 1))), (2, .int (nI (sg2 + 1))), (11, .int (sv ||| (1 <<< ((nI t) &&& 31)))), (14, .int 1), (13, .int 1), (0, .ref (A 0)), (1, .ref qa), (4, .int (nI ms)), (5, .int (nI hh)), (7, .int 0), (9, .ref qg), (10, .int (nI k)), (12, .int (nI t))]) hx hb dL_isTold_232 hl (by decide) rfl (fun ls hl => ?_)
                                                refine lv_iinc (v := nI (t + 1)) (lv' := [(12, .int (nI (t + 1))), (6, .int (nI d2)), (8, .int (nI v2)), (3, .int (nI (nr2 + 1))), (2, .int (nI (sg2 + 1))), (11, .int (sv ||| (1 <<< ((nI t) &&& 31)))), (14, .int 1), (13, .int 1), (0, .ref (A 0)), (1, .ref qa), (4, .int (nI ms)), (5, .int (nI hh)), (7, .int 0), (9, .ref qg), (10, .int (nI k))]) hx hb dL_isTold_234 hl (k := 14) rfl (inc1 _) (by decide) rfl (fun ls hl => ?_)
                                                refine lv_goto (tgt := 53) hx hb dL_isTold_237 (by decide) ?_
                                                exact ih_53 (t + 1) (sv ||| (1 <<< ((nI t) &&& 31))) (sg2 + 1) (nr2 + 1) d2 v2 X (by omega) (by omega) (hX) (by rw [hsv]; exact bs_orT (by omega) hcb) (by omega) (by omega) (fsR_old hfs2 hkt ht9 hcb gd) _ _ hP hD hS ls (lv_sub hl [8, 9, 4, 3, 10, 11, 1, 12, 2, 13, 14, 5, 0] rfl)
                                              · skip
                                                exact absurd (nI_le (Nat.le_of_lt gd) (by omega)) c_219
                                        · skip
                                          have hd9 := fsR_lt hfs2
                                          have gd : d2 ≤ t - k := Nat.le_of_not_lt (fun q => c_182 (nI_lt q (by omega)))
                                          refine lv_bipush (v := 100) hx hb dL_isTold_185 (by decide) ?_
                                          refine lv_iload hx hb dL_isTold_187 (lv_at hl 13 rfl) ?_
                                          refine lv_imul hx hb dL_isTold_189 ?_
                                          refine lv_topi (fun y_105 e_106 => ?_)
                                          have e_106 : nI (100 * k) = y_105 := (e_106.trans (pk_mul 100 k)).symm
                                          subst e_106
                                          refine lv_iload hx hb dL_isTold_190 (lv_at hl 14 rfl) ?_
                                          refine lv_iadd hx hb dL_isTold_192 ?_
                                          refine lv_topi (fun y_107 e_108 => ?_)
                                          have e_108 : nI ((100 * k) + t) = y_107 := (e_108.trans (nI_add (100 * k) t)).symm
                                          subst e_108
                                          refine lv_goto (tgt := 198) hx hb dL_isTold_193 (by decide) ?_
                                          refine lv_istore (lv' := [(8, .int (nI ((100 * k) + t))), (3, .int (nI (nr2 + 1))), (2, .int (nI (sg2 + 1))), (11, .int (sv ||| (1 <<< ((nI t) &&& 31)))), (14, .int 1), (13, .int 1), (0, .ref (A 0)), (1, .ref qa), (4, .int (nI ms)), (5, .int (nI hh)), (6, .int (nI d2)), (7, .int 0), (9, .ref qg), (10, .int (nI k)), (12, .int (nI t))]) hx hb dL_isTold_198 hl (by decide) rfl (fun ls hl => ?_)
                                          refine lv_iload hx hb dL_isTold_200 (lv_at hl 14 rfl) ?_
                                          refine lv_iload hx hb dL_isTold_202 (lv_at hl 13 rfl) ?_
                                          refine lv_icmp_le (tgt := 230) hx hb dL_isTold_204 (by decide) (fun c_204 => ?_) (fun c_204 => ?_)
                                          · skip
                                            exact absurd c_204 (nI_ge hkt (by omega))
                                          · skip
                                            refine lv_iload hx hb dL_isTold_207 (lv_at hl 4 rfl) ?_
                                            refine lv_if_eq (tgt := 230) hx hb dL_isTold_209 (by decide) (fun c_209 => ?_) (fun c_209 => ?_)
                                            · skip
                                              exact absurd c_209 (by decide)
                                            · skip
                                              refine lv_iload hx hb dL_isTold_212 (lv_at hl 14 rfl) ?_
                                              refine lv_iload hx hb dL_isTold_214 (lv_at hl 13 rfl) ?_
                                              refine lv_isub hx hb dL_isTold_216 ?_
                                              refine lv_topi (fun y_109 e_110 => ?_)
                                              have e_110 : nI (t - k) = y_109 := (e_110.trans (pk_sub (Nat.le_of_lt hkt))).symm
                                              subst e_110
                                              refine lv_iload hx hb dL_isTold_217 (lv_at hl 10 rfl) ?_
                                              refine lv_icmp_le (tgt := 230) hx hb dL_isTold_219 (by decide) (fun c_219 => ?_) (fun c_219 => ?_)
                                              · skip
                                                have gd2 : t - k ≤ d2 := (nI_leI (by omega) (by omega)).mp c_219
                                                refine lv_iload hx hb dL_isTold_230 (lv_at hl 10 rfl) ?_
                                                refine lv_istore (lv' := [(6, .int (nI d2)), (8, .int (nI ((100 * k) + t))), (3, .int (nI (nr2 + 1))), (2, .int (nI (sg2 + 1))), (11, .int (sv ||| (1 <<< ((nI t) &&& 31)))), (14, .int 1), (13, .int 1), (0, .ref (A 0)), (1, .ref qa), (4, .int (nI ms)), (5, .int (nI hh)), (7, .int 0), (9, .ref qg), (10, .int (nI k)), (12, .int (nI t))]) hx hb dL_isTold_232 hl (by decide) rfl (fun ls hl => ?_)
                                                refine lv_iinc (v := nI (t + 1)) (lv' := [(12, .int (nI (t + 1))), (6, .int (nI d2)), (8, .int (nI ((100 * k) + t))), (3, .int (nI (nr2 + 1))), (2, .int (nI (sg2 + 1))), (11, .int (sv ||| (1 <<< ((nI t) &&& 31)))), (14, .int 1), (13, .int 1), (0, .ref (A 0)), (1, .ref qa), (4, .int (nI ms)), (5, .int (nI hh)), (7, .int 0), (9, .ref qg), (10, .int (nI k))]) hx hb dL_isTold_234 hl (k := 14) rfl (inc1 _) (by decide) rfl (fun ls hl => ?_)
                                                refine lv_goto (tgt := 53) hx hb dL_isTold_237 (by decide) ?_
                                                exact ih_53 (t + 1) (sv ||| (1 <<< ((nI t) &&& 31))) (sg2 + 1) (nr2 + 1) d2 ((100 * k) + t) X (by omega) (by omega) (hX) (by rw [hsv]; exact bs_orT (by omega) hcb) (by omega) (by omega) (by have r := fsR_new hfs2 hkt ht9 hcb gd; rw [show t - k = d2 by omega] at r; exact r) _ _ hP hD hS ls (lv_sub hl [8, 9, 4, 3, 10, 11, 1, 12, 2, 13, 14, 5, 0] rfl)
                                              · skip
                                                refine lv_iload hx hb dL_isTold_222 (lv_at hl 14 rfl) ?_
                                                refine lv_iload hx hb dL_isTold_224 (lv_at hl 13 rfl) ?_
                                                refine lv_isub hx hb dL_isTold_226 ?_
                                                refine lv_topi (fun y_111 e_112 => ?_)
                                                have e_112 : nI (t - k) = y_111 := (e_112.trans (pk_sub (Nat.le_of_lt hkt))).symm
                                                subst e_112
                                                refine lv_goto (tgt := 232) hx hb dL_isTold_227 (by decide) ?_
                                                refine lv_istore (lv' := [(6, .int (nI (t - k))), (8, .int (nI ((100 * k) + t))), (3, .int (nI (nr2 + 1))), (2, .int (nI (sg2 + 1))), (11, .int (sv ||| (1 <<< ((nI t) &&& 31)))), (14, .int 1), (13, .int 1), (0, .ref (A 0)), (1, .ref qa), (4, .int (nI ms)), (5, .int (nI hh)), (7, .int 0), (9, .ref qg), (10, .int (nI k)), (12, .int (nI t))]) hx hb dL_isTold_232 hl (by decide) rfl (fun ls hl => ?_)
                                                refine lv_iinc (v := nI (t + 1)) (lv' := [(12, .int (nI (t + 1))), (6, .int (nI (t - k))), (8, .int (nI ((100 * k) + t))), (3, .int (nI (nr2 + 1))), (2, .int (nI (sg2 + 1))), (11, .int (sv ||| (1 <<< ((nI t) &&& 31)))), (14, .int 1), (13, .int 1), (0, .ref (A 0)), (1, .ref qa), (4, .int (nI ms)), (5, .int (nI hh)), (7, .int 0), (9, .ref qg), (10, .int (nI k))]) hx hb dL_isTold_234 hl (k := 14) rfl (inc1 _) (by decide) rfl (fun ls hl => ?_)
                                                refine lv_goto (tgt := 53) hx hb dL_isTold_237 (by decide) ?_
                                                exact ih_53 (t + 1) (sv ||| (1 <<< ((nI t) &&& 31))) (sg2 + 1) (nr2 + 1) (t - k) ((100 * k) + t) X (by omega) (by omega) (hX) (by rw [hsv]; exact bs_orT (by omega) hcb) (by omega) (by omega) (fsR_new hfs2 hkt ht9 hcb gd) _ _ hP hD hS ls (lv_sub hl [8, 9, 4, 3, 10, 11, 1, 12, 2, 13, 14, 5, 0] rfl)
                        · skip
                          exact absurd (by decide) c_100
                    · skip
                      have hps := pS_G (f := f) hkt
                      have hpc := pC_G (f := f) hkt
                      refine lv_aload_n hx hb dL_isTold_82 rfl (lv_at hl 2 rfl) ?_
                      refine lv_iload hx hb dL_isTold_83 (lv_at hl 12 rfl) ?_
                      refine lv_iload hx hb dL_isTold_85 (lv_at hl 14 rfl) ?_
                      have hPb : va_P D vwCl ([(qg, .inl (cI, 8, .inl (upd g k (nI (2 ^ k))))), (qa, .inl (cI, 20, .inl f))] ++ X) _ := hP
                      have hDb : va_D CA ([(qg, .inl (cI, 8, .inl (upd g k (nI (2 ^ k))))), (qa, .inl (cI, 20, .inl f))] ++ X) := hD
                      refine ox_calli hPb hDb hX hS (va_runV (As := [.int (nI k), .int (nI t)]) (rest := []) ⟨hx, hb, hml, hown, hts⟩ (y_sees l D cI cB cO A n (f 17) (f 18) f (M8 f) (nI k) (nI t)) (cwV 2 hts gL_isTold_X6_sees rfl rfl rfl (by decide +kernel) ⟨Nat.le_of_ble_eq_true rfl, Nat.le_of_ble_eq_true rfl⟩) (ox_pre hK hPb hDb hX hN) rfl rfl hl.1 rfl (lv_room (Nat.le_of_ble_eq_true rfl)) dL_isTold_87 ⟨Nat.le_of_ble_eq_true rfl, Nat.le_of_ble_eq_true rfl⟩) (fun X H locs hX hP hD hS => ?_)
                      have hP : va_P D vwCl ((qg, .inl (cI, 8, .inl (upd g k (nI (2 ^ k))))) :: (qa, .inl (cI, 20, .inl f)) :: X) _ := hP
                      have hD : va_D CA ((qg, .inl (cI, 8, .inl (upd g k (nI (2 ^ k))))) :: (qa, .inl (cI, 20, .inl f)) :: X) := hD
                      refine lv_topi (fun y_113 e_114 => ?_)
                      have e_114 : 1 = y_113 := (e_114.trans ((se_nI hn hk ht9).trans (congrArg bI hsb))).symm
                      subst e_114
                      refine lv_iload hx hb dL_isTold_90 (lv_at hl 1 rfl) ?_
                      refine lv_if_eq (tgt := 99) hx hb dL_isTold_92 (by decide) (fun c_92 => ?_) (fun c_92 => ?_)
                      · skip
                        exact absurd c_92 (by decide)
                      · skip
                        refine lv_iconst (v := 1) hx hb dL_isTold_95 (by decide) ?_
                        refine lv_goto (tgt := 100) hx hb dL_isTold_96 (by decide) ?_
                        refine lv_icmp_eq (tgt := 105) hx hb dL_isTold_100 (by decide) (fun c_100 => ?_) (fun c_100 => ?_)
                        · skip
                          refine lv_iload hx hb dL_isTold_105 (lv_at hl 13 rfl) ?_
                          refine lv_iload hx hb dL_isTold_107 (lv_at hl 0 rfl) ?_
                          refine lv_if_eq (tgt := 119) hx hb dL_isTold_109 (by decide) (fun c_109 => ?_) (fun c_109 => ?_)
                          · skip
                            exact absurd c_109 (by decide)
                          · skip
                            refine lv_iconst (v := 1) hx hb dL_isTold_112 (by decide) ?_
                            refine lv_iload hx hb dL_isTold_113 (lv_at hl 14 rfl) ?_
                            refine lv_ishl hx hb dL_isTold_115 ?_
                            refine lv_goto (tgt := 120) hx hb dL_isTold_116 (by decide) ?_
                            refine lv_ior hx hb dL_isTold_120 ?_
                            refine lv_istore (lv' := [(11, .int (sv ||| (1 <<< ((nI t) &&& 31)))), (14, .int 1), (13, .int 1), (0, .ref (A 0)), (1, .ref qa), (2, .int (nI sg2)), (3, .int (nI nr2)), (4, .int (nI ms)), (5, .int (nI hh)), (6, .int (nI d2)), (7, .int 0), (8, .int (nI v2)), (9, .ref qg), (10, .int (nI k)), (12, .int (nI t))]) hx hb dL_isTold_121 hl (by decide) rfl (fun ls hl => ?_)
                            refine lv_iload_n hx hb dL_isTold_123 rfl (lv_at hl 5 rfl) ?_
                            refine lv_iload hx hb dL_isTold_124 (lv_at hl 14 rfl) ?_
                            refine lv_iload hx hb dL_isTold_126 (lv_at hl 13 rfl) ?_
                            refine lv_icmp_le (tgt := 140) hx hb dL_isTold_128 (by decide) (fun c_128 => ?_) (fun c_128 => ?_)
                            · skip
                              refine lv_iconst (v := 0) hx hb dL_isTold_140 (by decide) ?_
                              refine lv_iadd hx hb dL_isTold_141 ?_
                              refine lv_topi (fun y_115 e_116 => ?_)
                              have e_116 : nI (sg2 + 0) = y_115 := (e_116.trans (nI_add sg2 0)).symm
                              subst e_116
                              refine lv_istore_n (lv' := [(2, .int (nI (sg2 + 0))), (11, .int (sv ||| (1 <<< ((nI t) &&& 31)))), (14, .int 1), (13, .int 1), (0, .ref (A 0)), (1, .ref qa), (3, .int (nI nr2)), (4, .int (nI ms)), (5, .int (nI hh)), (6, .int (nI d2)), (7, .int 0), (8, .int (nI v2)), (9, .ref qg), (10, .int (nI k)), (12, .int (nI t))]) hx hb dL_isTold_142 rfl hl (by decide) rfl (fun ls hl => ?_)
                              refine lv_iload_n hx hb dL_isTold_143 rfl (lv_at hl 6 rfl) ?_
                              refine lv_iload hx hb dL_isTold_144 (lv_at hl 14 rfl) ?_
                              refine lv_iload hx hb dL_isTold_146 (lv_at hl 13 rfl) ?_
                              refine lv_icmp_le (tgt := 160) hx hb dL_isTold_148 (by decide) (fun c_148 => ?_) (fun c_148 => ?_)
                              · skip
                                refine lv_iconst (v := 0) hx hb dL_isTold_160 (by decide) ?_
                                refine lv_iadd hx hb dL_isTold_161 ?_
                                refine lv_topi (fun y_117 e_118 => ?_)
                                have e_118 : nI (nr2 + 0) = y_117 := (e_118.trans (nI_add nr2 0)).symm
                                subst e_118
                                refine lv_istore_n (lv' := [(3, .int (nI (nr2 + 0))), (2, .int (nI (sg2 + 0))), (11, .int (sv ||| (1 <<< ((nI t) &&& 31)))), (14, .int 1), (13, .int 1), (0, .ref (A 0)), (1, .ref qa), (4, .int (nI ms)), (5, .int (nI hh)), (6, .int (nI d2)), (7, .int 0), (8, .int (nI v2)), (9, .ref qg), (10, .int (nI k)), (12, .int (nI t))]) hx hb dL_isTold_162 rfl hl (by decide) rfl (fun ls hl => ?_)
                                refine lv_iload hx hb dL_isTold_163 (lv_at hl 14 rfl) ?_
                                refine lv_iload hx hb dL_isTold_165 (lv_at hl 13 rfl) ?_
                                refine lv_icmp_le (tgt := 196) hx hb dL_isTold_167 (by decide) (fun c_167 => ?_) (fun c_167 => ?_)
                                · skip
                                  refine lv_iload hx hb dL_isTold_196 (lv_at hl 11 rfl) ?_
                                  refine lv_istore (lv' := [(8, .int (nI v2)), (3, .int (nI (nr2 + 0))), (2, .int (nI (sg2 + 0))), (11, .int (sv ||| (1 <<< ((nI t) &&& 31)))), (14, .int 1), (13, .int 1), (0, .ref (A 0)), (1, .ref qa), (4, .int (nI ms)), (5, .int (nI hh)), (6, .int (nI d2)), (7, .int 0), (9, .ref qg), (10, .int (nI k)), (12, .int (nI t))]) hx hb dL_isTold_198 hl (by decide) rfl (fun ls hl => ?_)
                                  refine lv_iload hx hb dL_isTold_200 (lv_at hl 14 rfl) ?_
                                  refine lv_iload hx hb dL_isTold_202 (lv_at hl 13 rfl) ?_
                                  refine lv_icmp_le (tgt := 230) hx hb dL_isTold_204 (by decide) (fun c_204 => ?_) (fun c_204 => ?_)
                                  · skip
                                    refine lv_iload hx hb dL_isTold_230 (lv_at hl 10 rfl) ?_
                                    refine lv_istore (lv' := [(6, .int (nI d2)), (8, .int (nI v2)), (3, .int (nI (nr2 + 0))), (2, .int (nI (sg2 + 0))), (11, .int (sv ||| (1 <<< ((nI t) &&& 31)))), (14, .int 1), (13, .int 1), (0, .ref (A 0)), (1, .ref qa), (4, .int (nI ms)), (5, .int (nI hh)), (7, .int 0), (9, .ref qg), (10, .int (nI k)), (12, .int (nI t))]) hx hb dL_isTold_232 hl (by decide) rfl (fun ls hl => ?_)
                                    refine lv_iinc (v := nI (t + 1)) (lv' := [(12, .int (nI (t + 1))), (6, .int (nI d2)), (8, .int (nI v2)), (3, .int (nI (nr2 + 0))), (2, .int (nI (sg2 + 0))), (11, .int (sv ||| (1 <<< ((nI t) &&& 31)))), (14, .int 1), (13, .int 1), (0, .ref (A 0)), (1, .ref qa), (4, .int (nI ms)), (5, .int (nI hh)), (7, .int 0), (9, .ref qg), (10, .int (nI k))]) hx hb dL_isTold_234 hl (k := 14) rfl (inc1 _) (by decide) rfl (fun ls hl => ?_)
                                    refine lv_goto (tgt := 53) hx hb dL_isTold_237 (by decide) ?_
                                    exact ih_53 (t + 1) (sv ||| (1 <<< ((nI t) &&& 31))) (sg2 + 0) (nr2 + 0) d2 v2 X (by omega) (by omega) (hX) (by rw [hsv]; exact bs_orT (by omega) hcb) (by omega) (by omega) (fsR_no (fun q => absurd q.1 (Nat.not_lt.mpr hkt)) hfs2) _ _ hP hD hS ls (lv_sub hl [8, 9, 4, 3, 10, 11, 1, 12, 2, 13, 14, 5, 0] rfl)
                                  · skip
                                    exact absurd (nI_le hkt (by omega)) c_204
                                · skip
                                  exact absurd (nI_le hkt (by omega)) c_167
                              · skip
                                exact absurd (nI_le hkt (by omega)) c_148
                            · skip
                              exact absurd (nI_le hkt (by omega)) c_128
                        · skip
                          exact absurd (by decide) c_100
                  · skip
                    have e9 : r_77 = 0 := h_77.trans (congrArg bI hcb)
                    subst e9
                    rcases Nat.lt_or_ge k t with hkt | hkt
                    · skip
                      have hps := pS_T hkt hsb
                      have hpc := pC_F hcb
                      refine lv_aload_n hx hb dL_isTold_82 rfl (lv_at hl 2 rfl) ?_
                      refine lv_iload hx hb dL_isTold_83 (lv_at hl 12 rfl) ?_
                      refine lv_iload hx hb dL_isTold_85 (lv_at hl 14 rfl) ?_
                      have hPb : va_P D vwCl ([(qg, .inl (cI, 8, .inl (upd g k (nI (2 ^ k))))), (qa, .inl (cI, 20, .inl f))] ++ X) _ := hP
                      have hDb : va_D CA ([(qg, .inl (cI, 8, .inl (upd g k (nI (2 ^ k))))), (qa, .inl (cI, 20, .inl f))] ++ X) := hD
                      refine ox_calli hPb hDb hX hS (va_runV (As := [.int (nI k), .int (nI t)]) (rest := []) ⟨hx, hb, hml, hown, hts⟩ (y_sees l D cI cB cO A n (f 17) (f 18) f (M8 f) (nI k) (nI t)) (cwV 2 hts gL_isTold_X6_sees rfl rfl rfl (by decide +kernel) ⟨Nat.le_of_ble_eq_true rfl, Nat.le_of_ble_eq_true rfl⟩) (ox_pre hK hPb hDb hX hN) rfl rfl hl.1 rfl (lv_room (Nat.le_of_ble_eq_true rfl)) dL_isTold_87 ⟨Nat.le_of_ble_eq_true rfl, Nat.le_of_ble_eq_true rfl⟩) (fun X H locs hX hP hD hS => ?_)
                      have hP : va_P D vwCl ((qg, .inl (cI, 8, .inl (upd g k (nI (2 ^ k))))) :: (qa, .inl (cI, 20, .inl f)) :: X) _ := hP
                      have hD : va_D CA ((qg, .inl (cI, 8, .inl (upd g k (nI (2 ^ k))))) :: (qa, .inl (cI, 20, .inl f)) :: X) := hD
                      refine lv_topi (fun y_119 e_120 => ?_)
                      have e_120 : 1 = y_119 := (e_120.trans ((se_nI hn hk ht9).trans (congrArg bI hsb))).symm
                      subst e_120
                      refine lv_iload hx hb dL_isTold_90 (lv_at hl 1 rfl) ?_
                      refine lv_if_eq (tgt := 99) hx hb dL_isTold_92 (by decide) (fun c_92 => ?_) (fun c_92 => ?_)
                      · skip
                        exact absurd c_92 (by decide)
                      · skip
                        refine lv_iconst (v := 1) hx hb dL_isTold_95 (by decide) ?_
                        refine lv_goto (tgt := 100) hx hb dL_isTold_96 (by decide) ?_
                        refine lv_icmp_eq (tgt := 105) hx hb dL_isTold_100 (by decide) (fun c_100 => ?_) (fun c_100 => ?_)
                        · skip
                          refine lv_iload hx hb dL_isTold_105 (lv_at hl 13 rfl) ?_
                          refine lv_iload hx hb dL_isTold_107 (lv_at hl 0 rfl) ?_
                          refine lv_if_eq (tgt := 119) hx hb dL_isTold_109 (by decide) (fun c_109 => ?_) (fun c_109 => ?_)
                          · skip
                            refine lv_iconst (v := 0) hx hb dL_isTold_119 (by decide) ?_
                            refine lv_ior hx hb dL_isTold_120 ?_
                            refine lv_istore (lv' := [(11, .int (sv ||| 0)), (14, .int 0), (13, .int 1), (0, .ref (A 0)), (1, .ref qa), (2, .int (nI sg2)), (3, .int (nI nr2)), (4, .int (nI ms)), (5, .int (nI hh)), (6, .int (nI d2)), (7, .int 0), (8, .int (nI v2)), (9, .ref qg), (10, .int (nI k)), (12, .int (nI t))]) hx hb dL_isTold_121 hl (by decide) rfl (fun ls hl => ?_)
                            refine lv_iload_n hx hb dL_isTold_123 rfl (lv_at hl 5 rfl) ?_
                            refine lv_iload hx hb dL_isTold_124 (lv_at hl 14 rfl) ?_
                            refine lv_iload hx hb dL_isTold_126 (lv_at hl 13 rfl) ?_
                            refine lv_icmp_le (tgt := 140) hx hb dL_isTold_128 (by decide) (fun c_128 => ?_) (fun c_128 => ?_)
                            · skip
                              exact absurd c_128 (nI_ge hkt (by omega))
                            · skip
                              refine lv_iload hx hb dL_isTold_131 (lv_at hl 2 rfl) ?_
                              refine lv_if_eq (tgt := 140) hx hb dL_isTold_133 (by decide) (fun c_133 => ?_) (fun c_133 => ?_)
                              · skip
                                exact absurd c_133 (by decide)
                              · skip
                                refine lv_iconst (v := 1) hx hb dL_isTold_136 (by decide) ?_
                                refine lv_goto (tgt := 141) hx hb dL_isTold_137 (by decide) ?_
                                refine lv_iadd hx hb dL_isTold_141 ?_
                                refine lv_topi (fun y_121 e_122 => ?_)
                                have e_122 : nI (sg2 + 1) = y_121 := (e_122.trans (nI_add sg2 1)).symm
                                subst e_122
                                refine lv_istore_n (lv' := [(2, .int (nI (sg2 + 1))), (11, .int (sv ||| 0)), (14, .int 0), (13, .int 1), (0, .ref (A 0)), (1, .ref qa), (3, .int (nI nr2)), (4, .int (nI ms)), (5, .int (nI hh)), (6, .int (nI d2)), (7, .int 0), (8, .int (nI v2)), (9, .ref qg), (10, .int (nI k)), (12, .int (nI t))]) hx hb dL_isTold_142 rfl hl (by decide) rfl (fun ls hl => ?_)
                                refine lv_iload_n hx hb dL_isTold_143 rfl (lv_at hl 6 rfl) ?_
                                refine lv_iload hx hb dL_isTold_144 (lv_at hl 14 rfl) ?_
                                refine lv_iload hx hb dL_isTold_146 (lv_at hl 13 rfl) ?_
                                refine lv_icmp_le (tgt := 160) hx hb dL_isTold_148 (by decide) (fun c_148 => ?_) (fun c_148 => ?_)
                                · skip
                                  exact absurd c_148 (nI_ge hkt (by omega))
                                · skip
                                  refine lv_iload hx hb dL_isTold_151 (lv_at hl 2 rfl) ?_
                                  refine lv_if_eq (tgt := 160) hx hb dL_isTold_153 (by decide) (fun c_153 => ?_) (fun c_153 => ?_)
                                  · skip
                                    refine lv_iconst (v := 0) hx hb dL_isTold_160 (by decide) ?_
                                    refine lv_iadd hx hb dL_isTold_161 ?_
                                    refine lv_topi (fun y_123 e_124 => ?_)
                                    have e_124 : nI (nr2 + 0) = y_123 := (e_124.trans (nI_add nr2 0)).symm
                                    subst e_124
                                    refine lv_istore_n (lv' := [(3, .int (nI (nr2 + 0))), (2, .int (nI (sg2 + 1))), (11, .int (sv ||| 0)), (14, .int 0), (13, .int 1), (0, .ref (A 0)), (1, .ref qa), (4, .int (nI ms)), (5, .int (nI hh)), (6, .int (nI d2)), (7, .int 0), (8, .int (nI v2)), (9, .ref qg), (10, .int (nI k)), (12, .int (nI t))]) hx hb dL_isTold_162 rfl hl (by decide) rfl (fun ls hl => ?_)
                                    refine lv_iload hx hb dL_isTold_163 (lv_at hl 14 rfl) ?_
                                    refine lv_iload hx hb dL_isTold_165 (lv_at hl 13 rfl) ?_
                                    refine lv_icmp_le (tgt := 196) hx hb dL_isTold_167 (by decide) (fun c_167 => ?_) (fun c_167 => ?_)
                                    · skip
                                      exact absurd c_167 (nI_ge hkt (by omega))
                                    · skip
                                      refine lv_iload hx hb dL_isTold_170 (lv_at hl 3 rfl) ?_
                                      refine lv_if_eq (tgt := 196) hx hb dL_isTold_172 (by decide) (fun c_172 => ?_) (fun c_172 => ?_)
                                      · skip
                                        refine lv_iload hx hb dL_isTold_196 (lv_at hl 11 rfl) ?_
                                        refine lv_istore (lv' := [(8, .int (nI v2)), (3, .int (nI (nr2 + 0))), (2, .int (nI (sg2 + 1))), (11, .int (sv ||| 0)), (14, .int 0), (13, .int 1), (0, .ref (A 0)), (1, .ref qa), (4, .int (nI ms)), (5, .int (nI hh)), (6, .int (nI d2)), (7, .int 0), (9, .ref qg), (10, .int (nI k)), (12, .int (nI t))]) hx hb dL_isTold_198 hl (by decide) rfl (fun ls hl => ?_)
                                        refine lv_iload hx hb dL_isTold_200 (lv_at hl 14 rfl) ?_
                                        refine lv_iload hx hb dL_isTold_202 (lv_at hl 13 rfl) ?_
                                        refine lv_icmp_le (tgt := 230) hx hb dL_isTold_204 (by decide) (fun c_204 => ?_) (fun c_204 => ?_)
                                        · skip
                                          exact absurd c_204 (nI_ge hkt (by omega))
                                        · skip
                                          refine lv_iload hx hb dL_isTold_207 (lv_at hl 4 rfl) ?_
                                          refine lv_if_eq (tgt := 230) hx hb dL_isTold_209 (by decide) (fun c_209 => ?_) (fun c_209 => ?_)
                                          · skip
                                            refine lv_iload hx hb dL_isTold_230 (lv_at hl 10 rfl) ?_
                                            refine lv_istore (lv' := [(6, .int (nI d2)), (8, .int (nI v2)), (3, .int (nI (nr2 + 0))), (2, .int (nI (sg2 + 1))), (11, .int (sv ||| 0)), (14, .int 0), (13, .int 1), (0, .ref (A 0)), (1, .ref qa), (4, .int (nI ms)), (5, .int (nI hh)), (7, .int 0), (9, .ref qg), (10, .int (nI k)), (12, .int (nI t))]) hx hb dL_isTold_232 hl (by decide) rfl (fun ls hl => ?_)
                                            refine lv_iinc (v := nI (t + 1)) (lv' := [(12, .int (nI (t + 1))), (6, .int (nI d2)), (8, .int (nI v2)), (3, .int (nI (nr2 + 0))), (2, .int (nI (sg2 + 1))), (11, .int (sv ||| 0)), (14, .int 0), (13, .int 1), (0, .ref (A 0)), (1, .ref qa), (4, .int (nI ms)), (5, .int (nI hh)), (7, .int 0), (9, .ref qg), (10, .int (nI k))]) hx hb dL_isTold_234 hl (k := 14) rfl (inc1 _) (by decide) rfl (fun ls hl => ?_)
                                            refine lv_goto (tgt := 53) hx hb dL_isTold_237 (by decide) ?_
                                            exact ih_53 (t + 1) (sv ||| 0) (sg2 + 1) (nr2 + 0) d2 v2 X (by omega) (by omega) (hX) (by rw [hsv]; exact bs_or0 hcb) (by omega) (by omega) (fsR_no (fun q => Bool.false_ne_true (hcb.symm.trans q.2.2)) hfs2) _ _ hP hD hS ls (lv_sub hl [8, 9, 4, 3, 10, 11, 1, 12, 2, 13, 14, 5, 0] rfl)
                                          · skip
                                            exact absurd (by decide) c_209
                                      · skip
                                        exact absurd (by decide) c_172
                                  · skip
                                    exact absurd (by decide) c_153
                          · skip
                            exact absurd (by decide) c_109
                        · skip
                          exact absurd (by decide) c_100
                    · skip
                      have hps := pS_G (f := f) hkt
                      have hpc := pC_F hcb
                      refine lv_aload_n hx hb dL_isTold_82 rfl (lv_at hl 2 rfl) ?_
                      refine lv_iload hx hb dL_isTold_83 (lv_at hl 12 rfl) ?_
                      refine lv_iload hx hb dL_isTold_85 (lv_at hl 14 rfl) ?_
                      have hPb : va_P D vwCl ([(qg, .inl (cI, 8, .inl (upd g k (nI (2 ^ k))))), (qa, .inl (cI, 20, .inl f))] ++ X) _ := hP
                      have hDb : va_D CA ([(qg, .inl (cI, 8, .inl (upd g k (nI (2 ^ k))))), (qa, .inl (cI, 20, .inl f))] ++ X) := hD
                      refine ox_calli hPb hDb hX hS (va_runV (As := [.int (nI k), .int (nI t)]) (rest := []) ⟨hx, hb, hml, hown, hts⟩ (y_sees l D cI cB cO A n (f 17) (f 18) f (M8 f) (nI k) (nI t)) (cwV 2 hts gL_isTold_X6_sees rfl rfl rfl (by decide +kernel) ⟨Nat.le_of_ble_eq_true rfl, Nat.le_of_ble_eq_true rfl⟩) (ox_pre hK hPb hDb hX hN) rfl rfl hl.1 rfl (lv_room (Nat.le_of_ble_eq_true rfl)) dL_isTold_87 ⟨Nat.le_of_ble_eq_true rfl, Nat.le_of_ble_eq_true rfl⟩) (fun X H locs hX hP hD hS => ?_)
                      have hP : va_P D vwCl ((qg, .inl (cI, 8, .inl (upd g k (nI (2 ^ k))))) :: (qa, .inl (cI, 20, .inl f)) :: X) _ := hP
                      have hD : va_D CA ((qg, .inl (cI, 8, .inl (upd g k (nI (2 ^ k))))) :: (qa, .inl (cI, 20, .inl f)) :: X) := hD
                      refine lv_topi (fun y_125 e_126 => ?_)
                      have e_126 : 1 = y_125 := (e_126.trans ((se_nI hn hk ht9).trans (congrArg bI hsb))).symm
                      subst e_126
                      refine lv_iload hx hb dL_isTold_90 (lv_at hl 1 rfl) ?_
                      refine lv_if_eq (tgt := 99) hx hb dL_isTold_92 (by decide) (fun c_92 => ?_) (fun c_92 => ?_)
                      · skip
                        exact absurd c_92 (by decide)
                      · skip
                        refine lv_iconst (v := 1) hx hb dL_isTold_95 (by decide) ?_
                        refine lv_goto (tgt := 100) hx hb dL_isTold_96 (by decide) ?_
                        refine lv_icmp_eq (tgt := 105) hx hb dL_isTold_100 (by decide) (fun c_100 => ?_) (fun c_100 => ?_)
                        · skip
                          refine lv_iload hx hb dL_isTold_105 (lv_at hl 13 rfl) ?_
                          refine lv_iload hx hb dL_isTold_107 (lv_at hl 0 rfl) ?_
                          refine lv_if_eq (tgt := 119) hx hb dL_isTold_109 (by decide) (fun c_109 => ?_) (fun c_109 => ?_)
                          · skip
                            refine lv_iconst (v := 0) hx hb dL_isTold_119 (by decide) ?_
                            refine lv_ior hx hb dL_isTold_120 ?_
                            refine lv_istore (lv' := [(11, .int (sv ||| 0)), (14, .int 0), (13, .int 1), (0, .ref (A 0)), (1, .ref qa), (2, .int (nI sg2)), (3, .int (nI nr2)), (4, .int (nI ms)), (5, .int (nI hh)), (6, .int (nI d2)), (7, .int 0), (8, .int (nI v2)), (9, .ref qg), (10, .int (nI k)), (12, .int (nI t))]) hx hb dL_isTold_121 hl (by decide) rfl (fun ls hl => ?_)
                            refine lv_iload_n hx hb dL_isTold_123 rfl (lv_at hl 5 rfl) ?_
                            refine lv_iload hx hb dL_isTold_124 (lv_at hl 14 rfl) ?_
                            refine lv_iload hx hb dL_isTold_126 (lv_at hl 13 rfl) ?_
                            refine lv_icmp_le (tgt := 140) hx hb dL_isTold_128 (by decide) (fun c_128 => ?_) (fun c_128 => ?_)
                            · skip
                              refine lv_iconst (v := 0) hx hb dL_isTold_140 (by decide) ?_
                              refine lv_iadd hx hb dL_isTold_141 ?_
                              refine lv_topi (fun y_127 e_128 => ?_)
                              have e_128 : nI (sg2 + 0) = y_127 := (e_128.trans (nI_add sg2 0)).symm
                              subst e_128
                              refine lv_istore_n (lv' := [(2, .int (nI (sg2 + 0))), (11, .int (sv ||| 0)), (14, .int 0), (13, .int 1), (0, .ref (A 0)), (1, .ref qa), (3, .int (nI nr2)), (4, .int (nI ms)), (5, .int (nI hh)), (6, .int (nI d2)), (7, .int 0), (8, .int (nI v2)), (9, .ref qg), (10, .int (nI k)), (12, .int (nI t))]) hx hb dL_isTold_142 rfl hl (by decide) rfl (fun ls hl => ?_)
                              refine lv_iload_n hx hb dL_isTold_143 rfl (lv_at hl 6 rfl) ?_
                              refine lv_iload hx hb dL_isTold_144 (lv_at hl 14 rfl) ?_
                              refine lv_iload hx hb dL_isTold_146 (lv_at hl 13 rfl) ?_
                              refine lv_icmp_le (tgt := 160) hx hb dL_isTold_148 (by decide) (fun c_148 => ?_) (fun c_148 => ?_)
                              · skip
                                refine lv_iconst (v := 0) hx hb dL_isTold_160 (by decide) ?_
                                refine lv_iadd hx hb dL_isTold_161 ?_
                                refine lv_topi (fun y_129 e_130 => ?_)
                                have e_130 : nI (nr2 + 0) = y_129 := (e_130.trans (nI_add nr2 0)).symm
                                subst e_130
                                refine lv_istore_n (lv' := [(3, .int (nI (nr2 + 0))), (2, .int (nI (sg2 + 0))), (11, .int (sv ||| 0)), (14, .int 0), (13, .int 1), (0, .ref (A 0)), (1, .ref qa), (4, .int (nI ms)), (5, .int (nI hh)), (6, .int (nI d2)), (7, .int 0), (8, .int (nI v2)), (9, .ref qg), (10, .int (nI k)), (12, .int (nI t))]) hx hb dL_isTold_162 rfl hl (by decide) rfl (fun ls hl => ?_)
                                refine lv_iload hx hb dL_isTold_163 (lv_at hl 14 rfl) ?_
                                refine lv_iload hx hb dL_isTold_165 (lv_at hl 13 rfl) ?_
                                refine lv_icmp_le (tgt := 196) hx hb dL_isTold_167 (by decide) (fun c_167 => ?_) (fun c_167 => ?_)
                                · skip
                                  refine lv_iload hx hb dL_isTold_196 (lv_at hl 11 rfl) ?_
                                  refine lv_istore (lv' := [(8, .int (nI v2)), (3, .int (nI (nr2 + 0))), (2, .int (nI (sg2 + 0))), (11, .int (sv ||| 0)), (14, .int 0), (13, .int 1), (0, .ref (A 0)), (1, .ref qa), (4, .int (nI ms)), (5, .int (nI hh)), (6, .int (nI d2)), (7, .int 0), (9, .ref qg), (10, .int (nI k)), (12, .int (nI t))]) hx hb dL_isTold_198 hl (by decide) rfl (fun ls hl => ?_)
                                  refine lv_iload hx hb dL_isTold_200 (lv_at hl 14 rfl) ?_
                                  refine lv_iload hx hb dL_isTold_202 (lv_at hl 13 rfl) ?_
                                  refine lv_icmp_le (tgt := 230) hx hb dL_isTold_204 (by decide) (fun c_204 => ?_) (fun c_204 => ?_)
                                  · skip
                                    refine lv_iload hx hb dL_isTold_230 (lv_at hl 10 rfl) ?_
                                    refine lv_istore (lv' := [(6, .int (nI d2)), (8, .int (nI v2)), (3, .int (nI (nr2 + 0))), (2, .int (nI (sg2 + 0))), (11, .int (sv ||| 0)), (14, .int 0), (13, .int 1), (0, .ref (A 0)), (1, .ref qa), (4, .int (nI ms)), (5, .int (nI hh)), (7, .int 0), (9, .ref qg), (10, .int (nI k)), (12, .int (nI t))]) hx hb dL_isTold_232 hl (by decide) rfl (fun ls hl => ?_)
                                    refine lv_iinc (v := nI (t + 1)) (lv' := [(12, .int (nI (t + 1))), (6, .int (nI d2)), (8, .int (nI v2)), (3, .int (nI (nr2 + 0))), (2, .int (nI (sg2 + 0))), (11, .int (sv ||| 0)), (14, .int 0), (13, .int 1), (0, .ref (A 0)), (1, .ref qa), (4, .int (nI ms)), (5, .int (nI hh)), (7, .int 0), (9, .ref qg), (10, .int (nI k))]) hx hb dL_isTold_234 hl (k := 14) rfl (inc1 _) (by decide) rfl (fun ls hl => ?_)
                                    refine lv_goto (tgt := 53) hx hb dL_isTold_237 (by decide) ?_
                                    exact ih_53 (t + 1) (sv ||| 0) (sg2 + 0) (nr2 + 0) d2 v2 X (by omega) (by omega) (hX) (by rw [hsv]; exact bs_or0 hcb) (by omega) (by omega) (fsR_no (fun q => Bool.false_ne_true (hcb.symm.trans q.2.2)) hfs2) _ _ hP hD hS ls (lv_sub hl [8, 9, 4, 3, 10, 11, 1, 12, 2, 13, 14, 5, 0] rfl)
                                  · skip
                                    exact absurd (nI_le hkt (by omega)) c_204
                                · skip
                                  exact absurd (nI_le hkt (by omega)) c_167
                              · skip
                                exact absurd (nI_le hkt (by omega)) c_148
                            · skip
                              exact absurd (nI_le hkt (by omega)) c_128
                          · skip
                            exact absurd (by decide) c_109
                        · skip
                          exact absurd (by decide) c_100
                · skip
                  have e9 : r_67 = 0 := h_67.trans (congrArg bI hsb)
                  subst e9
                  refine bool_3 (conB f (M8 f) (f 17) (f 18) k t) (fun hcb => ?_) (fun hcb => ?_)
                  · skip
                    have e9 : r_77 = 1 := h_77.trans (congrArg bI hcb)
                    subst e9
                    rcases Nat.lt_or_ge k t with hkt | hkt
                    · skip
                      have hps := pS_F hsb
                      have hpc := pC_T hkt hcb
                      refine lv_aload_n hx hb dL_isTold_82 rfl (lv_at hl 2 rfl) ?_
                      refine lv_iload hx hb dL_isTold_83 (lv_at hl 12 rfl) ?_
                      refine lv_iload hx hb dL_isTold_85 (lv_at hl 14 rfl) ?_
                      have hPb : va_P D vwCl ([(qg, .inl (cI, 8, .inl (upd g k (nI (2 ^ k))))), (qa, .inl (cI, 20, .inl f))] ++ X) _ := hP
                      have hDb : va_D CA ([(qg, .inl (cI, 8, .inl (upd g k (nI (2 ^ k))))), (qa, .inl (cI, 20, .inl f))] ++ X) := hD
                      refine ox_calli hPb hDb hX hS (va_runV (As := [.int (nI k), .int (nI t)]) (rest := []) ⟨hx, hb, hml, hown, hts⟩ (y_sees l D cI cB cO A n (f 17) (f 18) f (M8 f) (nI k) (nI t)) (cwV 2 hts gL_isTold_X6_sees rfl rfl rfl (by decide +kernel) ⟨Nat.le_of_ble_eq_true rfl, Nat.le_of_ble_eq_true rfl⟩) (ox_pre hK hPb hDb hX hN) rfl rfl hl.1 rfl (lv_room (Nat.le_of_ble_eq_true rfl)) dL_isTold_87 ⟨Nat.le_of_ble_eq_true rfl, Nat.le_of_ble_eq_true rfl⟩) (fun X H locs hX hP hD hS => ?_)
                      have hP : va_P D vwCl ((qg, .inl (cI, 8, .inl (upd g k (nI (2 ^ k))))) :: (qa, .inl (cI, 20, .inl f)) :: X) _ := hP
                      have hD : va_D CA ((qg, .inl (cI, 8, .inl (upd g k (nI (2 ^ k))))) :: (qa, .inl (cI, 20, .inl f)) :: X) := hD
                      refine lv_topi (fun y_131 e_132 => ?_)
                      have e_132 : 0 = y_131 := (e_132.trans ((se_nI hn hk ht9).trans (congrArg bI hsb))).symm
                      subst e_132
                      refine lv_iload hx hb dL_isTold_90 (lv_at hl 1 rfl) ?_
                      refine lv_if_eq (tgt := 99) hx hb dL_isTold_92 (by decide) (fun c_92 => ?_) (fun c_92 => ?_)
                      · skip
                        refine lv_iconst (v := 0) hx hb dL_isTold_99 (by decide) ?_
                        refine lv_icmp_eq (tgt := 105) hx hb dL_isTold_100 (by decide) (fun c_100 => ?_) (fun c_100 => ?_)
                        · skip
                          refine lv_iload hx hb dL_isTold_105 (lv_at hl 13 rfl) ?_
                          refine lv_iload hx hb dL_isTold_107 (lv_at hl 0 rfl) ?_
                          refine lv_if_eq (tgt := 119) hx hb dL_isTold_109 (by decide) (fun c_109 => ?_) (fun c_109 => ?_)
                          · skip
                            exact absurd c_109 (by decide)
                          · skip
                            refine lv_iconst (v := 1) hx hb dL_isTold_112 (by decide) ?_
                            refine lv_iload hx hb dL_isTold_113 (lv_at hl 14 rfl) ?_
                            refine lv_ishl hx hb dL_isTold_115 ?_
                            refine lv_goto (tgt := 120) hx hb dL_isTold_116 (by decide) ?_
                            refine lv_ior hx hb dL_isTold_120 ?_
                            refine lv_istore (lv' := [(11, .int (sv ||| (1 <<< ((nI t) &&& 31)))), (14, .int 1), (13, .int 0), (0, .ref (A 0)), (1, .ref qa), (2, .int (nI sg2)), (3, .int (nI nr2)), (4, .int (nI ms)), (5, .int (nI hh)), (6, .int (nI d2)), (7, .int 0), (8, .int (nI v2)), (9, .ref qg), (10, .int (nI k)), (12, .int (nI t))]) hx hb dL_isTold_121 hl (by decide) rfl (fun ls hl => ?_)
                            refine lv_iload_n hx hb dL_isTold_123 rfl (lv_at hl 5 rfl) ?_
                            refine lv_iload hx hb dL_isTold_124 (lv_at hl 14 rfl) ?_
                            refine lv_iload hx hb dL_isTold_126 (lv_at hl 13 rfl) ?_
                            refine lv_icmp_le (tgt := 140) hx hb dL_isTold_128 (by decide) (fun c_128 => ?_) (fun c_128 => ?_)
                            · skip
                              exact absurd c_128 (nI_ge hkt (by omega))
                            · skip
                              refine lv_iload hx hb dL_isTold_131 (lv_at hl 2 rfl) ?_
                              refine lv_if_eq (tgt := 140) hx hb dL_isTold_133 (by decide) (fun c_133 => ?_) (fun c_133 => ?_)
                              · skip
                                refine lv_iconst (v := 0) hx hb dL_isTold_140 (by decide) ?_
                                refine lv_iadd hx hb dL_isTold_141 ?_
                                refine lv_topi (fun y_133 e_134 => ?_)
                                have e_134 : nI (sg2 + 0) = y_133 := (e_134.trans (nI_add sg2 0)).symm
                                subst e_134
                                refine lv_istore_n (lv' := [(2, .int (nI (sg2 + 0))), (11, .int (sv ||| (1 <<< ((nI t) &&& 31)))), (14, .int 1), (13, .int 0), (0, .ref (A 0)), (1, .ref qa), (3, .int (nI nr2)), (4, .int (nI ms)), (5, .int (nI hh)), (6, .int (nI d2)), (7, .int 0), (8, .int (nI v2)), (9, .ref qg), (10, .int (nI k)), (12, .int (nI t))]) hx hb dL_isTold_142 rfl hl (by decide) rfl (fun ls hl => ?_)
                                refine lv_iload_n hx hb dL_isTold_143 rfl (lv_at hl 6 rfl) ?_
                                refine lv_iload hx hb dL_isTold_144 (lv_at hl 14 rfl) ?_
                                refine lv_iload hx hb dL_isTold_146 (lv_at hl 13 rfl) ?_
                                refine lv_icmp_le (tgt := 160) hx hb dL_isTold_148 (by decide) (fun c_148 => ?_) (fun c_148 => ?_)
                                · skip
                                  exact absurd c_148 (nI_ge hkt (by omega))
                                · skip
                                  refine lv_iload hx hb dL_isTold_151 (lv_at hl 2 rfl) ?_
                                  refine lv_if_eq (tgt := 160) hx hb dL_isTold_153 (by decide) (fun c_153 => ?_) (fun c_153 => ?_)
                                  · skip
                                    exact absurd c_153 (by decide)
                                  · skip
                                    refine lv_iconst (v := 1) hx hb dL_isTold_156 (by decide) ?_
                                    refine lv_goto (tgt := 161) hx hb dL_isTold_157 (by decide) ?_
                                    refine lv_iadd hx hb dL_isTold_161 ?_
                                    refine lv_topi (fun y_135 e_136 => ?_)
                                    have e_136 : nI (nr2 + 1) = y_135 := (e_136.trans (nI_add nr2 1)).symm
                                    subst e_136
                                    refine lv_istore_n (lv' := [(3, .int (nI (nr2 + 1))), (2, .int (nI (sg2 + 0))), (11, .int (sv ||| (1 <<< ((nI t) &&& 31)))), (14, .int 1), (13, .int 0), (0, .ref (A 0)), (1, .ref qa), (4, .int (nI ms)), (5, .int (nI hh)), (6, .int (nI d2)), (7, .int 0), (8, .int (nI v2)), (9, .ref qg), (10, .int (nI k)), (12, .int (nI t))]) hx hb dL_isTold_162 rfl hl (by decide) rfl (fun ls hl => ?_)
                                    refine lv_iload hx hb dL_isTold_163 (lv_at hl 14 rfl) ?_
                                    refine lv_iload hx hb dL_isTold_165 (lv_at hl 13 rfl) ?_
                                    refine lv_icmp_le (tgt := 196) hx hb dL_isTold_167 (by decide) (fun c_167 => ?_) (fun c_167 => ?_)
                                    · skip
                                      exact absurd c_167 (nI_ge hkt (by omega))
                                    · skip
                                      refine lv_iload hx hb dL_isTold_170 (lv_at hl 3 rfl) ?_
                                      refine lv_if_eq (tgt := 196) hx hb dL_isTold_172 (by decide) (fun c_172 => ?_) (fun c_172 => ?_)
                                      · skip
                                        exact absurd c_172 (by decide)
                                      · skip
                                        refine lv_iload hx hb dL_isTold_175 (lv_at hl 14 rfl) ?_
                                        refine lv_iload hx hb dL_isTold_177 (lv_at hl 13 rfl) ?_
                                        refine lv_isub hx hb dL_isTold_179 ?_
                                        refine lv_topi (fun y_137 e_138 => ?_)
                                        have e_138 : nI (t - k) = y_137 := (e_138.trans (pk_sub (Nat.le_of_lt hkt))).symm
                                        subst e_138
                                        refine lv_iload hx hb dL_isTold_180 (lv_at hl 9 rfl) ?_
                                        refine lv_icmp_lt (tgt := 196) hx hb dL_isTold_182 (by decide) (fun c_182 => ?_) (fun c_182 => ?_)
                                        · skip
                                          have hd9 := fsR_lt hfs2
                                          have gd : t - k < d2 := (nI_ltI (by omega) (by omega)).mp c_182
                                          refine lv_iload hx hb dL_isTold_196 (lv_at hl 11 rfl) ?_
                                          refine lv_istore (lv' := [(8, .int (nI v2)), (3, .int (nI (nr2 + 1))), (2, .int (nI (sg2 + 0))), (11, .int (sv ||| (1 <<< ((nI t) &&& 31)))), (14, .int 1), (13, .int 0), (0, .ref (A 0)), (1, .ref qa), (4, .int (nI ms)), (5, .int (nI hh)), (6, .int (nI d2)), (7, .int 0), (9, .ref qg), (10, .int (nI k)), (12, .int (nI t))]) hx hb dL_isTold_198 hl (by decide) rfl (fun ls hl => ?_)
                                          refine lv_iload hx hb dL_isTold_200 (lv_at hl 14 rfl) ?_
                                          refine lv_iload hx hb dL_isTold_202 (lv_at hl 13 rfl) ?_
                                          refine lv_icmp_le (tgt := 230) hx hb dL_isTold_204 (by decide) (fun c_204 => ?_) (fun c_204 => ?_)
                                          · skip
                                            exact absurd c_204 (nI_ge hkt (by omega))
                                          · skip
                                            refine lv_iload hx hb dL_isTold_207 (lv_at hl 4 rfl) ?_
                                            refine lv_if_eq (tgt := 230) hx hb dL_isTold_209 (by decide) (fun c_209 => ?_) (fun c_209 => ?_)
                                            · skip
                                              exact absurd c_209 (by decide)
                                            · skip
                                              refine lv_iload hx hb dL_isTold_212 (lv_at hl 14 rfl) ?_
                                              refine lv_iload hx hb dL_isTold_214 (lv_at hl 13 rfl) ?_
                                              refine lv_isub hx hb dL_isTold_216 ?_
                                              refine lv_topi (fun y_139 e_140 => ?_)
                                              have e_140 : nI (t - k) = y_139 := (e_140.trans (pk_sub (Nat.le_of_lt hkt))).symm
                                              subst e_140
                                              refine lv_iload hx hb dL_isTold_217 (lv_at hl 10 rfl) ?_
                                              refine lv_icmp_le (tgt := 230) hx hb dL_isTold_219 (by decide) (fun c_219 => ?_) (fun c_219 => ?_)
                                              · skip
                                                refine lv_iload hx hb dL_isTold_230 (lv_at hl 10 rfl) ?_
                                                refine lv_istore (lv' := [(6, .int (nI d2)), (8, .int (nI v2)), (3, .int (nI (nr2 + 1))), (2, .int (nI (sg2 + 0))), (11, .int (sv ||| (1 <<< ((nI t) &&& 31)))), (14, .int 1), (13, .int 0), (0, .ref (A 0)), (1, .ref qa), (4, .int (nI ms)), (5, .int (nI hh)), (7, .int 0), (9, .ref qg), (10, .int (nI k)), (12, .int (nI t))]) hx hb dL_isTold_232 hl (by decide) rfl (fun ls hl => ?_)
                                                refine lv_iinc (v := nI (t + 1)) (lv' := [(12, .int (nI (t + 1))), (6, .int (nI d2)), (8, .int (nI v2)), (3, .int (nI (nr2 + 1))), (2, .int (nI (sg2 + 0))), (11, .int (sv ||| (1 <<< ((nI t) &&& 31)))), (14, .int 1), (13, .int 0), (0, .ref (A 0)), (1, .ref qa), (4, .int (nI ms)), (5, .int (nI hh)), (7, .int 0), (9, .ref qg), (10, .int (nI k))]) hx hb dL_isTold_234 hl (k := 14) rfl (inc1 _) (by decide) rfl (fun ls hl => ?_)
                                                refine lv_goto (tgt := 53) hx hb dL_isTold_237 (by decide) ?_
                                                exact ih_53 (t + 1) (sv ||| (1 <<< ((nI t) &&& 31))) (sg2 + 0) (nr2 + 1) d2 v2 X (by omega) (by omega) (hX) (by rw [hsv]; exact bs_orT (by omega) hcb) (by omega) (by omega) (fsR_old hfs2 hkt ht9 hcb gd) _ _ hP hD hS ls (lv_sub hl [8, 9, 4, 3, 10, 11, 1, 12, 2, 13, 14, 5, 0] rfl)
                                              · skip
                                                exact absurd (nI_le (Nat.le_of_lt gd) (by omega)) c_219
                                        · skip
                                          have hd9 := fsR_lt hfs2
                                          have gd : d2 ≤ t - k := Nat.le_of_not_lt (fun q => c_182 (nI_lt q (by omega)))
                                          refine lv_bipush (v := 100) hx hb dL_isTold_185 (by decide) ?_
                                          refine lv_iload hx hb dL_isTold_187 (lv_at hl 13 rfl) ?_
                                          refine lv_imul hx hb dL_isTold_189 ?_
                                          refine lv_topi (fun y_141 e_142 => ?_)
                                          have e_142 : nI (100 * k) = y_141 := (e_142.trans (pk_mul 100 k)).symm
                                          subst e_142
                                          refine lv_iload hx hb dL_isTold_190 (lv_at hl 14 rfl) ?_
                                          refine lv_iadd hx hb dL_isTold_192 ?_
                                          refine lv_topi (fun y_143 e_144 => ?_)
                                          have e_144 : nI ((100 * k) + t) = y_143 := (e_144.trans (nI_add (100 * k) t)).symm
                                          subst e_144
                                          refine lv_goto (tgt := 198) hx hb dL_isTold_193 (by decide) ?_
                                          refine lv_istore (lv' := [(8, .int (nI ((100 * k) + t))), (3, .int (nI (nr2 + 1))), (2, .int (nI (sg2 + 0))), (11, .int (sv ||| (1 <<< ((nI t) &&& 31)))), (14, .int 1), (13, .int 0), (0, .ref (A 0)), (1, .ref qa), (4, .int (nI ms)), (5, .int (nI hh)), (6, .int (nI d2)), (7, .int 0), (9, .ref qg), (10, .int (nI k)), (12, .int (nI t))]) hx hb dL_isTold_198 hl (by decide) rfl (fun ls hl => ?_)
                                          refine lv_iload hx hb dL_isTold_200 (lv_at hl 14 rfl) ?_
                                          refine lv_iload hx hb dL_isTold_202 (lv_at hl 13 rfl) ?_
                                          refine lv_icmp_le (tgt := 230) hx hb dL_isTold_204 (by decide) (fun c_204 => ?_) (fun c_204 => ?_)
                                          · skip
                                            exact absurd c_204 (nI_ge hkt (by omega))
                                          · skip
                                            refine lv_iload hx hb dL_isTold_207 (lv_at hl 4 rfl) ?_
                                            refine lv_if_eq (tgt := 230) hx hb dL_isTold_209 (by decide) (fun c_209 => ?_) (fun c_209 => ?_)
                                            · skip
                                              exact absurd c_209 (by decide)
                                            · skip
                                              refine lv_iload hx hb dL_isTold_212 (lv_at hl 14 rfl) ?_
                                              refine lv_iload hx hb dL_isTold_214 (lv_at hl 13 rfl) ?_
                                              refine lv_isub hx hb dL_isTold_216 ?_
                                              refine lv_topi (fun y_145 e_146 => ?_)
                                              have e_146 : nI (t - k) = y_145 := (e_146.trans (pk_sub (Nat.le_of_lt hkt))).symm
                                              subst e_146
                                              refine lv_iload hx hb dL_isTold_217 (lv_at hl 10 rfl) ?_
                                              refine lv_icmp_le (tgt := 230) hx hb dL_isTold_219 (by decide) (fun c_219 => ?_) (fun c_219 => ?_)
                                              · skip
                                                have gd2 : t - k ≤ d2 := (nI_leI (by omega) (by omega)).mp c_219
                                                refine lv_iload hx hb dL_isTold_230 (lv_at hl 10 rfl) ?_
                                                refine lv_istore (lv' := [(6, .int (nI d2)), (8, .int (nI ((100 * k) + t))), (3, .int (nI (nr2 + 1))), (2, .int (nI (sg2 + 0))), (11, .int (sv ||| (1 <<< ((nI t) &&& 31)))), (14, .int 1), (13, .int 0), (0, .ref (A 0)), (1, .ref qa), (4, .int (nI ms)), (5, .int (nI hh)), (7, .int 0), (9, .ref qg), (10, .int (nI k)), (12, .int (nI t))]) hx hb dL_isTold_232 hl (by decide) rfl (fun ls hl => ?_)
                                                refine lv_iinc (v := nI (t + 1)) (lv' := [(12, .int (nI (t + 1))), (6, .int (nI d2)), (8, .int (nI ((100 * k) + t))), (3, .int (nI (nr2 + 1))), (2, .int (nI (sg2 + 0))), (11, .int (sv ||| (1 <<< ((nI t) &&& 31)))), (14, .int 1), (13, .int 0), (0, .ref (A 0)), (1, .ref qa), (4, .int (nI ms)), (5, .int (nI hh)), (7, .int 0), (9, .ref qg), (10, .int (nI k))]) hx hb dL_isTold_234 hl (k := 14) rfl (inc1 _) (by decide) rfl (fun ls hl => ?_)
                                                refine lv_goto (tgt := 53) hx hb dL_isTold_237 (by decide) ?_
                                                exact ih_53 (t + 1) (sv ||| (1 <<< ((nI t) &&& 31))) (sg2 + 0) (nr2 + 1) d2 ((100 * k) + t) X (by omega) (by omega) (hX) (by rw [hsv]; exact bs_orT (by omega) hcb) (by omega) (by omega) (by have r := fsR_new hfs2 hkt ht9 hcb gd; rw [show t - k = d2 by omega] at r; exact r) _ _ hP hD hS ls (lv_sub hl [8, 9, 4, 3, 10, 11, 1, 12, 2, 13, 14, 5, 0] rfl)
                                              · skip
                                                refine lv_iload hx hb dL_isTold_222 (lv_at hl 14 rfl) ?_
                                                refine lv_iload hx hb dL_isTold_224 (lv_at hl 13 rfl) ?_
                                                refine lv_isub hx hb dL_isTold_226 ?_
                                                refine lv_topi (fun y_147 e_148 => ?_)
                                                have e_148 : nI (t - k) = y_147 := (e_148.trans (pk_sub (Nat.le_of_lt hkt))).symm
                                                subst e_148
                                                refine lv_goto (tgt := 232) hx hb dL_isTold_227 (by decide) ?_
                                                refine lv_istore (lv' := [(6, .int (nI (t - k))), (8, .int (nI ((100 * k) + t))), (3, .int (nI (nr2 + 1))), (2, .int (nI (sg2 + 0))), (11, .int (sv ||| (1 <<< ((nI t) &&& 31)))), (14, .int 1), (13, .int 0), (0, .ref (A 0)), (1, .ref qa), (4, .int (nI ms)), (5, .int (nI hh)), (7, .int 0), (9, .ref qg), (10, .int (nI k)), (12, .int (nI t))]) hx hb dL_isTold_232 hl (by decide) rfl (fun ls hl => ?_)
                                                refine lv_iinc (v := nI (t + 1)) (lv' := [(12, .int (nI (t + 1))), (6, .int (nI (t - k))), (8, .int (nI ((100 * k) + t))), (3, .int (nI (nr2 + 1))), (2, .int (nI (sg2 + 0))), (11, .int (sv ||| (1 <<< ((nI t) &&& 31)))), (14, .int 1), (13, .int 0), (0, .ref (A 0)), (1, .ref qa), (4, .int (nI ms)), (5, .int (nI hh)), (7, .int 0), (9, .ref qg), (10, .int (nI k))]) hx hb dL_isTold_234 hl (k := 14) rfl (inc1 _) (by decide) rfl (fun ls hl => ?_)
                                                refine lv_goto (tgt := 53) hx hb dL_isTold_237 (by decide) ?_
                                                exact ih_53 (t + 1) (sv ||| (1 <<< ((nI t) &&& 31))) (sg2 + 0) (nr2 + 1) (t - k) ((100 * k) + t) X (by omega) (by omega) (hX) (by rw [hsv]; exact bs_orT (by omega) hcb) (by omega) (by omega) (fsR_new hfs2 hkt ht9 hcb gd) _ _ hP hD hS ls (lv_sub hl [8, 9, 4, 3, 10, 11, 1, 12, 2, 13, 14, 5, 0] rfl)
                              · skip
                                exact absurd (by decide) c_133
                        · skip
                          exact absurd (by decide) c_100
                      · skip
                        exact absurd (by decide) c_92
                    · skip
                      have hps := pS_F hsb
                      have hpc := pC_G (f := f) hkt
                      refine lv_aload_n hx hb dL_isTold_82 rfl (lv_at hl 2 rfl) ?_
                      refine lv_iload hx hb dL_isTold_83 (lv_at hl 12 rfl) ?_
                      refine lv_iload hx hb dL_isTold_85 (lv_at hl 14 rfl) ?_
                      have hPb : va_P D vwCl ([(qg, .inl (cI, 8, .inl (upd g k (nI (2 ^ k))))), (qa, .inl (cI, 20, .inl f))] ++ X) _ := hP
                      have hDb : va_D CA ([(qg, .inl (cI, 8, .inl (upd g k (nI (2 ^ k))))), (qa, .inl (cI, 20, .inl f))] ++ X) := hD
                      refine ox_calli hPb hDb hX hS (va_runV (As := [.int (nI k), .int (nI t)]) (rest := []) ⟨hx, hb, hml, hown, hts⟩ (y_sees l D cI cB cO A n (f 17) (f 18) f (M8 f) (nI k) (nI t)) (cwV 2 hts gL_isTold_X6_sees rfl rfl rfl (by decide +kernel) ⟨Nat.le_of_ble_eq_true rfl, Nat.le_of_ble_eq_true rfl⟩) (ox_pre hK hPb hDb hX hN) rfl rfl hl.1 rfl (lv_room (Nat.le_of_ble_eq_true rfl)) dL_isTold_87 ⟨Nat.le_of_ble_eq_true rfl, Nat.le_of_ble_eq_true rfl⟩) (fun X H locs hX hP hD hS => ?_)
                      have hP : va_P D vwCl ((qg, .inl (cI, 8, .inl (upd g k (nI (2 ^ k))))) :: (qa, .inl (cI, 20, .inl f)) :: X) _ := hP
                      have hD : va_D CA ((qg, .inl (cI, 8, .inl (upd g k (nI (2 ^ k))))) :: (qa, .inl (cI, 20, .inl f)) :: X) := hD
                      refine lv_topi (fun y_149 e_150 => ?_)
                      have e_150 : 0 = y_149 := (e_150.trans ((se_nI hn hk ht9).trans (congrArg bI hsb))).symm
                      subst e_150
                      refine lv_iload hx hb dL_isTold_90 (lv_at hl 1 rfl) ?_
                      refine lv_if_eq (tgt := 99) hx hb dL_isTold_92 (by decide) (fun c_92 => ?_) (fun c_92 => ?_)
                      · skip
                        refine lv_iconst (v := 0) hx hb dL_isTold_99 (by decide) ?_
                        refine lv_icmp_eq (tgt := 105) hx hb dL_isTold_100 (by decide) (fun c_100 => ?_) (fun c_100 => ?_)
                        · skip
                          refine lv_iload hx hb dL_isTold_105 (lv_at hl 13 rfl) ?_
                          refine lv_iload hx hb dL_isTold_107 (lv_at hl 0 rfl) ?_
                          refine lv_if_eq (tgt := 119) hx hb dL_isTold_109 (by decide) (fun c_109 => ?_) (fun c_109 => ?_)
                          · skip
                            exact absurd c_109 (by decide)
                          · skip
                            refine lv_iconst (v := 1) hx hb dL_isTold_112 (by decide) ?_
                            refine lv_iload hx hb dL_isTold_113 (lv_at hl 14 rfl) ?_
                            refine lv_ishl hx hb dL_isTold_115 ?_
                            refine lv_goto (tgt := 120) hx hb dL_isTold_116 (by decide) ?_
                            refine lv_ior hx hb dL_isTold_120 ?_
                            refine lv_istore (lv' := [(11, .int (sv ||| (1 <<< ((nI t) &&& 31)))), (14, .int 1), (13, .int 0), (0, .ref (A 0)), (1, .ref qa), (2, .int (nI sg2)), (3, .int (nI nr2)), (4, .int (nI ms)), (5, .int (nI hh)), (6, .int (nI d2)), (7, .int 0), (8, .int (nI v2)), (9, .ref qg), (10, .int (nI k)), (12, .int (nI t))]) hx hb dL_isTold_121 hl (by decide) rfl (fun ls hl => ?_)
                            refine lv_iload_n hx hb dL_isTold_123 rfl (lv_at hl 5 rfl) ?_
                            refine lv_iload hx hb dL_isTold_124 (lv_at hl 14 rfl) ?_
                            refine lv_iload hx hb dL_isTold_126 (lv_at hl 13 rfl) ?_
                            refine lv_icmp_le (tgt := 140) hx hb dL_isTold_128 (by decide) (fun c_128 => ?_) (fun c_128 => ?_)
                            · skip
                              refine lv_iconst (v := 0) hx hb dL_isTold_140 (by decide) ?_
                              refine lv_iadd hx hb dL_isTold_141 ?_
                              refine lv_topi (fun y_151 e_152 => ?_)
                              have e_152 : nI (sg2 + 0) = y_151 := (e_152.trans (nI_add sg2 0)).symm
                              subst e_152
                              refine lv_istore_n (lv' := [(2, .int (nI (sg2 + 0))), (11, .int (sv ||| (1 <<< ((nI t) &&& 31)))), (14, .int 1), (13, .int 0), (0, .ref (A 0)), (1, .ref qa), (3, .int (nI nr2)), (4, .int (nI ms)), (5, .int (nI hh)), (6, .int (nI d2)), (7, .int 0), (8, .int (nI v2)), (9, .ref qg), (10, .int (nI k)), (12, .int (nI t))]) hx hb dL_isTold_142 rfl hl (by decide) rfl (fun ls hl => ?_)
                              refine lv_iload_n hx hb dL_isTold_143 rfl (lv_at hl 6 rfl) ?_
                              refine lv_iload hx hb dL_isTold_144 (lv_at hl 14 rfl) ?_
                              refine lv_iload hx hb dL_isTold_146 (lv_at hl 13 rfl) ?_
                              refine lv_icmp_le (tgt := 160) hx hb dL_isTold_148 (by decide) (fun c_148 => ?_) (fun c_148 => ?_)
                              · skip
                                refine lv_iconst (v := 0) hx hb dL_isTold_160 (by decide) ?_
                                refine lv_iadd hx hb dL_isTold_161 ?_
                                refine lv_topi (fun y_153 e_154 => ?_)
                                have e_154 : nI (nr2 + 0) = y_153 := (e_154.trans (nI_add nr2 0)).symm
                                subst e_154
                                refine lv_istore_n (lv' := [(3, .int (nI (nr2 + 0))), (2, .int (nI (sg2 + 0))), (11, .int (sv ||| (1 <<< ((nI t) &&& 31)))), (14, .int 1), (13, .int 0), (0, .ref (A 0)), (1, .ref qa), (4, .int (nI ms)), (5, .int (nI hh)), (6, .int (nI d2)), (7, .int 0), (8, .int (nI v2)), (9, .ref qg), (10, .int (nI k)), (12, .int (nI t))]) hx hb dL_isTold_162 rfl hl (by decide) rfl (fun ls hl => ?_)
                                refine lv_iload hx hb dL_isTold_163 (lv_at hl 14 rfl) ?_
                                refine lv_iload hx hb dL_isTold_165 (lv_at hl 13 rfl) ?_
                                refine lv_icmp_le (tgt := 196) hx hb dL_isTold_167 (by decide) (fun c_167 => ?_) (fun c_167 => ?_)
                                · skip
                                  refine lv_iload hx hb dL_isTold_196 (lv_at hl 11 rfl) ?_
                                  refine lv_istore (lv' := [(8, .int (nI v2)), (3, .int (nI (nr2 + 0))), (2, .int (nI (sg2 + 0))), (11, .int (sv ||| (1 <<< ((nI t) &&& 31)))), (14, .int 1), (13, .int 0), (0, .ref (A 0)), (1, .ref qa), (4, .int (nI ms)), (5, .int (nI hh)), (6, .int (nI d2)), (7, .int 0), (9, .ref qg), (10, .int (nI k)), (12, .int (nI t))]) hx hb dL_isTold_198 hl (by decide) rfl (fun ls hl => ?_)
                                  refine lv_iload hx hb dL_isTold_200 (lv_at hl 14 rfl) ?_
                                  refine lv_iload hx hb dL_isTold_202 (lv_at hl 13 rfl) ?_
                                  refine lv_icmp_le (tgt := 230) hx hb dL_isTold_204 (by decide) (fun c_204 => ?_) (fun c_204 => ?_)
                                  · skip
                                    refine lv_iload hx hb dL_isTold_230 (lv_at hl 10 rfl) ?_
                                    refine lv_istore (lv' := [(6, .int (nI d2)), (8, .int (nI v2)), (3, .int (nI (nr2 + 0))), (2, .int (nI (sg2 + 0))), (11, .int (sv ||| (1 <<< ((nI t) &&& 31)))), (14, .int 1), (13, .int 0), (0, .ref (A 0)), (1, .ref qa), (4, .int (nI ms)), (5, .int (nI hh)), (7, .int 0), (9, .ref qg), (10, .int (nI k)), (12, .int (nI t))]) hx hb dL_isTold_232 hl (by decide) rfl (fun ls hl => ?_)
                                    refine lv_iinc (v := nI (t + 1)) (lv' := [(12, .int (nI (t + 1))), (6, .int (nI d2)), (8, .int (nI v2)), (3, .int (nI (nr2 + 0))), (2, .int (nI (sg2 + 0))), (11, .int (sv ||| (1 <<< ((nI t) &&& 31)))), (14, .int 1), (13, .int 0), (0, .ref (A 0)), (1, .ref qa), (4, .int (nI ms)), (5, .int (nI hh)), (7, .int 0), (9, .ref qg), (10, .int (nI k))]) hx hb dL_isTold_234 hl (k := 14) rfl (inc1 _) (by decide) rfl (fun ls hl => ?_)
                                    refine lv_goto (tgt := 53) hx hb dL_isTold_237 (by decide) ?_
                                    exact ih_53 (t + 1) (sv ||| (1 <<< ((nI t) &&& 31))) (sg2 + 0) (nr2 + 0) d2 v2 X (by omega) (by omega) (hX) (by rw [hsv]; exact bs_orT (by omega) hcb) (by omega) (by omega) (fsR_no (fun q => absurd q.1 (Nat.not_lt.mpr hkt)) hfs2) _ _ hP hD hS ls (lv_sub hl [8, 9, 4, 3, 10, 11, 1, 12, 2, 13, 14, 5, 0] rfl)
                                  · skip
                                    exact absurd (nI_le hkt (by omega)) c_204
                                · skip
                                  exact absurd (nI_le hkt (by omega)) c_167
                              · skip
                                exact absurd (nI_le hkt (by omega)) c_148
                            · skip
                              exact absurd (nI_le hkt (by omega)) c_128
                        · skip
                          exact absurd (by decide) c_100
                      · skip
                        exact absurd (by decide) c_92
                  · skip
                    have e9 : r_77 = 0 := h_77.trans (congrArg bI hcb)
                    subst e9
                    rcases Nat.lt_or_ge k t with hkt | hkt
                    · skip
                      have hps := pS_F hsb
                      have hpc := pC_F hcb
                      refine lv_aload_n hx hb dL_isTold_82 rfl (lv_at hl 2 rfl) ?_
                      refine lv_iload hx hb dL_isTold_83 (lv_at hl 12 rfl) ?_
                      refine lv_iload hx hb dL_isTold_85 (lv_at hl 14 rfl) ?_
                      have hPb : va_P D vwCl ([(qg, .inl (cI, 8, .inl (upd g k (nI (2 ^ k))))), (qa, .inl (cI, 20, .inl f))] ++ X) _ := hP
                      have hDb : va_D CA ([(qg, .inl (cI, 8, .inl (upd g k (nI (2 ^ k))))), (qa, .inl (cI, 20, .inl f))] ++ X) := hD
                      refine ox_calli hPb hDb hX hS (va_runV (As := [.int (nI k), .int (nI t)]) (rest := []) ⟨hx, hb, hml, hown, hts⟩ (y_sees l D cI cB cO A n (f 17) (f 18) f (M8 f) (nI k) (nI t)) (cwV 2 hts gL_isTold_X6_sees rfl rfl rfl (by decide +kernel) ⟨Nat.le_of_ble_eq_true rfl, Nat.le_of_ble_eq_true rfl⟩) (ox_pre hK hPb hDb hX hN) rfl rfl hl.1 rfl (lv_room (Nat.le_of_ble_eq_true rfl)) dL_isTold_87 ⟨Nat.le_of_ble_eq_true rfl, Nat.le_of_ble_eq_true rfl⟩) (fun X H locs hX hP hD hS => ?_)
                      have hP : va_P D vwCl ((qg, .inl (cI, 8, .inl (upd g k (nI (2 ^ k))))) :: (qa, .inl (cI, 20, .inl f)) :: X) _ := hP
                      have hD : va_D CA ((qg, .inl (cI, 8, .inl (upd g k (nI (2 ^ k))))) :: (qa, .inl (cI, 20, .inl f)) :: X) := hD
                      refine lv_topi (fun y_155 e_156 => ?_)
                      have e_156 : 0 = y_155 := (e_156.trans ((se_nI hn hk ht9).trans (congrArg bI hsb))).symm
                      subst e_156
                      refine lv_iload hx hb dL_isTold_90 (lv_at hl 1 rfl) ?_
                      refine lv_if_eq (tgt := 99) hx hb dL_isTold_92 (by decide) (fun c_92 => ?_) (fun c_92 => ?_)
                      · skip
                        refine lv_iconst (v := 0) hx hb dL_isTold_99 (by decide) ?_
                        refine lv_icmp_eq (tgt := 105) hx hb dL_isTold_100 (by decide) (fun c_100 => ?_) (fun c_100 => ?_)
                        · skip
                          refine lv_iload hx hb dL_isTold_105 (lv_at hl 13 rfl) ?_
                          refine lv_iload hx hb dL_isTold_107 (lv_at hl 0 rfl) ?_
                          refine lv_if_eq (tgt := 119) hx hb dL_isTold_109 (by decide) (fun c_109 => ?_) (fun c_109 => ?_)
                          · skip
                            refine lv_iconst (v := 0) hx hb dL_isTold_119 (by decide) ?_
                            refine lv_ior hx hb dL_isTold_120 ?_
                            refine lv_istore (lv' := [(11, .int (sv ||| 0)), (14, .int 0), (13, .int 0), (0, .ref (A 0)), (1, .ref qa), (2, .int (nI sg2)), (3, .int (nI nr2)), (4, .int (nI ms)), (5, .int (nI hh)), (6, .int (nI d2)), (7, .int 0), (8, .int (nI v2)), (9, .ref qg), (10, .int (nI k)), (12, .int (nI t))]) hx hb dL_isTold_121 hl (by decide) rfl (fun ls hl => ?_)
                            refine lv_iload_n hx hb dL_isTold_123 rfl (lv_at hl 5 rfl) ?_
                            refine lv_iload hx hb dL_isTold_124 (lv_at hl 14 rfl) ?_
                            refine lv_iload hx hb dL_isTold_126 (lv_at hl 13 rfl) ?_
                            refine lv_icmp_le (tgt := 140) hx hb dL_isTold_128 (by decide) (fun c_128 => ?_) (fun c_128 => ?_)
                            · skip
                              exact absurd c_128 (nI_ge hkt (by omega))
                            · skip
                              refine lv_iload hx hb dL_isTold_131 (lv_at hl 2 rfl) ?_
                              refine lv_if_eq (tgt := 140) hx hb dL_isTold_133 (by decide) (fun c_133 => ?_) (fun c_133 => ?_)
                              · skip
                                refine lv_iconst (v := 0) hx hb dL_isTold_140 (by decide) ?_
                                refine lv_iadd hx hb dL_isTold_141 ?_
                                refine lv_topi (fun y_157 e_158 => ?_)
                                have e_158 : nI (sg2 + 0) = y_157 := (e_158.trans (nI_add sg2 0)).symm
                                subst e_158
                                refine lv_istore_n (lv' := [(2, .int (nI (sg2 + 0))), (11, .int (sv ||| 0)), (14, .int 0), (13, .int 0), (0, .ref (A 0)), (1, .ref qa), (3, .int (nI nr2)), (4, .int (nI ms)), (5, .int (nI hh)), (6, .int (nI d2)), (7, .int 0), (8, .int (nI v2)), (9, .ref qg), (10, .int (nI k)), (12, .int (nI t))]) hx hb dL_isTold_142 rfl hl (by decide) rfl (fun ls hl => ?_)
                                refine lv_iload_n hx hb dL_isTold_143 rfl (lv_at hl 6 rfl) ?_
                                refine lv_iload hx hb dL_isTold_144 (lv_at hl 14 rfl) ?_
                                refine lv_iload hx hb dL_isTold_146 (lv_at hl 13 rfl) ?_
                                refine lv_icmp_le (tgt := 160) hx hb dL_isTold_148 (by decide) (fun c_148 => ?_) (fun c_148 => ?_)
                                · skip
                                  exact absurd c_148 (nI_ge hkt (by omega))
                                · skip
                                  refine lv_iload hx hb dL_isTold_151 (lv_at hl 2 rfl) ?_
                                  refine lv_if_eq (tgt := 160) hx hb dL_isTold_153 (by decide) (fun c_153 => ?_) (fun c_153 => ?_)
                                  · skip
                                    refine lv_iconst (v := 0) hx hb dL_isTold_160 (by decide) ?_
                                    refine lv_iadd hx hb dL_isTold_161 ?_
                                    refine lv_topi (fun y_159 e_160 => ?_)
                                    have e_160 : nI (nr2 + 0) = y_159 := (e_160.trans (nI_add nr2 0)).symm
                                    subst e_160
                                    refine lv_istore_n (lv' := [(3, .int (nI (nr2 + 0))), (2, .int (nI (sg2 + 0))), (11, .int (sv ||| 0)), (14, .int 0), (13, .int 0), (0, .ref (A 0)), (1, .ref qa), (4, .int (nI ms)), (5, .int (nI hh)), (6, .int (nI d2)), (7, .int 0), (8, .int (nI v2)), (9, .ref qg), (10, .int (nI k)), (12, .int (nI t))]) hx hb dL_isTold_162 rfl hl (by decide) rfl (fun ls hl => ?_)
                                    refine lv_iload hx hb dL_isTold_163 (lv_at hl 14 rfl) ?_
                                    refine lv_iload hx hb dL_isTold_165 (lv_at hl 13 rfl) ?_
                                    refine lv_icmp_le (tgt := 196) hx hb dL_isTold_167 (by decide) (fun c_167 => ?_) (fun c_167 => ?_)
                                    · skip
                                      exact absurd c_167 (nI_ge hkt (by omega))
                                    · skip
                                      refine lv_iload hx hb dL_isTold_170 (lv_at hl 3 rfl) ?_
                                      refine lv_if_eq (tgt := 196) hx hb dL_isTold_172 (by decide) (fun c_172 => ?_) (fun c_172 => ?_)
                                      · skip
                                        refine lv_iload hx hb dL_isTold_196 (lv_at hl 11 rfl) ?_
                                        refine lv_istore (lv' := [(8, .int (nI v2)), (3, .int (nI (nr2 + 0))), (2, .int (nI (sg2 + 0))), (11, .int (sv ||| 0)), (14, .int 0), (13, .int 0), (0, .ref (A 0)), (1, .ref qa), (4, .int (nI ms)), (5, .int (nI hh)), (6, .int (nI d2)), (7, .int 0), (9, .ref qg), (10, .int (nI k)), (12, .int (nI t))]) hx hb dL_isTold_198 hl (by decide) rfl (fun ls hl => ?_)
                                        refine lv_iload hx hb dL_isTold_200 (lv_at hl 14 rfl) ?_
                                        refine lv_iload hx hb dL_isTold_202 (lv_at hl 13 rfl) ?_
                                        refine lv_icmp_le (tgt := 230) hx hb dL_isTold_204 (by decide) (fun c_204 => ?_) (fun c_204 => ?_)
                                        · skip
                                          exact absurd c_204 (nI_ge hkt (by omega))
                                        · skip
                                          refine lv_iload hx hb dL_isTold_207 (lv_at hl 4 rfl) ?_
                                          refine lv_if_eq (tgt := 230) hx hb dL_isTold_209 (by decide) (fun c_209 => ?_) (fun c_209 => ?_)
                                          · skip
                                            refine lv_iload hx hb dL_isTold_230 (lv_at hl 10 rfl) ?_
                                            refine lv_istore (lv' := [(6, .int (nI d2)), (8, .int (nI v2)), (3, .int (nI (nr2 + 0))), (2, .int (nI (sg2 + 0))), (11, .int (sv ||| 0)), (14, .int 0), (13, .int 0), (0, .ref (A 0)), (1, .ref qa), (4, .int (nI ms)), (5, .int (nI hh)), (7, .int 0), (9, .ref qg), (10, .int (nI k)), (12, .int (nI t))]) hx hb dL_isTold_232 hl (by decide) rfl (fun ls hl => ?_)
                                            refine lv_iinc (v := nI (t + 1)) (lv' := [(12, .int (nI (t + 1))), (6, .int (nI d2)), (8, .int (nI v2)), (3, .int (nI (nr2 + 0))), (2, .int (nI (sg2 + 0))), (11, .int (sv ||| 0)), (14, .int 0), (13, .int 0), (0, .ref (A 0)), (1, .ref qa), (4, .int (nI ms)), (5, .int (nI hh)), (7, .int 0), (9, .ref qg), (10, .int (nI k))]) hx hb dL_isTold_234 hl (k := 14) rfl (inc1 _) (by decide) rfl (fun ls hl => ?_)
                                            refine lv_goto (tgt := 53) hx hb dL_isTold_237 (by decide) ?_
                                            exact ih_53 (t + 1) (sv ||| 0) (sg2 + 0) (nr2 + 0) d2 v2 X (by omega) (by omega) (hX) (by rw [hsv]; exact bs_or0 hcb) (by omega) (by omega) (fsR_no (fun q => Bool.false_ne_true (hcb.symm.trans q.2.2)) hfs2) _ _ hP hD hS ls (lv_sub hl [8, 9, 4, 3, 10, 11, 1, 12, 2, 13, 14, 5, 0] rfl)
                                          · skip
                                            exact absurd (by decide) c_209
                                      · skip
                                        exact absurd (by decide) c_172
                                  · skip
                                    exact absurd (by decide) c_153
                              · skip
                                exact absurd (by decide) c_133
                          · skip
                            exact absurd (by decide) c_109
                        · skip
                          exact absurd (by decide) c_100
                      · skip
                        exact absurd (by decide) c_92
                    · skip
                      have hps := pS_F hsb
                      have hpc := pC_F hcb
                      refine lv_aload_n hx hb dL_isTold_82 rfl (lv_at hl 2 rfl) ?_
                      refine lv_iload hx hb dL_isTold_83 (lv_at hl 12 rfl) ?_
                      refine lv_iload hx hb dL_isTold_85 (lv_at hl 14 rfl) ?_
                      have hPb : va_P D vwCl ([(qg, .inl (cI, 8, .inl (upd g k (nI (2 ^ k))))), (qa, .inl (cI, 20, .inl f))] ++ X) _ := hP
                      have hDb : va_D CA ([(qg, .inl (cI, 8, .inl (upd g k (nI (2 ^ k))))), (qa, .inl (cI, 20, .inl f))] ++ X) := hD
                      refine ox_calli hPb hDb hX hS (va_runV (As := [.int (nI k), .int (nI t)]) (rest := []) ⟨hx, hb, hml, hown, hts⟩ (y_sees l D cI cB cO A n (f 17) (f 18) f (M8 f) (nI k) (nI t)) (cwV 2 hts gL_isTold_X6_sees rfl rfl rfl (by decide +kernel) ⟨Nat.le_of_ble_eq_true rfl, Nat.le_of_ble_eq_true rfl⟩) (ox_pre hK hPb hDb hX hN) rfl rfl hl.1 rfl (lv_room (Nat.le_of_ble_eq_true rfl)) dL_isTold_87 ⟨Nat.le_of_ble_eq_true rfl, Nat.le_of_ble_eq_true rfl⟩) (fun X H locs hX hP hD hS => ?_)
                      have hP : va_P D vwCl ((qg, .inl (cI, 8, .inl (upd g k (nI (2 ^ k))))) :: (qa, .inl (cI, 20, .inl f)) :: X) _ := hP
                      have hD : va_D CA ((qg, .inl (cI, 8, .inl (upd g k (nI (2 ^ k))))) :: (qa, .inl (cI, 20, .inl f)) :: X) := hD
                      refine lv_topi (fun y_161 e_162 => ?_)
                      have e_162 : 0 = y_161 := (e_162.trans ((se_nI hn hk ht9).trans (congrArg bI hsb))).symm
                      subst e_162
                      refine lv_iload hx hb dL_isTold_90 (lv_at hl 1 rfl) ?_
                      refine lv_if_eq (tgt := 99) hx hb dL_isTold_92 (by decide) (fun c_92 => ?_) (fun c_92 => ?_)
                      · skip
                        refine lv_iconst (v := 0) hx hb dL_isTold_99 (by decide) ?_
                        refine lv_icmp_eq (tgt := 105) hx hb dL_isTold_100 (by decide) (fun c_100 => ?_) (fun c_100 => ?_)
                        · skip
                          refine lv_iload hx hb dL_isTold_105 (lv_at hl 13 rfl) ?_
                          refine lv_iload hx hb dL_isTold_107 (lv_at hl 0 rfl) ?_
                          refine lv_if_eq (tgt := 119) hx hb dL_isTold_109 (by decide) (fun c_109 => ?_) (fun c_109 => ?_)
                          · skip
                            refine lv_iconst (v := 0) hx hb dL_isTold_119 (by decide) ?_
                            refine lv_ior hx hb dL_isTold_120 ?_
                            refine lv_istore (lv' := [(11, .int (sv ||| 0)), (14, .int 0), (13, .int 0), (0, .ref (A 0)), (1, .ref qa), (2, .int (nI sg2)), (3, .int (nI nr2)), (4, .int (nI ms)), (5, .int (nI hh)), (6, .int (nI d2)), (7, .int 0), (8, .int (nI v2)), (9, .ref qg), (10, .int (nI k)), (12, .int (nI t))]) hx hb dL_isTold_121 hl (by decide) rfl (fun ls hl => ?_)
                            refine lv_iload_n hx hb dL_isTold_123 rfl (lv_at hl 5 rfl) ?_
                            refine lv_iload hx hb dL_isTold_124 (lv_at hl 14 rfl) ?_
                            refine lv_iload hx hb dL_isTold_126 (lv_at hl 13 rfl) ?_
                            refine lv_icmp_le (tgt := 140) hx hb dL_isTold_128 (by decide) (fun c_128 => ?_) (fun c_128 => ?_)
                            · skip
                              refine lv_iconst (v := 0) hx hb dL_isTold_140 (by decide) ?_
                              refine lv_iadd hx hb dL_isTold_141 ?_
                              refine lv_topi (fun y_163 e_164 => ?_)
                              have e_164 : nI (sg2 + 0) = y_163 := (e_164.trans (nI_add sg2 0)).symm
                              subst e_164
                              refine lv_istore_n (lv' := [(2, .int (nI (sg2 + 0))), (11, .int (sv ||| 0)), (14, .int 0), (13, .int 0), (0, .ref (A 0)), (1, .ref qa), (3, .int (nI nr2)), (4, .int (nI ms)), (5, .int (nI hh)), (6, .int (nI d2)), (7, .int 0), (8, .int (nI v2)), (9, .ref qg), (10, .int (nI k)), (12, .int (nI t))]) hx hb dL_isTold_142 rfl hl (by decide) rfl (fun ls hl => ?_)
                              refine lv_iload_n hx hb dL_isTold_143 rfl (lv_at hl 6 rfl) ?_
                              refine lv_iload hx hb dL_isTold_144 (lv_at hl 14 rfl) ?_
                              refine lv_iload hx hb dL_isTold_146 (lv_at hl 13 rfl) ?_
                              refine lv_icmp_le (tgt := 160) hx hb dL_isTold_148 (by decide) (fun c_148 => ?_) (fun c_148 => ?_)
                              · skip
                                refine lv_iconst (v := 0) hx hb dL_isTold_160 (by decide) ?_
                                refine lv_iadd hx hb dL_isTold_161 ?_
                                refine lv_topi (fun y_165 e_166 => ?_)
                                have e_166 : nI (nr2 + 0) = y_165 := (e_166.trans (nI_add nr2 0)).symm
                                subst e_166
                                refine lv_istore_n (lv' := [(3, .int (nI (nr2 + 0))), (2, .int (nI (sg2 + 0))), (11, .int (sv ||| 0)), (14, .int 0), (13, .int 0), (0, .ref (A 0)), (1, .ref qa), (4, .int (nI ms)), (5, .int (nI hh)), (6, .int (nI d2)), (7, .int 0), (8, .int (nI v2)), (9, .ref qg), (10, .int (nI k)), (12, .int (nI t))]) hx hb dL_isTold_162 rfl hl (by decide) rfl (fun ls hl => ?_)
                                refine lv_iload hx hb dL_isTold_163 (lv_at hl 14 rfl) ?_
                                refine lv_iload hx hb dL_isTold_165 (lv_at hl 13 rfl) ?_
                                refine lv_icmp_le (tgt := 196) hx hb dL_isTold_167 (by decide) (fun c_167 => ?_) (fun c_167 => ?_)
                                · skip
                                  refine lv_iload hx hb dL_isTold_196 (lv_at hl 11 rfl) ?_
                                  refine lv_istore (lv' := [(8, .int (nI v2)), (3, .int (nI (nr2 + 0))), (2, .int (nI (sg2 + 0))), (11, .int (sv ||| 0)), (14, .int 0), (13, .int 0), (0, .ref (A 0)), (1, .ref qa), (4, .int (nI ms)), (5, .int (nI hh)), (6, .int (nI d2)), (7, .int 0), (9, .ref qg), (10, .int (nI k)), (12, .int (nI t))]) hx hb dL_isTold_198 hl (by decide) rfl (fun ls hl => ?_)
                                  refine lv_iload hx hb dL_isTold_200 (lv_at hl 14 rfl) ?_
                                  refine lv_iload hx hb dL_isTold_202 (lv_at hl 13 rfl) ?_
                                  refine lv_icmp_le (tgt := 230) hx hb dL_isTold_204 (by decide) (fun c_204 => ?_) (fun c_204 => ?_)
                                  · skip
                                    refine lv_iload hx hb dL_isTold_230 (lv_at hl 10 rfl) ?_
                                    refine lv_istore (lv' := [(6, .int (nI d2)), (8, .int (nI v2)), (3, .int (nI (nr2 + 0))), (2, .int (nI (sg2 + 0))), (11, .int (sv ||| 0)), (14, .int 0), (13, .int 0), (0, .ref (A 0)), (1, .ref qa), (4, .int (nI ms)), (5, .int (nI hh)), (7, .int 0), (9, .ref qg), (10, .int (nI k)), (12, .int (nI t))]) hx hb dL_isTold_232 hl (by decide) rfl (fun ls hl => ?_)
                                    refine lv_iinc (v := nI (t + 1)) (lv' := [(12, .int (nI (t + 1))), (6, .int (nI d2)), (8, .int (nI v2)), (3, .int (nI (nr2 + 0))), (2, .int (nI (sg2 + 0))), (11, .int (sv ||| 0)), (14, .int 0), (13, .int 0), (0, .ref (A 0)), (1, .ref qa), (4, .int (nI ms)), (5, .int (nI hh)), (7, .int 0), (9, .ref qg), (10, .int (nI k))]) hx hb dL_isTold_234 hl (k := 14) rfl (inc1 _) (by decide) rfl (fun ls hl => ?_)
                                    refine lv_goto (tgt := 53) hx hb dL_isTold_237 (by decide) ?_
                                    exact ih_53 (t + 1) (sv ||| 0) (sg2 + 0) (nr2 + 0) d2 v2 X (by omega) (by omega) (hX) (by rw [hsv]; exact bs_or0 hcb) (by omega) (by omega) (fsR_no (fun q => Bool.false_ne_true (hcb.symm.trans q.2.2)) hfs2) _ _ hP hD hS ls (lv_sub hl [8, 9, 4, 3, 10, 11, 1, 12, 2, 13, 14, 5, 0] rfl)
                                  · skip
                                    exact absurd (nI_le hkt (by omega)) c_204
                                · skip
                                  exact absurd (nI_le hkt (by omega)) c_167
                              · skip
                                exact absurd (nI_le hkt (by omega)) c_148
                            · skip
                              exact absurd (nI_le hkt (by omega)) c_128
                          · skip
                            exact absurd (by decide) c_109
                        · skip
                          exact absurd (by decide) c_100
                      · skip
                        exact absurd (by decide) c_92
          exact L_53 _ 0 0 sg nr d0 v0 X (Nat.lt_succ_self _) (Nat.zero_le n) (hX) (rfl) (hsg) (hnr) (fsR_row hfs) _ _ hP hD hS ls (lv_sub hl [2, 3, 4, 5, 6, 7, 8, 9, 10, 11, 12, 1, 0] rfl)
  exact L_33 _ n ((nI n) - 1) 0 0 0 0 0 0 (fun _ => 0) X (Nat.lt_succ_self _) (Nat.le_refl n) (rfl) (hX) ((dn_top _ _).symm) ((dn_top _ _).symm) ((dn_top _ _).symm) ((dn_top _ _).symm) (fsR_start _ n 0) (fun a h1 h2 => by omega) _ _ hP hD hS ls (lv_sub hl [9, 10, 8, 7, 6, 5, 4, 3, 2, 1, 0] rfl)
