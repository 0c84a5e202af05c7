/-! the law's walk over what stands between two stations -/
theorem fz_dec (k : Nat) : nI k + (-1) = FZ k := (Int32.sub_eq_add_neg _ _).symm
theorem lt_tr {a b c : Int32} (h1 : a < b) (h2 : ¬ c < b) : a < c := by rw [fa_lt] at *; omega
theorem nlt_tr {a b c : Int32} (h1 : ¬ b < a) (h2 : ¬ c < b) : ¬ c < a := by rw [fa_lt] at *; omega
theorem nI_m1 {b : Nat} (h : b < 2 ^ 31) : ¬ nI b = -1 := fun q => nI_pos h (by rw [q]; decide)
theorem obs_spec (cl : Nat → Int32) (lo : Nat) : ∀ d, lo + d < 2 ^ 30 → 0 < d → ∃ b, lo < b ∧ b ≤ lo + d ∧ obs cl lo d = (nI b, cl b) ∧ (∀ j, lo < j → j ≤ lo + d → ¬ cl j < cl b) ∧ (∀ j, lo < j → j < b → cl b < cl j)
  | 0, _, h => absurd h (Nat.lt_irrefl 0)
  | 1, h0, _ => by
    refine ⟨lo + 1, by omega, by omega, obs_T (Or.inl rfl), fun j h1 h2 => ?_, fun j h1 h2 => by omega⟩
    rw [show j = lo + 1 by omega, fa_lt]; omega
  | d + 2, h0, _ => by
    obtain ⟨b, b1, b2, b3, b4, b5⟩ := obs_spec cl lo (d + 1) (by omega) (by omega)
    by_cases q : cl (lo + 1 + (d + 1)) < cl b
    · refine ⟨lo + 1 + (d + 1), by omega, by omega, obs_T (Or.inr (by rw [b3]; exact q)), fun j h1 h2 => ?_, fun j h1 h2 => lt_tr q (b4 j h1 (by omega))⟩
      rcases Nat.eq_or_lt_of_le h2 with z | z
      · rw [show j = lo + 1 + (d + 1) by omega, fa_lt]; omega
      · have := b4 j h1 (by omega)
        rw [fa_lt] at *; omega
    · refine ⟨b, b1, by omega, ?_, fun j h1 h2 => ?_, b5⟩
      · rw [obs_F (by rw [b3]; exact nI_m1 (by omega)) (by rw [b3]; exact q)]; exact b3
      · rcases Nat.eq_or_lt_of_le h2 with z | z
        · rw [show j = lo + 1 + (d + 1) by omega]; exact q
        · exact b4 j h1 (by omega)
def obI (cl : Nat → Int32) (a z k : Nat) (w l : Int32) : Prop := (w = -1 ∧ l = 0 ∧ ∀ j, a < j → j < z → j < k) ∨ (∃ b, w = nI b ∧ l = cl b ∧ a < b ∧ b < z ∧ (∀ j, a < j → j < z → k ≤ j → ¬ cl j < cl b) ∧ (∀ j, a < j → k ≤ j → j < b → cl b < cl j))
theorem ob_out {cl : Nat → Int32} {a z k : Nat} {w l : Int32} (h : obI cl a z (k + 1) w l) (hk : ¬ (a < k ∧ k < z)) : obI cl a z k w l := by
  rcases h with ⟨h1, h2, h3⟩ | ⟨b, h1, h2, h3, h4, h5, h6⟩
  · exact Or.inl ⟨h1, h2, fun j q1 q2 => by have := h3 j q1 q2; rcases Nat.eq_or_lt_of_le (Nat.le_of_lt_succ this) with r | r; exact absurd ⟨r ▸ q1, r ▸ q2⟩ hk; exact r⟩
  · refine Or.inr ⟨b, h1, h2, h3, h4, fun j q1 q2 q3 => ?_, fun j q1 q2 q3 => ?_⟩
    · rcases Nat.eq_or_lt_of_le q3 with r | r
      · exact absurd ⟨r ▸ q1, r ▸ q2⟩ hk
      · exact h5 j q1 q2 r
    · rcases Nat.eq_or_lt_of_le q2 with r | r
      · exact absurd ⟨r ▸ q1, by omega⟩ hk
      · exact h6 j q1 r q3
theorem ob_new1 {cl : Nat → Int32} {a z k : Nat} (h3 : ∀ j, a < j → j < z → j < k + 1) (hk : a < k ∧ k < z) : obI cl a z k (nI k) (cl k) :=
  Or.inr ⟨k, rfl, rfl, hk.1, hk.2, fun j q1 q2 q3 => by have := h3 j q1 q2; rw [show j = k by omega, fa_lt]; omega, fun j q1 q2 q3 => by omega⟩
theorem ob_new2 {cl : Nat → Int32} {a z k b : Nat} (h5 : ∀ j, a < j → j < z → k + 1 ≤ j → ¬ cl j < cl b) (hk : a < k ∧ k < z) (hb : ¬ cl b < cl k) : obI cl a z k (nI k) (cl k) :=
  Or.inr ⟨k, rfl, rfl, hk.1, hk.2, fun j q1 q2 q3 => by
    rcases Nat.eq_or_lt_of_le q3 with r | r
    · rw [← r, fa_lt]; omega
    · exact nlt_tr hb (h5 j q1 q2 r), fun j q1 q2 q3 => by omega⟩
theorem ob_old {cl : Nat → Int32} {a z k b : Nat} (h3 : a < b) (h4 : b < z) (h5 : ∀ j, a < j → j < z → k + 1 ≤ j → ¬ cl j < cl b) (h6 : ∀ j, a < j → k + 1 ≤ j → j < b → cl b < cl j) (hb : cl b < cl k) : obI cl a z k (nI b) (cl b) := by
  refine Or.inr ⟨b, rfl, rfl, h3, h4, fun j q1 q2 q3 => ?_, fun j q1 q2 q3 => ?_⟩
  · rcases Nat.eq_or_lt_of_le q3 with r | r
    · rw [← r]; rw [fa_lt] at *; omega
    · exact h5 j q1 q2 r
  · rcases Nat.eq_or_lt_of_le q2 with r | r
    · rw [← r]; exact hb
    · exact h6 j q1 r q3
theorem ob_end {cl : Nat → Int32} {a z : Nat} {w l : Int32} (hz : z < 2 ^ 20) (h : obI cl a z 0 w l) : obs cl a (z - a - 1) = (w, l) := by
  rcases h with ⟨h1, h2, h3⟩ | ⟨b, h1, h2, h3, h4, h5, h6⟩
  · rw [h1, h2]
    rcases Nat.lt_or_ge (a + 1) z with q | q
    · exact absurd (h3 (a + 1) (by omega) q) (Nat.not_lt_zero _)
    · rw [show z - a - 1 = 0 by omega]; rfl
  · obtain ⟨c, c1, c2, c3, c4, c5⟩ := obs_spec cl a (z - a - 1) (by omega) (by omega)
    have e : b = c := by
      rcases Nat.lt_trichotomy b c with q | q | q
      · exact absurd (c5 b h3 q) (h5 c c1 (by omega) (Nat.zero_le _))
      · exact q
      · exact absurd (h6 c c1 (Nat.zero_le _) q) (c4 b h3 (by omega))
    rw [c3, h1, h2, e]
theorem ob_same {n : Nat} {bl x w : Int32} {G M : Nat → Int32} : A_obstacle n bl G M x x w = -2 := by
  unfold A_obstacle
  rw [if_neg (fun q => (of_decide_eq_true q.1).2.2 rfl)]
theorem ob_two {n : Nat} {bl x y : Int32} {G M : Nat → Int32} : A_obstacle n bl G M x y 2 = -2 := by
  unfold A_obstacle
  rw [if_neg (fun q => absurd q.2 (by decide))]
theorem ob_pair {n s t : Nat} (hn : n ≤ 20) (hs : s < n) (ht : t < n) (h : s ≠ t) : pairB n (nI s) (nI t) = true := decide_eq_true ⟨hasB_in hs hn, hasB_in ht hn, fun q => h ((nI_eq (by omega) (by omega)).mp q)⟩
theorem ob_0 {n s t : Nat} {bl w l : Int32} {G M : Nat → Int32} (hn : n ≤ 20) (hs : s < n) (ht : t < n) (h : s ≠ t) (e : obT bl G M s t = (w, l)) : A_obstacle n bl G M (nI s) (nI t) 0 = w := by
  unfold A_obstacle
  rw [if_pos ⟨ob_pair hn hs ht h, by decide⟩, cN_nI (by omega), cN_nI (by omega), e, if_pos (Or.inr rfl)]
theorem ob_1 {n s t : Nat} {bl w l : Int32} {G M : Nat → Int32} (hn : n ≤ 20) (hs : s < n) (ht : t < n) (h : s ≠ t) (e : obT bl G M s t = (w, l)) (hw : ¬ w = -1) : A_obstacle n bl G M (nI s) (nI t) 1 = l := by
  unfold A_obstacle
  rw [if_pos ⟨ob_pair hn hs ht h, by decide⟩, cN_nI (by omega), cN_nI (by omega), e, if_neg (fun q => q.elim hw (by decide))]
theorem ob_1n {n s t : Nat} {bl l : Int32} {G M : Nat → Int32} (hn : n ≤ 20) (hs : s < n) (ht : t < n) (h : s ≠ t) (e : obT bl G M s t = (-1, l)) : A_obstacle n bl G M (nI s) (nI t) 1 = -1 := by
  unfold A_obstacle
  rw [if_pos ⟨ob_pair hn hs ht h, by decide⟩, cN_nI (by omega), cN_nI (by omega), e, if_pos (Or.inl rfl)]
theorem se_nI {n s t : Nat} {bl : Int32} {G M : Nat → Int32} (hn : n ≤ 20) (hs : s < n) (ht : t < n) : A_sees n bl G M (nI s) (nI t) = bI (seesB G bl s (tp G M s) t (tp G M t)) := by
  unfold A_sees
  rw [if_pos ⟨hasB_in hs hn, hasB_in ht hn⟩, cN_nI (by omega), cN_nI (by omega)]
theorem ob_seesA {bl : Int32} {G M : Nat → Int32} {s t : Nat} (h : ∀ j, min s t < j → j < max s t → j < 0) : seesB G bl s (tp G M s) t (tp G M t) = true := decide_eq_true (fun k h1 h2 => absurd (h k h2 h1) (Nat.not_lt_zero k))
theorem ob_seesB {bl : Int32} {G M : Nat → Int32} {s t b : Nat} (h3 : min s t < b) (h4 : b < max s t) (h5 : ∀ j, min s t < j → j < max s t → 0 ≤ j → ¬ clT bl G M s t j < clT bl G M s t b) : seesB G bl s (tp G M s) t (tp G M t) = decide (¬ clT bl G M s t b < 0) := by
  unfold seesB
  rw [decide_eq_decide]
  exact ⟨fun z => z b h4 h3, fun z k k1 k2 => nlt_tr z (h5 k k2 k1 (Nat.zero_le k))⟩
theorem bI_1 {b : Bool} (h : ¬ bI b = 1) : b = false := by cases b with | false => rfl | true => exact absurd rfl h
theorem bI_11 {b : Bool} (h : bI b = 1) : b = true := by cases b with | true => rfl | false => exact absurd h (by decide)
theorem lw_its {f : Nat → Int32} {n s t k : Nat} (hR : RF f n) (hs : s < n) (ht : t < n) (hk : min s t < k ∧ k < max s t) : nI (dd s t) * tp f (M8 f) s + (tp f (M8 f) t - tp f (M8 f) s) * nI (dd s k) - nI (dd s t) * (f k + f 18 * nI (dd s k) * (nI (dd s t) - nI (dd s k))) = clT (f 18) f (M8 f) s t k := by
  have h := (lw_meet hR hs ht (hR.top hs) (hR.top ht) (j := dd s k) (by unfold dd; split <;> split <;> omega)).1
  rw [show mkS s t (dd s k) = k by unfold mkS dd; split <;> split <;> omega] at h
  exact h
set_option maxHeartbeats 4000000 in
set_option maxRecDepth 100000 in
/-- isObstacle(o, a, s, t) -/
theorem c_L_isObstacle (l : Launch) (D : va_G) (cI cB cO : ClassId) (A : Nat → Nat) (qa : Nat) (f : Nat → Int32) (n : Nat) (X0 : va_W) (s0 t0 : Nat) (hR : RF f n) (hX0 : SRX cI cB cO A X0 n (f 17) (f 18) f (M8 f)) (hs : s0 < n) (ht : t0 < n) : Met l yL_isObstacle wsL_isObstacle (rmD 7) (wrPc D (tyL cI cB cO) [.ref (A 0), .ref qa, .int (nI s0), .int (nI t0)] ((qa, .inl (cI, 20, .inl f)) :: X0)) (wrQi D ((qa, .inl (cI, 20, .inl f)) :: X0) (fun (r : Int32) (u : va_W) => r = 1 ∧ SRX cI cB cO A u n (f 17) (f 18) f (M8 f)) (fun (u : va_W) => ((qa, .inl (cI, 20, .inl f)) :: u))) 0 0 (inW ((qa, .inl (cI, 20, .inl f)) :: X0)) := by
  refine Met.ofW (cc := cL_isObstacle) (maxL := 12) (ret := (some .boolean)) (by decide) rfl ?_
  intro p e s m args below meth c s₁ B hml hv
  obtain ⟨rfl, hP, hK, hN, hD⟩ := hv
  have hx := B.exec
  have hb := B.bytes
  have hr := B.returns
  have hts := atoms_spec (ws := wsL_isObstacle) B.pre
  have hown : s.vm.findClass RL = some m.cls := findClass_of_methodNamed B.named
  have hlocks := B.notSynchronized
  have hS : va_S (inW ((qa, .inl (cI, 20, .inl f)) :: X0)) s.heap s.heap [] := va_S.rf
  have hD : va_D (inW ((qa, .inl (cI, 20, .inl f)) :: X0)) ((qa, .inl (cI, 20, .inl f)) :: X0) := inW_self hD
  have hl := lv_entry ([.ref (A 0), .ref qa, .int (nI s0), .int (nI t0)]) (n := 12) (Nat.le_of_ble_eq_true rfl)
  rw [lg_entry_eq]
  generalize (lg_sl ([.ref (A 0), .ref qa, .int (nI s0), .int (nI t0)]) ++ List.replicate (12 - (lg_sl ([.ref (A 0), .ref qa, .int (nI s0), .int (nI t0)])).length) Slot.unset).toArray = ls at hl ⊢
  have hl : lv_has ls 12 [(0, .ref (A 0)), (1, .ref qa), (2, .int (nI s0)), (3, .int (nI t0))] := hl
  have h8 : n ≤ 8 := hR.2.1
  have h2n : 2 ≤ n := hR.n2
  have hn : n ≤ 20 := by omega
  have h16 : f 16 = nI n := hR.1
  have hd8 : dd s0 t0 ≤ 8 := by unfold dd; split <;> omega
  obtain ⟨X, hX, hP, hD⟩ : ∃ X : va_W, SRX cI cB cO A X n (f 17) (f 18) f (M8 f) ∧ va_P D vwCl ((qa, .inl (cI, 20, .inl f)) :: X) s.heap ∧ va_D (inW ((qa, .inl (cI, 20, .inl f)) :: X0)) ((qa, .inl (cI, 20, .inl f)) :: X) := ⟨X0, hX0, hP, hD⟩
  refine lv_iload_n hx hb dL_isObstacle_0 rfl (lv_at hl 2 rfl) ?_
  refine lv_iload_n hx hb dL_isObstacle_1 rfl (lv_at hl 3 rfl) ?_
  refine lv_icmp_ne (tgt := 23) hx hb dL_isObstacle_2 (by decide) (fun c_2 => ?_) (fun c_2 => ?_)
  · skip
    have hst : s0 ≠ t0 := fun q => c_2 (by rw [q])
    refine lv_iload_n hx hb dL_isObstacle_23 rfl (lv_at hl 2 rfl) ?_
    refine lv_iload_n hx hb dL_isObstacle_24 rfl (lv_at hl 3 rfl) ?_
    refine lv_icmp_ge (tgt := 34) hx hb dL_isObstacle_25 (by decide) (fun c_25 => ?_) (fun c_25 => ?_)
    · skip
      have g25 : t0 ≤ s0 := ge_t (by omega) c_25
      refine lv_iload_n hx hb dL_isObstacle_34 rfl (lv_at hl 2 rfl) ?_
      refine lv_iload_n hx hb dL_isObstacle_35 rfl (lv_at hl 3 rfl) ?_
      refine lv_isub hx hb dL_isObstacle_36 ?_
      refine lv_topi (fun y_1 e_2 => ?_)
      have e_2 : nI (dd s0 t0) = y_1 := (e_2.trans (pk_sub3 g25)).symm
      subst e_2
      refine lv_istore (lv' := [(4, .int (nI (dd s0 t0))), (0, .ref (A 0)), (1, .ref qa), (2, .int (nI s0)), (3, .int (nI t0))]) hx hb dL_isObstacle_37 hl (by decide) rfl (fun ls hl => ?_)
      refine lv_iconst (v := (-1)) hx hb dL_isObstacle_39 (by decide) ?_
      refine lv_istore (lv' := [(5, .int (-1)), (4, .int (nI (dd s0 t0))), (0, .ref (A 0)), (1, .ref qa), (2, .int (nI s0)), (3, .int (nI t0))]) hx hb dL_isObstacle_40 hl (by decide) rfl (fun ls hl => ?_)
      refine lv_iconst (v := 0) hx hb dL_isObstacle_42 (by decide) ?_
      refine lv_istore (lv' := [(6, .int 0), (5, .int (-1)), (4, .int (nI (dd s0 t0))), (0, .ref (A 0)), (1, .ref qa), (2, .int (nI s0)), (3, .int (nI t0))]) hx hb dL_isObstacle_43 hl (by decide) rfl (fun ls hl => ?_)
      refine lv_aload_n hx hb dL_isObstacle_45 rfl (lv_at hl 4 rfl) ?_
      refine lv_bipush (v := 16) hx hb dL_isObstacle_46 (by decide) ?_
      refine va_iald hx hb hK hP 0 0 rfl rfl (i := nI 16) (vp_in_nI (N := 20) (by decide) (by decide)) dL_isObstacle_48 ?_
      rw [nI_clamp (n := 16) (by decide)]
      refine lv_topi (fun y_3 e_4 => ?_)
      have e_4 : nI n = y_3 := (e_4.trans (h16)).symm
      subst e_4
      refine lv_iconst (v := 1) hx hb dL_isObstacle_49 (by decide) ?_
      refine lv_isub hx hb dL_isObstacle_50 ?_
      refine lv_istore (lv' := [(7, .int ((nI n) - 1)), (6, .int 0), (5, .int (-1)), (4, .int (nI (dd s0 t0))), (0, .ref (A 0)), (1, .ref qa), (2, .int (nI s0)), (3, .int (nI t0))]) hx hb dL_isObstacle_51 hl (by decide) rfl (fun ls hl => ?_)
      have L_53 : ∀ (k_53 : Nat) (q : Nat) (z : Int32) (w : Int32) (l0 : Int32) (X : va_W), q < k_53 → (q ≤ n) → (z = FZ q) → (SRX cI cB cO A X n (f 17) (f 18) f (M8 f)) → (obI (clT (f 18) f (M8 f) s0 t0) (min s0 t0) (max s0 t0) q w l0) → ∀ (H : Heap) (locs : List Loc), va_P D vwCl ((qa, .inl (cI, 20, .inl f)) :: X) H → va_D (inW ((qa, .inl (cI, 20, .inl f)) :: X0)) ((qa, .inl (cI, 20, .inl f)) :: X) → va_S (inW ((qa, .inl (cI, 20, .inl f)) :: X0)) s.heap H locs → ∀ (ls : Array Slot), lv_has ls 12 [(0, .ref (A 0)), (1, .ref qa), (2, .int (nI s0)), (3, .int (nI t0)), (4, .int (nI (dd s0 t0))), (5, .int w), (6, .int l0), (7, .int z)] → W p l e (rmD 7) s m ([.ref (A 0), .ref qa, .int (nI s0), .int (nI t0)] : List Value).toArray below meth c H locs 0 0 (MQ below (wrQi D ((qa, .inl (cI, 20, .inl f)) :: X0) (fun (r : Int32) (u : va_W) => r = 1 ∧ SRX cI cB cO A u n (f 17) (f 18) f (M8 f)) (fun (u : va_W) => ((qa, .inl (cI, 20, .inl f)) :: u))) ([.ref (A 0), .ref qa, .int (nI s0), .int (nI t0)] : List Value).toArray s 0 0 (inW ((qa, .inl (cI, 20, .inl f)) :: X0))) (F0 m 53 ls []) := by
        intro k_53
        induction k_53 with
        | zero => intro q z w l0 X h9; exact absurd h9 (Nat.not_lt_zero _)
        | succ k_53 ih_53 =>
          intro q z w l0 X hm_53 hq hz hX hI H locs hP hD hS ls hl
          refine lv_iload hx hb dL_isObstacle_53 (lv_at hl 7 rfl) ?_
          cases q with
          | zero =>
            have hz : z = -1 := hz
            subst hz
            refine lv_if_lt (tgt := 213) hx hb dL_isObstacle_55 (by decide) (fun c_55 => ?_) (fun c_55 => ?_)
            · skip
              rcases hI with ⟨ew, el, hA⟩ | ⟨b, ew, el, hb1, hb2, hb3, hb4⟩
              · subst ew el
                have hob : obT (f 18) f (M8 f) s0 t0 = (-1, 0) := ob_end (by omega) (Or.inl ⟨rfl, rfl, hA⟩)
                refine lv_aload_n hx hb dL_isObstacle_213 rfl (lv_at hl 0 rfl) ?_
                refine lv_iload_n hx hb dL_isObstacle_214 rfl (lv_at hl 2 rfl) ?_
                refine lv_iload_n hx hb dL_isObstacle_215 rfl (lv_at hl 3 rfl) ?_
                refine lv_iconst (v := 0) hx hb dL_isObstacle_216 (by decide) ?_
                have hPb : va_P D vwCl ([(qa, .inl (cI, 20, .inl f))] ++ X) _ := hP
                have hDb : va_D (inW ((qa, .inl (cI, 20, .inl f)) :: X0)) ([(qa, .inl (cI, 20, .inl f))] ++ X) := hD
                refine ox_calli hPb hDb hX hS (va_runV (As := [.int (nI s0), .int (nI t0), .int 0]) (rest := []) ⟨hx, hb, hml, hown, hts⟩ (y_obstacle l D cI cB cO A n (f 17) (f 18) f (M8 f) (nI s0) (nI t0) 0) (cwV 3 hts gL_isObstacle_X6_obstacle rfl rfl rfl (by decide +kernel) ⟨Nat.le_of_ble_eq_true rfl, Nat.le_of_ble_eq_true rfl⟩) (ox_pre hK hPb hDb hX hN) rfl rfl hl.1 rfl (lv_room (Nat.le_of_ble_eq_true rfl)) dL_isObstacle_217 ⟨Nat.le_refl _, Nat.le_refl _⟩) (fun X H locs hX hP hD hS => ?_)
                have hP : va_P D vwCl ((qa, .inl (cI, 20, .inl f)) :: X) _ := hP
                have hD : va_D (inW ((qa, .inl (cI, 20, .inl f)) :: X0)) ((qa, .inl (cI, 20, .inl f)) :: X) := hD
                refine lv_topi (fun y_5 e_6 => ?_)
                have e_6 : -1 = y_5 := (e_6.trans (ob_0 hn hs ht hst hob)).symm
                subst e_6
                refine lv_iload hx hb dL_isObstacle_220 (lv_at hl 5 rfl) ?_
                refine lv_icmp_ne (tgt := 262) hx hb dL_isObstacle_222 (by decide) (fun c_222 => ?_) (fun c_222 => ?_)
                · skip
                  exact absurd (by decide) c_222
                · skip
                  refine lv_aload_n hx hb dL_isObstacle_225 rfl (lv_at hl 0 rfl) ?_
                  refine lv_iload_n hx hb dL_isObstacle_226 rfl (lv_at hl 2 rfl) ?_
                  refine lv_iload_n hx hb dL_isObstacle_227 rfl (lv_at hl 3 rfl) ?_
                  refine lv_iconst (v := 1) hx hb dL_isObstacle_228 (by decide) ?_
                  have hPb : va_P D vwCl ([(qa, .inl (cI, 20, .inl f))] ++ X) _ := hP
                  have hDb : va_D (inW ((qa, .inl (cI, 20, .inl f)) :: X0)) ([(qa, .inl (cI, 20, .inl f))] ++ X) := hD
                  refine ox_calli hPb hDb hX hS (va_runV (As := [.int (nI s0), .int (nI t0), .int 1]) (rest := []) ⟨hx, hb, hml, hown, hts⟩ (y_obstacle l D cI cB cO A n (f 17) (f 18) f (M8 f) (nI s0) (nI t0) 1) (cwV 3 hts gL_isObstacle_X6_obstacle rfl rfl rfl (by decide +kernel) ⟨Nat.le_of_ble_eq_true rfl, Nat.le_of_ble_eq_true rfl⟩) (ox_pre hK hPb hDb hX hN) rfl rfl hl.1 rfl (lv_room (Nat.le_of_ble_eq_true rfl)) dL_isObstacle_229 ⟨Nat.le_refl _, Nat.le_refl _⟩) (fun X H locs hX hP hD hS => ?_)
                  have hP : va_P D vwCl ((qa, .inl (cI, 20, .inl f)) :: X) _ := hP
                  have hD : va_D (inW ((qa, .inl (cI, 20, .inl f)) :: X0)) ((qa, .inl (cI, 20, .inl f)) :: X) := hD
                  refine lv_topi (fun y_7 e_8 => ?_)
                  have e_8 : -1 = y_7 := (e_8.trans (ob_1n hn hs ht hst hob)).symm
                  subst e_8
                  refine lv_iload hx hb dL_isObstacle_232 (lv_at hl 5 rfl) ?_
                  refine lv_if_ge (tgt := 241) hx hb dL_isObstacle_234 (by decide) (fun c_234 => ?_) (fun c_234 => ?_)
                  · skip
                    exact absurd c_234 (by decide)
                  · skip
                    refine lv_iconst (v := (-1)) hx hb dL_isObstacle_237 (by decide) ?_
                    refine lv_goto (tgt := 243) hx hb dL_isObstacle_238 (by decide) ?_
                    refine lv_icmp_ne (tgt := 262) hx hb dL_isObstacle_243 (by decide) (fun c_243 => ?_) (fun c_243 => ?_)
                    · skip
                      exact absurd (by decide) c_243
                    · skip
                      refine lv_aload_n hx hb dL_isObstacle_246 rfl (lv_at hl 0 rfl) ?_
                      refine lv_iload_n hx hb dL_isObstacle_247 rfl (lv_at hl 2 rfl) ?_
                      refine lv_iload_n hx hb dL_isObstacle_248 rfl (lv_at hl 3 rfl) ?_
                      refine lv_iconst (v := 2) hx hb dL_isObstacle_249 (by decide) ?_
                      have hPb : va_P D vwCl ([(qa, .inl (cI, 20, .inl f))] ++ X) _ := hP
                      have hDb : va_D (inW ((qa, .inl (cI, 20, .inl f)) :: X0)) ([(qa, .inl (cI, 20, .inl f))] ++ X) := hD
                      refine ox_calli hPb hDb hX hS (va_runV (As := [.int (nI s0), .int (nI t0), .int 2]) (rest := []) ⟨hx, hb, hml, hown, hts⟩ (y_obstacle l D cI cB cO A n (f 17) (f 18) f (M8 f) (nI s0) (nI t0) 2) (cwV 3 hts gL_isObstacle_X6_obstacle rfl rfl rfl (by decide +kernel) ⟨Nat.le_of_ble_eq_true rfl, Nat.le_of_ble_eq_true rfl⟩) (ox_pre hK hPb hDb hX hN) rfl rfl hl.1 rfl (lv_room (Nat.le_of_ble_eq_true rfl)) dL_isObstacle_250 ⟨Nat.le_refl _, Nat.le_refl _⟩) (fun X H locs hX hP hD hS => ?_)
                      have hP : va_P D vwCl ((qa, .inl (cI, 20, .inl f)) :: X) _ := hP
                      have hD : va_D (inW ((qa, .inl (cI, 20, .inl f)) :: X0)) ((qa, .inl (cI, 20, .inl f)) :: X) := hD
                      refine lv_topi (fun y_9 e_10 => ?_)
                      have e_10 : -2 = y_9 := (e_10.trans (ob_two)).symm
                      subst e_10
                      refine lv_bipush (v := (-2)) hx hb dL_isObstacle_253 (by decide) ?_
                      refine lv_icmp_ne (tgt := 262) hx hb dL_isObstacle_255 (by decide) (fun c_255 => ?_) (fun c_255 => ?_)
                      · skip
                        exact absurd (by decide) c_255
                      · skip
                        refine lv_iconst (v := 1) hx hb dL_isObstacle_258 (by decide) ?_
                        refine lv_goto (tgt := 263) hx hb dL_isObstacle_259 (by decide) ?_
                        refine lv_istore (lv' := [(7, .int 1), (0, .ref (A 0)), (1, .ref qa), (2, .int (nI s0)), (3, .int (nI t0)), (4, .int (nI (dd s0 t0))), (5, .int (-1)), (6, .int 0)]) hx hb dL_isObstacle_263 hl (by decide) rfl (fun ls hl => ?_)
                        refine lv_iload hx hb dL_isObstacle_265 (lv_at hl 0 rfl) ?_
                        refine lv_if_eq (tgt := 307) hx hb dL_isObstacle_267 (by decide) (fun c_267 => ?_) (fun c_267 => ?_)
                        · skip
                          exact absurd c_267 (by decide)
                        · skip
                          refine lv_aload_n hx hb dL_isObstacle_270 rfl (lv_at hl 1 rfl) ?_
                          refine lv_iload_n hx hb dL_isObstacle_271 rfl (lv_at hl 3 rfl) ?_
                          refine lv_iload_n hx hb dL_isObstacle_272 rfl (lv_at hl 4 rfl) ?_
                          have hPb : va_P D vwCl ([(qa, .inl (cI, 20, .inl f))] ++ X) _ := hP
                          have hDb : va_D (inW ((qa, .inl (cI, 20, .inl f)) :: X0)) ([(qa, .inl (cI, 20, .inl f))] ++ X) := hD
                          refine ox_calli hPb hDb hX hS (va_runV (As := [.int (nI s0), .int (nI t0)]) (rest := []) ⟨hx, hb, hml, hown, hts⟩ (y_sees l D cI cB cO A n (f 17) (f 18) f (M8 f) (nI s0) (nI t0)) (cwV 2 hts gL_isObstacle_X6_sees rfl rfl rfl (by decide +kernel) ⟨Nat.le_of_ble_eq_true rfl, Nat.le_of_ble_eq_true rfl⟩) (ox_pre hK hPb hDb hX hN) rfl rfl hl.1 rfl (lv_room (Nat.le_of_ble_eq_true rfl)) dL_isObstacle_273 ⟨Nat.le_refl _, Nat.le_refl _⟩) (fun X H locs hX hP hD hS => ?_)
                          have hP : va_P D vwCl ((qa, .inl (cI, 20, .inl f)) :: X) _ := hP
                          have hD : va_D (inW ((qa, .inl (cI, 20, .inl f)) :: X0)) ((qa, .inl (cI, 20, .inl f)) :: X) := hD
                          refine lv_topi (fun y_11 e_12 => ?_)
                          have e_12 : bI (seesB f (f 18) s0 (tp f (M8 f) s0) t0 (tp f (M8 f) t0)) = y_11 := (e_12.trans (se_nI hn hs ht)).symm
                          subst e_12
                          refine lv_iconst (v := 1) hx hb dL_isObstacle_276 (by decide) ?_
                          refine lv_icmp_ne (tgt := 284) hx hb dL_isObstacle_277 (by decide) (fun c_277 => ?_) (fun c_277 => ?_)
                          · skip
                            exact absurd (congrArg bI (ob_seesA hA)) c_277
                          · skip
                            refine lv_iconst (v := 1) hx hb dL_isObstacle_280 (by decide) ?_
                            refine lv_goto (tgt := 285) hx hb dL_isObstacle_281 (by decide) ?_
                            refine lv_iload hx hb dL_isObstacle_285 (lv_at hl 6 rfl) ?_
                            refine lv_if_lt (tgt := 295) hx hb dL_isObstacle_287 (by decide) (fun c_287 => ?_) (fun c_287 => ?_)
                            · skip
                              refine lv_iconst (v := 1) hx hb dL_isObstacle_295 (by decide) ?_
                              refine lv_goto (tgt := 300) hx hb dL_isObstacle_296 (by decide) ?_
                              refine lv_icmp_ne (tgt := 307) hx hb dL_isObstacle_300 (by decide) (fun c_300 => ?_) (fun c_300 => ?_)
                              · skip
                                exact absurd (by decide) c_300
                              · skip
                                refine lv_iconst (v := 1) hx hb dL_isObstacle_303 (by decide) ?_
                                refine lv_goto (tgt := 308) hx hb dL_isObstacle_304 (by decide) ?_
                                exact W.zret (v := 1) hx hb hr (rfl) (fun tS htS hWS => ⟨⟨1, X, rfl, ⟨rfl, hX⟩, retP htS hP⟩, hS.F htS⟩) hS.2.2 dL_isObstacle_308
                            · skip
                              exact absurd (by decide) c_287
              · subst ew el
                have hob : obT (f 18) f (M8 f) s0 t0 = (nI b, (clT (f 18) f (M8 f) s0 t0) b) := ob_end (by omega) (Or.inr ⟨b, rfl, rfl, hb1, hb2, hb3, hb4⟩)
                refine lv_aload_n hx hb dL_isObstacle_213 rfl (lv_at hl 0 rfl) ?_
                refine lv_iload_n hx hb dL_isObstacle_214 rfl (lv_at hl 2 rfl) ?_
                refine lv_iload_n hx hb dL_isObstacle_215 rfl (lv_at hl 3 rfl) ?_
                refine lv_iconst (v := 0) hx hb dL_isObstacle_216 (by decide) ?_
                have hPb : va_P D vwCl ([(qa, .inl (cI, 20, .inl f))] ++ X) _ := hP
                have hDb : va_D (inW ((qa, .inl (cI, 20, .inl f)) :: X0)) ([(qa, .inl (cI, 20, .inl f))] ++ X) := hD
                refine ox_calli hPb hDb hX hS (va_runV (As := [.int (nI s0), .int (nI t0), .int 0]) (rest := []) ⟨hx, hb, hml, hown, hts⟩ (y_obstacle l D cI cB cO A n (f 17) (f 18) f (M8 f) (nI s0) (nI t0) 0) (cwV 3 hts gL_isObstacle_X6_obstacle rfl rfl rfl (by decide +kernel) ⟨Nat.le_of_ble_eq_true rfl, Nat.le_of_ble_eq_true rfl⟩) (ox_pre hK hPb hDb hX hN) rfl rfl hl.1 rfl (lv_room (Nat.le_of_ble_eq_true rfl)) dL_isObstacle_217 ⟨Nat.le_refl _, Nat.le_refl _⟩) (fun X H locs hX hP hD hS => ?_)
                have hP : va_P D vwCl ((qa, .inl (cI, 20, .inl f)) :: X) _ := hP
                have hD : va_D (inW ((qa, .inl (cI, 20, .inl f)) :: X0)) ((qa, .inl (cI, 20, .inl f)) :: X) := hD
                refine lv_topi (fun y_13 e_14 => ?_)
                have e_14 : nI b = y_13 := (e_14.trans (ob_0 hn hs ht hst hob)).symm
                subst e_14
                refine lv_iload hx hb dL_isObstacle_220 (lv_at hl 5 rfl) ?_
                refine lv_icmp_ne (tgt := 262) hx hb dL_isObstacle_222 (by decide) (fun c_222 => ?_) (fun c_222 => ?_)
                · skip
                  exact absurd (rfl) c_222
                · skip
                  refine lv_aload_n hx hb dL_isObstacle_225 rfl (lv_at hl 0 rfl) ?_
                  refine lv_iload_n hx hb dL_isObstacle_226 rfl (lv_at hl 2 rfl) ?_
                  refine lv_iload_n hx hb dL_isObstacle_227 rfl (lv_at hl 3 rfl) ?_
                  refine lv_iconst (v := 1) hx hb dL_isObstacle_228 (by decide) ?_
                  have hPb : va_P D vwCl ([(qa, .inl (cI, 20, .inl f))] ++ X) _ := hP
                  have hDb : va_D (inW ((qa, .inl (cI, 20, .inl f)) :: X0)) ([(qa, .inl (cI, 20, .inl f))] ++ X) := hD
                  refine ox_calli hPb hDb hX hS (va_runV (As := [.int (nI s0), .int (nI t0), .int 1]) (rest := []) ⟨hx, hb, hml, hown, hts⟩ (y_obstacle l D cI cB cO A n (f 17) (f 18) f (M8 f) (nI s0) (nI t0) 1) (cwV 3 hts gL_isObstacle_X6_obstacle rfl rfl rfl (by decide +kernel) ⟨Nat.le_of_ble_eq_true rfl, Nat.le_of_ble_eq_true rfl⟩) (ox_pre hK hPb hDb hX hN) rfl rfl hl.1 rfl (lv_room (Nat.le_of_ble_eq_true rfl)) dL_isObstacle_229 ⟨Nat.le_refl _, Nat.le_refl _⟩) (fun X H locs hX hP hD hS => ?_)
                  have hP : va_P D vwCl ((qa, .inl (cI, 20, .inl f)) :: X) _ := hP
                  have hD : va_D (inW ((qa, .inl (cI, 20, .inl f)) :: X0)) ((qa, .inl (cI, 20, .inl f)) :: X) := hD
                  refine lv_topi (fun y_15 e_16 => ?_)
                  have e_16 : (clT (f 18) f (M8 f) s0 t0) b = y_15 := (e_16.trans (ob_1 hn hs ht hst hob (nI_m1 (by omega)))).symm
                  subst e_16
                  refine lv_iload hx hb dL_isObstacle_232 (lv_at hl 5 rfl) ?_
                  refine lv_if_ge (tgt := 241) hx hb dL_isObstacle_234 (by decide) (fun c_234 => ?_) (fun c_234 => ?_)
                  · skip
                    refine lv_iload hx hb dL_isObstacle_241 (lv_at hl 6 rfl) ?_
                    refine lv_icmp_ne (tgt := 262) hx hb dL_isObstacle_243 (by decide) (fun c_243 => ?_) (fun c_243 => ?_)
                    · skip
                      exact absurd rfl c_243
                    · skip
                      refine lv_aload_n hx hb dL_isObstacle_246 rfl (lv_at hl 0 rfl) ?_
                      refine lv_iload_n hx hb dL_isObstacle_247 rfl (lv_at hl 2 rfl) ?_
                      refine lv_iload_n hx hb dL_isObstacle_248 rfl (lv_at hl 3 rfl) ?_
                      refine lv_iconst (v := 2) hx hb dL_isObstacle_249 (by decide) ?_
                      have hPb : va_P D vwCl ([(qa, .inl (cI, 20, .inl f))] ++ X) _ := hP
                      have hDb : va_D (inW ((qa, .inl (cI, 20, .inl f)) :: X0)) ([(qa, .inl (cI, 20, .inl f))] ++ X) := hD
                      refine ox_calli hPb hDb hX hS (va_runV (As := [.int (nI s0), .int (nI t0), .int 2]) (rest := []) ⟨hx, hb, hml, hown, hts⟩ (y_obstacle l D cI cB cO A n (f 17) (f 18) f (M8 f) (nI s0) (nI t0) 2) (cwV 3 hts gL_isObstacle_X6_obstacle rfl rfl rfl (by decide +kernel) ⟨Nat.le_of_ble_eq_true rfl, Nat.le_of_ble_eq_true rfl⟩) (ox_pre hK hPb hDb hX hN) rfl rfl hl.1 rfl (lv_room (Nat.le_of_ble_eq_true rfl)) dL_isObstacle_250 ⟨Nat.le_refl _, Nat.le_refl _⟩) (fun X H locs hX hP hD hS => ?_)
                      have hP : va_P D vwCl ((qa, .inl (cI, 20, .inl f)) :: X) _ := hP
                      have hD : va_D (inW ((qa, .inl (cI, 20, .inl f)) :: X0)) ((qa, .inl (cI, 20, .inl f)) :: X) := hD
                      refine lv_topi (fun y_17 e_18 => ?_)
                      have e_18 : -2 = y_17 := (e_18.trans (ob_two)).symm
                      subst e_18
                      refine lv_bipush (v := (-2)) hx hb dL_isObstacle_253 (by decide) ?_
                      refine lv_icmp_ne (tgt := 262) hx hb dL_isObstacle_255 (by decide) (fun c_255 => ?_) (fun c_255 => ?_)
                      · skip
                        exact absurd (by decide) c_255
                      · skip
                        refine lv_iconst (v := 1) hx hb dL_isObstacle_258 (by decide) ?_
                        refine lv_goto (tgt := 263) hx hb dL_isObstacle_259 (by decide) ?_
                        refine lv_istore (lv' := [(7, .int 1), (0, .ref (A 0)), (1, .ref qa), (2, .int (nI s0)), (3, .int (nI t0)), (4, .int (nI (dd s0 t0))), (5, .int (nI b)), (6, .int ((clT (f 18) f (M8 f) s0 t0) b))]) hx hb dL_isObstacle_263 hl (by decide) rfl (fun ls hl => ?_)
                        refine lv_iload hx hb dL_isObstacle_265 (lv_at hl 0 rfl) ?_
                        refine lv_if_eq (tgt := 307) hx hb dL_isObstacle_267 (by decide) (fun c_267 => ?_) (fun c_267 => ?_)
                        · skip
                          exact absurd c_267 (by decide)
                        · skip
                          refine lv_aload_n hx hb dL_isObstacle_270 rfl (lv_at hl 1 rfl) ?_
                          refine lv_iload_n hx hb dL_isObstacle_271 rfl (lv_at hl 3 rfl) ?_
                          refine lv_iload_n hx hb dL_isObstacle_272 rfl (lv_at hl 4 rfl) ?_
                          have hPb : va_P D vwCl ([(qa, .inl (cI, 20, .inl f))] ++ X) _ := hP
                          have hDb : va_D (inW ((qa, .inl (cI, 20, .inl f)) :: X0)) ([(qa, .inl (cI, 20, .inl f))] ++ X) := hD
                          refine ox_calli hPb hDb hX hS (va_runV (As := [.int (nI s0), .int (nI t0)]) (rest := []) ⟨hx, hb, hml, hown, hts⟩ (y_sees l D cI cB cO A n (f 17) (f 18) f (M8 f) (nI s0) (nI t0)) (cwV 2 hts gL_isObstacle_X6_sees rfl rfl rfl (by decide +kernel) ⟨Nat.le_of_ble_eq_true rfl, Nat.le_of_ble_eq_true rfl⟩) (ox_pre hK hPb hDb hX hN) rfl rfl hl.1 rfl (lv_room (Nat.le_of_ble_eq_true rfl)) dL_isObstacle_273 ⟨Nat.le_refl _, Nat.le_refl _⟩) (fun X H locs hX hP hD hS => ?_)
                          have hP : va_P D vwCl ((qa, .inl (cI, 20, .inl f)) :: X) _ := hP
                          have hD : va_D (inW ((qa, .inl (cI, 20, .inl f)) :: X0)) ((qa, .inl (cI, 20, .inl f)) :: X) := hD
                          refine lv_topi (fun y_19 e_20 => ?_)
                          have e_20 : bI (seesB f (f 18) s0 (tp f (M8 f) s0) t0 (tp f (M8 f) t0)) = y_19 := (e_20.trans (se_nI hn hs ht)).symm
                          subst e_20
                          refine lv_iconst (v := 1) hx hb dL_isObstacle_276 (by decide) ?_
                          refine lv_icmp_ne (tgt := 284) hx hb dL_isObstacle_277 (by decide) (fun c_277 => ?_) (fun c_277 => ?_)
                          · skip
                            have hse : decide (¬ (clT (f 18) f (M8 f) s0 t0) b < 0) = false := (ob_seesB hb1 hb2 hb3).symm.trans (bI_1 c_277)
                            refine lv_iconst (v := 0) hx hb dL_isObstacle_284 (by decide) ?_
                            refine lv_iload hx hb dL_isObstacle_285 (lv_at hl 6 rfl) ?_
                            refine lv_if_lt (tgt := 295) hx hb dL_isObstacle_287 (by decide) (fun c_287 => ?_) (fun c_287 => ?_)
                            · skip
                              exact absurd c_287 (nI_pos (by omega))
                            · skip
                              refine lv_iload hx hb dL_isObstacle_290 (lv_at hl 7 rfl) ?_
                              refine lv_if_lt (tgt := 299) hx hb dL_isObstacle_292 (by decide) (fun c_292 => ?_) (fun c_292 => ?_)
                              · skip
                                refine lv_iconst (v := 0) hx hb dL_isObstacle_299 (by decide) ?_
                                refine lv_icmp_ne (tgt := 307) hx hb dL_isObstacle_300 (by decide) (fun c_300 => ?_) (fun c_300 => ?_)
                                · skip
                                  exact absurd (by decide) c_300
                                · skip
                                  refine lv_iconst (v := 1) hx hb dL_isObstacle_303 (by decide) ?_
                                  refine lv_goto (tgt := 308) hx hb dL_isObstacle_304 (by decide) ?_
                                  exact W.zret (v := 1) hx hb hr (rfl) (fun tS htS hWS => ⟨⟨1, X, rfl, ⟨rfl, hX⟩, retP htS hP⟩, hS.F htS⟩) hS.2.2 dL_isObstacle_308
                              · skip
                                exact absurd c_292 (of_decide_eq_false hse)
                          · skip
                            have hse : decide (¬ (clT (f 18) f (M8 f) s0 t0) b < 0) = true := (ob_seesB hb1 hb2 hb3).symm.trans (bI_11 c_277)
                            refine lv_iconst (v := 1) hx hb dL_isObstacle_280 (by decide) ?_
                            refine lv_goto (tgt := 285) hx hb dL_isObstacle_281 (by decide) ?_
                            refine lv_iload hx hb dL_isObstacle_285 (lv_at hl 6 rfl) ?_
                            refine lv_if_lt (tgt := 295) hx hb dL_isObstacle_287 (by decide) (fun c_287 => ?_) (fun c_287 => ?_)
                            · skip
                              exact absurd c_287 (nI_pos (by omega))
                            · skip
                              refine lv_iload hx hb dL_isObstacle_290 (lv_at hl 7 rfl) ?_
                              refine lv_if_lt (tgt := 299) hx hb dL_isObstacle_292 (by decide) (fun c_292 => ?_) (fun c_292 => ?_)
                              · skip
                                exact absurd c_292 (of_decide_eq_true hse)
                              · skip
                                refine lv_iconst (v := 1) hx hb dL_isObstacle_295 (by decide) ?_
                                refine lv_goto (tgt := 300) hx hb dL_isObstacle_296 (by decide) ?_
                                refine lv_icmp_ne (tgt := 307) hx hb dL_isObstacle_300 (by decide) (fun c_300 => ?_) (fun c_300 => ?_)
                                · skip
                                  exact absurd (by decide) c_300
                                · skip
                                  refine lv_iconst (v := 1) hx hb dL_isObstacle_303 (by decide) ?_
                                  refine lv_goto (tgt := 308) hx hb dL_isObstacle_304 (by decide) ?_
                                  exact W.zret (v := 1) hx hb hr (rfl) (fun tS htS hWS => ⟨⟨1, X, rfl, ⟨rfl, hX⟩, retP htS hP⟩, hS.F htS⟩) hS.2.2 dL_isObstacle_308
                  · skip
                    exact absurd (nI_le (a := 0) (Nat.zero_le b) (by omega)) c_234
            · skip
              exact absurd (by decide) c_55
          | succ k =>
            have hz : z = nI k := hz.trans (FZ_s k)
            subst hz
            refine lv_if_lt (tgt := 213) hx hb dL_isObstacle_55 (by decide) (fun c_55 => ?_) (fun c_55 => ?_)
            · skip
              exact absurd c_55 (nI_pos (by omega))
            · skip
              refine W_join (pc2 := 87) (st2 := []) (bI (decide (min s0 t0 < k ∧ k < max s0 t0))) ?_ (fun J_87 => ?_)
              · skip
                refine lv_istore (lv' := [(8, .int (bI (decide (min s0 t0 < k ∧ k < max s0 t0)))), (0, .ref (A 0)), (1, .ref qa), (2, .int (nI s0)), (3, .int (nI t0)), (4, .int (nI (dd s0 t0))), (5, .int w), (6, .int l0), (7, .int (nI k))]) hx hb dL_isObstacle_87 hl (by decide) rfl (fun ls hl => ?_)
                refine W_join (pc2 := 106) (st2 := []) (nI (dd s0 k)) ?_ (fun J_106 => ?_)
                · skip
                  refine lv_istore (lv' := [(9, .int (nI (dd s0 k))), (8, .int (bI (decide (min s0 t0 < k ∧ k < max s0 t0)))), (0, .ref (A 0)), (1, .ref qa), (2, .int (nI s0)), (3, .int (nI t0)), (4, .int (nI (dd s0 t0))), (5, .int w), (6, .int l0), (7, .int (nI k))]) hx hb dL_isObstacle_106 hl (by decide) rfl (fun ls hl => ?_)
                  refine lv_iload hx hb dL_isObstacle_108 (lv_at hl 6 rfl) ?_
                  refine lv_aload_n hx hb dL_isObstacle_110 rfl (lv_at hl 3 rfl) ?_
                  refine lv_iload_n hx hb dL_isObstacle_111 rfl (lv_at hl 4 rfl) ?_
                  refine rd_calli hP hS (va_runS (As := [.ref qa, .int (nI s0)]) (rest := [.int (nI (dd s0 t0))]) ⟨hx, hb, hml, hown, hts⟩ (c_L_top l D cI cB cO qa f s0 (by omega)) (va_cwS 2 hts gL_isObstacle_L_top rfl rfl rfl (by decide +kernel) ⟨Nat.le_of_ble_eq_true rfl, Nat.le_of_ble_eq_true rfl⟩) (rd_preS hK (hP.pick [0] rfl) hN) rfl rfl hl.1 rfl (lv_room (Nat.le_of_ble_eq_true rfl)) dL_isObstacle_112 ⟨Nat.le_refl _, Nat.le_refl _⟩) (fun r_112 H locs h_112 hP hS => ?_)
                  subst h_112
                  refine lv_imul hx hb dL_isObstacle_115 ?_
                  refine lv_aload_n hx hb dL_isObstacle_116 rfl (lv_at hl 3 rfl) ?_
                  refine lv_iload_n hx hb dL_isObstacle_117 rfl (lv_at hl 5 rfl) ?_
                  refine rd_calli hP hS (va_runS (As := [.ref qa, .int (nI t0)]) (rest := [.int ((nI (dd s0 t0)) * (tp f (M8 f) s0))]) ⟨hx, hb, hml, hown, hts⟩ (c_L_top l D cI cB cO qa f t0 (by omega)) (va_cwS 2 hts gL_isObstacle_L_top rfl rfl rfl (by decide +kernel) ⟨Nat.le_of_ble_eq_true rfl, Nat.le_of_ble_eq_true rfl⟩) (rd_preS hK (hP.pick [0] rfl) hN) rfl rfl hl.1 rfl (lv_room (Nat.le_of_ble_eq_true rfl)) dL_isObstacle_118 ⟨Nat.le_refl _, Nat.le_refl _⟩) (fun r_118 H locs h_118 hP hS => ?_)
                  subst h_118
                  refine lv_aload_n hx hb dL_isObstacle_121 rfl (lv_at hl 3 rfl) ?_
                  refine lv_iload_n hx hb dL_isObstacle_122 rfl (lv_at hl 4 rfl) ?_
                  refine rd_calli hP hS (va_runS (As := [.ref qa, .int (nI s0)]) (rest := [.int (tp f (M8 f) t0), .int ((nI (dd s0 t0)) * (tp f (M8 f) s0))]) ⟨hx, hb, hml, hown, hts⟩ (c_L_top l D cI cB cO qa f s0 (by omega)) (va_cwS 2 hts gL_isObstacle_L_top rfl rfl rfl (by decide +kernel) ⟨Nat.le_of_ble_eq_true rfl, Nat.le_of_ble_eq_true rfl⟩) (rd_preS hK (hP.pick [0] rfl) hN) rfl rfl hl.1 rfl (lv_room (Nat.le_of_ble_eq_true rfl)) dL_isObstacle_123 ⟨Nat.le_refl _, Nat.le_refl _⟩) (fun r_123 H locs h_123 hP hS => ?_)
                  subst h_123
                  refine lv_isub hx hb dL_isObstacle_126 ?_
                  refine lv_iload hx hb dL_isObstacle_127 (lv_at hl 0 rfl) ?_
                  refine lv_imul hx hb dL_isObstacle_129 ?_
                  refine lv_iadd hx hb dL_isObstacle_130 ?_
                  refine lv_iload hx hb dL_isObstacle_131 (lv_at hl 6 rfl) ?_
                  refine lv_aload_n hx hb dL_isObstacle_133 rfl (lv_at hl 3 rfl) ?_
                  refine lv_iload hx hb dL_isObstacle_134 (lv_at hl 9 rfl) ?_
                  refine va_iald hx hb hK hP 0 0 rfl rfl (i := nI k) (vp_in_nI (N := 20) (by omega) (by decide)) dL_isObstacle_136 ?_
                  rw [nI_clamp (n := k) (by omega)]
                  refine lv_aload_n hx hb dL_isObstacle_137 rfl (lv_at hl 3 rfl) ?_
                  refine lv_bipush (v := 18) hx hb dL_isObstacle_138 (by decide) ?_
                  refine va_iald hx hb hK hP 0 0 rfl rfl (i := nI 18) (vp_in_nI (N := 20) (by decide) (by decide)) dL_isObstacle_140 ?_
                  rw [nI_clamp (n := 18) (by decide)]
                  refine lv_iload hx hb dL_isObstacle_141 (lv_at hl 0 rfl) ?_
                  refine lv_imul hx hb dL_isObstacle_143 ?_
                  refine lv_iload hx hb dL_isObstacle_144 (lv_at hl 6 rfl) ?_
                  refine lv_iload hx hb dL_isObstacle_146 (lv_at hl 0 rfl) ?_
                  refine lv_isub hx hb dL_isObstacle_148 ?_
                  refine lv_imul hx hb dL_isObstacle_149 ?_
                  refine lv_iadd hx hb dL_isObstacle_150 ?_
                  refine lv_imul hx hb dL_isObstacle_151 ?_
                  refine lv_isub hx hb dL_isObstacle_152 ?_
                  refine lv_topi (fun its hits => ?_)
                  refine lv_istore (lv' := [(10, .int its), (9, .int (nI (dd s0 k))), (8, .int (bI (decide (min s0 t0 < k ∧ k < max s0 t0)))), (0, .ref (A 0)), (1, .ref qa), (2, .int (nI s0)), (3, .int (nI t0)), (4, .int (nI (dd s0 t0))), (5, .int w), (6, .int l0), (7, .int (nI k))]) hx hb dL_isObstacle_153 hl (by decide) rfl (fun ls hl => ?_)
                  rcases hI with ⟨ew, el, hA⟩ | ⟨b, ew, el, hb1, hb2, hb3, hb4⟩
                  · subst ew el
                    refine lv_iload hx hb dL_isObstacle_155 (lv_at hl 2 rfl) ?_
                    refine lv_if_eq (tgt := 176) hx hb dL_isObstacle_157 (by decide) (fun c_157 => ?_) (fun c_157 => ?_)
                    · skip
                      have hbt : ¬ (min s0 t0 < k ∧ k < max s0 t0) := of_decide_eq_false (bI_e0 c_157)
                      refine lv_iconst (v := 0) hx hb dL_isObstacle_176 (by decide) ?_
                      refine lv_istore (lv' := [(11, .int 0), (10, .int its), (9, .int (nI (dd s0 k))), (8, .int (bI (decide (min s0 t0 < k ∧ k < max s0 t0)))), (0, .ref (A 0)), (1, .ref qa), (2, .int (nI s0)), (3, .int (nI t0)), (4, .int (nI (dd s0 t0))), (5, .int (-1)), (6, .int 0), (7, .int (nI k))]) hx hb dL_isObstacle_177 hl (by decide) rfl (fun ls hl => ?_)
                      refine lv_iload hx hb dL_isObstacle_179 (lv_at hl 0 rfl) ?_
                      refine lv_if_eq (tgt := 189) hx hb dL_isObstacle_181 (by decide) (fun c_181 => ?_) (fun c_181 => ?_)
                      · skip
                        refine lv_iload hx hb dL_isObstacle_189 (lv_at hl 9 rfl) ?_
                        refine lv_istore (lv' := [(5, .int (-1)), (11, .int 0), (10, .int its), (9, .int (nI (dd s0 k))), (8, .int (bI (decide (min s0 t0 < k ∧ k < max s0 t0)))), (0, .ref (A 0)), (1, .ref qa), (2, .int (nI s0)), (3, .int (nI t0)), (4, .int (nI (dd s0 t0))), (6, .int 0), (7, .int (nI k))]) hx hb dL_isObstacle_191 hl (by decide) rfl (fun ls hl => ?_)
                        refine lv_iload hx hb dL_isObstacle_193 (lv_at hl 1 rfl) ?_
                        refine lv_if_eq (tgt := 203) hx hb dL_isObstacle_195 (by decide) (fun c_195 => ?_) (fun c_195 => ?_)
                        · skip
                          refine lv_iload hx hb dL_isObstacle_203 (lv_at hl 10 rfl) ?_
                          refine lv_istore (lv' := [(6, .int 0), (5, .int (-1)), (11, .int 0), (10, .int its), (9, .int (nI (dd s0 k))), (8, .int (bI (decide (min s0 t0 < k ∧ k < max s0 t0)))), (0, .ref (A 0)), (1, .ref qa), (2, .int (nI s0)), (3, .int (nI t0)), (4, .int (nI (dd s0 t0))), (7, .int (nI k))]) hx hb dL_isObstacle_205 hl (by decide) rfl (fun ls hl => ?_)
                          refine lv_iinc (v := (nI k) + (-1)) (lv' := [(7, .int ((nI k) + (-1))), (6, .int 0), (5, .int (-1)), (11, .int 0), (10, .int its), (9, .int (nI (dd s0 k))), (8, .int (bI (decide (min s0 t0 < k ∧ k < max s0 t0)))), (0, .ref (A 0)), (1, .ref qa), (2, .int (nI s0)), (3, .int (nI t0)), (4, .int (nI (dd s0 t0)))]) hx hb dL_isObstacle_207 hl (k := 11) rfl (rfl) (by decide) rfl (fun ls hl => ?_)
                          refine lv_goto (tgt := 53) hx hb dL_isObstacle_210 (by decide) ?_
                          exact ih_53 k ((nI k) + (-1)) (-1) 0 X (by omega) (by omega) (fz_dec k) (hX) (ob_out (Or.inl ⟨rfl, rfl, hA⟩) hbt) _ _ hP hD hS ls (lv_sub hl [7, 8, 9, 10, 11, 2, 1, 0] rfl)
                        · skip
                          exact absurd (by decide) c_195
                      · skip
                        exact absurd (by decide) c_181
                    · skip
                      have hbt : min s0 t0 < k ∧ k < max s0 t0 := of_decide_eq_true (bI_n0 c_157)
                      refine lv_iload hx hb dL_isObstacle_160 (lv_at hl 8 rfl) ?_
                      refine lv_if_lt (tgt := 172) hx hb dL_isObstacle_162 (by decide) (fun c_162 => ?_) (fun c_162 => ?_)
                      · skip
                        refine lv_iconst (v := 1) hx hb dL_isObstacle_172 (by decide) ?_
                        refine lv_goto (tgt := 177) hx hb dL_isObstacle_173 (by decide) ?_
                        refine lv_istore (lv' := [(11, .int 1), (10, .int its), (9, .int (nI (dd s0 k))), (8, .int (bI (decide (min s0 t0 < k ∧ k < max s0 t0)))), (0, .ref (A 0)), (1, .ref qa), (2, .int (nI s0)), (3, .int (nI t0)), (4, .int (nI (dd s0 t0))), (5, .int (-1)), (6, .int 0), (7, .int (nI k))]) hx hb dL_isObstacle_177 hl (by decide) rfl (fun ls hl => ?_)
                        refine lv_iload hx hb dL_isObstacle_179 (lv_at hl 0 rfl) ?_
                        refine lv_if_eq (tgt := 189) hx hb dL_isObstacle_181 (by decide) (fun c_181 => ?_) (fun c_181 => ?_)
                        · skip
                          exact absurd c_181 (by decide)
                        · skip
                          refine lv_iload hx hb dL_isObstacle_184 (lv_at hl 11 rfl) ?_
                          refine lv_goto (tgt := 191) hx hb dL_isObstacle_186 (by decide) ?_
                          refine lv_istore (lv' := [(5, .int (nI k)), (11, .int 1), (10, .int its), (9, .int (nI (dd s0 k))), (8, .int (bI (decide (min s0 t0 < k ∧ k < max s0 t0)))), (0, .ref (A 0)), (1, .ref qa), (2, .int (nI s0)), (3, .int (nI t0)), (4, .int (nI (dd s0 t0))), (6, .int 0), (7, .int (nI k))]) hx hb dL_isObstacle_191 hl (by decide) rfl (fun ls hl => ?_)
                          refine lv_iload hx hb dL_isObstacle_193 (lv_at hl 1 rfl) ?_
                          refine lv_if_eq (tgt := 203) hx hb dL_isObstacle_195 (by decide) (fun c_195 => ?_) (fun c_195 => ?_)
                          · skip
                            exact absurd c_195 (by decide)
                          · skip
                            refine lv_iload hx hb dL_isObstacle_198 (lv_at hl 2 rfl) ?_
                            refine lv_goto (tgt := 205) hx hb dL_isObstacle_200 (by decide) ?_
                            refine lv_istore (lv' := [(6, .int its), (5, .int (nI k)), (11, .int 1), (10, .int its), (9, .int (nI (dd s0 k))), (8, .int (bI (decide (min s0 t0 < k ∧ k < max s0 t0)))), (0, .ref (A 0)), (1, .ref qa), (2, .int (nI s0)), (3, .int (nI t0)), (4, .int (nI (dd s0 t0))), (7, .int (nI k))]) hx hb dL_isObstacle_205 hl (by decide) rfl (fun ls hl => ?_)
                            refine lv_iinc (v := (nI k) + (-1)) (lv' := [(7, .int ((nI k) + (-1))), (6, .int its), (5, .int (nI k)), (11, .int 1), (10, .int its), (9, .int (nI (dd s0 k))), (8, .int (bI (decide (min s0 t0 < k ∧ k < max s0 t0)))), (0, .ref (A 0)), (1, .ref qa), (2, .int (nI s0)), (3, .int (nI t0)), (4, .int (nI (dd s0 t0)))]) hx hb dL_isObstacle_207 hl (k := 11) rfl (rfl) (by decide) rfl (fun ls hl => ?_)
                            refine lv_goto (tgt := 53) hx hb dL_isObstacle_210 (by decide) ?_
                            exact ih_53 k ((nI k) + (-1)) (nI k) its X (by omega) (by omega) (fz_dec k) (hX) (by rw [hits.trans (lw_its hR hs ht hbt)]; exact ob_new1 hA hbt) _ _ hP hD hS ls (lv_sub hl [7, 8, 9, 10, 11, 2, 1, 0] rfl)
                      · skip
                        exact absurd (by decide) c_162
                  · subst ew el
                    refine lv_iload hx hb dL_isObstacle_155 (lv_at hl 2 rfl) ?_
                    refine lv_if_eq (tgt := 176) hx hb dL_isObstacle_157 (by decide) (fun c_157 => ?_) (fun c_157 => ?_)
                    · skip
                      have hbt : ¬ (min s0 t0 < k ∧ k < max s0 t0) := of_decide_eq_false (bI_e0 c_157)
                      refine lv_iconst (v := 0) hx hb dL_isObstacle_176 (by decide) ?_
                      refine lv_istore (lv' := [(11, .int 0), (10, .int its), (9, .int (nI (dd s0 k))), (8, .int (bI (decide (min s0 t0 < k ∧ k < max s0 t0)))), (0, .ref (A 0)), (1, .ref qa), (2, .int (nI s0)), (3, .int (nI t0)), (4, .int (nI (dd s0 t0))), (5, .int (nI b)), (6, .int ((clT (f 18) f (M8 f) s0 t0) b)), (7, .int (nI k))]) hx hb dL_isObstacle_177 hl (by decide) rfl (fun ls hl => ?_)
                      refine lv_iload hx hb dL_isObstacle_179 (lv_at hl 0 rfl) ?_
                      refine lv_if_eq (tgt := 189) hx hb dL_isObstacle_181 (by decide) (fun c_181 => ?_) (fun c_181 => ?_)
                      · skip
                        refine lv_iload hx hb dL_isObstacle_189 (lv_at hl 9 rfl) ?_
                        refine lv_istore (lv' := [(5, .int (nI b)), (11, .int 0), (10, .int its), (9, .int (nI (dd s0 k))), (8, .int (bI (decide (min s0 t0 < k ∧ k < max s0 t0)))), (0, .ref (A 0)), (1, .ref qa), (2, .int (nI s0)), (3, .int (nI t0)), (4, .int (nI (dd s0 t0))), (6, .int ((clT (f 18) f (M8 f) s0 t0) b)), (7, .int (nI k))]) hx hb dL_isObstacle_191 hl (by decide) rfl (fun ls hl => ?_)
                        refine lv_iload hx hb dL_isObstacle_193 (lv_at hl 1 rfl) ?_
                        refine lv_if_eq (tgt := 203) hx hb dL_isObstacle_195 (by decide) (fun c_195 => ?_) (fun c_195 => ?_)
                        · skip
                          refine lv_iload hx hb dL_isObstacle_203 (lv_at hl 10 rfl) ?_
                          refine lv_istore (lv' := [(6, .int ((clT (f 18) f (M8 f) s0 t0) b)), (5, .int (nI b)), (11, .int 0), (10, .int its), (9, .int (nI (dd s0 k))), (8, .int (bI (decide (min s0 t0 < k ∧ k < max s0 t0)))), (0, .ref (A 0)), (1, .ref qa), (2, .int (nI s0)), (3, .int (nI t0)), (4, .int (nI (dd s0 t0))), (7, .int (nI k))]) hx hb dL_isObstacle_205 hl (by decide) rfl (fun ls hl => ?_)
                          refine lv_iinc (v := (nI k) + (-1)) (lv' := [(7, .int ((nI k) + (-1))), (6, .int ((clT (f 18) f (M8 f) s0 t0) b)), (5, .int (nI b)), (11, .int 0), (10, .int its), (9, .int (nI (dd s0 k))), (8, .int (bI (decide (min s0 t0 < k ∧ k < max s0 t0)))), (0, .ref (A 0)), (1, .ref qa), (2, .int (nI s0)), (3, .int (nI t0)), (4, .int (nI (dd s0 t0)))]) hx hb dL_isObstacle_207 hl (k := 11) rfl (rfl) (by decide) rfl (fun ls hl => ?_)
                          refine lv_goto (tgt := 53) hx hb dL_isObstacle_210 (by decide) ?_
                          exact ih_53 k ((nI k) + (-1)) (nI b) ((clT (f 18) f (M8 f) s0 t0) b) X (by omega) (by omega) (fz_dec k) (hX) (ob_out (Or.inr ⟨b, rfl, rfl, hb1, hb2, hb3, hb4⟩) hbt) _ _ hP hD hS ls (lv_sub hl [7, 8, 9, 10, 11, 2, 1, 0] rfl)
                        · skip
                          exact absurd (by decide) c_195
                      · skip
                        exact absurd (by decide) c_181
                    · skip
                      have hbt : min s0 t0 < k ∧ k < max s0 t0 := of_decide_eq_true (bI_n0 c_157)
                      refine lv_iload hx hb dL_isObstacle_160 (lv_at hl 8 rfl) ?_
                      refine lv_if_lt (tgt := 172) hx hb dL_isObstacle_162 (by decide) (fun c_162 => ?_) (fun c_162 => ?_)
                      · skip
                        exact absurd c_162 (nI_pos (by omega))
                      · skip
                        refine lv_iload hx hb dL_isObstacle_165 (lv_at hl 0 rfl) ?_
                        refine lv_iload hx hb dL_isObstacle_167 (lv_at hl 9 rfl) ?_
                        refine lv_icmp_gt (tgt := 176) hx hb dL_isObstacle_169 (by decide) (fun c_169 => ?_) (fun c_169 => ?_)
                        · skip
                          refine lv_iconst (v := 0) hx hb dL_isObstacle_176 (by decide) ?_
                          refine lv_istore (lv' := [(11, .int 0), (10, .int its), (9, .int (nI (dd s0 k))), (8, .int (bI (decide (min s0 t0 < k ∧ k < max s0 t0)))), (0, .ref (A 0)), (1, .ref qa), (2, .int (nI s0)), (3, .int (nI t0)), (4, .int (nI (dd s0 t0))), (5, .int (nI b)), (6, .int ((clT (f 18) f (M8 f) s0 t0) b)), (7, .int (nI k))]) hx hb dL_isObstacle_177 hl (by decide) rfl (fun ls hl => ?_)
                          refine lv_iload hx hb dL_isObstacle_179 (lv_at hl 0 rfl) ?_
                          refine lv_if_eq (tgt := 189) hx hb dL_isObstacle_181 (by decide) (fun c_181 => ?_) (fun c_181 => ?_)
                          · skip
                            refine lv_iload hx hb dL_isObstacle_189 (lv_at hl 9 rfl) ?_
                            refine lv_istore (lv' := [(5, .int (nI b)), (11, .int 0), (10, .int its), (9, .int (nI (dd s0 k))), (8, .int (bI (decide (min s0 t0 < k ∧ k < max s0 t0)))), (0, .ref (A 0)), (1, .ref qa), (2, .int (nI s0)), (3, .int (nI t0)), (4, .int (nI (dd s0 t0))), (6, .int ((clT (f 18) f (M8 f) s0 t0) b)), (7, .int (nI k))]) hx hb dL_isObstacle_191 hl (by decide) rfl (fun ls hl => ?_)
                            refine lv_iload hx hb dL_isObstacle_193 (lv_at hl 1 rfl) ?_
                            refine lv_if_eq (tgt := 203) hx hb dL_isObstacle_195 (by decide) (fun c_195 => ?_) (fun c_195 => ?_)
                            · skip
                              refine lv_iload hx hb dL_isObstacle_203 (lv_at hl 10 rfl) ?_
                              refine lv_istore (lv' := [(6, .int ((clT (f 18) f (M8 f) s0 t0) b)), (5, .int (nI b)), (11, .int 0), (10, .int its), (9, .int (nI (dd s0 k))), (8, .int (bI (decide (min s0 t0 < k ∧ k < max s0 t0)))), (0, .ref (A 0)), (1, .ref qa), (2, .int (nI s0)), (3, .int (nI t0)), (4, .int (nI (dd s0 t0))), (7, .int (nI k))]) hx hb dL_isObstacle_205 hl (by decide) rfl (fun ls hl => ?_)
                              refine lv_iinc (v := (nI k) + (-1)) (lv' := [(7, .int ((nI k) + (-1))), (6, .int ((clT (f 18) f (M8 f) s0 t0) b)), (5, .int (nI b)), (11, .int 0), (10, .int its), (9, .int (nI (dd s0 k))), (8, .int (bI (decide (min s0 t0 < k ∧ k < max s0 t0)))), (0, .ref (A 0)), (1, .ref qa), (2, .int (nI s0)), (3, .int (nI t0)), (4, .int (nI (dd s0 t0)))]) hx hb dL_isObstacle_207 hl (k := 11) rfl (rfl) (by decide) rfl (fun ls hl => ?_)
                              refine lv_goto (tgt := 53) hx hb dL_isObstacle_210 (by decide) ?_
                              exact ih_53 k ((nI k) + (-1)) (nI b) ((clT (f 18) f (M8 f) s0 t0) b) X (by omega) (by omega) (fz_dec k) (hX) (ob_old hb1 hb2 hb3 hb4 (by rw [← hits.trans (lw_its hR hs ht hbt)]; exact c_169)) _ _ hP hD hS ls (lv_sub hl [7, 8, 9, 10, 11, 2, 1, 0] rfl)
                            · skip
                              exact absurd (by decide) c_195
                          · skip
                            exact absurd (by decide) c_181
                        · skip
                          refine lv_iconst (v := 1) hx hb dL_isObstacle_172 (by decide) ?_
                          refine lv_goto (tgt := 177) hx hb dL_isObstacle_173 (by decide) ?_
                          refine lv_istore (lv' := [(11, .int 1), (10, .int its), (9, .int (nI (dd s0 k))), (8, .int (bI (decide (min s0 t0 < k ∧ k < max s0 t0)))), (0, .ref (A 0)), (1, .ref qa), (2, .int (nI s0)), (3, .int (nI t0)), (4, .int (nI (dd s0 t0))), (5, .int (nI b)), (6, .int ((clT (f 18) f (M8 f) s0 t0) b)), (7, .int (nI k))]) hx hb dL_isObstacle_177 hl (by decide) rfl (fun ls hl => ?_)
                          refine lv_iload hx hb dL_isObstacle_179 (lv_at hl 0 rfl) ?_
                          refine lv_if_eq (tgt := 189) hx hb dL_isObstacle_181 (by decide) (fun c_181 => ?_) (fun c_181 => ?_)
                          · skip
                            exact absurd c_181 (by decide)
                          · skip
                            refine lv_iload hx hb dL_isObstacle_184 (lv_at hl 11 rfl) ?_
                            refine lv_goto (tgt := 191) hx hb dL_isObstacle_186 (by decide) ?_
                            refine lv_istore (lv' := [(5, .int (nI k)), (11, .int 1), (10, .int its), (9, .int (nI (dd s0 k))), (8, .int (bI (decide (min s0 t0 < k ∧ k < max s0 t0)))), (0, .ref (A 0)), (1, .ref qa), (2, .int (nI s0)), (3, .int (nI t0)), (4, .int (nI (dd s0 t0))), (6, .int ((clT (f 18) f (M8 f) s0 t0) b)), (7, .int (nI k))]) hx hb dL_isObstacle_191 hl (by decide) rfl (fun ls hl => ?_)
                            refine lv_iload hx hb dL_isObstacle_193 (lv_at hl 1 rfl) ?_
                            refine lv_if_eq (tgt := 203) hx hb dL_isObstacle_195 (by decide) (fun c_195 => ?_) (fun c_195 => ?_)
                            · skip
                              exact absurd c_195 (by decide)
                            · skip
                              refine lv_iload hx hb dL_isObstacle_198 (lv_at hl 2 rfl) ?_
                              refine lv_goto (tgt := 205) hx hb dL_isObstacle_200 (by decide) ?_
                              refine lv_istore (lv' := [(6, .int its), (5, .int (nI k)), (11, .int 1), (10, .int its), (9, .int (nI (dd s0 k))), (8, .int (bI (decide (min s0 t0 < k ∧ k < max s0 t0)))), (0, .ref (A 0)), (1, .ref qa), (2, .int (nI s0)), (3, .int (nI t0)), (4, .int (nI (dd s0 t0))), (7, .int (nI k))]) hx hb dL_isObstacle_205 hl (by decide) rfl (fun ls hl => ?_)
                              refine lv_iinc (v := (nI k) + (-1)) (lv' := [(7, .int ((nI k) + (-1))), (6, .int its), (5, .int (nI k)), (11, .int 1), (10, .int its), (9, .int (nI (dd s0 k))), (8, .int (bI (decide (min s0 t0 < k ∧ k < max s0 t0)))), (0, .ref (A 0)), (1, .ref qa), (2, .int (nI s0)), (3, .int (nI t0)), (4, .int (nI (dd s0 t0)))]) hx hb dL_isObstacle_207 hl (k := 11) rfl (rfl) (by decide) rfl (fun ls hl => ?_)
                              refine lv_goto (tgt := 53) hx hb dL_isObstacle_210 (by decide) ?_
                              exact ih_53 k ((nI k) + (-1)) (nI k) its X (by omega) (by omega) (fz_dec k) (hX) (by rw [hits.trans (lw_its hR hs ht hbt)]; exact ob_new2 hb3 hbt (by rw [← hits.trans (lw_its hR hs ht hbt)]; exact c_169)) _ _ hP hD hS ls (lv_sub hl [7, 8, 9, 10, 11, 2, 1, 0] rfl)
                · skip
                  refine lv_iload_n hx hb dL_isObstacle_89 rfl (lv_at hl 3 rfl) ?_
                  refine lv_iload hx hb dL_isObstacle_90 (lv_at hl 8 rfl) ?_
                  refine lv_icmp_ge (tgt := 102) hx hb dL_isObstacle_92 (by decide) (fun c_92 => ?_) (fun c_92 => ?_)
                  · skip
                    have g92 : k ≤ s0 := ge_t (by omega) c_92
                    refine lv_iload_n hx hb dL_isObstacle_102 rfl (lv_at hl 3 rfl) ?_
                    refine lv_iload hx hb dL_isObstacle_103 (lv_at hl 8 rfl) ?_
                    refine lv_isub hx hb dL_isObstacle_105 ?_
                    exact J_106 _ (pk_sub3 g92)
                  · skip
                    have g92 : s0 < k := ge_f (by omega) c_92
                    refine lv_iload hx hb dL_isObstacle_95 (lv_at hl 8 rfl) ?_
                    refine lv_iload_n hx hb dL_isObstacle_97 rfl (lv_at hl 3 rfl) ?_
                    refine lv_isub hx hb dL_isObstacle_98 ?_
                    refine lv_goto (tgt := 106) hx hb dL_isObstacle_99 (by decide) ?_
                    exact J_106 _ (pk_sub2 g92)
              · skip
                refine lv_iload hx hb dL_isObstacle_58 (lv_at hl 7 rfl) ?_
                refine lv_iload_n hx hb dL_isObstacle_60 rfl (lv_at hl 2 rfl) ?_
                refine lv_icmp_le (tgt := 70) hx hb dL_isObstacle_61 (by decide) (fun c_61 => ?_) (fun c_61 => ?_)
                · skip
                  have g61 : k ≤ s0 := (nI_leI (by omega) (by omega)).mp c_61
                  refine lv_iload hx hb dL_isObstacle_70 (lv_at hl 7 rfl) ?_
                  refine lv_iload_n hx hb dL_isObstacle_72 rfl (lv_at hl 3 rfl) ?_
                  refine lv_icmp_le (tgt := 86) hx hb dL_isObstacle_73 (by decide) (fun c_73 => ?_) (fun c_73 => ?_)
                  · skip
                    have g73 : k ≤ t0 := (nI_leI (by omega) (by omega)).mp c_73
                    refine lv_iconst (v := 0) hx hb dL_isObstacle_86 (by decide) ?_
                    exact J_87 _ (by first | exact bI_t (decide_eq_true (by omega)) | exact bI_f (decide_eq_false (by omega)) | fail)
                  · skip
                    have g73 : ¬ k ≤ t0 := fun h => c_73 (nI_le h (by omega))
                    refine lv_iload hx hb dL_isObstacle_76 (lv_at hl 7 rfl) ?_
                    refine lv_iload_n hx hb dL_isObstacle_78 rfl (lv_at hl 2 rfl) ?_
                    refine lv_icmp_ge (tgt := 86) hx hb dL_isObstacle_79 (by decide) (fun c_79 => ?_) (fun c_79 => ?_)
                    · skip
                      have g79 : s0 ≤ k := (nI_leI (by omega) (by omega)).mp c_79
                      refine lv_iconst (v := 0) hx hb dL_isObstacle_86 (by decide) ?_
                      exact J_87 _ (by first | exact bI_t (decide_eq_true (by omega)) | exact bI_f (decide_eq_false (by omega)) | fail)
                    · skip
                      have g79 : ¬ s0 ≤ k := fun h => c_79 (nI_le h (by omega))
                      refine lv_iconst (v := 1) hx hb dL_isObstacle_82 (by decide) ?_
                      refine lv_goto (tgt := 87) hx hb dL_isObstacle_83 (by decide) ?_
                      exact J_87 _ (by first | exact bI_t (decide_eq_true (by omega)) | exact bI_f (decide_eq_false (by omega)) | fail)
                · skip
                  have g61 : ¬ k ≤ s0 := fun h => c_61 (nI_le h (by omega))
                  refine lv_iload hx hb dL_isObstacle_64 (lv_at hl 7 rfl) ?_
                  refine lv_iload_n hx hb dL_isObstacle_66 rfl (lv_at hl 3 rfl) ?_
                  refine lv_icmp_lt (tgt := 82) hx hb dL_isObstacle_67 (by decide) (fun c_67 => ?_) (fun c_67 => ?_)
                  · skip
                    have g67 : k < t0 := (nI_ltI (by omega) (by omega)).mp c_67
                    refine lv_iconst (v := 1) hx hb dL_isObstacle_82 (by decide) ?_
                    refine lv_goto (tgt := 87) hx hb dL_isObstacle_83 (by decide) ?_
                    exact J_87 _ (by first | exact bI_t (decide_eq_true (by omega)) | exact bI_f (decide_eq_false (by omega)) | fail)
                  · skip
                    have g67 : ¬ k < t0 := fun h => c_67 (nI_lt h (by omega))
                    refine lv_iload hx hb dL_isObstacle_70 (lv_at hl 7 rfl) ?_
                    refine lv_iload_n hx hb dL_isObstacle_72 rfl (lv_at hl 3 rfl) ?_
                    refine lv_icmp_le (tgt := 86) hx hb dL_isObstacle_73 (by decide) (fun c_73 => ?_) (fun c_73 => ?_)
                    · skip
                      have g73 : k ≤ t0 := (nI_leI (by omega) (by omega)).mp c_73
                      refine lv_iconst (v := 0) hx hb dL_isObstacle_86 (by decide) ?_
                      exact J_87 _ (by first | exact bI_t (decide_eq_true (by omega)) | exact bI_f (decide_eq_false (by omega)) | fail)
                    · skip
                      have g73 : ¬ k ≤ t0 := fun h => c_73 (nI_le h (by omega))
                      refine lv_iload hx hb dL_isObstacle_76 (lv_at hl 7 rfl) ?_
                      refine lv_iload_n hx hb dL_isObstacle_78 rfl (lv_at hl 2 rfl) ?_
                      refine lv_icmp_ge (tgt := 86) hx hb dL_isObstacle_79 (by decide) (fun c_79 => ?_) (fun c_79 => ?_)
                      · skip
                        have g79 : s0 ≤ k := (nI_leI (by omega) (by omega)).mp c_79
                        refine lv_iconst (v := 0) hx hb dL_isObstacle_86 (by decide) ?_
                        exact J_87 _ (by first | exact bI_t (decide_eq_true (by omega)) | exact bI_f (decide_eq_false (by omega)) | fail)
                      · skip
                        have g79 : ¬ s0 ≤ k := fun h => c_79 (nI_le h (by omega))
                        refine lv_iconst (v := 1) hx hb dL_isObstacle_82 (by decide) ?_
                        refine lv_goto (tgt := 87) hx hb dL_isObstacle_83 (by decide) ?_
                        exact J_87 _ (by first | exact bI_t (decide_eq_true (by omega)) | exact bI_f (decide_eq_false (by omega)) | fail)
      exact L_53 _ n ((nI n) - 1) (-1) 0 X (Nat.lt_succ_self _) (Nat.le_refl n) (rfl) (hX) (Or.inl ⟨rfl, rfl, fun j h1 h2 => by omega⟩) _ _ hP hD hS ls (lv_sub hl [4, 5, 6, 7, 3, 2, 1, 0] rfl)
    · skip
      have g25 : s0 < t0 := ge_f (by omega) c_25
      refine lv_iload_n hx hb dL_isObstacle_28 rfl (lv_at hl 3 rfl) ?_
      refine lv_iload_n hx hb dL_isObstacle_29 rfl (lv_at hl 2 rfl) ?_
      refine lv_isub hx hb dL_isObstacle_30 ?_
      refine lv_topi (fun y_21 e_22 => ?_)
      have e_22 : nI (dd s0 t0) = y_21 := (e_22.trans (pk_sub2 g25)).symm
      subst e_22
      refine lv_goto (tgt := 37) hx hb dL_isObstacle_31 (by decide) ?_
      refine lv_istore (lv' := [(4, .int (nI (dd s0 t0))), (0, .ref (A 0)), (1, .ref qa), (2, .int (nI s0)), (3, .int (nI t0))]) hx hb dL_isObstacle_37 hl (by decide) rfl (fun ls hl => ?_)
      refine lv_iconst (v := (-1)) hx hb dL_isObstacle_39 (by decide) ?_
      refine lv_istore (lv' := [(5, .int (-1)), (4, .int (nI (dd s0 t0))), (0, .ref (A 0)), (1, .ref qa), (2, .int (nI s0)), (3, .int (nI t0))]) hx hb dL_isObstacle_40 hl (by decide) rfl (fun ls hl => ?_)
      refine lv_iconst (v := 0) hx hb dL_isObstacle_42 (by decide) ?_
      refine lv_istore (lv' := [(6, .int 0), (5, .int (-1)), (4, .int (nI (dd s0 t0))), (0, .ref (A 0)), (1, .ref qa), (2, .int (nI s0)), (3, .int (nI t0))]) hx hb dL_isObstacle_43 hl (by decide) rfl (fun ls hl => ?_)
      refine lv_aload_n hx hb dL_isObstacle_45 rfl (lv_at hl 4 rfl) ?_
      refine lv_bipush (v := 16) hx hb dL_isObstacle_46 (by decide) ?_
      refine va_iald hx hb hK hP 0 0 rfl rfl (i := nI 16) (vp_in_nI (N := 20) (by decide) (by decide)) dL_isObstacle_48 ?_
      rw [nI_clamp (n := 16) (by decide)]
      refine lv_topi (fun y_23 e_24 => ?_)
      have e_24 : nI n = y_23 := (e_24.trans (h16)).symm
      subst e_24
      refine lv_iconst (v := 1) hx hb dL_isObstacle_49 (by decide) ?_
      refine lv_isub hx hb dL_isObstacle_50 ?_
      refine lv_istore (lv' := [(7, .int ((nI n) - 1)), (6, .int 0), (5, .int (-1)), (4, .int (nI (dd s0 t0))), (0, .ref (A 0)), (1, .ref qa), (2, .int (nI s0)), (3, .int (nI t0))]) hx hb dL_isObstacle_51 hl (by decide) rfl (fun ls hl => ?_)
      have L_53 : ∀ (k_53 : Nat) (q : Nat) (z : Int32) (w : Int32) (l0 : Int32) (X : va_W), q < k_53 → (q ≤ n) → (z = FZ q) → (SRX cI cB cO A X n (f 17) (f 18) f (M8 f)) → (obI (clT (f 18) f (M8 f) s0 t0) (min s0 t0) (max s0 t0) q w l0) → ∀ (H : Heap) (locs : List Loc), va_P D vwCl ((qa, .inl (cI, 20, .inl f)) :: X) H → va_D (inW ((qa, .inl (cI, 20, .inl f)) :: X0)) ((qa, .inl (cI, 20, .inl f)) :: X) → va_S (inW ((qa, .inl (cI, 20, .inl f)) :: X0)) s.heap H locs → ∀ (ls : Array Slot), lv_has ls 12 [(0, .ref (A 0)), (1, .ref qa), (2, .int (nI s0)), (3, .int (nI t0)), (4, .int (nI (dd s0 t0))), (5, .int w), (6, .int l0), (7, .int z)] → W p l e (rmD 7) s m ([.ref (A 0), .ref qa, .int (nI s0), .int (nI t0)] : List Value).toArray below meth c H locs 0 0 (MQ below (wrQi D ((qa, .inl (cI, 20, .inl f)) :: X0) (fun (r : Int32) (u : va_W) => r = 1 ∧ SRX cI cB cO A u n (f 17) (f 18) f (M8 f)) (fun (u : va_W) => ((qa, .inl (cI, 20, .inl f)) :: u))) ([.ref (A 0), .ref qa, .int (nI s0), .int (nI t0)] : List Value).toArray s 0 0 (inW ((qa, .inl (cI, 20, .inl f)) :: X0))) (F0 m 53 ls []) := by
        intro k_53
        induction k_53 with
        | zero => intro q z w l0 X h9; exact absurd h9 (Nat.not_lt_zero _)
        | succ k_53 ih_53 =>
          intro q z w l0 X hm_53 hq hz hX hI H locs hP hD hS ls hl
          refine lv_iload hx hb dL_isObstacle_53 (lv_at hl 7 rfl) ?_
          cases q with
          | zero =>
            have hz : z = -1 := hz
            subst hz
            refine lv_if_lt (tgt := 213) hx hb dL_isObstacle_55 (by decide) (fun c_55 => ?_) (fun c_55 => ?_)
            · skip
              rcases hI with ⟨ew, el, hA⟩ | ⟨b, ew, el, hb1, hb2, hb3, hb4⟩
              · subst ew el
                have hob : obT (f 18) f (M8 f) s0 t0 = (-1, 0) := ob_end (by omega) (Or.inl ⟨rfl, rfl, hA⟩)
                refine lv_aload_n hx hb dL_isObstacle_213 rfl (lv_at hl 0 rfl) ?_
                refine lv_iload_n hx hb dL_isObstacle_214 rfl (lv_at hl 2 rfl) ?_
                refine lv_iload_n hx hb dL_isObstacle_215 rfl (lv_at hl 3 rfl) ?_
                refine lv_iconst (v := 0) hx hb dL_isObstacle_216 (by decide) ?_
                have hPb : va_P D vwCl ([(qa, .inl (cI, 20, .inl f))] ++ X) _ := hP
                have hDb : va_D (inW ((qa, .inl (cI, 20, .inl f)) :: X0)) ([(qa, .inl (cI, 20, .inl f))] ++ X) := hD
                refine ox_calli hPb hDb hX hS (va_runV (As := [.int (nI s0), .int (nI t0), .int 0]) (rest := []) ⟨hx, hb, hml, hown, hts⟩ (y_obstacle l D cI cB cO A n (f 17) (f 18) f (M8 f) (nI s0) (nI t0) 0) (cwV 3 hts gL_isObstacle_X6_obstacle rfl rfl rfl (by decide +kernel) ⟨Nat.le_of_ble_eq_true rfl, Nat.le_of_ble_eq_true rfl⟩) (ox_pre hK hPb hDb hX hN) rfl rfl hl.1 rfl (lv_room (Nat.le_of_ble_eq_true rfl)) dL_isObstacle_217 ⟨Nat.le_refl _, Nat.le_refl _⟩) (fun X H locs hX hP hD hS => ?_)
                have hP : va_P D vwCl ((qa, .inl (cI, 20, .inl f)) :: X) _ := hP
                have hD : va_D (inW ((qa, .inl (cI, 20, .inl f)) :: X0)) ((qa, .inl (cI, 20, .inl f)) :: X) := hD
                refine lv_topi (fun y_25 e_26 => ?_)
                have e_26 : -1 = y_25 := (e_26.trans (ob_0 hn hs ht hst hob)).symm
                subst e_26
                refine lv_iload hx hb dL_isObstacle_220 (lv_at hl 5 rfl) ?_
                refine lv_icmp_ne (tgt := 262) hx hb dL_isObstacle_222 (by decide) (fun c_222 => ?_) (fun c_222 => ?_)
                · skip
                  exact absurd (by decide) c_222
                · skip
                  refine lv_aload_n hx hb dL_isObstacle_225 rfl (lv_at hl 0 rfl) ?_
                  refine lv_iload_n hx hb dL_isObstacle_226 rfl (lv_at hl 2 rfl) ?_
                  refine lv_iload_n hx hb dL_isObstacle_227 rfl (lv_at hl 3 rfl) ?_
                  refine lv_iconst (v := 1) hx hb dL_isObstacle_228 (by decide) ?_
                  have hPb : va_P D vwCl ([(qa, .inl (cI, 20, .inl f))] ++ X) _ := hP
                  have hDb : va_D (inW ((qa, .inl (cI, 20, .inl f)) :: X0)) ([(qa, .inl (cI, 20, .inl f))] ++ X) := hD
                  refine ox_calli hPb hDb hX hS (va_runV (As := [.int (nI s0), .int (nI t0), .int 1]) (rest := []) ⟨hx, hb, hml, hown, hts⟩ (y_obstacle l D cI cB cO A n (f 17) (f 18) f (M8 f) (nI s0) (nI t0) 1) (cwV 3 hts gL_isObstacle_X6_obstacle rfl rfl rfl (by decide +kernel) ⟨Nat.le_of_ble_eq_true rfl, Nat.le_of_ble_eq_true rfl⟩) (ox_pre hK hPb hDb hX hN) rfl rfl hl.1 rfl (lv_room (Nat.le_of_ble_eq_true rfl)) dL_isObstacle_229 ⟨Nat.le_refl _, Nat.le_refl _⟩) (fun X H locs hX hP hD hS => ?_)
                  have hP : va_P D vwCl ((qa, .inl (cI, 20, .inl f)) :: X) _ := hP
                  have hD : va_D (inW ((qa, .inl (cI, 20, .inl f)) :: X0)) ((qa, .inl (cI, 20, .inl f)) :: X) := hD
                  refine lv_topi (fun y_27 e_28 => ?_)
                  have e_28 : -1 = y_27 := (e_28.trans (ob_1n hn hs ht hst hob)).symm
                  subst e_28
                  refine lv_iload hx hb dL_isObstacle_232 (lv_at hl 5 rfl) ?_
                  refine lv_if_ge (tgt := 241) hx hb dL_isObstacle_234 (by decide) (fun c_234 => ?_) (fun c_234 => ?_)
                  · skip
                    exact absurd c_234 (by decide)
                  · skip
                    refine lv_iconst (v := (-1)) hx hb dL_isObstacle_237 (by decide) ?_
                    refine lv_goto (tgt := 243) hx hb dL_isObstacle_238 (by decide) ?_
                    refine lv_icmp_ne (tgt := 262) hx hb dL_isObstacle_243 (by decide) (fun c_243 => ?_) (fun c_243 => ?_)
                    · skip
                      exact absurd (by decide) c_243
                    · skip
                      refine lv_aload_n hx hb dL_isObstacle_246 rfl (lv_at hl 0 rfl) ?_
                      refine lv_iload_n hx hb dL_isObstacle_247 rfl (lv_at hl 2 rfl) ?_
                      refine lv_iload_n hx hb dL_isObstacle_248 rfl (lv_at hl 3 rfl) ?_
                      refine lv_iconst (v := 2) hx hb dL_isObstacle_249 (by decide) ?_
                      have hPb : va_P D vwCl ([(qa, .inl (cI, 20, .inl f))] ++ X) _ := hP
                      have hDb : va_D (inW ((qa, .inl (cI, 20, .inl f)) :: X0)) ([(qa, .inl (cI, 20, .inl f))] ++ X) := hD
                      refine ox_calli hPb hDb hX hS (va_runV (As := [.int (nI s0), .int (nI t0), .int 2]) (rest := []) ⟨hx, hb, hml, hown, hts⟩ (y_obstacle l D cI cB cO A n (f 17) (f 18) f (M8 f) (nI s0) (nI t0) 2) (cwV 3 hts gL_isObstacle_X6_obstacle rfl rfl rfl (by decide +kernel) ⟨Nat.le_of_ble_eq_true rfl, Nat.le_of_ble_eq_true rfl⟩) (ox_pre hK hPb hDb hX hN) rfl rfl hl.1 rfl (lv_room (Nat.le_of_ble_eq_true rfl)) dL_isObstacle_250 ⟨Nat.le_refl _, Nat.le_refl _⟩) (fun X H locs hX hP hD hS => ?_)
                      have hP : va_P D vwCl ((qa, .inl (cI, 20, .inl f)) :: X) _ := hP
                      have hD : va_D (inW ((qa, .inl (cI, 20, .inl f)) :: X0)) ((qa, .inl (cI, 20, .inl f)) :: X) := hD
                      refine lv_topi (fun y_29 e_30 => ?_)
                      have e_30 : -2 = y_29 := (e_30.trans (ob_two)).symm
                      subst e_30
                      refine lv_bipush (v := (-2)) hx hb dL_isObstacle_253 (by decide) ?_
                      refine lv_icmp_ne (tgt := 262) hx hb dL_isObstacle_255 (by decide) (fun c_255 => ?_) (fun c_255 => ?_)
                      · skip
                        exact absurd (by decide) c_255
                      · skip
                        refine lv_iconst (v := 1) hx hb dL_isObstacle_258 (by decide) ?_
                        refine lv_goto (tgt := 263) hx hb dL_isObstacle_259 (by decide) ?_
                        refine lv_istore (lv' := [(7, .int 1), (0, .ref (A 0)), (1, .ref qa), (2, .int (nI s0)), (3, .int (nI t0)), (4, .int (nI (dd s0 t0))), (5, .int (-1)), (6, .int 0)]) hx hb dL_isObstacle_263 hl (by decide) rfl (fun ls hl => ?_)
                        refine lv_iload hx hb dL_isObstacle_265 (lv_at hl 0 rfl) ?_
                        refine lv_if_eq (tgt := 307) hx hb dL_isObstacle_267 (by decide) (fun c_267 => ?_) (fun c_267 => ?_)
                        · skip
                          exact absurd c_267 (by decide)
                        · skip
                          refine lv_aload_n hx hb dL_isObstacle_270 rfl (lv_at hl 1 rfl) ?_
                          refine lv_iload_n hx hb dL_isObstacle_271 rfl (lv_at hl 3 rfl) ?_
                          refine lv_iload_n hx hb dL_isObstacle_272 rfl (lv_at hl 4 rfl) ?_
                          have hPb : va_P D vwCl ([(qa, .inl (cI, 20, .inl f))] ++ X) _ := hP
                          have hDb : va_D (inW ((qa, .inl (cI, 20, .inl f)) :: X0)) ([(qa, .inl (cI, 20, .inl f))] ++ X) := hD
                          refine ox_calli hPb hDb hX hS (va_runV (As := [.int (nI s0), .int (nI t0)]) (rest := []) ⟨hx, hb, hml, hown, hts⟩ (y_sees l D cI cB cO A n (f 17) (f 18) f (M8 f) (nI s0) (nI t0)) (cwV 2 hts gL_isObstacle_X6_sees rfl rfl rfl (by decide +kernel) ⟨Nat.le_of_ble_eq_true rfl, Nat.le_of_ble_eq_true rfl⟩) (ox_pre hK hPb hDb hX hN) rfl rfl hl.1 rfl (lv_room (Nat.le_of_ble_eq_true rfl)) dL_isObstacle_273 ⟨Nat.le_refl _, Nat.le_refl _⟩) (fun X H locs hX hP hD hS => ?_)
                          have hP : va_P D vwCl ((qa, .inl (cI, 20, .inl f)) :: X) _ := hP
                          have hD : va_D (inW ((qa, .inl (cI, 20, .inl f)) :: X0)) ((qa, .inl (cI, 20, .inl f)) :: X) := hD
                          refine lv_topi (fun y_31 e_32 => ?_)
                          have e_32 : bI (seesB f (f 18) s0 (tp f (M8 f) s0) t0 (tp f (M8 f) t0)) = y_31 := (e_32.trans (se_nI hn hs ht)).symm
                          subst e_32
                          refine lv_iconst (v := 1) hx hb dL_isObstacle_276 (by decide) ?_
                          refine lv_icmp_ne (tgt := 284) hx hb dL_isObstacle_277 (by decide) (fun c_277 => ?_) (fun c_277 => ?_)
                          · skip
                            exact absurd (congrArg bI (ob_seesA hA)) c_277
                          · skip
                            refine lv_iconst (v := 1) hx hb dL_isObstacle_280 (by decide) ?_
                            refine lv_goto (tgt := 285) hx hb dL_isObstacle_281 (by decide) ?_
                            refine lv_iload hx hb dL_isObstacle_285 (lv_at hl 6 rfl) ?_
                            refine lv_if_lt (tgt := 295) hx hb dL_isObstacle_287 (by decide) (fun c_287 => ?_) (fun c_287 => ?_)
                            · skip
                              refine lv_iconst (v := 1) hx hb dL_isObstacle_295 (by decide) ?_
                              refine lv_goto (tgt := 300) hx hb dL_isObstacle_296 (by decide) ?_
                              refine lv_icmp_ne (tgt := 307) hx hb dL_isObstacle_300 (by decide) (fun c_300 => ?_) (fun c_300 => ?_)
                              · skip
                                exact absurd (by decide) c_300
                              · skip
                                refine lv_iconst (v := 1) hx hb dL_isObstacle_303 (by decide) ?_
                                refine lv_goto (tgt := 308) hx hb dL_isObstacle_304 (by decide) ?_
                                exact W.zret (v := 1) hx hb hr (rfl) (fun tS htS hWS => ⟨⟨1, X, rfl, ⟨rfl, hX⟩, retP htS hP⟩, hS.F htS⟩) hS.2.2 dL_isObstacle_308
                            · skip
                              exact absurd (by decide) c_287
              · subst ew el
                have hob : obT (f 18) f (M8 f) s0 t0 = (nI b, (clT (f 18) f (M8 f) s0 t0) b) := ob_end (by omega) (Or.inr ⟨b, rfl, rfl, hb1, hb2, hb3, hb4⟩)
                refine lv_aload_n hx hb dL_isObstacle_213 rfl (lv_at hl 0 rfl) ?_
                refine lv_iload_n hx hb dL_isObstacle_214 rfl (lv_at hl 2 rfl) ?_
                refine lv_iload_n hx hb dL_isObstacle_215 rfl (lv_at hl 3 rfl) ?_
                refine lv_iconst (v := 0) hx hb dL_isObstacle_216 (by decide) ?_
                have hPb : va_P D vwCl ([(qa, .inl (cI, 20, .inl f))] ++ X) _ := hP
                have hDb : va_D (inW ((qa, .inl (cI, 20, .inl f)) :: X0)) ([(qa, .inl (cI, 20, .inl f))] ++ X) := hD
                refine ox_calli hPb hDb hX hS (va_runV (As := [.int (nI s0), .int (nI t0), .int 0]) (rest := []) ⟨hx, hb, hml, hown, hts⟩ (y_obstacle l D cI cB cO A n (f 17) (f 18) f (M8 f) (nI s0) (nI t0) 0) (cwV 3 hts gL_isObstacle_X6_obstacle rfl rfl rfl (by decide +kernel) ⟨Nat.le_of_ble_eq_true rfl, Nat.le_of_ble_eq_true rfl⟩) (ox_pre hK hPb hDb hX hN) rfl rfl hl.1 rfl (lv_room (Nat.le_of_ble_eq_true rfl)) dL_isObstacle_217 ⟨Nat.le_refl _, Nat.le_refl _⟩) (fun X H locs hX hP hD hS => ?_)
                have hP : va_P D vwCl ((qa, .inl (cI, 20, .inl f)) :: X) _ := hP
                have hD : va_D (inW ((qa, .inl (cI, 20, .inl f)) :: X0)) ((qa, .inl (cI, 20, .inl f)) :: X) := hD
                refine lv_topi (fun y_33 e_34 => ?_)
                have e_34 : nI b = y_33 := (e_34.trans (ob_0 hn hs ht hst hob)).symm
                subst e_34
                refine lv_iload hx hb dL_isObstacle_220 (lv_at hl 5 rfl) ?_
                refine lv_icmp_ne (tgt := 262) hx hb dL_isObstacle_222 (by decide) (fun c_222 => ?_) (fun c_222 => ?_)
                · skip
                  exact absurd (rfl) c_222
                · skip
                  refine lv_aload_n hx hb dL_isObstacle_225 rfl (lv_at hl 0 rfl) ?_
                  refine lv_iload_n hx hb dL_isObstacle_226 rfl (lv_at hl 2 rfl) ?_
                  refine lv_iload_n hx hb dL_isObstacle_227 rfl (lv_at hl 3 rfl) ?_
                  refine lv_iconst (v := 1) hx hb dL_isObstacle_228 (by decide) ?_
                  have hPb : va_P D vwCl ([(qa, .inl (cI, 20, .inl f))] ++ X) _ := hP
                  have hDb : va_D (inW ((qa, .inl (cI, 20, .inl f)) :: X0)) ([(qa, .inl (cI, 20, .inl f))] ++ X) := hD
                  refine ox_calli hPb hDb hX hS (va_runV (As := [.int (nI s0), .int (nI t0), .int 1]) (rest := []) ⟨hx, hb, hml, hown, hts⟩ (y_obstacle l D cI cB cO A n (f 17) (f 18) f (M8 f) (nI s0) (nI t0) 1) (cwV 3 hts gL_isObstacle_X6_obstacle rfl rfl rfl (by decide +kernel) ⟨Nat.le_of_ble_eq_true rfl, Nat.le_of_ble_eq_true rfl⟩) (ox_pre hK hPb hDb hX hN) rfl rfl hl.1 rfl (lv_room (Nat.le_of_ble_eq_true rfl)) dL_isObstacle_229 ⟨Nat.le_refl _, Nat.le_refl _⟩) (fun X H locs hX hP hD hS => ?_)
                  have hP : va_P D vwCl ((qa, .inl (cI, 20, .inl f)) :: X) _ := hP
                  have hD : va_D (inW ((qa, .inl (cI, 20, .inl f)) :: X0)) ((qa, .inl (cI, 20, .inl f)) :: X) := hD
                  refine lv_topi (fun y_35 e_36 => ?_)
                  have e_36 : (clT (f 18) f (M8 f) s0 t0) b = y_35 := (e_36.trans (ob_1 hn hs ht hst hob (nI_m1 (by omega)))).symm
                  subst e_36
                  refine lv_iload hx hb dL_isObstacle_232 (lv_at hl 5 rfl) ?_
                  refine lv_if_ge (tgt := 241) hx hb dL_isObstacle_234 (by decide) (fun c_234 => ?_) (fun c_234 => ?_)
                  · skip
                    refine lv_iload hx hb dL_isObstacle_241 (lv_at hl 6 rfl) ?_
                    refine lv_icmp_ne (tgt := 262) hx hb dL_isObstacle_243 (by decide) (fun c_243 => ?_) (fun c_243 => ?_)
                    · skip
                      exact absurd rfl c_243
                    · skip
                      refine lv_aload_n hx hb dL_isObstacle_246 rfl (lv_at hl 0 rfl) ?_
                      refine lv_iload_n hx hb dL_isObstacle_247 rfl (lv_at hl 2 rfl) ?_
                      refine lv_iload_n hx hb dL_isObstacle_248 rfl (lv_at hl 3 rfl) ?_
                      refine lv_iconst (v := 2) hx hb dL_isObstacle_249 (by decide) ?_
                      have hPb : va_P D vwCl ([(qa, .inl (cI, 20, .inl f))] ++ X) _ := hP
                      have hDb : va_D (inW ((qa, .inl (cI, 20, .inl f)) :: X0)) ([(qa, .inl (cI, 20, .inl f))] ++ X) := hD
                      refine ox_calli hPb hDb hX hS (va_runV (As := [.int (nI s0), .int (nI t0), .int 2]) (rest := []) ⟨hx, hb, hml, hown, hts⟩ (y_obstacle l D cI cB cO A n (f 17) (f 18) f (M8 f) (nI s0) (nI t0) 2) (cwV 3 hts gL_isObstacle_X6_obstacle rfl rfl rfl (by decide +kernel) ⟨Nat.le_of_ble_eq_true rfl, Nat.le_of_ble_eq_true rfl⟩) (ox_pre hK hPb hDb hX hN) rfl rfl hl.1 rfl (lv_room (Nat.le_of_ble_eq_true rfl)) dL_isObstacle_250 ⟨Nat.le_refl _, Nat.le_refl _⟩) (fun X H locs hX hP hD hS => ?_)
                      have hP : va_P D vwCl ((qa, .inl (cI, 20, .inl f)) :: X) _ := hP
                      have hD : va_D (inW ((qa, .inl (cI, 20, .inl f)) :: X0)) ((qa, .inl (cI, 20, .inl f)) :: X) := hD
                      refine lv_topi (fun y_37 e_38 => ?_)
                      have e_38 : -2 = y_37 := (e_38.trans (ob_two)).symm
                      subst e_38
                      refine lv_bipush (v := (-2)) hx hb dL_isObstacle_253 (by decide) ?_
                      refine lv_icmp_ne (tgt := 262) hx hb dL_isObstacle_255 (by decide) (fun c_255 => ?_) (fun c_255 => ?_)
                      · skip
                        exact absurd (by decide) c_255
                      · skip
                        refine lv_iconst (v := 1) hx hb dL_isObstacle_258 (by decide) ?_
                        refine lv_goto (tgt := 263) hx hb dL_isObstacle_259 (by decide) ?_
                        refine lv_istore (lv' := [(7, .int 1), (0, .ref (A 0)), (1, .ref qa), (2, .int (nI s0)), (3, .int (nI t0)), (4, .int (nI (dd s0 t0))), (5, .int (nI b)), (6, .int ((clT (f 18) f (M8 f) s0 t0) b))]) hx hb dL_isObstacle_263 hl (by decide) rfl (fun ls hl => ?_)
                        refine lv_iload hx hb dL_isObstacle_265 (lv_at hl 0 rfl) ?_
                        refine lv_if_eq (tgt := 307) hx hb dL_isObstacle_267 (by decide) (fun c_267 => ?_) (fun c_267 => ?_)
                        · skip
                          exact absurd c_267 (by decide)
                        · skip
                          refine lv_aload_n hx hb dL_isObstacle_270 rfl (lv_at hl 1 rfl) ?_
                          refine lv_iload_n hx hb dL_isObstacle_271 rfl (lv_at hl 3 rfl) ?_
                          refine lv_iload_n hx hb dL_isObstacle_272 rfl (lv_at hl 4 rfl) ?_
                          have hPb : va_P D vwCl ([(qa, .inl (cI, 20, .inl f))] ++ X) _ := hP
                          have hDb : va_D (inW ((qa, .inl (cI, 20, .inl f)) :: X0)) ([(qa, .inl (cI, 20, .inl f))] ++ X) := hD
                          refine ox_calli hPb hDb hX hS (va_runV (As := [.int (nI s0), .int (nI t0)]) (rest := []) ⟨hx, hb, hml, hown, hts⟩ (y_sees l D cI cB cO A n (f 17) (f 18) f (M8 f) (nI s0) (nI t0)) (cwV 2 hts gL_isObstacle_X6_sees rfl rfl rfl (by decide +kernel) ⟨Nat.le_of_ble_eq_true rfl, Nat.le_of_ble_eq_true rfl⟩) (ox_pre hK hPb hDb hX hN) rfl rfl hl.1 rfl (lv_room (Nat.le_of_ble_eq_true rfl)) dL_isObstacle_273 ⟨Nat.le_refl _, Nat.le_refl _⟩) (fun X H locs hX hP hD hS => ?_)
                          have hP : va_P D vwCl ((qa, .inl (cI, 20, .inl f)) :: X) _ := hP
                          have hD : va_D (inW ((qa, .inl (cI, 20, .inl f)) :: X0)) ((qa, .inl (cI, 20, .inl f)) :: X) := hD
                          refine lv_topi (fun y_39 e_40 => ?_)
                          have e_40 : bI (seesB f (f 18) s0 (tp f (M8 f) s0) t0 (tp f (M8 f) t0)) = y_39 := (e_40.trans (se_nI hn hs ht)).symm
                          subst e_40
                          refine lv_iconst (v := 1) hx hb dL_isObstacle_276 (by decide) ?_
                          refine lv_icmp_ne (tgt := 284) hx hb dL_isObstacle_277 (by decide) (fun c_277 => ?_) (fun c_277 => ?_)
                          · skip
                            have hse : decide (¬ (clT (f 18) f (M8 f) s0 t0) b < 0) = false := (ob_seesB hb1 hb2 hb3).symm.trans (bI_1 c_277)
                            refine lv_iconst (v := 0) hx hb dL_isObstacle_284 (by decide) ?_
                            refine lv_iload hx hb dL_isObstacle_285 (lv_at hl 6 rfl) ?_
                            refine lv_if_lt (tgt := 295) hx hb dL_isObstacle_287 (by decide) (fun c_287 => ?_) (fun c_287 => ?_)
                            · skip
                              exact absurd c_287 (nI_pos (by omega))
                            · skip
                              refine lv_iload hx hb dL_isObstacle_290 (lv_at hl 7 rfl) ?_
                              refine lv_if_lt (tgt := 299) hx hb dL_isObstacle_292 (by decide) (fun c_292 => ?_) (fun c_292 => ?_)
                              · skip
                                refine lv_iconst (v := 0) hx hb dL_isObstacle_299 (by decide) ?_
                                refine lv_icmp_ne (tgt := 307) hx hb dL_isObstacle_300 (by decide) (fun c_300 => ?_) (fun c_300 => ?_)
                                · skip
                                  exact absurd (by decide) c_300
                                · skip
                                  refine lv_iconst (v := 1) hx hb dL_isObstacle_303 (by decide) ?_
                                  refine lv_goto (tgt := 308) hx hb dL_isObstacle_304 (by decide) ?_
                                  exact W.zret (v := 1) hx hb hr (rfl) (fun tS htS hWS => ⟨⟨1, X, rfl, ⟨rfl, hX⟩, retP htS hP⟩, hS.F htS⟩) hS.2.2 dL_isObstacle_308
                              · skip
                                exact absurd c_292 (of_decide_eq_false hse)
                          · skip
                            have hse : decide (¬ (clT (f 18) f (M8 f) s0 t0) b < 0) = true := (ob_seesB hb1 hb2 hb3).symm.trans (bI_11 c_277)
                            refine lv_iconst (v := 1) hx hb dL_isObstacle_280 (by decide) ?_
                            refine lv_goto (tgt := 285) hx hb dL_isObstacle_281 (by decide) ?_
                            refine lv_iload hx hb dL_isObstacle_285 (lv_at hl 6 rfl) ?_
                            refine lv_if_lt (tgt := 295) hx hb dL_isObstacle_287 (by decide) (fun c_287 => ?_) (fun c_287 => ?_)
                            · skip
                              exact absurd c_287 (nI_pos (by omega))
                            · skip
                              refine lv_iload hx hb dL_isObstacle_290 (lv_at hl 7 rfl) ?_
                              refine lv_if_lt (tgt := 299) hx hb dL_isObstacle_292 (by decide) (fun c_292 => ?_) (fun c_292 => ?_)
                              · skip
                                exact absurd c_292 (of_decide_eq_true hse)
                              · skip
                                refine lv_iconst (v := 1) hx hb dL_isObstacle_295 (by decide) ?_
                                refine lv_goto (tgt := 300) hx hb dL_isObstacle_296 (by decide) ?_
                                refine lv_icmp_ne (tgt := 307) hx hb dL_isObstacle_300 (by decide) (fun c_300 => ?_) (fun c_300 => ?_)
                                · skip
                                  exact absurd (by decide) c_300
                                · skip
                                  refine lv_iconst (v := 1) hx hb dL_isObstacle_303 (by decide) ?_
                                  refine lv_goto (tgt := 308) hx hb dL_isObstacle_304 (by decide) ?_
                                  exact W.zret (v := 1) hx hb hr (rfl) (fun tS htS hWS => ⟨⟨1, X, rfl, ⟨rfl, hX⟩, retP htS hP⟩, hS.F htS⟩) hS.2.2 dL_isObstacle_308
                  · skip
                    exact absurd (nI_le (a := 0) (Nat.zero_le b) (by omega)) c_234
            · skip
              exact absurd (by decide) c_55
          | succ k =>
            have hz : z = nI k := hz.trans (FZ_s k)
            subst hz
            refine lv_if_lt (tgt := 213) hx hb dL_isObstacle_55 (by decide) (fun c_55 => ?_) (fun c_55 => ?_)
            · skip
              exact absurd c_55 (nI_pos (by omega))
            · skip
              refine W_join (pc2 := 87) (st2 := []) (bI (decide (min s0 t0 < k ∧ k < max s0 t0))) ?_ (fun J_87 => ?_)
              · skip
                refine lv_istore (lv' := [(8, .int (bI (decide (min s0 t0 < k ∧ k < max s0 t0)))), (0, .ref (A 0)), (1, .ref qa), (2, .int (nI s0)), (3, .int (nI t0)), (4, .int (nI (dd s0 t0))), (5, .int w), (6, .int l0), (7, .int (nI k))]) hx hb dL_isObstacle_87 hl (by decide) rfl (fun ls hl => ?_)
                refine W_join (pc2 := 106) (st2 := []) (nI (dd s0 k)) ?_ (fun J_106 => ?_)
                · skip
                  refine lv_istore (lv' := [(9, .int (nI (dd s0 k))), (8, .int (bI (decide (min s0 t0 < k ∧ k < max s0 t0)))), (0, .ref (A 0)), (1, .ref qa), (2, .int (nI s0)), (3, .int (nI t0)), (4, .int (nI (dd s0 t0))), (5, .int w), (6, .int l0), (7, .int (nI k))]) hx hb dL_isObstacle_106 hl (by decide) rfl (fun ls hl => ?_)
                  refine lv_iload hx hb dL_isObstacle_108 (lv_at hl 6 rfl) ?_
                  refine lv_aload_n hx hb dL_isObstacle_110 rfl (lv_at hl 3 rfl) ?_
                  refine lv_iload_n hx hb dL_isObstacle_111 rfl (lv_at hl 4 rfl) ?_
                  refine rd_calli hP hS (va_runS (As := [.ref qa, .int (nI s0)]) (rest := [.int (nI (dd s0 t0))]) ⟨hx, hb, hml, hown, hts⟩ (c_L_top l D cI cB cO qa f s0 (by omega)) (va_cwS 2 hts gL_isObstacle_L_top rfl rfl rfl (by decide +kernel) ⟨Nat.le_of_ble_eq_true rfl, Nat.le_of_ble_eq_true rfl⟩) (rd_preS hK (hP.pick [0] rfl) hN) rfl rfl hl.1 rfl (lv_room (Nat.le_of_ble_eq_true rfl)) dL_isObstacle_112 ⟨Nat.le_refl _, Nat.le_refl _⟩) (fun r_112 H locs h_112 hP hS => ?_)
                  subst h_112
                  refine lv_imul hx hb dL_isObstacle_115 ?_
                  refine lv_aload_n hx hb dL_isObstacle_116 rfl (lv_at hl 3 rfl) ?_
                  refine lv_iload_n hx hb dL_isObstacle_117 rfl (lv_at hl 5 rfl) ?_
                  refine rd_calli hP hS (va_runS (As := [.ref qa, .int (nI t0)]) (rest := [.int ((nI (dd s0 t0)) * (tp f (M8 f) s0))]) ⟨hx, hb, hml, hown, hts⟩ (c_L_top l D cI cB cO qa f t0 (by omega)) (va_cwS 2 hts gL_isObstacle_L_top rfl rfl rfl (by decide +kernel) ⟨Nat.le_of_ble_eq_true rfl, Nat.le_of_ble_eq_true rfl⟩) (rd_preS hK (hP.pick [0] rfl) hN) rfl rfl hl.1 rfl (lv_room (Nat.le_of_ble_eq_true rfl)) dL_isObstacle_118 ⟨Nat.le_refl _, Nat.le_refl _⟩) (fun r_118 H locs h_118 hP hS => ?_)
                  subst h_118
                  refine lv_aload_n hx hb dL_isObstacle_121 rfl (lv_at hl 3 rfl) ?_
                  refine lv_iload_n hx hb dL_isObstacle_122 rfl (lv_at hl 4 rfl) ?_
                  refine rd_calli hP hS (va_runS (As := [.ref qa, .int (nI s0)]) (rest := [.int (tp f (M8 f) t0), .int ((nI (dd s0 t0)) * (tp f (M8 f) s0))]) ⟨hx, hb, hml, hown, hts⟩ (c_L_top l D cI cB cO qa f s0 (by omega)) (va_cwS 2 hts gL_isObstacle_L_top rfl rfl rfl (by decide +kernel) ⟨Nat.le_of_ble_eq_true rfl, Nat.le_of_ble_eq_true rfl⟩) (rd_preS hK (hP.pick [0] rfl) hN) rfl rfl hl.1 rfl (lv_room (Nat.le_of_ble_eq_true rfl)) dL_isObstacle_123 ⟨Nat.le_refl _, Nat.le_refl _⟩) (fun r_123 H locs h_123 hP hS => ?_)
                  subst h_123
                  refine lv_isub hx hb dL_isObstacle_126 ?_
                  refine lv_iload hx hb dL_isObstacle_127 (lv_at hl 0 rfl) ?_
                  refine lv_imul hx hb dL_isObstacle_129 ?_
                  refine lv_iadd hx hb dL_isObstacle_130 ?_
                  refine lv_iload hx hb dL_isObstacle_131 (lv_at hl 6 rfl) ?_
                  refine lv_aload_n hx hb dL_isObstacle_133 rfl (lv_at hl 3 rfl) ?_
                  refine lv_iload hx hb dL_isObstacle_134 (lv_at hl 9 rfl) ?_
                  refine va_iald hx hb hK hP 0 0 rfl rfl (i := nI k) (vp_in_nI (N := 20) (by omega) (by decide)) dL_isObstacle_136 ?_
                  rw [nI_clamp (n := k) (by omega)]
                  refine lv_aload_n hx hb dL_isObstacle_137 rfl (lv_at hl 3 rfl) ?_
                  refine lv_bipush (v := 18) hx hb dL_isObstacle_138 (by decide) ?_
                  refine va_iald hx hb hK hP 0 0 rfl rfl (i := nI 18) (vp_in_nI (N := 20) (by decide) (by decide)) dL_isObstacle_140 ?_
                  rw [nI_clamp (n := 18) (by decide)]
                  refine lv_iload hx hb dL_isObstacle_141 (lv_at hl 0 rfl) ?_
                  refine lv_imul hx hb dL_isObstacle_143 ?_
                  refine lv_iload hx hb dL_isObstacle_144 (lv_at hl 6 rfl) ?_
                  refine lv_iload hx hb dL_isObstacle_146 (lv_at hl 0 rfl) ?_
                  refine lv_isub hx hb dL_isObstacle_148 ?_
                  refine lv_imul hx hb dL_isObstacle_149 ?_
                  refine lv_iadd hx hb dL_isObstacle_150 ?_
                  refine lv_imul hx hb dL_isObstacle_151 ?_
                  refine lv_isub hx hb dL_isObstacle_152 ?_
                  refine lv_topi (fun its hits => ?_)
                  refine lv_istore (lv' := [(10, .int its), (9, .int (nI (dd s0 k))), (8, .int (bI (decide (min s0 t0 < k ∧ k < max s0 t0)))), (0, .ref (A 0)), (1, .ref qa), (2, .int (nI s0)), (3, .int (nI t0)), (4, .int (nI (dd s0 t0))), (5, .int w), (6, .int l0), (7, .int (nI k))]) hx hb dL_isObstacle_153 hl (by decide) rfl (fun ls hl => ?_)
                  rcases hI with ⟨ew, el, hA⟩ | ⟨b, ew, el, hb1, hb2, hb3, hb4⟩
                  · subst ew el
                    refine lv_iload hx hb dL_isObstacle_155 (lv_at hl 2 rfl) ?_
                    refine lv_if_eq (tgt := 176) hx hb dL_isObstacle_157 (by decide) (fun c_157 => ?_) (fun c_157 => ?_)
                    · skip
                      have hbt : ¬ (min s0 t0 < k ∧ k < max s0 t0) := of_decide_eq_false (bI_e0 c_157)
                      refine lv_iconst (v := 0) hx hb dL_isObstacle_176 (by decide) ?_
                      refine lv_istore (lv' := [(11, .int 0), (10, .int its), (9, .int (nI (dd s0 k))), (8, .int (bI (decide (min s0 t0 < k ∧ k < max s0 t0)))), (0, .ref (A 0)), (1, .ref qa), (2, .int (nI s0)), (3, .int (nI t0)), (4, .int (nI (dd s0 t0))), (5, .int (-1)), (6, .int 0), (7, .int (nI k))]) hx hb dL_isObstacle_177 hl (by decide) rfl (fun ls hl => ?_)
                      refine lv_iload hx hb dL_isObstacle_179 (lv_at hl 0 rfl) ?_
                      refine lv_if_eq (tgt := 189) hx hb dL_isObstacle_181 (by decide) (fun c_181 => ?_) (fun c_181 => ?_)
                      · skip
                        refine lv_iload hx hb dL_isObstacle_189 (lv_at hl 9 rfl) ?_
                        refine lv_istore (lv' := [(5, .int (-1)), (11, .int 0), (10, .int its), (9, .int (nI (dd s0 k))), (8, .int (bI (decide (min s0 t0 < k ∧ k < max s0 t0)))), (0, .ref (A 0)), (1, .ref qa), (2, .int (nI s0)), (3, .int (nI t0)), (4, .int (nI (dd s0 t0))), (6, .int 0), (7, .int (nI k))]) hx hb dL_isObstacle_191 hl (by decide) rfl (fun ls hl => ?_)
                        refine lv_iload hx hb dL_isObstacle_193 (lv_at hl 1 rfl) ?_
                        refine lv_if_eq (tgt := 203) hx hb dL_isObstacle_195 (by decide) (fun c_195 => ?_) (fun c_195 => ?_)
                        · skip
                          refine lv_iload hx hb dL_isObstacle_203 (lv_at hl 10 rfl) ?_
                          refine lv_istore (lv' := [(6, .int 0), (5, .int (-1)), (11, .int 0), (10, .int its), (9, .int (nI (dd s0 k))), (8, .int (bI (decide (min s0 t0 < k ∧ k < max s0 t0)))), (0, .ref (A 0)), (1, .ref qa), (2, .int (nI s0)), (3, .int (nI t0)), (4, .int (nI (dd s0 t0))), (7, .int (nI k))]) hx hb dL_isObstacle_205 hl (by decide) rfl (fun ls hl => ?_)
                          refine lv_iinc (v := (nI k) + (-1)) (lv' := [(7, .int ((nI k) + (-1))), (6, .int 0), (5, .int (-1)), (11, .int 0), (10, .int its), (9, .int (nI (dd s0 k))), (8, .int (bI (decide (min s0 t0 < k ∧ k < max s0 t0)))), (0, .ref (A 0)), (1, .ref qa), (2, .int (nI s0)), (3, .int (nI t0)), (4, .int (nI (dd s0 t0)))]) hx hb dL_isObstacle_207 hl (k := 11) rfl (rfl) (by decide) rfl (fun ls hl => ?_)
                          refine lv_goto (tgt := 53) hx hb dL_isObstacle_210 (by decide) ?_
                          exact ih_53 k ((nI k) + (-1)) (-1) 0 X (by omega) (by omega) (fz_dec k) (hX) (ob_out (Or.inl ⟨rfl, rfl, hA⟩) hbt) _ _ hP hD hS ls (lv_sub hl [7, 8, 9, 10, 11, 2, 1, 0] rfl)
                        · skip
                          exact absurd (by decide) c_195
                      · skip
                        exact absurd (by decide) c_181
                    · skip
                      have hbt : min s0 t0 < k ∧ k < max s0 t0 := of_decide_eq_true (bI_n0 c_157)
                      refine lv_iload hx hb dL_isObstacle_160 (lv_at hl 8 rfl) ?_
                      refine lv_if_lt (tgt := 172) hx hb dL_isObstacle_162 (by decide) (fun c_162 => ?_) (fun c_162 => ?_)
                      · skip
                        refine lv_iconst (v := 1) hx hb dL_isObstacle_172 (by decide) ?_
                        refine lv_goto (tgt := 177) hx hb dL_isObstacle_173 (by decide) ?_
                        refine lv_istore (lv' := [(11, .int 1), (10, .int its), (9, .int (nI (dd s0 k))), (8, .int (bI (decide (min s0 t0 < k ∧ k < max s0 t0)))), (0, .ref (A 0)), (1, .ref qa), (2, .int (nI s0)), (3, .int (nI t0)), (4, .int (nI (dd s0 t0))), (5, .int (-1)), (6, .int 0), (7, .int (nI k))]) hx hb dL_isObstacle_177 hl (by decide) rfl (fun ls hl => ?_)
                        refine lv_iload hx hb dL_isObstacle_179 (lv_at hl 0 rfl) ?_
                        refine lv_if_eq (tgt := 189) hx hb dL_isObstacle_181 (by decide) (fun c_181 => ?_) (fun c_181 => ?_)
                        · skip
                          exact absurd c_181 (by decide)
                        · skip
                          refine lv_iload hx hb dL_isObstacle_184 (lv_at hl 11 rfl) ?_
                          refine lv_goto (tgt := 191) hx hb dL_isObstacle_186 (by decide) ?_
                          refine lv_istore (lv' := [(5, .int (nI k)), (11, .int 1), (10, .int its), (9, .int (nI (dd s0 k))), (8, .int (bI (decide (min s0 t0 < k ∧ k < max s0 t0)))), (0, .ref (A 0)), (1, .ref qa), (2, .int (nI s0)), (3, .int (nI t0)), (4, .int (nI (dd s0 t0))), (6, .int 0), (7, .int (nI k))]) hx hb dL_isObstacle_191 hl (by decide) rfl (fun ls hl => ?_)
                          refine lv_iload hx hb dL_isObstacle_193 (lv_at hl 1 rfl) ?_
                          refine lv_if_eq (tgt := 203) hx hb dL_isObstacle_195 (by decide) (fun c_195 => ?_) (fun c_195 => ?_)
                          · skip
                            exact absurd c_195 (by decide)
                          · skip
                            refine lv_iload hx hb dL_isObstacle_198 (lv_at hl 2 rfl) ?_
                            refine lv_goto (tgt := 205) hx hb dL_isObstacle_200 (by decide) ?_
                            refine lv_istore (lv' := [(6, .int its), (5, .int (nI k)), (11, .int 1), (10, .int its), (9, .int (nI (dd s0 k))), (8, .int (bI (decide (min s0 t0 < k ∧ k < max s0 t0)))), (0, .ref (A 0)), (1, .ref qa), (2, .int (nI s0)), (3, .int (nI t0)), (4, .int (nI (dd s0 t0))), (7, .int (nI k))]) hx hb dL_isObstacle_205 hl (by decide) rfl (fun ls hl => ?_)
                            refine lv_iinc (v := (nI k) + (-1)) (lv' := [(7, .int ((nI k) + (-1))), (6, .int its), (5, .int (nI k)), (11, .int 1), (10, .int its), (9, .int (nI (dd s0 k))), (8, .int (bI (decide (min s0 t0 < k ∧ k < max s0 t0)))), (0, .ref (A 0)), (1, .ref qa), (2, .int (nI s0)), (3, .int (nI t0)), (4, .int (nI (dd s0 t0)))]) hx hb dL_isObstacle_207 hl (k := 11) rfl (rfl) (by decide) rfl (fun ls hl => ?_)
                            refine lv_goto (tgt := 53) hx hb dL_isObstacle_210 (by decide) ?_
                            exact ih_53 k ((nI k) + (-1)) (nI k) its X (by omega) (by omega) (fz_dec k) (hX) (by rw [hits.trans (lw_its hR hs ht hbt)]; exact ob_new1 hA hbt) _ _ hP hD hS ls (lv_sub hl [7, 8, 9, 10, 11, 2, 1, 0] rfl)
                      · skip
                        exact absurd (by decide) c_162
                  · subst ew el
                    refine lv_iload hx hb dL_isObstacle_155 (lv_at hl 2 rfl) ?_
                    refine lv_if_eq (tgt := 176) hx hb dL_isObstacle_157 (by decide) (fun c_157 => ?_) (fun c_157 => ?_)
                    · skip
                      have hbt : ¬ (min s0 t0 < k ∧ k < max s0 t0) := of_decide_eq_false (bI_e0 c_157)
                      refine lv_iconst (v := 0) hx hb dL_isObstacle_176 (by decide) ?_
                      refine lv_istore (lv' := [(11, .int 0), (10, .int its), (9, .int (nI (dd s0 k))), (8, .int (bI (decide (min s0 t0 < k ∧ k < max s0 t0)))), (0, .ref (A 0)), (1, .ref qa), (2, .int (nI s0)), (3, .int (nI t0)), (4, .int (nI (dd s0 t0))), (5, .int (nI b)), (6, .int ((clT (f 18) f (M8 f) s0 t0) b)), (7, .int (nI k))]) hx hb dL_isObstacle_177 hl (by decide) rfl (fun ls hl => ?_)
                      refine lv_iload hx hb dL_isObstacle_179 (lv_at hl 0 rfl) ?_
                      refine lv_if_eq (tgt := 189) hx hb dL_isObstacle_181 (by decide) (fun c_181 => ?_) (fun c_181 => ?_)
                      · skip
                        refine lv_iload hx hb dL_isObstacle_189 (lv_at hl 9 rfl) ?_
                        refine lv_istore (lv' := [(5, .int (nI b)), (11, .int 0), (10, .int its), (9, .int (nI (dd s0 k))), (8, .int (bI (decide (min s0 t0 < k ∧ k < max s0 t0)))), (0, .ref (A 0)), (1, .ref qa), (2, .int (nI s0)), (3, .int (nI t0)), (4, .int (nI (dd s0 t0))), (6, .int ((clT (f 18) f (M8 f) s0 t0) b)), (7, .int (nI k))]) hx hb dL_isObstacle_191 hl (by decide) rfl (fun ls hl => ?_)
                        refine lv_iload hx hb dL_isObstacle_193 (lv_at hl 1 rfl) ?_
                        refine lv_if_eq (tgt := 203) hx hb dL_isObstacle_195 (by decide) (fun c_195 => ?_) (fun c_195 => ?_)
                        · skip
                          refine lv_iload hx hb dL_isObstacle_203 (lv_at hl 10 rfl) ?_
                          refine lv_istore (lv' := [(6, .int ((clT (f 18) f (M8 f) s0 t0) b)), (5, .int (nI b)), (11, .int 0), (10, .int its), (9, .int (nI (dd s0 k))), (8, .int (bI (decide (min s0 t0 < k ∧ k < max s0 t0)))), (0, .ref (A 0)), (1, .ref qa), (2, .int (nI s0)), (3, .int (nI t0)), (4, .int (nI (dd s0 t0))), (7, .int (nI k))]) hx hb dL_isObstacle_205 hl (by decide) rfl (fun ls hl => ?_)
                          refine lv_iinc (v := (nI k) + (-1)) (lv' := [(7, .int ((nI k) + (-1))), (6, .int ((clT (f 18) f (M8 f) s0 t0) b)), (5, .int (nI b)), (11, .int 0), (10, .int its), (9, .int (nI (dd s0 k))), (8, .int (bI (decide (min s0 t0 < k ∧ k < max s0 t0)))), (0, .ref (A 0)), (1, .ref qa), (2, .int (nI s0)), (3, .int (nI t0)), (4, .int (nI (dd s0 t0)))]) hx hb dL_isObstacle_207 hl (k := 11) rfl (rfl) (by decide) rfl (fun ls hl => ?_)
                          refine lv_goto (tgt := 53) hx hb dL_isObstacle_210 (by decide) ?_
                          exact ih_53 k ((nI k) + (-1)) (nI b) ((clT (f 18) f (M8 f) s0 t0) b) X (by omega) (by omega) (fz_dec k) (hX) (ob_out (Or.inr ⟨b, rfl, rfl, hb1, hb2, hb3, hb4⟩) hbt) _ _ hP hD hS ls (lv_sub hl [7, 8, 9, 10, 11, 2, 1, 0] rfl)
                        · skip
                          exact absurd (by decide) c_195
                      · skip
                        exact absurd (by decide) c_181
                    · skip
                      have hbt : min s0 t0 < k ∧ k < max s0 t0 := of_decide_eq_true (bI_n0 c_157)
                      refine lv_iload hx hb dL_isObstacle_160 (lv_at hl 8 rfl) ?_
                      refine lv_if_lt (tgt := 172) hx hb dL_isObstacle_162 (by decide) (fun c_162 => ?_) (fun c_162 => ?_)
                      · skip
                        exact absurd c_162 (nI_pos (by omega))
                      · skip
                        refine lv_iload hx hb dL_isObstacle_165 (lv_at hl 0 rfl) ?_
                        refine lv_iload hx hb dL_isObstacle_167 (lv_at hl 9 rfl) ?_
                        refine lv_icmp_gt (tgt := 176) hx hb dL_isObstacle_169 (by decide) (fun c_169 => ?_) (fun c_169 => ?_)
                        · skip
                          refine lv_iconst (v := 0) hx hb dL_isObstacle_176 (by decide) ?_
                          refine lv_istore (lv' := [(11, .int 0), (10, .int its), (9, .int (nI (dd s0 k))), (8, .int (bI (decide (min s0 t0 < k ∧ k < max s0 t0)))), (0, .ref (A 0)), (1, .ref qa), (2, .int (nI s0)), (3, .int (nI t0)), (4, .int (nI (dd s0 t0))), (5, .int (nI b)), (6, .int ((clT (f 18) f (M8 f) s0 t0) b)), (7, .int (nI k))]) hx hb dL_isObstacle_177 hl (by decide) rfl (fun ls hl => ?_)
                          refine lv_iload hx hb dL_isObstacle_179 (lv_at hl 0 rfl) ?_
                          refine lv_if_eq (tgt := 189) hx hb dL_isObstacle_181 (by decide) (fun c_181 => ?_) (fun c_181 => ?_)
                          · skip
                            refine lv_iload hx hb dL_isObstacle_189 (lv_at hl 9 rfl) ?_
                            refine lv_istore (lv' := [(5, .int (nI b)), (11, .int 0), (10, .int its), (9, .int (nI (dd s0 k))), (8, .int (bI (decide (min s0 t0 < k ∧ k < max s0 t0)))), (0, .ref (A 0)), (1, .ref qa), (2, .int (nI s0)), (3, .int (nI t0)), (4, .int (nI (dd s0 t0))), (6, .int ((clT (f 18) f (M8 f) s0 t0) b)), (7, .int (nI k))]) hx hb dL_isObstacle_191 hl (by decide) rfl (fun ls hl => ?_)
                            refine lv_iload hx hb dL_isObstacle_193 (lv_at hl 1 rfl) ?_
                            refine lv_if_eq (tgt := 203) hx hb dL_isObstacle_195 (by decide) (fun c_195 => ?_) (fun c_195 => ?_)
                            · skip
                              refine lv_iload hx hb dL_isObstacle_203 (lv_at hl 10 rfl) ?_
                              refine lv_istore (lv' := [(6, .int ((clT (f 18) f (M8 f) s0 t0) b)), (5, .int (nI b)), (11, .int 0), (10, .int its), (9, .int (nI (dd s0 k))), (8, .int (bI (decide (min s0 t0 < k ∧ k < max s0 t0)))), (0, .ref (A 0)), (1, .ref qa), (2, .int (nI s0)), (3, .int (nI t0)), (4, .int (nI (dd s0 t0))), (7, .int (nI k))]) hx hb dL_isObstacle_205 hl (by decide) rfl (fun ls hl => ?_)
                              refine lv_iinc (v := (nI k) + (-1)) (lv' := [(7, .int ((nI k) + (-1))), (6, .int ((clT (f 18) f (M8 f) s0 t0) b)), (5, .int (nI b)), (11, .int 0), (10, .int its), (9, .int (nI (dd s0 k))), (8, .int (bI (decide (min s0 t0 < k ∧ k < max s0 t0)))), (0, .ref (A 0)), (1, .ref qa), (2, .int (nI s0)), (3, .int (nI t0)), (4, .int (nI (dd s0 t0)))]) hx hb dL_isObstacle_207 hl (k := 11) rfl (rfl) (by decide) rfl (fun ls hl => ?_)
                              refine lv_goto (tgt := 53) hx hb dL_isObstacle_210 (by decide) ?_
                              exact ih_53 k ((nI k) + (-1)) (nI b) ((clT (f 18) f (M8 f) s0 t0) b) X (by omega) (by omega) (fz_dec k) (hX) (ob_old hb1 hb2 hb3 hb4 (by rw [← hits.trans (lw_its hR hs ht hbt)]; exact c_169)) _ _ hP hD hS ls (lv_sub hl [7, 8, 9, 10, 11, 2, 1, 0] rfl)
                            · skip
                              exact absurd (by decide) c_195
                          · skip
                            exact absurd (by decide) c_181
                        · skip
                          refine lv_iconst (v := 1) hx hb dL_isObstacle_172 (by decide) ?_
                          refine lv_goto (tgt := 177) hx hb dL_isObstacle_173 (by decide) ?_
                          refine lv_istore (lv' := [(11, .int 1), (10, .int its), (9, .int (nI (dd s0 k))), (8, .int (bI (decide (min s0 t0 < k ∧ k < max s0 t0)))), (0, .ref (A 0)), (1, .ref qa), (2, .int (nI s0)), (3, .int (nI t0)), (4, .int (nI (dd s0 t0))), (5, .int (nI b)), (6, .int ((clT (f 18) f (M8 f) s0 t0) b)), (7, .int (nI k))]) hx hb dL_isObstacle_177 hl (by decide) rfl (fun ls hl => ?_)
                          refine lv_iload hx hb dL_isObstacle_179 (lv_at hl 0 rfl) ?_
                          refine lv_if_eq (tgt := 189) hx hb dL_isObstacle_181 (by decide) (fun c_181 => ?_) (fun c_181 => ?_)
                          · skip
                            exact absurd c_181 (by decide)
                          · skip
                            refine lv_iload hx hb dL_isObstacle_184 (lv_at hl 11 rfl) ?_
                            refine lv_goto (tgt := 191) hx hb dL_isObstacle_186 (by decide) ?_
                            refine lv_istore (lv' := [(5, .int (nI k)), (11, .int 1), (10, .int its), (9, .int (nI (dd s0 k))), (8, .int (bI (decide (min s0 t0 < k ∧ k < max s0 t0)))), (0, .ref (A 0)), (1, .ref qa), (2, .int (nI s0)), (3, .int (nI t0)), (4, .int (nI (dd s0 t0))), (6, .int ((clT (f 18) f (M8 f) s0 t0) b)), (7, .int (nI k))]) hx hb dL_isObstacle_191 hl (by decide) rfl (fun ls hl => ?_)
                            refine lv_iload hx hb dL_isObstacle_193 (lv_at hl 1 rfl) ?_
                            refine lv_if_eq (tgt := 203) hx hb dL_isObstacle_195 (by decide) (fun c_195 => ?_) (fun c_195 => ?_)
                            · skip
                              exact absurd c_195 (by decide)
                            · skip
                              refine lv_iload hx hb dL_isObstacle_198 (lv_at hl 2 rfl) ?_
                              refine lv_goto (tgt := 205) hx hb dL_isObstacle_200 (by decide) ?_
                              refine lv_istore (lv' := [(6, .int its), (5, .int (nI k)), (11, .int 1), (10, .int its), (9, .int (nI (dd s0 k))), (8, .int (bI (decide (min s0 t0 < k ∧ k < max s0 t0)))), (0, .ref (A 0)), (1, .ref qa), (2, .int (nI s0)), (3, .int (nI t0)), (4, .int (nI (dd s0 t0))), (7, .int (nI k))]) hx hb dL_isObstacle_205 hl (by decide) rfl (fun ls hl => ?_)
                              refine lv_iinc (v := (nI k) + (-1)) (lv' := [(7, .int ((nI k) + (-1))), (6, .int its), (5, .int (nI k)), (11, .int 1), (10, .int its), (9, .int (nI (dd s0 k))), (8, .int (bI (decide (min s0 t0 < k ∧ k < max s0 t0)))), (0, .ref (A 0)), (1, .ref qa), (2, .int (nI s0)), (3, .int (nI t0)), (4, .int (nI (dd s0 t0)))]) hx hb dL_isObstacle_207 hl (k := 11) rfl (rfl) (by decide) rfl (fun ls hl => ?_)
                              refine lv_goto (tgt := 53) hx hb dL_isObstacle_210 (by decide) ?_
                              exact ih_53 k ((nI k) + (-1)) (nI k) its X (by omega) (by omega) (fz_dec k) (hX) (by rw [hits.trans (lw_its hR hs ht hbt)]; exact ob_new2 hb3 hbt (by rw [← hits.trans (lw_its hR hs ht hbt)]; exact c_169)) _ _ hP hD hS ls (lv_sub hl [7, 8, 9, 10, 11, 2, 1, 0] rfl)
                · skip
                  refine lv_iload_n hx hb dL_isObstacle_89 rfl (lv_at hl 3 rfl) ?_
                  refine lv_iload hx hb dL_isObstacle_90 (lv_at hl 8 rfl) ?_
                  refine lv_icmp_ge (tgt := 102) hx hb dL_isObstacle_92 (by decide) (fun c_92 => ?_) (fun c_92 => ?_)
                  · skip
                    have g92 : k ≤ s0 := ge_t (by omega) c_92
                    refine lv_iload_n hx hb dL_isObstacle_102 rfl (lv_at hl 3 rfl) ?_
                    refine lv_iload hx hb dL_isObstacle_103 (lv_at hl 8 rfl) ?_
                    refine lv_isub hx hb dL_isObstacle_105 ?_
                    exact J_106 _ (pk_sub3 g92)
                  · skip
                    have g92 : s0 < k := ge_f (by omega) c_92
                    refine lv_iload hx hb dL_isObstacle_95 (lv_at hl 8 rfl) ?_
                    refine lv_iload_n hx hb dL_isObstacle_97 rfl (lv_at hl 3 rfl) ?_
                    refine lv_isub hx hb dL_isObstacle_98 ?_
                    refine lv_goto (tgt := 106) hx hb dL_isObstacle_99 (by decide) ?_
                    exact J_106 _ (pk_sub2 g92)
              · skip
                refine lv_iload hx hb dL_isObstacle_58 (lv_at hl 7 rfl) ?_
                refine lv_iload_n hx hb dL_isObstacle_60 rfl (lv_at hl 2 rfl) ?_
                refine lv_icmp_le (tgt := 70) hx hb dL_isObstacle_61 (by decide) (fun c_61 => ?_) (fun c_61 => ?_)
                · skip
                  have g61 : k ≤ s0 := (nI_leI (by omega) (by omega)).mp c_61
                  refine lv_iload hx hb dL_isObstacle_70 (lv_at hl 7 rfl) ?_
                  refine lv_iload_n hx hb dL_isObstacle_72 rfl (lv_at hl 3 rfl) ?_
                  refine lv_icmp_le (tgt := 86) hx hb dL_isObstacle_73 (by decide) (fun c_73 => ?_) (fun c_73 => ?_)
                  · skip
                    have g73 : k ≤ t0 := (nI_leI (by omega) (by omega)).mp c_73
                    refine lv_iconst (v := 0) hx hb dL_isObstacle_86 (by decide) ?_
                    exact J_87 _ (by first | exact bI_t (decide_eq_true (by omega)) | exact bI_f (decide_eq_false (by omega)) | fail)
                  · skip
                    have g73 : ¬ k ≤ t0 := fun h => c_73 (nI_le h (by omega))
                    refine lv_iload hx hb dL_isObstacle_76 (lv_at hl 7 rfl) ?_
                    refine lv_iload_n hx hb dL_isObstacle_78 rfl (lv_at hl 2 rfl) ?_
                    refine lv_icmp_ge (tgt := 86) hx hb dL_isObstacle_79 (by decide) (fun c_79 => ?_) (fun c_79 => ?_)
                    · skip
                      have g79 : s0 ≤ k := (nI_leI (by omega) (by omega)).mp c_79
                      refine lv_iconst (v := 0) hx hb dL_isObstacle_86 (by decide) ?_
                      exact J_87 _ (by first | exact bI_t (decide_eq_true (by omega)) | exact bI_f (decide_eq_false (by omega)) | fail)
                    · skip
                      have g79 : ¬ s0 ≤ k := fun h => c_79 (nI_le h (by omega))
                      refine lv_iconst (v := 1) hx hb dL_isObstacle_82 (by decide) ?_
                      refine lv_goto (tgt := 87) hx hb dL_isObstacle_83 (by decide) ?_
                      exact J_87 _ (by first | exact bI_t (decide_eq_true (by omega)) | exact bI_f (decide_eq_false (by omega)) | fail)
                · skip
                  have g61 : ¬ k ≤ s0 := fun h => c_61 (nI_le h (by omega))
                  refine lv_iload hx hb dL_isObstacle_64 (lv_at hl 7 rfl) ?_
                  refine lv_iload_n hx hb dL_isObstacle_66 rfl (lv_at hl 3 rfl) ?_
                  refine lv_icmp_lt (tgt := 82) hx hb dL_isObstacle_67 (by decide) (fun c_67 => ?_) (fun c_67 => ?_)
                  · skip
                    have g67 : k < t0 := (nI_ltI (by omega) (by omega)).mp c_67
                    refine lv_iconst (v := 1) hx hb dL_isObstacle_82 (by decide) ?_
                    refine lv_goto (tgt := 87) hx hb dL_isObstacle_83 (by decide) ?_
                    exact J_87 _ (by first | exact bI_t (decide_eq_true (by omega)) | exact bI_f (decide_eq_false (by omega)) | fail)
                  · skip
                    have g67 : ¬ k < t0 := fun h => c_67 (nI_lt h (by omega))
                    refine lv_iload hx hb dL_isObstacle_70 (lv_at hl 7 rfl) ?_
                    refine lv_iload_n hx hb dL_isObstacle_72 rfl (lv_at hl 3 rfl) ?_
                    refine lv_icmp_le (tgt := 86) hx hb dL_isObstacle_73 (by decide) (fun c_73 => ?_) (fun c_73 => ?_)
                    · skip
                      have g73 : k ≤ t0 := (nI_leI (by omega) (by omega)).mp c_73
                      refine lv_iconst (v := 0) hx hb dL_isObstacle_86 (by decide) ?_
                      exact J_87 _ (by first | exact bI_t (decide_eq_true (by omega)) | exact bI_f (decide_eq_false (by omega)) | fail)
                    · skip
                      have g73 : ¬ k ≤ t0 := fun h => c_73 (nI_le h (by omega))
                      refine lv_iload hx hb dL_isObstacle_76 (lv_at hl 7 rfl) ?_
                      refine lv_iload_n hx hb dL_isObstacle_78 rfl (lv_at hl 2 rfl) ?_
                      refine lv_icmp_ge (tgt := 86) hx hb dL_isObstacle_79 (by decide) (fun c_79 => ?_) (fun c_79 => ?_)
                      · skip
                        have g79 : s0 ≤ k := (nI_leI (by omega) (by omega)).mp c_79
                        refine lv_iconst (v := 0) hx hb dL_isObstacle_86 (by decide) ?_
                        exact J_87 _ (by first | exact bI_t (decide_eq_true (by omega)) | exact bI_f (decide_eq_false (by omega)) | fail)
                      · skip
                        have g79 : ¬ s0 ≤ k := fun h => c_79 (nI_le h (by omega))
                        refine lv_iconst (v := 1) hx hb dL_isObstacle_82 (by decide) ?_
                        refine lv_goto (tgt := 87) hx hb dL_isObstacle_83 (by decide) ?_
                        exact J_87 _ (by first | exact bI_t (decide_eq_true (by omega)) | exact bI_f (decide_eq_false (by omega)) | fail)
      exact L_53 _ n ((nI n) - 1) (-1) 0 X (Nat.lt_succ_self _) (Nat.le_refl n) (rfl) (hX) (Or.inl ⟨rfl, rfl, fun j h1 h2 => by omega⟩) _ _ hP hD hS ls (lv_sub hl [4, 5, 6, 7, 3, 2, 1, 0] rfl)
  · skip
    have hst : s0 = t0 := (nI_eq (by omega) (by omega)).mp c_2
    refine lv_aload_n hx hb dL_isObstacle_5 rfl (lv_at hl 0 rfl) ?_
    refine lv_iload_n hx hb dL_isObstacle_6 rfl (lv_at hl 2 rfl) ?_
    refine lv_iload_n hx hb dL_isObstacle_7 rfl (lv_at hl 3 rfl) ?_
    refine lv_iconst (v := 0) hx hb dL_isObstacle_8 (by decide) ?_
    have hPb : va_P D vwCl ([(qa, .inl (cI, 20, .inl f))] ++ X) _ := hP
    have hDb : va_D (inW ((qa, .inl (cI, 20, .inl f)) :: X0)) ([(qa, .inl (cI, 20, .inl f))] ++ X) := hD
    refine ox_calli hPb hDb hX hS (va_runV (As := [.int (nI s0), .int (nI t0), .int 0]) (rest := []) ⟨hx, hb, hml, hown, hts⟩ (y_obstacle l D cI cB cO A n (f 17) (f 18) f (M8 f) (nI s0) (nI t0) 0) (cwV 3 hts gL_isObstacle_X6_obstacle rfl rfl rfl (by decide +kernel) ⟨Nat.le_of_ble_eq_true rfl, Nat.le_of_ble_eq_true rfl⟩) (ox_pre hK hPb hDb hX hN) rfl rfl hl.1 rfl (lv_room (Nat.le_of_ble_eq_true rfl)) dL_isObstacle_9 ⟨Nat.le_refl _, Nat.le_refl _⟩) (fun X H locs hX hP hD hS => ?_)
    have hP : va_P D vwCl ((qa, .inl (cI, 20, .inl f)) :: X) _ := hP
    have hD : va_D (inW ((qa, .inl (cI, 20, .inl f)) :: X0)) ((qa, .inl (cI, 20, .inl f)) :: X) := hD
    refine lv_topi (fun y_41 e_42 => ?_)
    have e_42 : -2 = y_41 := (e_42.trans ((by rw [hst]; exact ob_same))).symm
    subst e_42
    refine lv_bipush (v := (-2)) hx hb dL_isObstacle_12 (by decide) ?_
    refine lv_icmp_ne (tgt := 21) hx hb dL_isObstacle_14 (by decide) (fun c_14 => ?_) (fun c_14 => ?_)
    · skip
      exact absurd (by decide) c_14
    · skip
      refine lv_iconst (v := 1) hx hb dL_isObstacle_17 (by decide) ?_
      refine lv_goto (tgt := 22) hx hb dL_isObstacle_18 (by decide) ?_
      exact W.zret (v := 1) hx hb hr (rfl) (fun tS htS hWS => ⟨⟨1, X, rfl, ⟨rfl, hX⟩, retP htS hP⟩, hS.F htS⟩) hS.2.2 dL_isObstacle_22
