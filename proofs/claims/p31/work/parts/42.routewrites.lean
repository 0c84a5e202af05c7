/-! Routes: what writes -/
def reB (M : Nat → Int32) (h : Int32) (s : Nat) : Bool := decide (¬ M s = 0 ∨ 0 < h)
def prN1 (M : Nat → Int32) (h : Int32) (s : Nat) : Nat := if M s = 0 ∧ 0 < h then 33 else 1
theorem up_0 {u F : Nat → Int32} : ∀ k, k < 0 → u k = F k := fun k hk => absurd hk (Nat.not_lt_zero k)
theorem up_s {u F : Nat → Int32} {i : Nat} {v : Int32} (h : ∀ k, k < i → u k = F k) (hv : v = F i) : ∀ k, k < i + 1 → upd u i v k = F k := by
  intro k hk
  rcases Nat.lt_succ_iff_lt_or_eq.mp hk with z | z
  · rw [pk_un (by omega)]; exact h k z
  · subst z; rw [pk_us]; exact hv
theorem hT_b {G M : Nat → Int32} {h : Int32} {s : Nat} (c : M s = 0) : tp G M s + h = hT G M h s := by unfold hT; rw [if_pos c]
theorem hT_m {G M : Nat → Int32} {h : Int32} {s : Nat} (c : ¬ M s = 0) : tp G M s + 0 = hT G M h s := by unfold hT; rw [if_neg c]
theorem pr_33 {M : Nat → Int32} {h : Int32} {s : Nat} (c : M s = 0) (c2 : 0 < h) : (33 : Int32) = nI (prN1 M h s) := by unfold prN1; rw [if_pos ⟨c, c2⟩]; rfl
theorem pr_1 {M : Nat → Int32} {h : Int32} {s : Nat} (c : ¬ (M s = 0 ∧ 0 < h)) : (1 : Int32) = nI (prN1 M h s) := by unfold prN1; rw [if_neg c]; rfl
theorem pr_pos (M : Nat → Int32) (h : Int32) (s : Nat) : 0 < prN1 M h s := by unfold prN1; split <;> omega
theorem pr_le (M : Nat → Int32) (h : Int32) (s : Nat) : prN1 M h s ≤ 33 := by unfold prN1; split <;> omega
/-! the costs, round by round -/
def INF : Nat := 1000000
noncomputable def cst (E : Nat → Nat → Bool) (wt : Nat → Nat) (n to s : Nat) : Nat := if dst E wt n to s = 0 then INF else dst E wt n to s
def FR (n : Nat) (u : Nat → Int32) (C : Nat → Nat) : Prop := (∀ k, k < n → u k = nI (C k)) ∧ (∀ k, C k ≤ INF)
def FO (E : Nat → Nat → Bool) (wt : Nat → Nat) (n to r : Nat) (u : Nat → Int32) : Prop := ∃ C, FR n u C ∧ Rel E wt n to r C ∧ Snd E wt n to INF C
def FI (E : Nat → Nat → Bool) (wt : Nat → Nat) (n to r s0 t0 : Nat) (u : Nat → Int32) : Prop := ∃ C0 C, FR n u C ∧ Rel E wt n to r C0 ∧ Snd E wt n to INF C ∧ (∀ k, C k ≤ C0 k) ∧ (∀ k, k < s0 → ∀ j, j < n → E k j = true → C k ≤ wt k + C0 j) ∧ (∀ j, j < t0 → E s0 j = true → C s0 ≤ wt s0 + C0 j)
section FCS
variable {E : Nat → Nat → Bool} {wt : Nat → Nat} {n to r s0 t0 : Nat} {u : Nat → Int32}
theorem FO_0 (hto : to < n) (hu : ∀ k, k < n → u k = nI (if k = to then wt to else INF)) (hw : wt to ≤ INF) : FO E wt n to 0 u := by
  refine ⟨fun k => if k = to then wt to else INF, ⟨hu, fun k => ?_⟩, Rel_0 (fun _ => ?_), fun s => ?_⟩
  · show (if k = to then wt to else INF) ≤ INF
    split
    · exact hw
    · exact Nat.le_refl _
  · show (if to = to then wt to else INF) ≤ wt to
    rw [if_pos rfl]; exact Nat.le_refl _
  · show (if s = to then wt to else INF) = INF ∨ ∃ k, Ch E wt n to k (if s = to then wt to else INF) s
    by_cases q : s = to
    · rw [if_pos q, q]; exact Or.inr ⟨1, Ch_one hto⟩
    · rw [if_neg q]; exact Or.inl rfl
theorem FI_0 (h : FO E wt n to r u) : FI E wt n to r 0 0 u := by
  obtain ⟨C, h1, h2, h3⟩ := h
  exact ⟨C, C, h1, h2, h3, fun _ => Nat.le_refl _, fun k hk => absurd hk (Nat.not_lt_zero k), fun k hk => absurd hk (Nat.not_lt_zero k)⟩
theorem FI_t (h : FI E wt n to r s0 0 u) : FI E wt n to r s0 0 u := h
theorem FI_s (h : FI E wt n to r s0 t0 u) (ht : n ≤ t0) : FI E wt n to r (s0 + 1) 0 u := by
  obtain ⟨C0, C, h1, h2, h3, h4, h5, h6⟩ := h
  refine ⟨C0, C, h1, h2, h3, h4, fun k hk j hj => ?_, fun k hk => absurd hk (Nat.not_lt_zero k)⟩
  rcases Nat.lt_succ_iff_lt_or_eq.mp hk with z | z
  · exact h5 k z j hj
  · subst z; exact h6 j (by omega)
theorem FI_end (h : FI E wt n to r s0 t0 u) (hs : n ≤ s0) : FO E wt n to (r + 1) u := by
  obtain ⟨C0, C, h1, h2, h3, h4, h5, h6⟩ := h
  exact ⟨C, h1, Rel_s h2 h4 (fun k hk j hj => h5 k (by omega) j hj), h3⟩
theorem FI_no (h : FI E wt n to r s0 t0 u) (c : E s0 t0 = false) : FI E wt n to r s0 (t0 + 1) u := by
  obtain ⟨C0, C, h1, h2, h3, h4, h5, h6⟩ := h
  refine ⟨C0, C, h1, h2, h3, h4, h5, fun j hj he => ?_⟩
  rcases Nat.lt_succ_iff_lt_or_eq.mp hj with z | z
  · exact h6 j z he
  · subst z; rw [c] at he; cases he
/-- the price of a step is looked at -/
theorem FI_yes (h : FI E wt n to r s0 t0 u) (hs : s0 < n) (ht : t0 < n) (hw : wt s0 ≤ 33) (c : E s0 t0 = true) : ∃ x y, u s0 = nI x ∧ u t0 = nI y ∧ x ≤ INF ∧ y ≤ INF ∧ FI E wt n to r s0 (t0 + 1) (upd u s0 (nI (min x (wt s0 + y)))) := by
  obtain ⟨C0, C, ⟨h1, h0⟩, h2, h3, h4, h5, h6⟩ := h
  refine ⟨C s0, C t0, h1 s0 hs, h1 t0 ht, h0 s0, h0 t0, C0, fun k => if k = s0 then min (C s0) (wt s0 + C t0) else C k, ⟨fun k hk => ?_, fun k => ?_⟩, h2, fun k => ?_, fun k => ?_, fun k hk j hj he => ?_, fun j hj he => ?_⟩
  · show upd u s0 _ k = nI (if k = s0 then min (C s0) (wt s0 + C t0) else C k)
    by_cases q : k = s0
    · rw [q, pk_us, if_pos rfl]
    · rw [pk_un q, if_neg q]; exact h1 k hk
  · show (if k = s0 then min (C s0) (wt s0 + C t0) else C k) ≤ INF
    have := h0 s0
    split
    · omega
    · exact h0 k
  · show (if k = s0 then min (C s0) (wt s0 + C t0) else C k) = INF ∨ ∃ i, Ch E wt n to i (if k = s0 then min (C s0) (wt s0 + C t0) else C k) k
    by_cases q : k = s0
    · rw [q, if_pos rfl]
      rcases Nat.le_total (C s0) (wt s0 + C t0) with z | z
      · rw [Nat.min_eq_left z]; exact h3 s0
      · rw [Nat.min_eq_right z]
        rcases h3 t0 with z2 | ⟨i, hi⟩
        · have := h0 s0
          have e : wt s0 + C t0 = C s0 := by omega
          rw [e]; exact h3 s0
        · exact Or.inr ⟨i + 1, Ch_step hs c hi⟩
    · rw [if_neg q]; exact h3 k
  · show (if k = s0 then min (C s0) (wt s0 + C t0) else C k) ≤ C0 k
    have := h4 s0
    by_cases q : k = s0
    · rw [if_pos q, q]; omega
    · rw [if_neg q]; exact h4 k
  · show (if k = s0 then min (C s0) (wt s0 + C t0) else C k) ≤ wt k + C0 j
    rw [if_neg (by omega)]; exact h5 k hk j hj he
  · show (if s0 = s0 then min (C s0) (wt s0 + C t0) else C s0) ≤ wt s0 + C0 j
    rw [if_pos rfl]
    rcases Nat.lt_succ_iff_lt_or_eq.mp hj with z | z
    · have := h6 j z he; omega
    · have := h4 t0
      rw [z]; omega
theorem FO_end (hw : ∀ k, k < n → 0 < wt k) (hw2 : ∀ k, k < n → wt k ≤ 33) (hn : n ≤ 20) (h : FO E wt n to r u) (hr : n ≤ r) : ∀ k, k < n → u k = nI (cst E wt n to k) := by
  obtain ⟨C, ⟨h1, h0⟩, h2, h3⟩ := h
  intro k hk
  rw [h1 k hk, Rel_end hw h2 (by omega) h3 hw2 (by show n * 33 < 1000000; omega) k]
  rfl
theorem cst_le (hw : ∀ k, k < n → 0 < wt k) (hw2 : ∀ k, k < n → wt k ≤ 33) (hn : n ≤ 20) (s : Nat) : dst E wt n to s ≤ 660 := by
  by_cases q : dst E wt n to s = 0
  · omega
  · obtain ⟨k, h1, h2, h3⟩ := dst_n hw q
    have := Ch_bound hw2 h3
    have h4 : k * 33 ≤ 20 * 33 := Nat.mul_le_mul_right _ (by omega)
    omega
theorem cst_inf (hw : ∀ k, k < n → 0 < wt k) (hw2 : ∀ k, k < n → wt k ≤ 33) (hn : n ≤ 20) (s : Nat) : cst E wt n to s ≤ INF ∧ (INF ≤ cst E wt n to s ↔ dst E wt n to s = 0) := by
  have := cst_le (E := E) (to := to) hw hw2 hn s
  unfold cst
  have e : INF = 1000000 := rfl
  split
  · exact ⟨Nat.le_refl _, fun _ => by assumption, fun _ => Nat.le_refl _⟩
  · exact ⟨by omega, fun q => by omega, fun q => by omega⟩
/-- the costs say whether it goes on there -/
theorem tgt_cst (hw : ∀ k, k < n → 0 < wt k) (hw2 : ∀ k, k < n → wt k ≤ 33) (hn : n ≤ 20) {s t : Nat} (hs : dst E wt n to s ≠ 0) (he : E s t = true) : cst E wt n to s = wt s + cst E wt n to t ↔ tgt E wt (dst E wt n to) s t = true := by
  have h1 := cst_le (E := E) (to := to) hw hw2 hn s
  rw [tgt_iff]
  have e : cst E wt n to s = dst E wt n to s := if_neg hs
  rw [e]
  unfold cst
  have e : INF = 1000000 := rfl
  split
  · exact ⟨fun q => by omega, fun q => absurd (by assumption) q.2.1⟩
  · exact ⟨fun q => ⟨he, by assumption, q⟩, fun q => q.2.2⟩
end FCS
theorem inf_eq : (1000000 : Int32) = nI INF := rfl
theorem kX4_survey_0 : ∀ w ∈ wsX30, w ∈ wsX4_survey := by decide +kernel
theorem kX4_survey_1 : (.fieldLink RX4 31 "SightRidge$Profile" "stations" "I" : Cond) ∈ wsX4_survey := by decide +kernel
theorem kX4_survey_2 : ∀ w ∈ wsX40, w ∈ wsX4_survey := by decide +kernel
theorem kX4_survey_3 : (.fieldLink RX4 24 "SightRidge$Routes" "stations" "I" : Cond) ∈ wsX4_survey := by decide +kernel
theorem kX4_survey_4 : (.fieldLink RX4 28 "SightRidge$Routes" "relays" "I" : Cond) ∈ wsX4_survey := by decide +kernel
theorem kX4_survey_5 : (.fieldLink RX4 15 "SightRidge$Routes" "links" "[I" : Cond) ∈ wsX4_survey := by decide +kernel
theorem kX4_survey_6 : (.fieldLink RX4 34 "SightRidge$Profile" "masts" "[I" : Cond) ∈ wsX4_survey := by decide +kernel
theorem kX4_survey_7 : (.fieldLink RX4 9 "SightRidge$Routes" "tops" "[I" : Cond) ∈ wsX4_survey := by decide +kernel
theorem kX4_survey_8 : (.fieldLink RX4 18 "SightRidge$Routes" "prices" "[I" : Cond) ∈ wsX4_survey := by decide +kernel
set_option maxHeartbeats 4000000 in
set_option maxRecDepth 100000 in
/-- survey(profile, newMast) -/
theorem c_X4_survey (l : Launch) (D : va_G) (cI cB cO : ClassId) (o ga ma : Nat) (n : Nat) (rg bl : Int32) (fg fm : Nat → Int32) (G M : Nat → Int32) (v1 v2 v3 v4 v5 v6 v7 : Nat × va_E) (q qt ql qp qc : Nat) (rs rr h : Int32) (ft fl fp fco : Nat → Int32) (hn : n ≤ 20) (hG : ∀ k, k < n → fg k = G k) (hM : ∀ k, k < n → fm k = M k) : Met l yX4_survey wsX4_survey (rmD 6) (wrPc D (tyL cI cB cO) [.ref q, .ref o, .int h] [(o, .inr (3, [.ref ga, .ref ma, .int (nI n), .int rg, .int bl])), (ga, .inl (cI, 20, .inl fg)), (ma, .inl (cI, 20, .inl fm)), v1, v2, v3, v4, v5, v6, v7, (q, .inr (4, [.ref qt, .ref ql, .ref qp, .ref qc, .int rs, .int rr])), (qt, .inl (cI, 20, .inl ft)), (ql, .inl (cI, 20, .inl fl)), (qp, .inl (cI, 20, .inl fp)), (qc, .inl (cI, 20, .inl fco))]) (wrQv D [(o, .inr (3, [.ref ga, .ref ma, .int (nI n), .int rg, .int bl])), (ga, .inl (cI, 20, .inl fg)), (ma, .inl (cI, 20, .inl fm)), v1, v2, v3, v4, v5, v6, v7, (q, .inr (4, [.ref qt, .ref ql, .ref qp, .ref qc, .int rs, .int rr])), (qt, .inl (cI, 20, .inl ft)), (ql, .inl (cI, 20, .inl fl)), (qp, .inl (cI, 20, .inl fp)), (qc, .inl (cI, 20, .inl fco))] (fun (u : (Nat → Int32) × (Nat → Int32) × (Nat → Int32)) => (∀ k, k < n → u.1 k = hT G M h k) ∧ (∀ k, k < n → u.2.1 k = nI (bs (lkB G rg bl (hT G M h) k) n)) ∧ (∀ k, k < n → u.2.2 k = nI (prN1 M h k))) (fun (u : (Nat → Int32) × (Nat → Int32) × (Nat → Int32)) => [(o, .inr (3, [.ref ga, .ref ma, .int (nI n), .int rg, .int bl])), (ga, .inl (cI, 20, .inl fg)), (ma, .inl (cI, 20, .inl fm)), v1, v2, v3, v4, v5, v6, v7, (q, .inr (4, [.ref qt, .ref ql, .ref qp, .ref qc, .int (nI n), .int (nI (bs (reB M h) n))])), (qt, .inl (cI, 20, .inl u.1)), (ql, .inl (cI, 20, .inl u.2.1)), (qp, .inl (cI, 20, .inl u.2.2)), (qc, .inl (cI, 20, .inl fco))])) 0 0 (inW [(o, .inr (3, [.ref ga, .ref ma, .int (nI n), .int rg, .int bl])), (ga, .inl (cI, 20, .inl fg)), (ma, .inl (cI, 20, .inl fm)), v1, v2, v3, v4, v5, v6, v7, (q, .inr (4, [.ref qt, .ref ql, .ref qp, .ref qc, .int rs, .int rr])), (qt, .inl (cI, 20, .inl ft)), (ql, .inl (cI, 20, .inl fl)), (qp, .inl (cI, 20, .inl fp)), (qc, .inl (cI, 20, .inl fco))]) := by
  refine Met.ofW (cc := cX4_survey) (maxL := 5) (ret := none) (by decide) rfl ?_
  intro p e s m args below meth c s₁ B hml hv
  obtain ⟨rfl, hP, hK, hN, hD⟩ := hv
  have hx := B.exec
  have hb := B.bytes
  have hr := B.returns
  have hts := atoms_spec (ws := wsX4_survey) B.pre
  have hown : s.vm.findClass RX4 = some m.cls := findClass_of_methodNamed B.named
  have hlocks := B.notSynchronized
  have hS : va_S (inW [(o, .inr (3, [.ref ga, .ref ma, .int (nI n), .int rg, .int bl])), (ga, .inl (cI, 20, .inl fg)), (ma, .inl (cI, 20, .inl fm)), v1, v2, v3, v4, v5, v6, v7, (q, .inr (4, [.ref qt, .ref ql, .ref qp, .ref qc, .int rs, .int rr])), (qt, .inl (cI, 20, .inl ft)), (ql, .inl (cI, 20, .inl fl)), (qp, .inl (cI, 20, .inl fp)), (qc, .inl (cI, 20, .inl fco))]) s.heap s.heap [] := va_S.rf
  have hD : va_D (inW [(o, .inr (3, [.ref ga, .ref ma, .int (nI n), .int rg, .int bl])), (ga, .inl (cI, 20, .inl fg)), (ma, .inl (cI, 20, .inl fm)), v1, v2, v3, v4, v5, v6, v7, (q, .inr (4, [.ref qt, .ref ql, .ref qp, .ref qc, .int rs, .int rr])), (qt, .inl (cI, 20, .inl ft)), (ql, .inl (cI, 20, .inl fl)), (qp, .inl (cI, 20, .inl fp)), (qc, .inl (cI, 20, .inl fco))]) [(o, .inr (3, [.ref ga, .ref ma, .int (nI n), .int rg, .int bl])), (ga, .inl (cI, 20, .inl fg)), (ma, .inl (cI, 20, .inl fm)), v1, v2, v3, v4, v5, v6, v7, (q, .inr (4, [.ref qt, .ref ql, .ref qp, .ref qc, .int rs, .int rr])), (qt, .inl (cI, 20, .inl ft)), (ql, .inl (cI, 20, .inl fl)), (qp, .inl (cI, 20, .inl fp)), (qc, .inl (cI, 20, .inl fco))] := inW_self hD
  have hl := lv_entry ([.ref q, .ref o, .int h]) (n := 5) (Nat.le_of_ble_eq_true rfl)
  rw [lg_entry_eq]
  generalize (lg_sl ([.ref q, .ref o, .int h]) ++ List.replicate (5 - (lg_sl ([.ref q, .ref o, .int h])).length) Slot.unset).toArray = ls at hl ⊢
  have hl : lv_has ls 5 [(0, .ref q), (1, .ref o), (2, .int h)] := hl
  refine lv_aload_n hx hb dX4_survey_0 rfl (lv_at hl 0 rfl) ?_
  refine lv_aload_n hx hb dX4_survey_1 rfl (lv_at hl 1 rfl) ?_
  refine va_get (D := D) (ci := 3) (v := .int (nI n)) (C := RX3) (T := TX3) (N := 5) hx hb hts kX4_survey_0 hown hK hP 0 rfl rfl 2 (by decide) (hts (.fieldLink RX4 31 "SightRidge$Profile" "stations" "I") kX4_survey_1) (fun _ h9 => h9) rfl dX4_survey_2 ?_
  refine va_put (D := D) (ci := 4) (v := .int (nI n)) (ty := .int) (C := RX4) (T := TX4) (N := 6) hx hb hts kX4_survey_2 tyX4 tyX4_ok nmX4 hown hK hP hD hS 10 rfl rfl 4 (by decide) (hts (.fieldLink RX4 24 "SightRidge$Routes" "stations" "I") kX4_survey_3) (fun _ h9 => h9) rfl (by decide +kernel) rfl rfl (Nat.le_of_ble_eq_true rfl) dX4_survey_5 (fun H locs hP hD hS => ?_)
  have hP : va_P D vwCl [(o, .inr (3, [.ref ga, .ref ma, .int (nI n), .int rg, .int bl])), (ga, .inl (cI, 20, .inl fg)), (ma, .inl (cI, 20, .inl fm)), v1, v2, v3, v4, v5, v6, v7, (q, .inr (4, [.ref qt, .ref ql, .ref qp, .ref qc, .int (nI n), .int rr])), (qt, .inl (cI, 20, .inl ft)), (ql, .inl (cI, 20, .inl fl)), (qp, .inl (cI, 20, .inl fp)), (qc, .inl (cI, 20, .inl fco))] _ := hP
  have hD : va_D (inW [(o, .inr (3, [.ref ga, .ref ma, .int (nI n), .int rg, .int bl])), (ga, .inl (cI, 20, .inl fg)), (ma, .inl (cI, 20, .inl fm)), v1, v2, v3, v4, v5, v6, v7, (q, .inr (4, [.ref qt, .ref ql, .ref qp, .ref qc, .int rs, .int rr])), (qt, .inl (cI, 20, .inl ft)), (ql, .inl (cI, 20, .inl fl)), (qp, .inl (cI, 20, .inl fp)), (qc, .inl (cI, 20, .inl fco))]) [(o, .inr (3, [.ref ga, .ref ma, .int (nI n), .int rg, .int bl])), (ga, .inl (cI, 20, .inl fg)), (ma, .inl (cI, 20, .inl fm)), v1, v2, v3, v4, v5, v6, v7, (q, .inr (4, [.ref qt, .ref ql, .ref qp, .ref qc, .int (nI n), .int rr])), (qt, .inl (cI, 20, .inl ft)), (ql, .inl (cI, 20, .inl fl)), (qp, .inl (cI, 20, .inl fp)), (qc, .inl (cI, 20, .inl fco))] := hD
  refine lv_aload_n hx hb dX4_survey_8 rfl (lv_at hl 0 rfl) ?_
  refine lv_iconst (v := 0) hx hb dX4_survey_9 (by decide) ?_
  refine va_put (D := D) (ci := 4) (v := .int 0) (ty := .int) (C := RX4) (T := TX4) (N := 6) hx hb hts kX4_survey_2 tyX4 tyX4_ok nmX4 hown hK hP hD hS 10 rfl rfl 5 (by decide) (hts (.fieldLink RX4 28 "SightRidge$Routes" "relays" "I") kX4_survey_4) (fun _ h9 => h9) rfl (by decide +kernel) rfl rfl (Nat.le_of_ble_eq_true rfl) dX4_survey_10 (fun H locs hP hD hS => ?_)
  have hP : va_P D vwCl [(o, .inr (3, [.ref ga, .ref ma, .int (nI n), .int rg, .int bl])), (ga, .inl (cI, 20, .inl fg)), (ma, .inl (cI, 20, .inl fm)), v1, v2, v3, v4, v5, v6, v7, (q, .inr (4, [.ref qt, .ref ql, .ref qp, .ref qc, .int (nI n), .int 0])), (qt, .inl (cI, 20, .inl ft)), (ql, .inl (cI, 20, .inl fl)), (qp, .inl (cI, 20, .inl fp)), (qc, .inl (cI, 20, .inl fco))] _ := hP
  have hD : va_D (inW [(o, .inr (3, [.ref ga, .ref ma, .int (nI n), .int rg, .int bl])), (ga, .inl (cI, 20, .inl fg)), (ma, .inl (cI, 20, .inl fm)), v1, v2, v3, v4, v5, v6, v7, (q, .inr (4, [.ref qt, .ref ql, .ref qp, .ref qc, .int rs, .int rr])), (qt, .inl (cI, 20, .inl ft)), (ql, .inl (cI, 20, .inl fl)), (qp, .inl (cI, 20, .inl fp)), (qc, .inl (cI, 20, .inl fco))]) [(o, .inr (3, [.ref ga, .ref ma, .int (nI n), .int rg, .int bl])), (ga, .inl (cI, 20, .inl fg)), (ma, .inl (cI, 20, .inl fm)), v1, v2, v3, v4, v5, v6, v7, (q, .inr (4, [.ref qt, .ref ql, .ref qp, .ref qc, .int (nI n), .int 0])), (qt, .inl (cI, 20, .inl ft)), (ql, .inl (cI, 20, .inl fl)), (qp, .inl (cI, 20, .inl fp)), (qc, .inl (cI, 20, .inl fco))] := hD
  refine lv_iconst (v := 0) hx hb dX4_survey_13 (by decide) ?_
  refine lv_istore_n (lv' := [(3, .int 0), (0, .ref q), (1, .ref o), (2, .int h)]) hx hb dX4_survey_14 rfl hl (by decide) rfl (fun ls hl => ?_)
  have L_15 : ∀ (k_15 : Nat) (i : Nat) (u1 : Nat → Int32) (u2 : Nat → Int32) (v : Int32), n - i < k_15 → (i ≤ n) → (∀ k, k < i → u1 k = hT G M h k) → (∀ k, k < i → u2 k = nI (prN1 M h k)) → (v = nI (bs (reB M h) i)) → ∀ (H : Heap) (locs : List Loc), va_P D vwCl [(o, .inr (3, [.ref ga, .ref ma, .int (nI n), .int rg, .int bl])), (ga, .inl (cI, 20, .inl fg)), (ma, .inl (cI, 20, .inl fm)), v1, v2, v3, v4, v5, v6, v7, (q, .inr (4, [.ref qt, .ref ql, .ref qp, .ref qc, .int (nI n), .int v])), (qt, .inl (cI, 20, .inl u1)), (ql, .inl (cI, 20, .inl fl)), (qp, .inl (cI, 20, .inl u2)), (qc, .inl (cI, 20, .inl fco))] H → va_D (inW [(o, .inr (3, [.ref ga, .ref ma, .int (nI n), .int rg, .int bl])), (ga, .inl (cI, 20, .inl fg)), (ma, .inl (cI, 20, .inl fm)), v1, v2, v3, v4, v5, v6, v7, (q, .inr (4, [.ref qt, .ref ql, .ref qp, .ref qc, .int rs, .int rr])), (qt, .inl (cI, 20, .inl ft)), (ql, .inl (cI, 20, .inl fl)), (qp, .inl (cI, 20, .inl fp)), (qc, .inl (cI, 20, .inl fco))]) [(o, .inr (3, [.ref ga, .ref ma, .int (nI n), .int rg, .int bl])), (ga, .inl (cI, 20, .inl fg)), (ma, .inl (cI, 20, .inl fm)), v1, v2, v3, v4, v5, v6, v7, (q, .inr (4, [.ref qt, .ref ql, .ref qp, .ref qc, .int (nI n), .int v])), (qt, .inl (cI, 20, .inl u1)), (ql, .inl (cI, 20, .inl fl)), (qp, .inl (cI, 20, .inl u2)), (qc, .inl (cI, 20, .inl fco))] → va_S (inW [(o, .inr (3, [.ref ga, .ref ma, .int (nI n), .int rg, .int bl])), (ga, .inl (cI, 20, .inl fg)), (ma, .inl (cI, 20, .inl fm)), v1, v2, v3, v4, v5, v6, v7, (q, .inr (4, [.ref qt, .ref ql, .ref qp, .ref qc, .int rs, .int rr])), (qt, .inl (cI, 20, .inl ft)), (ql, .inl (cI, 20, .inl fl)), (qp, .inl (cI, 20, .inl fp)), (qc, .inl (cI, 20, .inl fco))]) s.heap H locs → ∀ (ls : Array Slot), lv_has ls 5 [(0, .ref q), (1, .ref o), (2, .int h), (3, .int (nI i))] → W p l e (rmD 6) s m ([.ref q, .ref o, .int h] : List Value).toArray below meth c H locs 0 0 (MQ below (wrQv D [(o, .inr (3, [.ref ga, .ref ma, .int (nI n), .int rg, .int bl])), (ga, .inl (cI, 20, .inl fg)), (ma, .inl (cI, 20, .inl fm)), v1, v2, v3, v4, v5, v6, v7, (q, .inr (4, [.ref qt, .ref ql, .ref qp, .ref qc, .int rs, .int rr])), (qt, .inl (cI, 20, .inl ft)), (ql, .inl (cI, 20, .inl fl)), (qp, .inl (cI, 20, .inl fp)), (qc, .inl (cI, 20, .inl fco))] (fun (u : (Nat → Int32) × (Nat → Int32) × (Nat → Int32)) => (∀ k, k < n → u.1 k = hT G M h k) ∧ (∀ k, k < n → u.2.1 k = nI (bs (lkB G rg bl (hT G M h) k) n)) ∧ (∀ k, k < n → u.2.2 k = nI (prN1 M h k))) (fun (u : (Nat → Int32) × (Nat → Int32) × (Nat → Int32)) => [(o, .inr (3, [.ref ga, .ref ma, .int (nI n), .int rg, .int bl])), (ga, .inl (cI, 20, .inl fg)), (ma, .inl (cI, 20, .inl fm)), v1, v2, v3, v4, v5, v6, v7, (q, .inr (4, [.ref qt, .ref ql, .ref qp, .ref qc, .int (nI n), .int (nI (bs (reB M h) n))])), (qt, .inl (cI, 20, .inl u.1)), (ql, .inl (cI, 20, .inl u.2.1)), (qp, .inl (cI, 20, .inl u.2.2)), (qc, .inl (cI, 20, .inl fco))])) ([.ref q, .ref o, .int h] : List Value).toArray s 0 0 (inW [(o, .inr (3, [.ref ga, .ref ma, .int (nI n), .int rg, .int bl])), (ga, .inl (cI, 20, .inl fg)), (ma, .inl (cI, 20, .inl fm)), v1, v2, v3, v4, v5, v6, v7, (q, .inr (4, [.ref qt, .ref ql, .ref qp, .ref qc, .int rs, .int rr])), (qt, .inl (cI, 20, .inl ft)), (ql, .inl (cI, 20, .inl fl)), (qp, .inl (cI, 20, .inl fp)), (qc, .inl (cI, 20, .inl fco))])) (F0 m 15 ls []) := by
    intro k_15
    induction k_15 with
    | zero => intro i u1 u2 v h9; exact absurd h9 (Nat.not_lt_zero _)
    | succ k_15 ih_15 =>
      intro i u1 u2 v hm_15 hi hu1 hu2 hv H locs hP hD hS ls hl
      refine lv_iload_n hx hb dX4_survey_15 rfl (lv_at hl 3 rfl) ?_
      refine lv_aload_n hx hb dX4_survey_16 rfl (lv_at hl 0 rfl) ?_
      refine va_get (D := D) (ci := 4) (v := .int (nI n)) (C := RX4) (T := TX4) (N := 6) hx hb hts kX4_survey_2 hown hK hP 10 rfl rfl 4 (by decide) (hts (.fieldLink RX4 24 "SightRidge$Routes" "stations" "I") kX4_survey_3) (fun _ h9 => h9) rfl dX4_survey_17 ?_
      refine lv_icmp_ge (tgt := 109) hx hb dX4_survey_20 (by decide) (fun c_20 => ?_) (fun c_20 => ?_)
      · skip
        have c0 : n ≤ i := ge_t (by omega) c_20
        refine lv_iconst (v := 0) hx hb dX4_survey_109 (by decide) ?_
        refine lv_istore_n (lv' := [(3, .int 0), (0, .ref q), (1, .ref o), (2, .int h)]) hx hb dX4_survey_110 rfl hl (by decide) rfl (fun ls hl => ?_)
        have hu1n : ∀ k, k < n → u1 k = hT G M h k := fun k hk => hu1 k (by omega)
        have hvn : v = nI (bs (reB M h) n) := by rw [hv, show i = n by omega]
        have e9 : ([(o, .inr (3, [.ref ga, .ref ma, .int (nI n), .int rg, .int bl])), (ga, .inl (cI, 20, .inl fg)), (ma, .inl (cI, 20, .inl fm)), v1, v2, v3, v4, v5, v6, v7, (q, .inr (4, [.ref qt, .ref ql, .ref qp, .ref qc, .int (nI n), .int v])), (qt, .inl (cI, 20, .inl u1)), (ql, .inl (cI, 20, .inl fl)), (qp, .inl (cI, 20, .inl u2)), (qc, .inl (cI, 20, .inl fco))] : va_W) = [(o, .inr (3, [.ref ga, .ref ma, .int (nI n), .int rg, .int bl])), (ga, .inl (cI, 20, .inl fg)), (ma, .inl (cI, 20, .inl fm)), v1, v2, v3, v4, v5, v6, v7, (q, .inr (4, [.ref qt, .ref ql, .ref qp, .ref qc, .int (nI n), .int (nI (bs (reB M h) n))])), (qt, .inl (cI, 20, .inl u1)), (ql, .inl (cI, 20, .inl fl)), (qp, .inl (cI, 20, .inl u2)), (qc, .inl (cI, 20, .inl fco))] := congrArg (fun f9 : Int32 => ([(o, .inr (3, [.ref ga, .ref ma, .int (nI n), .int rg, .int bl])), (ga, .inl (cI, 20, .inl fg)), (ma, .inl (cI, 20, .inl fm)), v1, v2, v3, v4, v5, v6, v7, (q, .inr (4, [.ref qt, .ref ql, .ref qp, .ref qc, .int (nI n), .int f9])), (qt, .inl (cI, 20, .inl u1)), (ql, .inl (cI, 20, .inl fl)), (qp, .inl (cI, 20, .inl u2)), (qc, .inl (cI, 20, .inl fco))] : va_W)) (show v = nI (bs (reB M h) n) from hvn)
        have hP := va_P_eq e9 hP
        have hD := va_D_eq e9 hD
        have L_111 : ∀ (k_111 : Nat) (j : Nat) (u3 : Nat → Int32), n - j < k_111 → (j ≤ n) → (∀ k, k < j → u3 k = nI (bs (lkB G rg bl (hT G M h) k) n)) → ∀ (H : Heap) (locs : List Loc), va_P D vwCl [(o, .inr (3, [.ref ga, .ref ma, .int (nI n), .int rg, .int bl])), (ga, .inl (cI, 20, .inl fg)), (ma, .inl (cI, 20, .inl fm)), v1, v2, v3, v4, v5, v6, v7, (q, .inr (4, [.ref qt, .ref ql, .ref qp, .ref qc, .int (nI n), .int (nI (bs (reB M h) n))])), (qt, .inl (cI, 20, .inl u1)), (ql, .inl (cI, 20, .inl u3)), (qp, .inl (cI, 20, .inl u2)), (qc, .inl (cI, 20, .inl fco))] H → va_D (inW [(o, .inr (3, [.ref ga, .ref ma, .int (nI n), .int rg, .int bl])), (ga, .inl (cI, 20, .inl fg)), (ma, .inl (cI, 20, .inl fm)), v1, v2, v3, v4, v5, v6, v7, (q, .inr (4, [.ref qt, .ref ql, .ref qp, .ref qc, .int rs, .int rr])), (qt, .inl (cI, 20, .inl ft)), (ql, .inl (cI, 20, .inl fl)), (qp, .inl (cI, 20, .inl fp)), (qc, .inl (cI, 20, .inl fco))]) [(o, .inr (3, [.ref ga, .ref ma, .int (nI n), .int rg, .int bl])), (ga, .inl (cI, 20, .inl fg)), (ma, .inl (cI, 20, .inl fm)), v1, v2, v3, v4, v5, v6, v7, (q, .inr (4, [.ref qt, .ref ql, .ref qp, .ref qc, .int (nI n), .int (nI (bs (reB M h) n))])), (qt, .inl (cI, 20, .inl u1)), (ql, .inl (cI, 20, .inl u3)), (qp, .inl (cI, 20, .inl u2)), (qc, .inl (cI, 20, .inl fco))] → va_S (inW [(o, .inr (3, [.ref ga, .ref ma, .int (nI n), .int rg, .int bl])), (ga, .inl (cI, 20, .inl fg)), (ma, .inl (cI, 20, .inl fm)), v1, v2, v3, v4, v5, v6, v7, (q, .inr (4, [.ref qt, .ref ql, .ref qp, .ref qc, .int rs, .int rr])), (qt, .inl (cI, 20, .inl ft)), (ql, .inl (cI, 20, .inl fl)), (qp, .inl (cI, 20, .inl fp)), (qc, .inl (cI, 20, .inl fco))]) s.heap H locs → ∀ (ls : Array Slot), lv_has ls 5 [(0, .ref q), (1, .ref o), (2, .int h), (3, .int (nI j))] → W p l e (rmD 6) s m ([.ref q, .ref o, .int h] : List Value).toArray below meth c H locs 0 0 (MQ below (wrQv D [(o, .inr (3, [.ref ga, .ref ma, .int (nI n), .int rg, .int bl])), (ga, .inl (cI, 20, .inl fg)), (ma, .inl (cI, 20, .inl fm)), v1, v2, v3, v4, v5, v6, v7, (q, .inr (4, [.ref qt, .ref ql, .ref qp, .ref qc, .int rs, .int rr])), (qt, .inl (cI, 20, .inl ft)), (ql, .inl (cI, 20, .inl fl)), (qp, .inl (cI, 20, .inl fp)), (qc, .inl (cI, 20, .inl fco))] (fun (u : (Nat → Int32) × (Nat → Int32) × (Nat → Int32)) => (∀ k, k < n → u.1 k = hT G M h k) ∧ (∀ k, k < n → u.2.1 k = nI (bs (lkB G rg bl (hT G M h) k) n)) ∧ (∀ k, k < n → u.2.2 k = nI (prN1 M h k))) (fun (u : (Nat → Int32) × (Nat → Int32) × (Nat → Int32)) => [(o, .inr (3, [.ref ga, .ref ma, .int (nI n), .int rg, .int bl])), (ga, .inl (cI, 20, .inl fg)), (ma, .inl (cI, 20, .inl fm)), v1, v2, v3, v4, v5, v6, v7, (q, .inr (4, [.ref qt, .ref ql, .ref qp, .ref qc, .int (nI n), .int (nI (bs (reB M h) n))])), (qt, .inl (cI, 20, .inl u.1)), (ql, .inl (cI, 20, .inl u.2.1)), (qp, .inl (cI, 20, .inl u.2.2)), (qc, .inl (cI, 20, .inl fco))])) ([.ref q, .ref o, .int h] : List Value).toArray s 0 0 (inW [(o, .inr (3, [.ref ga, .ref ma, .int (nI n), .int rg, .int bl])), (ga, .inl (cI, 20, .inl fg)), (ma, .inl (cI, 20, .inl fm)), v1, v2, v3, v4, v5, v6, v7, (q, .inr (4, [.ref qt, .ref ql, .ref qp, .ref qc, .int rs, .int rr])), (qt, .inl (cI, 20, .inl ft)), (ql, .inl (cI, 20, .inl fl)), (qp, .inl (cI, 20, .inl fp)), (qc, .inl (cI, 20, .inl fco))])) (F0 m 111 ls []) := by
          intro k_111
          induction k_111 with
          | zero => intro j u3 h9; exact absurd h9 (Nat.not_lt_zero _)
          | succ k_111 ih_111 =>
            intro j u3 hm_111 hj hu3 H locs hP hD hS ls hl
            refine lv_iload_n hx hb dX4_survey_111 rfl (lv_at hl 3 rfl) ?_
            refine lv_aload_n hx hb dX4_survey_112 rfl (lv_at hl 0 rfl) ?_
            refine va_get (D := D) (ci := 4) (v := .int (nI n)) (C := RX4) (T := TX4) (N := 6) hx hb hts kX4_survey_2 hown hK hP 10 rfl rfl 4 (by decide) (hts (.fieldLink RX4 24 "SightRidge$Routes" "stations" "I") kX4_survey_3) (fun _ h9 => h9) rfl dX4_survey_113 ?_
            refine lv_icmp_ge (tgt := 137) hx hb dX4_survey_116 (by decide) (fun c_116 => ?_) (fun c_116 => ?_)
            · skip
              have c1 : n ≤ j := ge_t (by omega) c_116
              exact W.vret hx hb hr (fun tS htS hWS => ⟨⟨(u1, u3, u2), rfl, ⟨hu1n, fun k hk => hu3 k (by omega), fun k hk => hu2 k (by omega)⟩, retP htS hP⟩, hS.F htS⟩) hS.2.2 dX4_survey_137
            · skip
              have c1 : j < n := ge_f (by omega) c_116
              refine lv_aload_n hx hb dX4_survey_119 rfl (lv_at hl 0 rfl) ?_
              refine va_get (D := D) (ci := 4) (v := .ref ql) (C := RX4) (T := TX4) (N := 6) hx hb hts kX4_survey_2 hown hK hP 10 rfl rfl 1 (by decide) (hts (.fieldLink RX4 15 "SightRidge$Routes" "links" "[I") kX4_survey_5) (fun _ h9 => h9) rfl dX4_survey_120 ?_
              refine lv_iload_n hx hb dX4_survey_123 rfl (lv_at hl 3 rfl) ?_
              refine lv_aload_n hx hb dX4_survey_124 rfl (lv_at hl 0 rfl) ?_
              refine lv_aload_n hx hb dX4_survey_125 rfl (lv_at hl 1 rfl) ?_
              refine lv_iload_n hx hb dX4_survey_126 rfl (lv_at hl 3 rfl) ?_
              refine rd_calli hP hS (va_runV (As := [.ref o, .int (nI j)]) (rest := [.int (nI j), .ref ql]) ⟨hx, hb, hml, hown, hts⟩ (c_X4_linksOf l D cI cB cO q qt ql qp qc n (nI (bs (reB M h) n)) u1 u3 u2 fco (hT G M h) o ga ma rg bl fg fm G M j hn hG hM hu1n c1) (cwV 2 hts gX4_survey_X4_linksOf rfl rfl rfl (by decide +kernel) ⟨Nat.le_of_ble_eq_true rfl, Nat.le_of_ble_eq_true rfl⟩) (rd_preV (r := (RX4, TX4, 6)) (ci := 4) hK (hP.pick [10, 11, 0, 1, 2] rfl) hN (q0 := 0) rfl rfl) rfl rfl hl.1 rfl (lv_room (Nat.le_of_ble_eq_true rfl)) dX4_survey_127 ⟨Nat.le_refl _, Nat.le_refl _⟩) (fun r_127 H locs h_127 hP hS => ?_)
              subst h_127
              refine va_iast hx hb hK hP hD hS 12 0 rfl rfl (i := nI j) (vp_in_nI (N := 20) (by omega) (by decide)) dX4_survey_130 (fun H locs hP hD hS => ?_)
              rw [nI_clamp (n := j) (by omega)] at hP hD
              have hP : va_P D vwCl [(o, .inr (3, [.ref ga, .ref ma, .int (nI n), .int rg, .int bl])), (ga, .inl (cI, 20, .inl fg)), (ma, .inl (cI, 20, .inl fm)), v1, v2, v3, v4, v5, v6, v7, (q, .inr (4, [.ref qt, .ref ql, .ref qp, .ref qc, .int (nI n), .int (nI (bs (reB M h) n))])), (qt, .inl (cI, 20, .inl u1)), (ql, .inl (cI, 20, .inl (upd u3 j (nI (bs (lkB G rg bl (hT G M h) j) n))))), (qp, .inl (cI, 20, .inl u2)), (qc, .inl (cI, 20, .inl fco))] _ := hP
              have hD : va_D (inW [(o, .inr (3, [.ref ga, .ref ma, .int (nI n), .int rg, .int bl])), (ga, .inl (cI, 20, .inl fg)), (ma, .inl (cI, 20, .inl fm)), v1, v2, v3, v4, v5, v6, v7, (q, .inr (4, [.ref qt, .ref ql, .ref qp, .ref qc, .int rs, .int rr])), (qt, .inl (cI, 20, .inl ft)), (ql, .inl (cI, 20, .inl fl)), (qp, .inl (cI, 20, .inl fp)), (qc, .inl (cI, 20, .inl fco))]) [(o, .inr (3, [.ref ga, .ref ma, .int (nI n), .int rg, .int bl])), (ga, .inl (cI, 20, .inl fg)), (ma, .inl (cI, 20, .inl fm)), v1, v2, v3, v4, v5, v6, v7, (q, .inr (4, [.ref qt, .ref ql, .ref qp, .ref qc, .int (nI n), .int (nI (bs (reB M h) n))])), (qt, .inl (cI, 20, .inl u1)), (ql, .inl (cI, 20, .inl (upd u3 j (nI (bs (lkB G rg bl (hT G M h) j) n))))), (qp, .inl (cI, 20, .inl u2)), (qc, .inl (cI, 20, .inl fco))] := hD
              refine lv_iinc (v := nI (j + 1)) (lv' := [(3, .int (nI (j + 1))), (0, .ref q), (1, .ref o), (2, .int h)]) hx hb dX4_survey_131 hl (k := 3) rfl (inc1 _) (by decide) rfl (fun ls hl => ?_)
              refine lv_goto (tgt := 111) hx hb dX4_survey_134 (by decide) ?_
              exact ih_111 (j + 1) (upd u3 j (nI (bs (lkB G rg bl (hT G M h) j) n))) (by omega) (by omega) (up_s hu3 (F := fun k => nI (bs (lkB G rg bl (hT G M h) k) n)) rfl) _ _ hP hD hS ls (lv_sub hl [1, 2, 3, 0] rfl)
        exact L_111 _ 0 fl (Nat.lt_succ_self _) (by omega) (up_0) _ _ hP hD hS ls (lv_sub hl [1, 2, 3, 0] rfl)
      · skip
        have c0 : i < n := ge_f (by omega) c_20
        refine lv_aload_n hx hb dX4_survey_23 rfl (lv_at hl 1 rfl) ?_
        refine va_get (D := D) (ci := 3) (v := .ref ma) (C := RX3) (T := TX3) (N := 5) hx hb hts kX4_survey_0 hown hK hP 0 rfl rfl 1 (by decide) (hts (.fieldLink RX4 34 "SightRidge$Profile" "masts" "[I") kX4_survey_6) (fun _ h9 => h9) rfl dX4_survey_24 ?_
        refine lv_iload_n hx hb dX4_survey_27 rfl (lv_at hl 3 rfl) ?_
        refine va_iald hx hb hK hP 2 0 rfl rfl (i := nI i) (vp_in_nI (N := 20) (by omega) (by decide)) dX4_survey_28 ?_
        rw [nI_clamp (n := i) (by omega)]
        refine lv_topi (fun y_1 e_2 => ?_)
        have e_2 : M i = y_1 := (e_2.trans (hM i c0)).symm
        subst e_2
        refine lv_if_ne (tgt := 36) hx hb dX4_survey_29 (by decide) (fun c_29 => ?_) (fun c_29 => ?_)
        · skip
          have b1 : ¬ M i = 0 := c_29
          refine lv_iconst (v := 0) hx hb dX4_survey_36 (by decide) ?_
          refine lv_istore (lv' := [(4, .int 0), (0, .ref q), (1, .ref o), (2, .int h), (3, .int (nI i))]) hx hb dX4_survey_37 hl (by decide) rfl (fun ls hl => ?_)
          refine lv_aload_n hx hb dX4_survey_39 rfl (lv_at hl 1 rfl) ?_
          refine va_get (D := D) (ci := 4) (v := .ref qt) (C := RX4) (T := TX4) (N := 6) hx hb hts kX4_survey_2 hown hK hP 10 rfl rfl 0 (by decide) (hts (.fieldLink RX4 9 "SightRidge$Routes" "tops" "[I") kX4_survey_7) (fun _ h9 => h9) rfl dX4_survey_40 ?_
          refine lv_iload_n hx hb dX4_survey_43 rfl (lv_at hl 4 rfl) ?_
          refine lv_aload_n hx hb dX4_survey_44 rfl (lv_at hl 2 rfl) ?_
          refine lv_iload_n hx hb dX4_survey_45 rfl (lv_at hl 4 rfl) ?_
          refine rd_calli hP hS (va_runV (As := [.int (nI i)]) (rest := [.int (nI i), .ref qt]) ⟨hx, hb, hml, hown, hts⟩ (c_X3_topOf l D cI cB cO o ga ma n rg bl fg fm G M i hn hG hM c0) (cwV 1 hts gX4_survey_X3_topOf rfl rfl rfl (by decide +kernel) ⟨Nat.le_of_ble_eq_true rfl, Nat.le_of_ble_eq_true rfl⟩) (rd_preV (r := (RX3, TX3, 5)) (ci := 3) hK (hP.pick [0, 1, 2] rfl) hN (q0 := 0) rfl rfl) rfl rfl hl.1 rfl (lv_room (Nat.le_of_ble_eq_true rfl)) dX4_survey_46 ⟨Nat.le_refl _, Nat.le_refl _⟩) (fun r_46 H locs h_46 hP hS => ?_)
          subst h_46
          refine lv_iload hx hb dX4_survey_49 (lv_at hl 0 rfl) ?_
          refine lv_if_eq (tgt := 58) hx hb dX4_survey_51 (by decide) (fun c_51 => ?_) (fun c_51 => ?_)
          · skip
            refine lv_iconst (v := 0) hx hb dX4_survey_58 (by decide) ?_
            refine lv_iadd hx hb dX4_survey_59 ?_
            refine va_iast hx hb hK hP hD hS 11 0 rfl rfl (i := nI i) (vp_in_nI (N := 20) (by omega) (by decide)) dX4_survey_60 (fun H locs hP hD hS => ?_)
            rw [nI_clamp (n := i) (by omega)] at hP hD
            have hP : va_P D vwCl [(o, .inr (3, [.ref ga, .ref ma, .int (nI n), .int rg, .int bl])), (ga, .inl (cI, 20, .inl fg)), (ma, .inl (cI, 20, .inl fm)), v1, v2, v3, v4, v5, v6, v7, (q, .inr (4, [.ref qt, .ref ql, .ref qp, .ref qc, .int (nI n), .int v])), (qt, .inl (cI, 20, .inl (upd u1 i ((tp G M i) + 0)))), (ql, .inl (cI, 20, .inl fl)), (qp, .inl (cI, 20, .inl u2)), (qc, .inl (cI, 20, .inl fco))] _ := hP
            have hD : va_D (inW [(o, .inr (3, [.ref ga, .ref ma, .int (nI n), .int rg, .int bl])), (ga, .inl (cI, 20, .inl fg)), (ma, .inl (cI, 20, .inl fm)), v1, v2, v3, v4, v5, v6, v7, (q, .inr (4, [.ref qt, .ref ql, .ref qp, .ref qc, .int rs, .int rr])), (qt, .inl (cI, 20, .inl ft)), (ql, .inl (cI, 20, .inl fl)), (qp, .inl (cI, 20, .inl fp)), (qc, .inl (cI, 20, .inl fco))]) [(o, .inr (3, [.ref ga, .ref ma, .int (nI n), .int rg, .int bl])), (ga, .inl (cI, 20, .inl fg)), (ma, .inl (cI, 20, .inl fm)), v1, v2, v3, v4, v5, v6, v7, (q, .inr (4, [.ref qt, .ref ql, .ref qp, .ref qc, .int (nI n), .int v])), (qt, .inl (cI, 20, .inl (upd u1 i ((tp G M i) + 0)))), (ql, .inl (cI, 20, .inl fl)), (qp, .inl (cI, 20, .inl u2)), (qc, .inl (cI, 20, .inl fco))] := hD
            refine lv_aload_n hx hb dX4_survey_61 rfl (lv_at hl 1 rfl) ?_
            refine va_get (D := D) (ci := 4) (v := .ref qp) (C := RX4) (T := TX4) (N := 6) hx hb hts kX4_survey_2 hown hK hP 10 rfl rfl 2 (by decide) (hts (.fieldLink RX4 18 "SightRidge$Routes" "prices" "[I") kX4_survey_8) (fun _ h9 => h9) rfl dX4_survey_62 ?_
            refine lv_iload_n hx hb dX4_survey_65 rfl (lv_at hl 4 rfl) ?_
            refine lv_iload hx hb dX4_survey_66 (lv_at hl 0 rfl) ?_
            refine lv_if_eq (tgt := 80) hx hb dX4_survey_68 (by decide) (fun c_68 => ?_) (fun c_68 => ?_)
            · skip
              refine lv_iconst (v := 1) hx hb dX4_survey_80 (by decide) ?_
              refine va_iast hx hb hK hP hD hS 13 0 rfl rfl (i := nI i) (vp_in_nI (N := 20) (by omega) (by decide)) dX4_survey_81 (fun H locs hP hD hS => ?_)
              rw [nI_clamp (n := i) (by omega)] at hP hD
              have hP : va_P D vwCl [(o, .inr (3, [.ref ga, .ref ma, .int (nI n), .int rg, .int bl])), (ga, .inl (cI, 20, .inl fg)), (ma, .inl (cI, 20, .inl fm)), v1, v2, v3, v4, v5, v6, v7, (q, .inr (4, [.ref qt, .ref ql, .ref qp, .ref qc, .int (nI n), .int v])), (qt, .inl (cI, 20, .inl (upd u1 i ((tp G M i) + 0)))), (ql, .inl (cI, 20, .inl fl)), (qp, .inl (cI, 20, .inl (upd u2 i 1))), (qc, .inl (cI, 20, .inl fco))] _ := hP
              have hD : va_D (inW [(o, .inr (3, [.ref ga, .ref ma, .int (nI n), .int rg, .int bl])), (ga, .inl (cI, 20, .inl fg)), (ma, .inl (cI, 20, .inl fm)), v1, v2, v3, v4, v5, v6, v7, (q, .inr (4, [.ref qt, .ref ql, .ref qp, .ref qc, .int rs, .int rr])), (qt, .inl (cI, 20, .inl ft)), (ql, .inl (cI, 20, .inl fl)), (qp, .inl (cI, 20, .inl fp)), (qc, .inl (cI, 20, .inl fco))]) [(o, .inr (3, [.ref ga, .ref ma, .int (nI n), .int rg, .int bl])), (ga, .inl (cI, 20, .inl fg)), (ma, .inl (cI, 20, .inl fm)), v1, v2, v3, v4, v5, v6, v7, (q, .inr (4, [.ref qt, .ref ql, .ref qp, .ref qc, .int (nI n), .int v])), (qt, .inl (cI, 20, .inl (upd u1 i ((tp G M i) + 0)))), (ql, .inl (cI, 20, .inl fl)), (qp, .inl (cI, 20, .inl (upd u2 i 1))), (qc, .inl (cI, 20, .inl fco))] := hD
              refine lv_iload hx hb dX4_survey_82 (lv_at hl 0 rfl) ?_
              refine lv_if_eq (tgt := 91) hx hb dX4_survey_84 (by decide) (fun c_84 => ?_) (fun c_84 => ?_)
              · skip
                refine lv_aload_n hx hb dX4_survey_91 rfl (lv_at hl 1 rfl) ?_
                refine lv_dup hx hb dX4_survey_92 rfl ?_
                refine va_get (D := D) (ci := 4) (v := .int v) (C := RX4) (T := TX4) (N := 6) hx hb hts kX4_survey_2 hown hK hP 10 rfl rfl 5 (by decide) (hts (.fieldLink RX4 28 "SightRidge$Routes" "relays" "I") kX4_survey_4) (fun _ h9 => h9) rfl dX4_survey_93 ?_
                refine lv_iconst (v := 1) hx hb dX4_survey_96 (by decide) ?_
                refine lv_iload_n hx hb dX4_survey_97 rfl (lv_at hl 4 rfl) ?_
                refine lv_ishl hx hb dX4_survey_98 ?_
                refine lv_ior hx hb dX4_survey_99 ?_
                refine va_put (D := D) (ci := 4) (v := .int (v ||| (1 <<< ((nI i) &&& 31)))) (ty := .int) (C := RX4) (T := TX4) (N := 6) hx hb hts kX4_survey_2 tyX4 tyX4_ok nmX4 hown hK hP hD hS 10 rfl rfl 5 (by decide) (hts (.fieldLink RX4 28 "SightRidge$Routes" "relays" "I") kX4_survey_4) (fun _ h9 => h9) rfl (by decide +kernel) rfl rfl (Nat.le_of_ble_eq_true rfl) dX4_survey_100 (fun H locs hP hD hS => ?_)
                have hP : va_P D vwCl [(o, .inr (3, [.ref ga, .ref ma, .int (nI n), .int rg, .int bl])), (ga, .inl (cI, 20, .inl fg)), (ma, .inl (cI, 20, .inl fm)), v1, v2, v3, v4, v5, v6, v7, (q, .inr (4, [.ref qt, .ref ql, .ref qp, .ref qc, .int (nI n), .int (v ||| (1 <<< ((nI i) &&& 31)))])), (qt, .inl (cI, 20, .inl (upd u1 i ((tp G M i) + 0)))), (ql, .inl (cI, 20, .inl fl)), (qp, .inl (cI, 20, .inl (upd u2 i 1))), (qc, .inl (cI, 20, .inl fco))] _ := hP
                have hD : va_D (inW [(o, .inr (3, [.ref ga, .ref ma, .int (nI n), .int rg, .int bl])), (ga, .inl (cI, 20, .inl fg)), (ma, .inl (cI, 20, .inl fm)), v1, v2, v3, v4, v5, v6, v7, (q, .inr (4, [.ref qt, .ref ql, .ref qp, .ref qc, .int rs, .int rr])), (qt, .inl (cI, 20, .inl ft)), (ql, .inl (cI, 20, .inl fl)), (qp, .inl (cI, 20, .inl fp)), (qc, .inl (cI, 20, .inl fco))]) [(o, .inr (3, [.ref ga, .ref ma, .int (nI n), .int rg, .int bl])), (ga, .inl (cI, 20, .inl fg)), (ma, .inl (cI, 20, .inl fm)), v1, v2, v3, v4, v5, v6, v7, (q, .inr (4, [.ref qt, .ref ql, .ref qp, .ref qc, .int (nI n), .int (v ||| (1 <<< ((nI i) &&& 31)))])), (qt, .inl (cI, 20, .inl (upd u1 i ((tp G M i) + 0)))), (ql, .inl (cI, 20, .inl fl)), (qp, .inl (cI, 20, .inl (upd u2 i 1))), (qc, .inl (cI, 20, .inl fco))] := hD
                refine lv_iinc (v := nI (i + 1)) (lv' := [(3, .int (nI (i + 1))), (4, .int 0), (0, .ref q), (1, .ref o), (2, .int h)]) hx hb dX4_survey_103 hl (k := 4) rfl (inc1 _) (by decide) rfl (fun ls hl => ?_)
                refine lv_goto (tgt := 15) hx hb dX4_survey_106 (by decide) ?_
                exact ih_15 (i + 1) (upd u1 i ((tp G M i) + 0)) (upd u2 i 1) (v ||| (1 <<< ((nI i) &&& 31))) (by omega) (by omega) (by first | exact up_s hu1 (hT_b b1) | exact up_s hu1 (hT_m b1) | fail) (by first | exact up_s hu2 (F := fun k => nI (prN1 M h k)) (pr_33 b1 b2) | exact up_s hu2 (F := fun k => nI (prN1 M h k)) (pr_1 (fun z => b1 z.1)) | exact up_s hu2 (F := fun k => nI (prN1 M h k)) (pr_1 (fun z => b2 z.2)) | fail) (by subst hv; first | exact bs_orT (P := reB M h) (by omega) (decide_eq_true (Or.inl b1)) | exact bs_orT (P := reB M h) (by omega) (decide_eq_true (Or.inr b2)) | exact bs_orF (P := reB M h) (decide_eq_false (fun z => z.elim (fun y => y b1) b2)) | fail) _ _ hP hD hS ls (lv_sub hl [2, 3, 4, 0] rfl)
              · skip
                exact absurd (by decide) c_84
            · skip
              exact absurd (by decide) c_68
          · skip
            exact absurd (by decide) c_51
        · skip
          have b1 : M i = 0 := c_29
          refine lv_iconst (v := 1) hx hb dX4_survey_32 (by decide) ?_
          refine lv_goto (tgt := 37) hx hb dX4_survey_33 (by decide) ?_
          refine lv_istore (lv' := [(4, .int 1), (0, .ref q), (1, .ref o), (2, .int h), (3, .int (nI i))]) hx hb dX4_survey_37 hl (by decide) rfl (fun ls hl => ?_)
          refine lv_aload_n hx hb dX4_survey_39 rfl (lv_at hl 1 rfl) ?_
          refine va_get (D := D) (ci := 4) (v := .ref qt) (C := RX4) (T := TX4) (N := 6) hx hb hts kX4_survey_2 hown hK hP 10 rfl rfl 0 (by decide) (hts (.fieldLink RX4 9 "SightRidge$Routes" "tops" "[I") kX4_survey_7) (fun _ h9 => h9) rfl dX4_survey_40 ?_
          refine lv_iload_n hx hb dX4_survey_43 rfl (lv_at hl 4 rfl) ?_
          refine lv_aload_n hx hb dX4_survey_44 rfl (lv_at hl 2 rfl) ?_
          refine lv_iload_n hx hb dX4_survey_45 rfl (lv_at hl 4 rfl) ?_
          refine rd_calli hP hS (va_runV (As := [.int (nI i)]) (rest := [.int (nI i), .ref qt]) ⟨hx, hb, hml, hown, hts⟩ (c_X3_topOf l D cI cB cO o ga ma n rg bl fg fm G M i hn hG hM c0) (cwV 1 hts gX4_survey_X3_topOf rfl rfl rfl (by decide +kernel) ⟨Nat.le_of_ble_eq_true rfl, Nat.le_of_ble_eq_true rfl⟩) (rd_preV (r := (RX3, TX3, 5)) (ci := 3) hK (hP.pick [0, 1, 2] rfl) hN (q0 := 0) rfl rfl) rfl rfl hl.1 rfl (lv_room (Nat.le_of_ble_eq_true rfl)) dX4_survey_46 ⟨Nat.le_refl _, Nat.le_refl _⟩) (fun r_46 H locs h_46 hP hS => ?_)
          subst h_46
          refine lv_iload hx hb dX4_survey_49 (lv_at hl 0 rfl) ?_
          refine lv_if_eq (tgt := 58) hx hb dX4_survey_51 (by decide) (fun c_51 => ?_) (fun c_51 => ?_)
          · skip
            exact absurd c_51 (by decide)
          · skip
            refine lv_iload_n hx hb dX4_survey_54 rfl (lv_at hl 3 rfl) ?_
            refine lv_goto (tgt := 59) hx hb dX4_survey_55 (by decide) ?_
            refine lv_iadd hx hb dX4_survey_59 ?_
            refine va_iast hx hb hK hP hD hS 11 0 rfl rfl (i := nI i) (vp_in_nI (N := 20) (by omega) (by decide)) dX4_survey_60 (fun H locs hP hD hS => ?_)
            rw [nI_clamp (n := i) (by omega)] at hP hD
            have hP : va_P D vwCl [(o, .inr (3, [.ref ga, .ref ma, .int (nI n), .int rg, .int bl])), (ga, .inl (cI, 20, .inl fg)), (ma, .inl (cI, 20, .inl fm)), v1, v2, v3, v4, v5, v6, v7, (q, .inr (4, [.ref qt, .ref ql, .ref qp, .ref qc, .int (nI n), .int v])), (qt, .inl (cI, 20, .inl (upd u1 i ((tp G M i) + h)))), (ql, .inl (cI, 20, .inl fl)), (qp, .inl (cI, 20, .inl u2)), (qc, .inl (cI, 20, .inl fco))] _ := hP
            have hD : va_D (inW [(o, .inr (3, [.ref ga, .ref ma, .int (nI n), .int rg, .int bl])), (ga, .inl (cI, 20, .inl fg)), (ma, .inl (cI, 20, .inl fm)), v1, v2, v3, v4, v5, v6, v7, (q, .inr (4, [.ref qt, .ref ql, .ref qp, .ref qc, .int rs, .int rr])), (qt, .inl (cI, 20, .inl ft)), (ql, .inl (cI, 20, .inl fl)), (qp, .inl (cI, 20, .inl fp)), (qc, .inl (cI, 20, .inl fco))]) [(o, .inr (3, [.ref ga, .ref ma, .int (nI n), .int rg, .int bl])), (ga, .inl (cI, 20, .inl fg)), (ma, .inl (cI, 20, .inl fm)), v1, v2, v3, v4, v5, v6, v7, (q, .inr (4, [.ref qt, .ref ql, .ref qp, .ref qc, .int (nI n), .int v])), (qt, .inl (cI, 20, .inl (upd u1 i ((tp G M i) + h)))), (ql, .inl (cI, 20, .inl fl)), (qp, .inl (cI, 20, .inl u2)), (qc, .inl (cI, 20, .inl fco))] := hD
            refine lv_aload_n hx hb dX4_survey_61 rfl (lv_at hl 1 rfl) ?_
            refine va_get (D := D) (ci := 4) (v := .ref qp) (C := RX4) (T := TX4) (N := 6) hx hb hts kX4_survey_2 hown hK hP 10 rfl rfl 2 (by decide) (hts (.fieldLink RX4 18 "SightRidge$Routes" "prices" "[I") kX4_survey_8) (fun _ h9 => h9) rfl dX4_survey_62 ?_
            refine lv_iload_n hx hb dX4_survey_65 rfl (lv_at hl 4 rfl) ?_
            refine lv_iload hx hb dX4_survey_66 (lv_at hl 0 rfl) ?_
            refine lv_if_eq (tgt := 80) hx hb dX4_survey_68 (by decide) (fun c_68 => ?_) (fun c_68 => ?_)
            · skip
              exact absurd c_68 (by decide)
            · skip
              refine lv_iload_n hx hb dX4_survey_71 rfl (lv_at hl 3 rfl) ?_
              refine lv_if_le (tgt := 80) hx hb dX4_survey_72 (by decide) (fun c_72 => ?_) (fun c_72 => ?_)
              · skip
                have b2 : ¬ 0 < h := Int32.not_lt.mpr c_72
                refine lv_iconst (v := 1) hx hb dX4_survey_80 (by decide) ?_
                refine va_iast hx hb hK hP hD hS 13 0 rfl rfl (i := nI i) (vp_in_nI (N := 20) (by omega) (by decide)) dX4_survey_81 (fun H locs hP hD hS => ?_)
                rw [nI_clamp (n := i) (by omega)] at hP hD
                have hP : va_P D vwCl [(o, .inr (3, [.ref ga, .ref ma, .int (nI n), .int rg, .int bl])), (ga, .inl (cI, 20, .inl fg)), (ma, .inl (cI, 20, .inl fm)), v1, v2, v3, v4, v5, v6, v7, (q, .inr (4, [.ref qt, .ref ql, .ref qp, .ref qc, .int (nI n), .int v])), (qt, .inl (cI, 20, .inl (upd u1 i ((tp G M i) + h)))), (ql, .inl (cI, 20, .inl fl)), (qp, .inl (cI, 20, .inl (upd u2 i 1))), (qc, .inl (cI, 20, .inl fco))] _ := hP
                have hD : va_D (inW [(o, .inr (3, [.ref ga, .ref ma, .int (nI n), .int rg, .int bl])), (ga, .inl (cI, 20, .inl fg)), (ma, .inl (cI, 20, .inl fm)), v1, v2, v3, v4, v5, v6, v7, (q, .inr (4, [.ref qt, .ref ql, .ref qp, .ref qc, .int rs, .int rr])), (qt, .inl (cI, 20, .inl ft)), (ql, .inl (cI, 20, .inl fl)), (qp, .inl (cI, 20, .inl fp)), (qc, .inl (cI, 20, .inl fco))]) [(o, .inr (3, [.ref ga, .ref ma, .int (nI n), .int rg, .int bl])), (ga, .inl (cI, 20, .inl fg)), (ma, .inl (cI, 20, .inl fm)), v1, v2, v3, v4, v5, v6, v7, (q, .inr (4, [.ref qt, .ref ql, .ref qp, .ref qc, .int (nI n), .int v])), (qt, .inl (cI, 20, .inl (upd u1 i ((tp G M i) + h)))), (ql, .inl (cI, 20, .inl fl)), (qp, .inl (cI, 20, .inl (upd u2 i 1))), (qc, .inl (cI, 20, .inl fco))] := hD
                refine lv_iload hx hb dX4_survey_82 (lv_at hl 0 rfl) ?_
                refine lv_if_eq (tgt := 91) hx hb dX4_survey_84 (by decide) (fun c_84 => ?_) (fun c_84 => ?_)
                · skip
                  exact absurd c_84 (by decide)
                · skip
                  refine lv_iload_n hx hb dX4_survey_87 rfl (lv_at hl 3 rfl) ?_
                  refine lv_if_le (tgt := 103) hx hb dX4_survey_88 (by decide) (fun c_88 => ?_) (fun c_88 => ?_)
                  · skip
                    refine lv_iinc (v := nI (i + 1)) (lv' := [(3, .int (nI (i + 1))), (4, .int 1), (0, .ref q), (1, .ref o), (2, .int h)]) hx hb dX4_survey_103 hl (k := 4) rfl (inc1 _) (by decide) rfl (fun ls hl => ?_)
                    refine lv_goto (tgt := 15) hx hb dX4_survey_106 (by decide) ?_
                    exact ih_15 (i + 1) (upd u1 i ((tp G M i) + h)) (upd u2 i 1) v (by omega) (by omega) (by first | exact up_s hu1 (hT_b b1) | exact up_s hu1 (hT_m b1) | fail) (by first | exact up_s hu2 (F := fun k => nI (prN1 M h k)) (pr_33 b1 b2) | exact up_s hu2 (F := fun k => nI (prN1 M h k)) (pr_1 (fun z => b1 z.1)) | exact up_s hu2 (F := fun k => nI (prN1 M h k)) (pr_1 (fun z => b2 z.2)) | fail) (by subst hv; first | exact bs_orT (P := reB M h) (by omega) (decide_eq_true (Or.inl b1)) | exact bs_orT (P := reB M h) (by omega) (decide_eq_true (Or.inr b2)) | exact bs_orF (P := reB M h) (decide_eq_false (fun z => z.elim (fun y => y b1) b2)) | fail) _ _ hP hD hS ls (lv_sub hl [2, 3, 4, 0] rfl)
                  · skip
                    exact absurd (Int32.not_le.mp c_88) b2
              · skip
                have b2 : 0 < h := Int32.not_le.mp c_72
                refine lv_bipush (v := 33) hx hb dX4_survey_75 (by decide) ?_
                refine lv_goto (tgt := 81) hx hb dX4_survey_77 (by decide) ?_
                refine va_iast hx hb hK hP hD hS 13 0 rfl rfl (i := nI i) (vp_in_nI (N := 20) (by omega) (by decide)) dX4_survey_81 (fun H locs hP hD hS => ?_)
                rw [nI_clamp (n := i) (by omega)] at hP hD
                have hP : va_P D vwCl [(o, .inr (3, [.ref ga, .ref ma, .int (nI n), .int rg, .int bl])), (ga, .inl (cI, 20, .inl fg)), (ma, .inl (cI, 20, .inl fm)), v1, v2, v3, v4, v5, v6, v7, (q, .inr (4, [.ref qt, .ref ql, .ref qp, .ref qc, .int (nI n), .int v])), (qt, .inl (cI, 20, .inl (upd u1 i ((tp G M i) + h)))), (ql, .inl (cI, 20, .inl fl)), (qp, .inl (cI, 20, .inl (upd u2 i 33))), (qc, .inl (cI, 20, .inl fco))] _ := hP
                have hD : va_D (inW [(o, .inr (3, [.ref ga, .ref ma, .int (nI n), .int rg, .int bl])), (ga, .inl (cI, 20, .inl fg)), (ma, .inl (cI, 20, .inl fm)), v1, v2, v3, v4, v5, v6, v7, (q, .inr (4, [.ref qt, .ref ql, .ref qp, .ref qc, .int rs, .int rr])), (qt, .inl (cI, 20, .inl ft)), (ql, .inl (cI, 20, .inl fl)), (qp, .inl (cI, 20, .inl fp)), (qc, .inl (cI, 20, .inl fco))]) [(o, .inr (3, [.ref ga, .ref ma, .int (nI n), .int rg, .int bl])), (ga, .inl (cI, 20, .inl fg)), (ma, .inl (cI, 20, .inl fm)), v1, v2, v3, v4, v5, v6, v7, (q, .inr (4, [.ref qt, .ref ql, .ref qp, .ref qc, .int (nI n), .int v])), (qt, .inl (cI, 20, .inl (upd u1 i ((tp G M i) + h)))), (ql, .inl (cI, 20, .inl fl)), (qp, .inl (cI, 20, .inl (upd u2 i 33))), (qc, .inl (cI, 20, .inl fco))] := hD
                refine lv_iload hx hb dX4_survey_82 (lv_at hl 0 rfl) ?_
                refine lv_if_eq (tgt := 91) hx hb dX4_survey_84 (by decide) (fun c_84 => ?_) (fun c_84 => ?_)
                · skip
                  exact absurd c_84 (by decide)
                · skip
                  refine lv_iload_n hx hb dX4_survey_87 rfl (lv_at hl 3 rfl) ?_
                  refine lv_if_le (tgt := 103) hx hb dX4_survey_88 (by decide) (fun c_88 => ?_) (fun c_88 => ?_)
                  · skip
                    exact absurd b2 (Int32.not_lt.mpr c_88)
                  · skip
                    refine lv_aload_n hx hb dX4_survey_91 rfl (lv_at hl 1 rfl) ?_
                    refine lv_dup hx hb dX4_survey_92 rfl ?_
                    refine va_get (D := D) (ci := 4) (v := .int v) (C := RX4) (T := TX4) (N := 6) hx hb hts kX4_survey_2 hown hK hP 10 rfl rfl 5 (by decide) (hts (.fieldLink RX4 28 "SightRidge$Routes" "relays" "I") kX4_survey_4) (fun _ h9 => h9) rfl dX4_survey_93 ?_
                    refine lv_iconst (v := 1) hx hb dX4_survey_96 (by decide) ?_
                    refine lv_iload_n hx hb dX4_survey_97 rfl (lv_at hl 4 rfl) ?_
                    refine lv_ishl hx hb dX4_survey_98 ?_
                    refine lv_ior hx hb dX4_survey_99 ?_
                    refine va_put (D := D) (ci := 4) (v := .int (v ||| (1 <<< ((nI i) &&& 31)))) (ty := .int) (C := RX4) (T := TX4) (N := 6) hx hb hts kX4_survey_2 tyX4 tyX4_ok nmX4 hown hK hP hD hS 10 rfl rfl 5 (by decide) (hts (.fieldLink RX4 28 "SightRidge$Routes" "relays" "I") kX4_survey_4) (fun _ h9 => h9) rfl (by decide +kernel) rfl rfl (Nat.le_of_ble_eq_true rfl) dX4_survey_100 (fun H locs hP hD hS => ?_)
                    have hP : va_P D vwCl [(o, .inr (3, [.ref ga, .ref ma, .int (nI n), .int rg, .int bl])), (ga, .inl (cI, 20, .inl fg)), (ma, .inl (cI, 20, .inl fm)), v1, v2, v3, v4, v5, v6, v7, (q, .inr (4, [.ref qt, .ref ql, .ref qp, .ref qc, .int (nI n), .int (v ||| (1 <<< ((nI i) &&& 31)))])), (qt, .inl (cI, 20, .inl (upd u1 i ((tp G M i) + h)))), (ql, .inl (cI, 20, .inl fl)), (qp, .inl (cI, 20, .inl (upd u2 i 33))), (qc, .inl (cI, 20, .inl fco))] _ := hP
                    have hD : va_D (inW [(o, .inr (3, [.ref ga, .ref ma, .int (nI n), .int rg, .int bl])), (ga, .inl (cI, 20, .inl fg)), (ma, .inl (cI, 20, .inl fm)), v1, v2, v3, v4, v5, v6, v7, (q, .inr (4, [.ref qt, .ref ql, .ref qp, .ref qc, .int rs, .int rr])), (qt, .inl (cI, 20, .inl ft)), (ql, .inl (cI, 20, .inl fl)), (qp, .inl (cI, 20, .inl fp)), (qc, .inl (cI, 20, .inl fco))]) [(o, .inr (3, [.ref ga, .ref ma, .int (nI n), .int rg, .int bl])), (ga, .inl (cI, 20, .inl fg)), (ma, .inl (cI, 20, .inl fm)), v1, v2, v3, v4, v5, v6, v7, (q, .inr (4, [.ref qt, .ref ql, .ref qp, .ref qc, .int (nI n), .int (v ||| (1 <<< ((nI i) &&& 31)))])), (qt, .inl (cI, 20, .inl (upd u1 i ((tp G M i) + h)))), (ql, .inl (cI, 20, .inl fl)), (qp, .inl (cI, 20, .inl (upd u2 i 33))), (qc, .inl (cI, 20, .inl fco))] := hD
                    refine lv_iinc (v := nI (i + 1)) (lv' := [(3, .int (nI (i + 1))), (4, .int 1), (0, .ref q), (1, .ref o), (2, .int h)]) hx hb dX4_survey_103 hl (k := 4) rfl (inc1 _) (by decide) rfl (fun ls hl => ?_)
                    refine lv_goto (tgt := 15) hx hb dX4_survey_106 (by decide) ?_
                    exact ih_15 (i + 1) (upd u1 i ((tp G M i) + h)) (upd u2 i 33) (v ||| (1 <<< ((nI i) &&& 31))) (by omega) (by omega) (by first | exact up_s hu1 (hT_b b1) | exact up_s hu1 (hT_m b1) | fail) (by first | exact up_s hu2 (F := fun k => nI (prN1 M h k)) (pr_33 b1 b2) | exact up_s hu2 (F := fun k => nI (prN1 M h k)) (pr_1 (fun z => b1 z.1)) | exact up_s hu2 (F := fun k => nI (prN1 M h k)) (pr_1 (fun z => b2 z.2)) | fail) (by subst hv; first | exact bs_orT (P := reB M h) (by omega) (decide_eq_true (Or.inl b1)) | exact bs_orT (P := reB M h) (by omega) (decide_eq_true (Or.inr b2)) | exact bs_orF (P := reB M h) (decide_eq_false (fun z => z.elim (fun y => y b1) b2)) | fail) _ _ hP hD hS ls (lv_sub hl [2, 3, 4, 0] rfl)
  exact L_15 _ 0 ft fp 0 (Nat.lt_succ_self _) (by omega) (up_0) (up_0) (rfl) _ _ hP hD hS ls (lv_sub hl [1, 2, 3, 0] rfl)
