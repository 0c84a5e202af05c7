/-! Routes: what writes -/
def reB (M : Nat → Int32) (h : Int32) (s : Nat) : Bool := decide (¬ M s = 0 ∨ 0 < h)
def prN1 (M : Nat → Int32) (h : Int32) (s : Nat) : Nat := if M s = 0 ∧ 0 < h then 33 else 1
theorem up_0 {u F : Nat → Int32} : ∀ k, k < 0 → u k = F k := fun k hk => absurd hk (Nat.not_lt_zero k)
theorem up_s {u F : Nat → Int32} {i : Nat} {v : Int32} (h : ∀ k, k < i → u k = F k) (hv : v = F i) : ∀ k, k < i + 1 → upd u i v k = F k := by
  intro k hk
  rcases Nat.lt_succ_iff_lt_or_eq.mp hk with z | z
  · rw [pk_un (by omega)]; exact h k z
  · subst z; rw [pk_us]; exact hv
theorem hT_b {G M : Nat → Int32} {h : Int32} {s : Nat} (c : M s = 0) : tp G M s + h = hT G M h s := by unfold hT; rw [if_pos c]
theorem hT_m {G M : Nat → Int32} {h : Int32} {s : Nat} (c : ¬ M s = 0) : tp G M s + 0 = hT G M h s := by unfold hT; rw [if_neg c]
theorem pr_33 {M : Nat → Int32} {h : Int32} {s : Nat} (c : M s = 0) (c2 : 0 < h) : (33 : Int32) = nI (prN1 M h s) := by unfold prN1; rw [if_pos ⟨c, c2⟩]; rfl
theorem pr_1 {M : Nat → Int32} {h : Int32} {s : Nat} (c : ¬ (M s = 0 ∧ 0 < h)) : (1 : Int32) = nI (prN1 M h s) := by unfold prN1; rw [if_neg c]; rfl
theorem pr_pos (M : Nat → Int32) (h : Int32) (s : Nat) : 0 < prN1 M h s := by unfold prN1; split <;> omega
theorem pr_le (M : Nat → Int32) (h : Int32) (s : Nat) : prN1 M h s ≤ 33 := by unfold prN1; split <;> omega
/-! the costs, round by round -/
def INF : Nat := 1000000
noncomputable def cst (E : Nat → Nat → Bool) (wt : Nat → Nat) (n to s : Nat) : Nat := if dst E wt n to s = 0 then INF else dst E wt n to s
def FR (n : Nat) (u : Nat → Int32) (C : Nat → Nat) : Prop := (∀ k, k < n → u k = nI (C k)) ∧ (∀ k, C k ≤ INF)
def FO (E : Nat → Nat → Bool) (wt : Nat → Nat) (n to r : Nat) (u : Nat → Int32) : Prop := ∃ C, FR n u C ∧ Rel E wt n to r C ∧ Snd E wt n to INF C
def FI (E : Nat → Nat → Bool) (wt : Nat → Nat) (n to r s0 t0 : Nat) (u : Nat → Int32) : Prop := ∃ C0 C, FR n u C ∧ Rel E wt n to r C0 ∧ Snd E wt n to INF C ∧ (∀ k, C k ≤ C0 k) ∧ (∀ k, k < s0 → ∀ j, j < n → E k j = true → C k ≤ wt k + C0 j) ∧ (∀ j, j < t0 → E s0 j = true → C s0 ≤ wt s0 + C0 j)
section FCS
variable {E : Nat → Nat → Bool} {wt : Nat → Nat} {n to r s0 t0 : Nat} {u : Nat → Int32}
theorem FO_0 (hto : to < n) (hu : ∀ k, k < n → u k = nI (if k = to then wt to else INF)) (hw : wt to ≤ INF) : FO E wt n to 0 u := by
  refine ⟨fun k => if k = to then wt to else INF, ⟨hu, fun k => ?_⟩, Rel_0 (fun _ => ?_), fun s => ?_⟩
  · show (if k = to then wt to else INF) ≤ INF
    split
    · exact hw
    · exact Nat.le_refl _
  · show (if to = to then wt to else INF) ≤ wt to
    rw [if_pos rfl]; exact Nat.le_refl _
  · show (if s = to then wt to else INF) = INF ∨ ∃ k, Ch E wt n to k (if s = to then wt to else INF) s
    by_cases q : s = to
    · rw [if_pos q, q]; exact Or.inr ⟨1, Ch_one hto⟩
    · rw [if_neg q]; exact Or.inl rfl
theorem FI_0 (h : FO E wt n to r u) : FI E wt n to r 0 0 u := by
  obtain ⟨C, h1, h2, h3⟩ := h
  exact ⟨C, C, h1, h2, h3, fun _ => Nat.le_refl _, fun k hk => absurd hk (Nat.not_lt_zero k), fun k hk => absurd hk (Nat.not_lt_zero k)⟩
theorem FI_t (h : FI E wt n to r s0 0 u) : FI E wt n to r s0 0 u := h
theorem FI_s (h : FI E wt n to r s0 t0 u) (ht : n ≤ t0) : FI E wt n to r (s0 + 1) 0 u := by
  obtain ⟨C0, C, h1, h2, h3, h4, h5, h6⟩ := h
  refine ⟨C0, C, h1, h2, h3, h4, fun k hk j hj => ?_, fun k hk => absurd hk (Nat.not_lt_zero k)⟩
  rcases Nat.lt_succ_iff_lt_or_eq.mp hk with z | z
  · exact h5 k z j hj
  · subst z; exact h6 j (by omega)
theorem FI_end (h : FI E wt n to r s0 t0 u) (hs : n ≤ s0) : FO E wt n to (r + 1) u := by
  obtain ⟨C0, C, h1, h2, h3, h4, h5, h6⟩ := h
  exact ⟨C, h1, Rel_s h2 h4 (fun k hk j hj => h5 k (by omega) j hj), h3⟩
theorem FI_no (h : FI E wt n to r s0 t0 u) (c : E s0 t0 = false) : FI E wt n to r s0 (t0 + 1) u := by
  obtain ⟨C0, C, h1, h2, h3, h4, h5, h6⟩ := h
  refine ⟨C0, C, h1, h2, h3, h4, h5, fun j hj he => ?_⟩
  rcases Nat.lt_succ_iff_lt_or_eq.mp hj with z | z
  · exact h6 j z he
  · subst z; rw [c] at he; cases he
/-- the price of a step is looked at -/
theorem FI_yes (h : FI E wt n to r s0 t0 u) (hs : s0 < n) (ht : t0 < n) (hw : wt s0 ≤ 33) (c : E s0 t0 = true) : ∃ x y, u s0 = nI x ∧ u t0 = nI y ∧ x ≤ INF ∧ y ≤ INF ∧ FI E wt n to r s0 (t0 + 1) (upd u s0 (nI (min x (wt s0 + y)))) := by
  obtain ⟨C0, C, ⟨h1, h0⟩, h2, h3, h4, h5, h6⟩ := h
  refine ⟨C s0, C t0, h1 s0 hs, h1 t0 ht, h0 s0, h0 t0, C0, fun k => if k = s0 then min (C s0) (wt s0 + C t0) else C k, ⟨fun k hk => ?_, fun k => ?_⟩, h2, fun k => ?_, fun k => ?_, fun k hk j hj he => ?_, fun j hj he => ?_⟩
  · show upd u s0 _ k = nI (if k = s0 then min (C s0) (wt s0 + C t0) else C k)
    by_cases q : k = s0
    · rw [q, pk_us, if_pos rfl]
    · rw [pk_un q, if_neg q]; exact h1 k hk
  · show (if k = s0 then min (C s0) (wt s0 + C t0) else C k) ≤ INF
    have := h0 s0
    split
    · omega
    · exact h0 k
  · show (if k = s0 then min (C s0) (wt s0 + C t0) else C k) = INF ∨ ∃ i, Ch E wt n to i (if k = s0 then min (C s0) (wt s0 + C t0) else C k) k
    by_cases q : k = s0
    · rw [q, if_pos rfl]
      rcases Nat.le_total (C s0) (wt s0 + C t0) with z | z
      · rw [Nat.min_eq_left z]; exact h3 s0
      · rw [Nat.min_eq_right z]
        rcases h3 t0 with z2 | ⟨i, hi⟩
        · have := h0 s0
          have e : wt s0 + C t0 = C s0 := by omega
          rw [e]; exact h3 s0
        · exact Or.inr ⟨i + 1, Ch_step hs c hi⟩
    · rw [if_neg q]; exact h3 k
  · show (if k = s0 then min (C s0) (wt s0 + C t0) else C k) ≤ C0 k
    have := h4 s0
    by_cases q : k = s0
    · rw [if_pos q, q]; omega
    · rw [if_neg q]; exact h4 k
  · show (if k = s0 then min (C s0) (wt s0 + C t0) else C k) ≤ wt k + C0 j
    rw [if_neg (by omega)]; exact h5 k hk j hj he
  · show (if s0 = s0 then min (C s0) (wt s0 + C t0) else C s0) ≤ wt s0 + C0 j
    rw [if_pos rfl]
    rcases Nat.lt_succ_iff_lt_or_eq.mp hj with z | z
    · have := h6 j z he; omega
    · have := h4 t0
      rw [z]; omega
theorem FO_end (hw : ∀ k, k < n → 0 < wt k) (hw2 : ∀ k, k < n → wt k ≤ 33) (hn : n ≤ 20) (h : FO E wt n to r u) (hr : n ≤ r) : ∀ k, k < n → u k = nI (cst E wt n to k) := by
  obtain ⟨C, ⟨h1, h0⟩, h2, h3⟩ := h
  intro k hk
  rw [h1 k hk, Rel_end hw h2 (by omega) h3 hw2 (by show n * 33 < 1000000; omega) k]
  rfl
theorem cst_le (hw : ∀ k, k < n → 0 < wt k) (hw2 : ∀ k, k < n → wt k ≤ 33) (hn : n ≤ 20) (s : Nat) : dst E wt n to s ≤ 660 := by
  by_cases q : dst E wt n to s = 0
  · omega
  · obtain ⟨k, h1, h2, h3⟩ := dst_n hw q
    have := Ch_bound hw2 h3
    have h4 : k * 33 ≤ 20 * 33 := Nat.mul_le_mul_right _ (by omega)
    omega
theorem cst_inf (hw : ∀ k, k < n → 0 < wt k) (hw2 : ∀ k, k < n → wt k ≤ 33) (hn : n ≤ 20) (s : Nat) : cst E wt n to s ≤ INF ∧ (INF ≤ cst E wt n to s ↔ dst E wt n to s = 0) := by
  have := cst_le (E := E) (to := to) hw hw2 hn s
  unfold cst
  have e : INF = 1000000 := rfl
  split
  · exact ⟨Nat.le_refl _, fun _ => by assumption, fun _ => Nat.le_refl _⟩
  · exact ⟨by omega, fun q => by omega, fun q => by omega⟩
/-- the costs say whether it goes on there -/
theorem tgt_cst (hw : ∀ k, k < n → 0 < wt k) (hw2 : ∀ k, k < n → wt k ≤ 33) (hn : n ≤ 20) {s t : Nat} (hs : dst E wt n to s ≠ 0) (he : E s t = true) : cst E wt n to s = wt s + cst E wt n to t ↔ tgt E wt (dst E wt n to) s t = true := by
  have h1 := cst_le (E := E) (to := to) hw hw2 hn s
  rw [tgt_iff]
  have e : cst E wt n to s = dst E wt n to s := if_neg hs
  rw [e]
  unfold cst
  have e : INF = 1000000 := rfl
  split
  · exact ⟨fun q => by omega, fun q => absurd (by assumption) q.2.1⟩
  · exact ⟨fun q => ⟨he, by assumption, q⟩, fun q => q.2.2⟩
end FCS
theorem inf_eq : (1000000 : Int32) = nI INF := rfl
theorem kX4_survey_0 : ∀ w ∈ wsX30, w ∈ wsX4_survey := by decide +kernel
theorem kX4_survey_1 : (.fieldLink RX4 31 "SightRidge$Profile" "stations" "I" : Cond) ∈ wsX4_survey := by decide +kernel
theorem kX4_survey_2 : ∀ w ∈ wsX40, w ∈ wsX4_survey := by decide +kernel
theorem kX4_survey_3 : (.fieldLink RX4 24 "SightRidge$Routes" "stations" "I" : Cond) ∈ wsX4_survey := by decide +kernel
theorem kX4_survey_4 : (.fieldLink RX4 28 "SightRidge$Routes" "relays" "I" : Cond) ∈ wsX4_survey := by decide +kernel
theorem kX4_survey_5 : (.fieldLink RX4 15 "SightRidge$Routes" "links" "[I" : Cond) ∈ wsX4_survey := by decide +kernel
theorem kX4_survey_6 : (.fieldLink RX4 34 "SightRidge$Profile" "masts" "[I" : Cond) ∈ wsX4_survey := by decide +kernel
theorem kX4_survey_7 : (.fieldLink RX4 9 "SightRidge$Routes" "tops" "[I" : Cond) ∈ wsX4_survey := by decide +kernel
theorem kX4_survey_8 : (.fieldLink RX4 18 "SightRidge$Routes" "prices" "[I" : Cond) ∈ wsX4_survey := by decide +kernel
set_option maxHeartbeats 4000000 in
set_option maxRecDepth 100000 in
/-- survey(profile, newMast) -/
theorem c_X4_survey (l : Launch) (D : va_G) (cI cB cO : ClassId) (o ga ma : Nat) (n : Nat) (rg bl : Int32) (fg fm : Nat → Int32) (G M : Nat → Int32) (v1 v2 v3 v4 v5 v6 v7 : Nat × va_E) (q qt ql qp qc : Nat) (rs rr h : Int32) (ft fl fp fco : Nat → Int32) (hn : n ≤ 20) (hG : ∀ k, k < n → fg k = G k) (hM : ∀ k, k < n → fm k = M k) : Met l yX4_survey wsX4_survey (rmD 6) (wrPc D (tyL cI cB cO) [.ref q, .ref o, .int h] [(o, .inr (3, [.ref ga, .ref ma, .int (nI n), .int rg, .int bl])), (ga, .inl (cI, 20, .inl fg)), (ma, .inl (cI, 20, .inl fm)), v1, v2, v3, v4, v5, v6, v7, (q, .inr (4, [.ref qt, .ref ql, .ref qp, .ref qc, .int rs, .int rr])), (qt, .inl (cI, 20, .inl ft)), (ql, .inl (cI, 20, .inl fl)), (qp, .inl (cI, 20, .inl fp)), (qc, .inl (cI, 20, .inl fco))]) (wrQv D [(o, .inr (3, [.ref ga, .ref ma, .int (nI n), .int rg, .int bl])), (ga, .inl (cI, 20, .inl fg)), (ma, .inl (cI, 20, .inl fm)), v1, v2, v3, v4, v5, v6, v7, (q, .inr (4, [.ref qt, .ref ql, .ref qp, .ref qc, .int rs, .int rr])), (qt, .inl (cI, 20, .inl ft)), (ql, .inl (cI, 20, .inl fl)), (qp, .inl (cI, 20, .inl fp)), (qc, .inl (cI, 20, .inl fco))] (fun (u : (Nat → Int32) × (Nat → Int32) × (Nat → Int32)) => (∀ k, k < n → u.1 k = hT G M h k) ∧ (∀ k, k < n → u.2.1 k = nI (bs (lkB G rg bl (hT G M h) k) n)) ∧ (∀ k, k < n → u.2.2 k = nI (prN1 M h k))) (fun (u : (Nat → Int32) × (Nat → Int32) × (Nat → Int32)) => [(o, .inr (3, [.ref ga, .ref ma, .int (nI n), .int rg, .int bl])), (ga, .inl (cI, 20, .inl fg)), (ma, .inl (cI, 20, .inl fm)), v1, v2, v3, v4, v5, v6, v7, (q, .inr (4, [.ref qt, .ref ql, .ref qp, .ref qc, .int (nI n), .int (nI (bs (reB M h) n))])), (qt, .inl (cI, 20, .inl u.1)), (ql, .inl (cI, 20, .inl u.2.1)), (qp, .inl (cI, 20, .inl u.2.2)), (qc, .inl (cI, 20, .inl fco))])) 0 0 (inW [(o, .inr (3, [.ref ga, .ref ma, .int (nI n), .int rg, .int bl])), (ga, .inl (cI, 20, .inl fg)), (ma, .inl (cI, 20, .inl fm)), v1, v2, v3, v4, v5, v6, v7, (q, .inr (4, [.ref qt, .ref ql, .ref qp, .ref qc, .int rs, .int rr])), (qt, .inl (cI, 20, .inl ft)), (ql, .inl (cI, 20, .inl fl)), (qp, .inl (cI, 20, .inl fp)), (qc, .inl (cI, 20, .inl fco))]) := by
  refine Met.ofW (cc := cX4_survey) (maxL := 5) (ret := none) (by decide) rfl ?_
  intro p e s m args below meth c s₁ B hml hv
  obtain ⟨rfl, hP, hK, hN, hD⟩ := hv
  have hx := B.exec
  have hb := B.bytes
  have hr := B.returns
  have hts := atoms_spec (ws := wsX4_survey) B.pre
  have hown : s.vm.findClass RX4 = some m.cls := findClass_of_methodNamed B.named
  have hlocks := B.notSynchronized
  have hS : va_S (inW [(o, .inr (3, [.ref ga, .ref ma, .int (nI n), .int rg, .int bl])), (ga, .inl (cI, 20, .inl fg)), (ma, .inl (cI, 20, .inl fm)), v1, v2, v3, v4, v5, v6, v7, (q, .inr (4, [.ref qt, .ref ql, .ref qp, .ref qc, .int rs, .int rr])), (qt, .inl (cI, 20, .inl ft)), (ql, .inl (cI, 20, .inl fl)), (qp, .inl (cI, 20, .inl fp)), (qc, .inl (cI, 20, .inl fco))]) s.heap s.heap [] := va_S.rf
  have hD : va_D (inW [(o, .inr (3, [.ref ga, .ref ma, .int (nI n), .int rg, .int bl])), (ga, .inl (cI, 20, .inl fg)), (ma, .inl (cI, 20, .inl fm)), v1, v2, v3, v4, v5, v6, v7, (q, .inr (4, [.ref qt, .ref ql, .ref qp, .ref qc, .int rs, .int rr])), (qt, .inl (cI, 20, .inl ft)), (ql, .inl (cI, 20, .inl fl)), (qp, .inl (cI, 20, .inl fp)), (qc, .inl (cI, 20, .inl fco))]) [(o, .inr (3, [.ref ga, .ref ma, .int (nI n), .int rg, .int bl])), (ga, .inl (cI, 20, .inl fg)), (ma, .inl (cI, 20, .inl fm)), v1, v2, v3, v4, v5, v6, v7, (q, .inr (4, [.ref qt, .ref ql, .ref qp, .ref qc, .int rs, .int rr])), (qt, .inl (cI, 20, .inl ft)), (ql, .inl (cI, 20, .inl fl)), (qp, .inl (cI, 20, .inl fp)), (qc, .inl (cI, 20, .inl fco))] := inW_self hD
  have hl := lv_entry ([.ref q, .ref o, .int h]) (n := 5) (Nat.le_of_ble_eq_true rfl)
  rw [lg_entry_eq]
  generalize (lg_sl ([.ref q, .ref o, .int h]) ++ List.replicate (5 - (lg_sl ([.ref q, .ref o, .int h])).length) Slot.unset).toArray = ls at hl ⊢
  have hl : lv_has ls 5 [(0, .ref q), (1, .ref o), (2, .int h)] := hl
  refine lv_aload_n hx hb dX4_survey_0 rfl (lv_at hl 0 rfl) ?_
  refine lv_aload_n hx hb dX4_survey_1 rfl (lv_at hl 1 rfl) ?_
  refine va_get (D := D) (ci := 3) (v := .int (nI n)) (C := RX3) (T := TX3) (N := 5) hx hb hts kX4_survey_0 hown hK hP 0 rfl rfl 2 (by decide) (hts (.fieldLink RX4 31 "SightRidge$Profile" "stations" "I") kX4_survey_1) (fun _ h9 => h9) rfl dX4_survey_2 ?_
  refine va_put (D := D) (ci := 4) (v := .int (nI n)) (ty := .int) (C := RX4) (T := TX4) (N := 6) hx hb hts kX4_survey_2 tyX4 tyX4_ok nmX4 hown hK hP hD hS 10 rfl rfl 4 (by decide) (hts (.fieldLink RX4 24 "SightRidge$Routes" "stations" "I") kX4_survey_3) (fun _ h9 => h9) rfl (by decide +kernel) rfl rfl (Nat.le_of_ble_eq_true rfl) dX4_survey_5 (fun H locs hP hD hS => ?_)
  have hP : va_P D vwCl [(o, .inr (3, [.ref ga, .ref ma, .int (nI n), .int rg, .int bl])), (ga, .inl (cI, 20, .inl fg)), (ma, .inl (cI, 20, .inl fm)), v1, v2, v3, v4, v5, v6, v7, (q, .inr (4, [.ref qt, .ref ql, .ref qp, .ref qc, .int (nI n), .int rr])), (qt, .inl (cI, 20, .inl ft)), (ql, .inl (cI, 20, .inl fl)), (qp, .inl (cI, 20, .inl fp)), (qc, .inl (cI, 20, .inl fco))] _ := hP
  have hD : va_D (inW [(o, .inr (3, [.ref ga, .ref ma, .int (nI n), .int rg, .int bl])), (ga, .inl (cI, 20, .inl fg)), (ma, .inl (cI, 20, .inl fm)), v1, v2, v3, v4, v5, v6, v7, (q, .inr (4, [.ref qt, .ref ql, .ref qp, .ref qc, .int rs, .int rr])), (qt, .inl (cI, 20, .inl ft)), (ql, .inl (cI, 20, .inl fl)), (qp, .inl (cI, 20, .inl fp)), (qc, .inl (cI, 20, .inl fco))]) [(o, .inr (3, [.ref ga, .ref ma, .int (nI n), .int rg, .int bl])), (ga, .inl (cI, 20, .inl fg)), (ma, .inl (cI, 20, .inl fm)), v1, v2, v3, v4, v5, v6, v7, (q, .inr (4, [.ref qt, .ref ql, .ref qp, .ref qc, .int (nI n), .int rr])), (qt, .inl (cI, 20, .inl ft)), (ql, .inl (cI, 20, .inl fl)), (qp, .inl (cI, 20, .inl fp)), (qc, .inl (cI, 20, .inl fco))] := hD
  refine lv_aload_n hx hb dX4_survey_8 rfl (lv_at hl 0 rfl) ?_
  refine lv_iconst (v := 0) hx hb dX4_survey_9 (by decide) ?_
  refine va_put (D := D) (ci := 4) (v := .int 0) (ty := .int) (C := RX4) (T := TX4) (N := 6) hx hb hts kX4_survey_2 tyX4 tyX4_ok nmX4 hown hK hP hD hS 10 rfl rfl 5 (by decide) (hts (.fieldLink RX4 28 "SightRidge$Routes" "relays" "I") kX4_survey_4) (fun _ h9 => h9) rfl (by decide +kernel) rfl rfl (Nat.le_of_ble_eq_true rfl) dX4_survey_10 (fun H locs hP hD hS => ?_)
  have hP : va_P D vwCl [(o, .inr (3, [.ref ga, .ref ma, .int (nI n), .int rg, .int bl])), (ga, .inl (cI, 20, .inl fg)), (ma, .inl (cI, 20, .inl fm)), v1, v2, v3, v4, v5, v6, v7, (q, .inr (4, [.ref qt, .ref ql, .ref qp, .ref qc, .int (nI n), .int 0])), (qt, .inl (cI, 20, .inl ft)), (ql, .inl (cI, 20, .inl fl)), (qp, .inl (cI, 20, .inl fp)), (qc, .inl (cI, 20, .inl fco))] _ := hP
  have hD : va_D (inW [(o, .inr (3, [.ref ga, .ref ma, .int (nI n), .int rg, .int bl])), (ga, .inl (cI, 20, .inl fg)), (ma, .inl (cI, 20, .inl fm)), v1, v2, v3, v4, v5, v6, v7, (q, .inr (4, [.ref qt, .ref ql, .ref qp, .ref qc, .int rs, .int rr])), (qt, .inl (cI, 20, .inl ft)), (ql, .inl (cI, 20, .inl fl)), (qp, .inl (cI, 20, .inl fp)), (qc, .inl (cI, 20, .inl fco))]) [(o, .inr (3, [.ref ga, .ref ma, .int (nI n), .int rg, .int bl])), (ga, .inl (cI, 20, .inl fg)), (ma, .inl (cI, 20, .inl fm)), v1, v2, v3, v4, v5, v6, v7, (q, .inr (4, [.ref qt, .ref ql, .ref qp, .ref qc, .int (nI n), .int 0])), (qt, .inl (cI, 20, .inl ft)), (ql, .inl (cI, 20, .inl fl)), (qp, .inl (cI, 20, .inl fp)), (qc, .inl (cI, 20, .inl fco))] := hD
  refine lv_iconst (v := 0) hx hb dX4_survey_13 (by decide) ?_
  refine lv_istore_n (lv' := [(3, .int 0), (0, .ref q), (1, .ref o), (2, .int h)]) hx hb dX4_survey_14 rfl hl (by decide) rfl (fun ls hl => ?_)
  have L_15 : ∀ (k_15 : Nat) (i : Nat) (u1 : Nat → Int32) (u2 : Nat → Int32) (v : Int32), n - i < k_15 → (i ≤ n) → (∀ k, k < i → u1 k = hT G M h k) → (∀ k, k < i → u2 k = nI (prN1 M h k)) → (v = nI (bs (reB M h) i)) → ∀ (H : Heap) (locs : List Loc), va_P D vwCl [(o, .inr (3, [.ref ga, .ref ma, .int (nI n), .int rg, .int bl])), (ga, .inl (cI, 20, .inl fg)), (ma, .inl (cI, 20, .inl fm)), v1, v2, v3, v4, v5, v6, v7, (q, .inr (4, [.ref qt, .ref ql, .ref qp, .ref qc, .int (nI n), .int v])), (qt, .inl (cI, 20, .inl u1)), (ql, .inl (cI, 20, .inl fl)), (qp, .inl (cI, 20, .inl u2)), (qc, .inl (cI, 20, .inl fco))] H → va_D (inW [(o, .inr (3, [.ref ga, .ref ma, .int (nI n), .int rg, .int bl])), (ga, .inl (cI, 20, .inl fg)), (ma, .inl (cI, 20, .inl fm)), v1, v2, v3, v4, v5, v6, v7, (q, .inr (4, [.ref qt, .ref ql, .ref qp, .ref qc, .int rs, .int rr])), (qt, .inl (cI, 20, .inl ft)), (ql, .inl (cI, 20, .inl fl)), (qp, .inl (cI, 20, .inl fp)), (qc, .inl (cI, 20, .inl fco))]) [(o, .inr (3, [.ref ga, .ref ma, .int (nI n), .int rg, .int bl])), (ga, .inl (cI, 20, .inl fg)), (ma, .inl (cI, 20, .inl fm)), v1, v2, v3, v4, v5, v6, v7, (q, .inr (4, [.ref qt, .ref ql, .ref qp, .ref qc, .int (nI n), .int v])), (qt, .inl (cI, 20, .inl u1)), (ql, .inl (cI, 20, .inl fl)), (qp, .inl (cI, 20, .inl u2)), (qc, .inl (cI, 20, .inl fco))] → va_S (inW [(o, .inr (3, [.ref ga, .ref ma, .int (nI n), .int rg, .int bl])), (ga, .inl (cI, 20, .inl fg)), (ma, .inl (cI, 20, .inl fm)), v1, v2, v3, v4, v5, v6, v7, (q, .inr (4, [.ref qt, .ref ql, .ref qp, .ref qc, .int rs, .int rr])), (qt, .inl (cI, 20, .inl ft)), (ql, .inl (cI, 20, .inl fl)), (qp, .inl (cI, 20, .inl fp)), (qc, .inl (cI, 20, .inl fco))]) s.heap H locs → ∀ (ls : Array Slot), lv_has ls 5 [(0, .ref q), (1, .ref o), (2, .int h), (3, .int (nI i))] → W p l e (rmD 6) s m ([.ref q, .ref o, .int h] : List Value).toArray below meth c H locs 0 0 (MQ below (wrQv D [(o, .inr (3, [.ref ga, .ref ma, .int (nI n), .int rg, .int bl])), (ga, .inl (cI, 20, .inl fg)), (ma, .inl (cI, 20, .inl fm)), v1, v2, v3, v4, v5, v6, v7, (q, .inr (4, [.ref qt, .ref ql, .ref qp, .ref qc, .int rs, .int rr])), (qt, .inl (cI, 20, .inl ft)), (ql, .inl (cI, 20, .inl fl)), (qp, .inl (cI, 20, .inl fp)), (qc, .inl (cI, 20, .inl fco))] (fun (u : (Nat → Int32) × (Nat → Int32) × (Nat → Int32)) => (∀ k, k < n → u.1 k = hT G M h k) ∧ (∀ k, k < n → u.2.1 k = nI (bs (lkB G rg bl (hT G M h) k) n)) ∧ (∀ k, k < n → u.2.2 k = nI (prN1 M h k))) (fun (u : (Nat → Int32) × (Nat → Int32) × (Nat → Int32)) => [(o, .inr (3, [.ref ga, .ref ma, .int (nI n), .int rg, .int bl])), (ga, .inl (cI, 20, .inl fg)), (ma, .inl (cI, 20, .inl fm)), v1, v2, v3, v4, v5, v6, v7, (q, .inr (4, [.ref qt, .ref ql, .ref qp, .ref qc, .int (nI n), .int (nI (bs (reB M h) n))])), (qt, .inl (cI, 20, .inl u.1)), (ql, .inl (cI, 20, .inl u.2.1)), (qp, .inl (cI, 20, .inl u.2.2)), (qc, .inl (cI, 20, .inl fco))])) ([.ref q, .ref o, .int h] : List Value).toArray s 0 0 (inW [(o, .inr (3, [.ref ga, .ref ma, .int (nI n), .int rg, .int bl])), (ga, .inl (cI, 20, .inl fg)), (ma, .inl (cI, 20, .inl fm)), v1, v2, v3, v4, v5, v6, v7, (q, .inr (4, [.ref qt, .ref ql, .ref qp, .ref qc, .int rs, .int rr])), (qt, .inl (cI, 20, .inl ft)), (ql, .inl (cI, 20, .inl fl)), (qp, .inl (cI, 20, .inl fp)), (qc, .inl (cI, 20, .inl fco))])) (F0 m 15 ls []) := by
    intro k_15
    induction k_15 with
    | zero => intro i u1 u2 v h9; exact absurd h9 (Nat.not_lt_zero _)
    | succ k_15 ih_15 =>
      intro i u1 u2 v hm_15 hi hu1 hu2 hv H locs hP hD hS ls hl
      refine lv_iload_n hx hb dX4_survey_15 rfl (lv_at hl 3 rfl) ?_
      refine lv_aload_n hx hb dX4_survey_16 rfl (lv_at hl 0 rfl) ?_
      refine va_get (D := D) (ci := 4) (v := .int (nI n)) (C := RX4) (T := TX4) (N := 6) hx hb hts kX4_survey_2 hown hK hP 10 rfl rfl 4 (by decide) (hts (.fieldLink RX4 24 "SightRidge$Routes" "stations" "I") kX4_survey_3) (fun _ h9 => h9) rfl dX4_survey_17 ?_
      refine lv_icmp_ge (tgt := 109) hx hb dX4_survey_20 (by decide) (fun c_20 => ?_) (fun c_20 => ?_)
      · skip
        have c0 : n ≤ i := ge_t (by omega) c_20
        refine lv_iconst (v := 0) hx hb dX4_survey_109 (by decide) ?_
        refine lv_istore_n (lv' := [(3, .int 0), (0, .ref q), (1, .ref o), (2, .int h)]) hx hb dX4_survey_110 rfl hl (by decide) rfl (fun ls hl => ?_)
        have hu1n : ∀ k, k < n → u1 k = hT G M h k := fun k hk => hu1 k (by omega)
        have hvn : v = nI (bs (reB M h) n) := by rw [hv, show i = n by omega]
        have e9 : ([(o, .inr (3, [.ref ga, .ref ma, .int (nI n), .int rg, .int bl])), (ga, .inl (cI, 20, .inl fg)), (ma, .inl (cI, 20, .inl fm)), v1, v2, v3, v4, v5, v6, v7, (q, .inr (4, [.ref qt, .ref ql, .ref qp, .ref qc, .int (nI n), .int v])), (qt, .inl (cI, 20, .inl u1)), (ql, .inl (cI, 20, .inl fl)), (qp, .inl (cI, 20, .inl u2)), (qc, .inl (cI, 20, .inl fco))] : va_W) = [(o, .inr (3, [.ref ga, .ref ma, .int (nI n), .int rg, .int bl])), (ga, .inl (cI, 20, .inl fg)), (ma, .inl (cI, 20, .inl fm)), v1, v2, v3, v4, v5, v6, v7, (q, .inr (4, [.ref qt, .ref ql, .ref qp, .ref qc, .int (nI n), .int (nI (bs (reB M h) n))])), (qt, .inl (cI, 20, .inl u1)), (ql, .inl (cI, 20, .inl fl)), (qp, .inl (cI, 20, .inl u2)), (qc, .inl (cI, 20, .inl fco))] := congrArg (fun f9 : Int32 => ([(o, .inr (3, [.ref ga, .ref ma, .int (nI n), .int rg, .int bl])), (ga, .inl (cI, 20, .inl fg)), (ma, .inl (cI, 20, .inl fm)), v1, v2, v3, v4, v5, v6, v7, (q, .inr (4, [.ref qt, .ref ql, .ref qp, .ref qc, .int (nI n), .int f9])), (qt, .inl (cI, 20, .inl u1)), (ql, .inl (cI, 20, .inl fl)), (qp, .inl (cI, 20, .inl u2)), (qc, .inl (cI, 20, .inl fco))] : va_W)) (show v = nI (bs (reB M h) n) from hvn)
        have hP := va_P_eq e9 hP
        have hD := va_D_eq e9 hD
        have L_111 : ∀ (k_111 : Nat) (j : Nat) (u3 : Nat → Int32), n - j < k_111 → (j ≤ n) → (∀ k, k < j → u3 k = nI (bs (lkB G rg bl (hT G M h) k) n)) → ∀ (H : Heap) (locs : List Loc), va_P D vwCl [(o, .inr (3, [.ref ga, .ref ma, .int (nI n), .int rg, .int bl])), (ga, .inl (cI, 20, .inl fg)), (ma, .inl (cI, 20, .inl fm)), v1, v2, v3, v4, v5, v6, v7, (q, .inr (4, [.ref qt, .ref ql, .ref qp, .ref qc, .int (nI n), .int (nI (bs (reB M h) n))])), (qt, .inl (cI, 20, .inl u1)), (ql, .inl (cI, 20, .inl u3)), (qp, .inl (cI, 20, .inl u2)), (qc, .inl (cI, 20, .inl fco))] H → va_D (inW [(o, .inr (3, [.ref ga, .ref ma, .int (nI n), .int rg, .int bl])), (ga, .inl (cI, 20, .inl fg)), (ma, .inl (cI, 20, .inl fm)), v1, v2, v3, v4, v5, v6, v7, (q, .inr (4, [.ref qt, .ref ql, .ref qp, .ref qc, .int rs, .int rr])), (qt, .inl (cI, 20, .inl ft)), (ql, .inl (cI, 20, .inl fl)), (qp, .inl (cI, 20, .inl fp)), (qc, .inl (cI, 20, .inl fco))]) [(o, .inr (3, [.ref ga, .ref ma, .int (nI n), .int rg, .int bl])), (ga, .inl (cI, 20, .inl fg)), (ma, .inl (cI, 20, .inl fm)), v1, v2, v3, v4, v5, v6, v7, (q, .inr (4, [.ref qt, .ref ql, .ref qp, .ref qc, .int (nI n), .int (nI (bs (reB M h) n))])), (qt, .inl (cI, 20, .inl u1)), (ql, .inl (cI, 20, .inl u3)), (qp, .inl (cI, 20, .inl u2)), (qc, .inl (cI, 20, .inl fco))] → va_S (inW [(o, .inr (3, [.ref ga, .ref ma, .int (nI n), .int rg, .int bl])), (ga, .inl (cI, 20, .inl fg)), (ma, .inl (cI, 20, .inl fm)), v1, v2, v3, v4, v5, v6, v7, (q, .inr (4, [.ref qt, .ref ql, .ref qp, .ref qc, .int rs, .int rr])), (qt, .inl (cI, 20, .inl ft)), (ql, .inl (cI, 20, .inl fl)), (qp, .inl (cI, 20, .inl fp)), (qc, .inl (cI, 20, .inl fco))]) s.heap H locs → ∀ (ls : Array Slot), lv_has ls 5 [(0, .ref q), (1, .ref o), (2, .int h), (3, .int (nI j))] → W p l e (rmD 6) s m ([.ref q, .ref o, .int h] : List Value).toArray below meth c H locs 0 0 (MQ below (wrQv D [(o, .inr (3, [.ref ga, .ref ma, .int (nI n), .int rg, .int bl])), (ga, .inl (cI, 20, .inl fg)), (ma, .inl (cI, 20, .inl fm)), v1, v2, v3, v4, v5, v6, v7, (q, .inr (4, [.ref qt, .ref ql, .ref qp, .ref qc, .int rs, .int rr])), (qt, .inl (cI, 20, .inl ft)), (ql, .inl (cI, 20, .inl fl)), (qp, .inl (cI, 20, .inl fp)), (qc, .inl (cI, 20, .inl fco))] (fun (u : (Nat → Int32) × (Nat → Int32) × (Nat → Int32)) => (∀ k, k < n → u.1 k = hT G M h k) ∧ (∀ k, k < n → u.2.1 k = nI (bs (lkB G rg bl (hT G M h) k) n)) ∧ (∀ k, k < n → u.2.2 k = nI (prN1 M h k))) (fun (u : (Nat → Int32) × (Nat → Int32) × (Nat → Int32)) => [(o, .inr (3, [.ref ga, .ref ma, .int (nI n), .int rg, .int bl])), (ga, .inl (cI, 20, .inl fg)), (ma, .inl (cI, 20, .inl fm)), v1, v2, v3, v4, v5, v6, v7, (q, .inr (4, [.ref qt, .ref ql, .ref qp, .ref qc, .int (nI n), .int (nI (bs (reB M h) n))])), (qt, .inl (cI, 20, .inl u.1)), (ql, .inl (cI, 20, .inl u.2.1)), (qp, .inl (cI, 20, .inl u.2.2)), (qc, .inl (cI, 20, .inl fco))])) ([.ref q, .ref o, .int h] : List Value).toArray s 0 0 (inW [(o, .inr (3, [.ref ga, .ref ma, .int (nI n), .int rg, .int bl])), (ga, .inl (cI, 20, .inl fg)), (ma, .inl (cI, 20, .inl fm)), v1, v2, v3, v4, v5, v6, v7, (q, .inr (4, [.ref qt, .ref ql, .ref qp, .ref qc, .int rs, .int rr])), (qt, .inl (cI, 20, .inl ft)), (ql, .inl (cI, 20, .inl fl)), (qp, .inl (cI, 20, .inl fp)), (qc, .inl (cI, 20, .inl fco))])) (F0 m 111 ls []) := by
          intro k_111
          induction k_111 with
          | zero => intro j u3 h9; exact absurd h9 (Nat.not_lt_zero _)
          | succ k_111 ih_111 =>
            intro j u3 hm_111 hj hu3 H locs hP hD hS ls hl
            refine lv_iload_n hx hb dX4_survey_111 rfl (lv_at hl 3 rfl) ?_
            refine lv_aload_n hx hb dX4_survey_112 rfl (lv_at hl 0 rfl) ?_
            refine va_get (D := D) (ci := 4) (v := .int (nI n)) (C := RX4) (T := TX4) (N := 6) hx hb hts kX4_survey_2 hown hK hP 10 rfl rfl 4 (by decide) (hts (.fieldLink RX4 24 "SightRidge$Routes" "stations" "I") kX4_survey_3) (fun _ h9 => h9) rfl dX4_survey_113 ?_
            refine lv_icmp_ge (tgt := 137) hx hb dX4_survey_116 (by decide) (fun c_116 => ?_) (fun c_116 => ?_)
            · skip
              have c1 : n ≤ j := ge_t (by omega) c_116
              exact W.vret hx hb hr (fun tS htS hWS => ⟨⟨(u1, u3, u2), rfl, ⟨hu1n, fun k hk => hu3 k (by omega), fun k hk => hu2 k (by omega)⟩, retP htS hP⟩, hS.F htS⟩) hS.2.2 dX4_survey_137
            · skip
              have c1 : j < n := ge_f (by omega) c_116
              refine lv_aload_n hx hb dX4_survey_119 rfl (lv_at hl 0 rfl) ?_
              refine va_get (D := D) (ci := 4) (v := .ref ql) (C := RX4) (T := TX4) (N := 6) hx hb hts kX4_survey_2 hown hK hP 10 rfl rfl 1 (by decide) (hts (.fieldLink RX4 15 "SightRidge$Routes" "links" "[I") kX4_survey_5) (fun _ h9 => h9) rfl dX4_survey_120 ?_
              refine lv_iload_n hx hb dX4_survey_123 rfl (lv_at hl 3 rfl) ?_
              refine lv_aload_n hx hb dX4_survey_124 rfl (lv_at hl 0 rfl) ?_
              refine lv_aload_n hx hb dX4_survey_125 rfl (lv_at hl 1 rfl) ?_
              refine lv_iload_n hx hb dX4_survey_126 rfl (lv_at hl 3 rfl) ?_
              refine rd_calli hP hS (va_runV (As := [.ref o, .int (nI j)]) (rest := [.int (nI j), .ref ql]) ⟨hx, hb, hml, hown, hts⟩ (c_X4_linksOf l D cI cB cO q qt ql qp qc n (nI (bs (reB M h) n)) u1 u3 u2 fco (hT G M h) o ga ma rg bl fg fm G M j hn hG hM hu1n c1) (cwV 2 hts gX4_survey_X4_linksOf rfl rfl rfl (by decide +kernel) ⟨Nat.le_of_ble_eq_true rfl, Nat.le_of_ble_eq_true rfl⟩) (rd_preV (r := (RX4, TX4, 6)) (ci := 4) hK (hP.pick [10, 11, 0, 1, 2] rfl) hN (q0 := 0) rfl rfl) rfl rfl hl.1 rfl (lv_room (Nat.le_of_ble_eq_true rfl)) dX4_survey_127 ⟨Nat.le_refl _, Nat.le_refl _⟩) (fun r_127 H locs h_127 hP hS => ?_)
              subst h_127
              refine va_iast hx hb hK hP hD hS 12 0 rfl rfl (i := nI j) (vp_in_nI (N := 20) (by omega) (by decide)) dX4_survey_130 (fun H locs hP hD hS => ?_)
              rw [nI_clamp (n := j) (by omega)] at hP hD
              have hP : va_P D vwCl [(o, .inr (3, [.ref ga, .ref ma, .int (nI n), .int rg, .int bl])), (ga, .inl (cI, 20, .inl fg)), (ma, .inl (cI, 20, .inl fm)), v1, v2, v3, v4, v5, v6, v7, (q, .inr (4, [.ref qt, .ref ql, .ref qp, .ref qc, .int (nI n), .int (nI (bs (reB M h) n))])), (qt, .inl (cI, 20, .inl u1)), (ql, .inl (cI, 20, .inl (upd u3 j (nI (bs (lkB G rg bl (hT G M h) j) n))))), (qp, .inl (cI, 20, .inl u2)), (qc, .inl (cI, 20, .inl fco))] _ := hP
              have hD : va_D (inW [(o, .inr (3, [.ref ga, .ref ma, .int (nI n), .int rg, .int bl])), (ga, .inl (cI, 20, .inl fg)), (ma, .inl (cI, 20, .inl fm)), v1, v2, v3, v4, v5, v6, v7, (q, .inr (4, [.ref qt, .ref ql, .ref qp, .ref qc, .int rs, .int rr])), (qt, .inl (cI, 20, .inl ft)), (ql, .inl (cI, 20, .inl fl)), (qp, .inl (cI, 20, .inl fp)), (qc, .inl (cI, 20, .inl fco))]) [(o, .inr (3, [.ref ga, .ref ma, .int (nI n), .int rg, .int bl])), (ga, .inl (cI, 20, .inl fg)), (ma, .inl (cI, 20, .inl fm)), v1, v2, v3, v4, v5, v6, v7, (q, .inr (4, [.ref qt, .ref ql, .ref qp, .ref qc, .int (nI n), .int (nI (bs (reB M h) n))])), (qt, .inl (cI, 20, .inl u1)), (ql, .inl (cI, 20, .inl (upd u3 j (nI (bs (lkB G rg bl (hT G M h) j) n))))), (qp, .inl (cI, 20, .inl u2)), (qc, .inl (cI, 20, .inl fco))] := hD
              refine lv_iinc (v := nI (j + 1)) (lv' := [(3, .int (nI (j + 1))), (0, .ref q), (1, .ref o), (2, .int h)]) hx hb dX4_survey_131 hl (k := 3) rfl (inc1 _) (by decide) rfl (fun ls hl => ?_)
              refine lv_goto (tgt := 111) hx hb dX4_survey_134 (by decide) ?_
              exact ih_111 (j + 1) (upd u3 j (nI (bs (lkB G rg bl (hT G M h) j) n))) (by omega) (by omega) (up_s hu3 (F := fun k => nI (bs (lkB G rg bl (hT G M h) k) n)) rfl) _ _ hP hD hS ls (lv_sub hl [1, 2, 3, 0] rfl)
        exact L_111 _ 0 fl (Nat.lt_succ_self _) (by omega) (up_0) _ _ hP hD hS ls (lv_sub hl [1, 2, 3, 0] rfl)
      · skip
        have c0 : i < n := ge_f (by omega) c_20
        refine lv_aload_n hx hb dX4_survey_23 rfl (lv_at hl 1 rfl) ?_
        refine va_get (D := D) (ci := 3) (v := .ref ma) (C := RX3) (T := TX3) (N := 5) hx hb hts kX4_survey_0 hown hK hP 0 rfl rfl 1 (by decide) (hts (.fieldLink RX4 34 "SightRidge$Profile" "masts" "[I") kX4_survey_6) (fun _ h9 => h9) rfl dX4_survey_24 ?_
        refine lv_iload_n hx hb dX4_survey_27 rfl (lv_at hl 3 rfl) ?_
        refine va_iald hx hb hK hP 2 0 rfl rfl (i := nI i) (vp_in_nI (N := 20) (by omega) (by decide)) dX4_survey_28 ?_
        rw [nI_clamp (n := i) (by omega)]
        refine lv_topi (fun y_1 e_2 => ?_)
        have e_2 : M i = y_1 := (e_2.trans (hM i c0)).symm
        subst e_2
        refine lv_if_ne (tgt := 36) hx hb dX4_survey_29 (by decide) (fun c_29 => ?_) (fun c_29 => ?_)
        · skip
          have b1 : ¬ M i = 0 := c_29
          refine lv_iconst (v := 0) hx hb dX4_survey_36 (by decide) ?_
          refine lv_istore (lv' := [(4, .int 0), (0, .ref q), (1, .ref o), (2, .int h), (3, .int (nI i))]) hx hb dX4_survey_37 hl (by decide) rfl (fun ls hl => ?_)
          refine lv_aload_n hx hb dX4_survey_39 rfl (lv_at hl 1 rfl) ?_
          refine va_get (D := D) (ci := 4) (v := .ref qt) (C := RX4) (T := TX4) (N := 6) hx hb hts kX4_survey_2 hown hK hP 10 rfl rfl 0 (by decide) (hts (.fieldLink RX4 9 "SightRidge$Routes" "tops" "[I") kX4_survey_7) (fun _ h9 => h9) rfl dX4_survey_40 ?_
          refine lv_iload_n hx hb dX4_survey_43 rfl (lv_at hl 4 rfl) ?_
          refine lv_aload_n hx hb dX4_survey_44 rfl (lv_at hl 2 rfl) ?_
          refine lv_iload_n hx hb dX4_survey_45 rfl (lv_at hl 4 rfl) ?_
          refine rd_calli hP hS (va_runV (As := [.int (nI i)]) (rest := [.int (nI i), .ref qt]) ⟨hx, hb, hml, hown, hts⟩ (c_X3_topOf l D cI cB cO o ga ma n rg bl fg fm G M i hn hG hM c0) (cwV 1 hts gX4_survey_X3_topOf rfl rfl rfl (by decide +kernel) ⟨Nat.le_of_ble_eq_true rfl, Nat.le_of_ble_eq_true rfl⟩) (rd_preV (r := (RX3, TX3, 5)) (ci := 3) hK (hP.pick [0, 1, 2] rfl) hN (q0 := 0) rfl rfl) rfl rfl hl.1 rfl (lv_room (Nat.le_of_ble_eq_true rfl)) dX4_survey_46 ⟨Nat.le_refl _, Nat.le_refl _⟩) (fun r_46 H locs h_46 hP hS => ?_)
          subst h_46
          refine lv_iload hx hb dX4_survey_49 (lv_at hl 0 rfl) ?_
          refine lv_if_eq (tgt := 58) hx hb dX4_survey_51 (by decide) (fun c_51 => ?_) (fun c_51 => ?_)
          · skip
            refine lv_iconst (v := 0) hx hb dX4_survey_58 (by decide) ?_
            refine lv_iadd hx hb dX4_survey_59 ?_
            refine va_iast hx hb hK hP hD hS 11 0 rfl rfl (i := nI i) (vp_in_nI (N := 20) (by omega) (by decide)) dX4_survey_60 (fun H locs hP hD hS => ?_)
            rw [nI_clamp (n := i) (by omega)] at hP hD
            have hP : va_P D vwCl [(o, .inr (3, [.ref ga, .ref ma, .int (nI n), .int rg, .int bl])), (ga, .inl (cI, 20, .inl fg)), (ma, .inl (cI, 20, .inl fm)), v1, v2, v3, v4, v5, v6, v7, (q, .inr (4, [.ref qt, .ref ql, .ref qp, .ref qc, .int (nI n), .int v])), (qt, .inl (cI, 20, .inl (upd u1 i ((tp G M i) + 0)))), (ql, .inl (cI, 20, .inl fl)), (qp, .inl (cI, 20, .inl u2)), (qc, .inl (cI, 20, .inl fco))] _ := hP
            have hD : va_D (inW [(o, .inr (3, [.ref ga, .ref ma, .int (nI n), .int rg, .int bl])), (ga, .inl (cI, 20, .inl fg)), (ma, .inl (cI, 20, .inl fm)), v1, v2, v3, v4, v5, v6, v7, (q, .inr (4, [.ref qt, .ref ql, .ref qp, .ref qc, .int rs, .int rr])), (qt, .inl (cI, 20, .inl ft)), (ql, .inl (cI, 20, .inl fl)), (qp, .inl (cI, 20, .inl fp)), (qc, .inl (cI, 20, .inl fco))]) [(o, .inr (3, [.ref ga, .ref ma, .int (nI n), .int rg, .int bl])), (ga, .inl (cI, 20, .inl fg)), (ma, .inl (cI, 20, .inl fm)), v1, v2, v3, v4, v5, v6, v7, (q, .inr (4, [.ref qt, .ref ql, .ref qp, .ref qc, .int (nI n), .int v])), (qt, .inl (cI, 20, .inl (upd u1 i ((tp G M i) + 0)))), (ql, .inl (cI, 20, .inl fl)), (qp, .inl (cI, 20, .inl u2)), (qc, .inl (cI, 20, .inl fco))] := hD
            refine lv_aload_n hx hb dX4_survey_61 rfl (lv_at hl 1 rfl) ?_
            refine va_get (D := D) (ci := 4) (v := .ref qp) (C := RX4) (T := TX4) (N := 6) hx hb hts kX4_survey_2 hown hK hP 10 rfl rfl 2 (by decide) (hts (.fieldLink RX4 18 "SightRidge$Routes" "prices" "[I") kX4_survey_8) (fun _ h9 => h9) rfl dX4_survey_62 ?_
            refine lv_iload_n hx hb dX4_survey_65 rfl (lv_at hl 4 rfl) ?_
            refine lv_iload hx hb dX4_survey_66 (lv_at hl 0 rfl) ?_
            refine lv_if_eq (tgt := 80) hx hb dX4_survey_68 (by decide) (fun c_68 => ?_) (fun c_68 => ?_)
            · skip
              refine lv_iconst (v := 1) hx hb dX4_survey_80 (by decide) ?_
              refine va_iast hx hb hK hP hD hS 13 0 rfl rfl (i := nI i) (vp_in_nI (N := 20) (by omega) (by decide)) dX4_survey_81 (fun H locs hP hD hS => ?_)
              rw [nI_clamp (n := i) (by omega)] at hP hD
              have hP : va_P D vwCl [(o, .inr (3, [.ref ga, .ref ma, .int (nI n), .int rg, .int bl])), (ga, .inl (cI, 20, .inl fg)), (ma, .inl (cI, 20, .inl fm)), v1, v2, v3, v4, v5, v6, v7, (q, .inr (4, [.ref qt, .ref ql, .ref qp, .ref qc, .int (nI n), .int v])), (qt, .inl (cI, 20, .inl (upd u1 i ((tp G M i) + 0)))), (ql, .inl (cI, 20, .inl fl)), (qp, .inl (cI, 20, .inl (upd u2 i 1))), (qc, .inl (cI, 20, .inl fco))] _ := hP
              have hD : va_D (inW [(o, .inr (3, [.ref ga, .ref ma, .int (nI n), .int rg, .int bl])), (ga, .inl (cI, 20, .inl fg)), (ma, .inl (cI, 20, .inl fm)), v1, v2, v3, v4, v5, v6, v7, (q, .inr (4, [.ref qt, .ref ql, .ref qp, .ref qc, .int rs, .int rr])), (qt, .inl (cI, 20, .inl ft)), (ql, .inl (cI, 20, .inl fl)), (qp, .inl (cI, 20, .inl fp)), (qc, .inl (cI, 20, .inl fco))]) [(o, .inr (3, [.ref ga, .ref ma, .int (nI n), .int rg, .int bl])), (ga, .inl (cI, 20, .inl fg)), (ma, .inl (cI, 20, .inl fm)), v1, v2, v3, v4, v5, v6, v7, (q, .inr (4, [.ref qt, .ref ql, .ref qp, .ref qc, .int (nI n), .int v])), (qt, .inl (cI, 20, .inl (upd u1 i ((tp G M i) + 0)))), (ql, .inl (cI, 20, .inl fl)), (qp, .inl (cI, 20, .inl (upd u2 i 1))), (qc, .inl (cI, 20, .inl fco))] := hD
              refine lv_iload hx hb dX4_survey_82 (lv_at hl 0 rfl) ?_
              refine lv_if_eq (tgt := 91) hx hb dX4_survey_84 (by decide) (fun c_84 => ?_) (fun c_84 => ?_)
              · skip
                refine lv_aload_n hx hb dX4_survey_91 rfl (lv_at hl 1 rfl) ?_
                refine lv_dup hx hb dX4_survey_92 rfl ?_
                refine va_get (D := D) (ci := 4) (v := .int v) (C := RX4) (T := TX4) (N := 6) hx hb hts kX4_survey_2 hown hK hP 10 rfl rfl 5 (by decide) (hts (.fieldLink RX4 28 "SightRidge$Routes" "relays" "I") kX4_survey_4) (fun _ h9 => h9) rfl dX4_survey_93 ?_
                refine lv_iconst (v := 1) hx hb dX4_survey_96 (by decide) ?_
                refine lv_iload_n hx hb dX4_survey_97 rfl (lv_at hl 4 rfl) ?_
                refine lv_ishl hx hb dX4_survey_98 ?_
                refine lv_ior hx hb dX4_survey_99 ?_
                refine va_put (D := D) (ci := 4) (v := .int (v ||| (1 <<< ((nI i) &&& 31)))) (ty := .int) (C := RX4) (T := TX4) (N := 6) hx hb hts kX4_survey_2 tyX4 tyX4_ok nmX4 hown hK hP hD hS 10 rfl rfl 5 (by decide) (hts (.fieldLink RX4 28 "SightRidge$Routes" "relays" "I") kX4_survey_4) (fun _ h9 => h9) rfl (by decide +kernel) rfl rfl (Nat.le_of_ble_eq_true rfl) dX4_survey_100 (fun H locs hP hD hS => ?_)
                have hP : va_P D vwCl [(o, .inr (3, [.ref ga, .ref ma, .int (nI n), .int rg, .int bl])), (ga, .inl (cI, 20, .inl fg)), (ma, .inl (cI, 20, .inl fm)), v1, v2, v3, v4, v5, v6, v7, (q, .inr (4, [.ref qt, .ref ql, .ref qp, .ref qc, .int (nI n), .int (v ||| (1 <<< ((nI i) &&& 31)))])), (qt, .inl (cI, 20, .inl (upd u1 i ((tp G M i) + 0)))), (ql, .inl (cI, 20, .inl fl)), (qp, .inl (cI, 20, .inl (upd u2 i 1))), (qc, .inl (cI, 20, .inl fco))] _ := hP
                have hD : va_D (inW [(o, .inr (3, [.ref ga, .ref ma, .int (nI n), .int rg, .int bl])), (ga, .inl (cI, 20, .inl fg)), (ma, .inl (cI, 20, .inl fm)), v1, v2, v3, v4, v5, v6, v7, (q, .inr (4, [.ref qt, .ref ql, .ref qp, .ref qc, .int rs, .int rr])), (qt, .inl (cI, 20, .inl ft)), (ql, .inl (cI, 20, .inl fl)), (qp, .inl (cI, 20, .inl fp)), (qc, .inl (cI, 20, .inl fco))]) [(o, .inr (3, [.ref ga, .ref ma, .int (nI n), .int rg, .int bl])), (ga, .inl (cI, 20, .inl fg)), (ma, .inl (cI, 20, .inl fm)), v1, v2, v3, v4, v5, v6, v7, (q, .inr (4, [.ref qt, .ref ql, .ref qp, .ref qc, .int (nI n), .int (v ||| (1 <<< ((nI i) &&& 31)))])), (qt, .inl (cI, 20, .inl (upd u1 i ((tp G M i) + 0)))), (ql, .inl (cI, 20, .inl fl)), (qp, .inl (cI, 20, .inl (upd u2 i 1))), (qc, .inl (cI, 20, .inl fco))] := hD
                refine lv_iinc (v := nI (i + 1)) (lv' := [(3, .int (nI (i + 1))), (4, .int 0), (0, .ref q), (1, .ref o), (2, .int h)]) hx hb dX4_survey_103 hl (k := 4) rfl (inc1 _) (by decide) rfl (fun ls hl => ?_)
                refine lv_goto (tgt := 15) hx hb dX4_survey_106 (by decide) ?_
                exact ih_15 (i + 1) (upd u1 i ((tp G M i) + 0)) (upd u2 i 1) (v ||| (1 <<< ((nI i) &&& 31))) (by omega) (by omega) (by first | exact up_s hu1 (hT_b b1) | exact up_s hu1 (hT_m b1) | fail) (by first | exact up_s hu2 (F := fun k => nI (prN1 M h k)) (pr_33 b1 b2) | exact up_s hu2 (F := fun k => nI (prN1 M h k)) (pr_1 (fun z => b1 z.1)) | exact up_s hu2 (F := fun k => nI (prN1 M h k)) (pr_1 (fun z => b2 z.2)) | fail) (by subst hv; first | exact bs_orT (P := reB M h) (by omega) (decide_eq_true (Or.inl b1)) | exact bs_orT (P := reB M h) (by omega) (decide_eq_true (Or.inr b2)) | exact bs_orF (P := reB M h) (decide_eq_false (fun z => z.elim (fun y => y b1) b2)) | fail) _ _ hP hD hS ls (lv_sub hl [2, 3, 4, 0] rfl)
              · skip
                exact absurd (by decide) c_84
            · skip
              exact absurd (by decide) c_68
          · skip
            exact absurd (by decide) c_51
        · skip
          have b1 : M i = 0 := c_29
          refine lv_iconst (v := 1) hx hb dX4_survey_32 (by decide) ?_
          refine lv_goto (tgt := 37) hx hb dX4_survey_33 (by decide) ?_
          refine lv_istore (lv' := [(4, .int 1), (0, .ref q), (1, .ref o), (2, .int h), (3, .int (nI i))]) hx hb dX4_survey_37 hl (by decide) rfl (fun ls hl => ?_)
          refine lv_aload_n hx hb dX4_survey_39 rfl (lv_at hl 1 rfl) ?_
          refine va_get (D := D) (ci := 4) (v := .ref qt) (C := RX4) (T := TX4) (N := 6) hx hb hts kX4_survey_2 hown hK hP 10 rfl rfl 0 (by decide) (hts (.fieldLink RX4 9 "SightRidge$Routes" "tops" "[I") kX4_survey_7) (fun _ h9 => h9) rfl dX4_survey_40 ?_
          refine lv_iload_n hx hb dX4_survey_43 rfl (lv_at hl 4 rfl) ?_
          refine lv_aload_n hx hb dX4_survey_44 rfl (lv_at hl 2 rfl) ?_
          refine lv_iload_n hx hb dX4_survey_45 rfl (lv_at hl 4 rfl) ?_
          refine rd_calli hP hS (va_runV (As := [.int (nI i)]) (rest := [.int (nI i), .ref qt]) ⟨hx, hb, hml, hown, hts⟩ (c_X3_topOf l D cI cB cO o ga ma n rg bl fg fm G M i hn hG hM c0) (cwV 1 hts gX4_survey_X3_topOf rfl rfl rfl (by decide +kernel) ⟨Nat.le_of_ble_eq_true rfl, Nat.le_of_ble_eq_true rfl⟩) (rd_preV (r := (RX3, TX3, 5)) (ci := 3) hK (hP.pick [0, 1, 2] rfl) hN (q0 := 0) rfl rfl) rfl rfl hl.1 rfl (lv_room (Nat.le_of_ble_eq_true rfl)) dX4_survey_46 ⟨Nat.le_refl _, Nat.le_refl _⟩) (fun r_46 H locs h_46 hP hS => ?_)
          subst h_46
          refine lv_iload hx hb dX4_survey_49 (lv_at hl 0 rfl) ?_
          refine lv_if_eq (tgt := 58) hx hb dX4_survey_51 (by decide) (fun c_51 => ?_) (fun c_51 => ?_)
          · skip
            exact absurd c_51 (by decide)
          · skip
            refine lv_iload_n hx hb dX4_survey_54 rfl (lv_at hl 3 rfl) ?_
            refine lv_goto (tgt := 59) hx hb dX4_survey_55 (by decide) ?_
            refine lv_iadd hx hb dX4_survey_59 ?_
            refine va_iast hx hb hK hP hD hS 11 0 rfl rfl (i := nI i) (vp_in_nI (N := 20) (by omega) (by decide)) dX4_survey_60 (fun H locs hP hD hS => ?_)
            rw [nI_clamp (n := i) (by omega)] at hP hD
            have hP : va_P D vwCl [(o, .inr (3, [.ref ga, .ref ma, .int (nI n), .int rg, .int bl])), (ga, .inl (cI, 20, .inl fg)), (ma, .inl (cI, 20, .inl fm)), v1, v2, v3, v4, v5, v6, v7, (q, .inr (4, [.ref qt, .ref ql, .ref qp, .ref qc, .int (nI n), .int v])), (qt, .inl (cI, 20, .inl (upd u1 i ((tp G M i) + h)))), (ql, .inl (cI, 20, .inl fl)), (qp, .inl (cI, 20, .inl u2)), (qc, .inl (cI, 20, .inl fco))] _ := hP
            have hD : va_D (inW [(o, .inr (3, [.ref ga, .ref ma, .int (nI n), .int rg, .int bl])), (ga, .inl (cI, 20, .inl fg)), (ma, .inl (cI, 20, .inl fm)), v1, v2, v3, v4, v5, v6, v7, (q, .inr (4, [.ref qt, .ref ql, .ref qp, .ref qc, .int rs, .int rr])), (qt, .inl (cI, 20, .inl ft)), (ql, .inl (cI, 20, .inl fl)), (qp, .inl (cI, 20, .inl fp)), (qc, .inl (cI, 20, .inl fco))]) [(o, .inr (3, [.ref ga, .ref ma, .int (nI n), .int rg, .int bl])), (ga, .inl (cI, 20, .inl fg)), (ma, .inl (cI, 20, .inl fm)), v1, v2, v3, v4, v5, v6, v7, (q, .inr (4, [.ref qt, .ref ql, .ref qp, .ref qc, .int (nI n), .int v])), (qt, .inl (cI, 20, .inl (upd u1 i ((tp G M i) + h)))), (ql, .inl (cI, 20, .inl fl)), (qp, .inl (cI, 20, .inl u2)), (qc, .inl (cI, 20, .inl fco))] := hD
            refine lv_aload_n hx hb dX4_survey_61 rfl (lv_at hl 1 rfl) ?_
            refine va_get (D := D) (ci := 4) (v := .ref qp) (C := RX4) (T := TX4) (N := 6) hx hb hts kX4_survey_2 hown hK hP 10 rfl rfl 2 (by decide) (hts (.fieldLink RX4 18 "SightRidge$Routes" "prices" "[I") kX4_survey_8) (fun _ h9 => h9) rfl dX4_survey_62 ?_
            refine lv_iload_n hx hb dX4_survey_65 rfl (lv_at hl 4 rfl) ?_
            refine lv_iload hx hb dX4_survey_66 (lv_at hl 0 rfl) ?_
            refine lv_if_eq (tgt := 80) hx hb dX4_survey_68 (by decide) (fun c_68 => ?_) (fun c_68 => ?_)
            · skip
              exact absurd c_68 (by decide)
            · skip
              refine lv_iload_n hx hb dX4_survey_71 rfl (lv_at hl 3 rfl) ?_
              refine lv_if_le (tgt := 80) hx hb dX4_survey_72 (by decide) (fun c_72 => ?_) (fun c_72 => ?_)
              · skip
                have b2 : ¬ 0 < h := Int32.not_lt.mpr c_72
                refine lv_iconst (v := 1) hx hb dX4_survey_80 (by decide) ?_
                refine va_iast hx hb hK hP hD hS 13 0 rfl rfl (i := nI i) (vp_in_nI (N := 20) (by omega) (by decide)) dX4_survey_81 (fun H locs hP hD hS => ?_)
                rw [nI_clamp (n := i) (by omega)] at hP hD
                have hP : va_P D vwCl [(o, .inr (3, [.ref ga, .ref ma, .int (nI n), .int rg, .int bl])), (ga, .inl (cI, 20, .inl fg)), (ma, .inl (cI, 20, .inl fm)), v1, v2, v3, v4, v5, v6, v7, (q, .inr (4, [.ref qt, .ref ql, .ref qp, .ref qc, .int (nI n), .int v])), (qt, .inl (cI, 20, .inl (upd u1 i ((tp G M i) + h)))), (ql, .inl (cI, 20, .inl fl)), (qp, .inl (cI, 20, .inl (upd u2 i 1))), (qc, .inl (cI, 20, .inl fco))] _ := hP
                have hD : va_D (inW [(o, .inr (3, [.ref ga, .ref ma, .int (nI n), .int rg, .int bl])), (ga, .inl (cI, 20, .inl fg)), (ma, .inl (cI, 20, .inl fm)), v1, v2, v3, v4, v5, v6, v7, (q, .inr (4, [.ref qt, .ref ql, .ref qp, .ref qc, .int rs, .int rr])), (qt, .inl (cI, 20, .inl ft)), (ql, .inl (cI, 20, .inl fl)), (qp, .inl (cI, 20, .inl fp)), (qc, .inl (cI, 20, .inl fco))]) [(o, .inr (3, [.ref ga, .ref ma, .int (nI n), .int rg, .int bl])), (ga, .inl (cI, 20, .inl fg)), (ma, .inl (cI, 20, .inl fm)), v1, v2, v3, v4, v5, v6, v7, (q, .inr (4, [.ref qt, .ref ql, .ref qp, .ref qc, .int (nI n), .int v])), (qt, .inl (cI, 20, .inl (upd u1 i ((tp G M i) + h)))), (ql, .inl (cI, 20, .inl fl)), (qp, .inl (cI, 20, .inl (upd u2 i 1))), (qc, .inl (cI, 20, .inl fco))] := hD
                refine lv_iload hx hb dX4_survey_82 (lv_at hl 0 rfl) ?_
                refine lv_if_eq (tgt := 91) hx hb dX4_survey_84 (by decide) (fun c_84 => ?_) (fun c_84 => ?_)
                · skip
                  exact absurd c_84 (by decide)
                · skip
                  refine lv_iload_n hx hb dX4_survey_87 rfl (lv_at hl 3 rfl) ?_
                  refine lv_if_le (tgt := 103) hx hb dX4_survey_88 (by decide) (fun c_88 => ?_) (fun c_88 => ?_)
                  · skip
                    refine lv_iinc (v := nI (i + 1)) (lv' := [(3, .int (nI (i + 1))), (4, .int 1), (0, .ref q), (1, .ref o), (2, .int h)]) hx hb dX4_survey_103 hl (k := 4) rfl (inc1 _) (by decide) rfl (fun ls hl => ?_)
                    refine lv_goto (tgt := 15) hx hb dX4_survey_106 (by decide) ?_
                    exact ih_15 (i + 1) (upd u1 i ((tp G M i) + h)) (upd u2 i 1) v (by omega) (by omega) (by first | exact up_s hu1 (hT_b b1) | exact up_s hu1 (hT_m b1) | fail) (by first | exact up_s hu2 (F := fun k => nI (prN1 M h k)) (pr_33 b1 b2) | exact up_s hu2 (F := fun k => nI (prN1 M h k)) (pr_1 (fun z => b1 z.1)) | exact up_s hu2 (F := fun k => nI (prN1 M h k)) (pr_1 (fun z => b2 z.2)) | fail) (by subst hv; first | exact bs_orT (P := reB M h) (by omega) (decide_eq_true (Or.inl b1)) | exact bs_orT (P := reB M h) (by omega) (decide_eq_true (Or.inr b2)) | exact bs_orF (P := reB M h) (decide_eq_false (fun z => z.elim (fun y => y b1) b2)) | fail) _ _ hP hD hS ls (lv_sub hl [2, 3, 4, 0] rfl)
                  · skip
                    exact absurd (Int32.not_le.mp c_88) b2
              · skip
                have b2 : 0 < h := Int32.not_le.mp c_72
                refine lv_bipush (v := 33) hx hb dX4_survey_75 (by decide) ?_
                refine lv_goto (tgt := 81) hx hb dX4_survey_77 (by decide) ?_
                refine va_iast hx hb hK hP hD hS 13 0 rfl rfl (i := nI i) (vp_in_nI (N := 20) (by omega) (by decide)) dX4_survey_81 (fun H locs hP hD hS => ?_)
                rw [nI_clamp (n := i) (by omega)] at hP hD
                have hP : va_P D vwCl [(o, .inr (3, [.ref ga, .ref ma, .int (nI n), .int rg, .int bl])), (ga, .inl (cI, 20, .inl fg)), (ma, .inl (cI, 20, .inl fm)), v1, v2, v3, v4, v5, v6, v7, (q, .inr (4, [.ref qt, .ref ql, .ref qp, .ref qc, .int (nI n), .int v])), (qt, .inl (cI, 20, .inl (upd u1 i ((tp G M i) + h)))), (ql, .inl (cI, 20, .inl fl)), (qp, .inl (cI, 20, .inl (upd u2 i 33))), (qc, .inl (cI, 20, .inl fco))] _ := hP
                have hD : va_D (inW [(o, .inr (3, [.ref ga, .ref ma, .int (nI n), .int rg, .int bl])), (ga, .inl (cI, 20, .inl fg)), (ma, .inl (cI, 20, .inl fm)), v1, v2, v3, v4, v5, v6, v7, (q, .inr (4, [.ref qt, .ref ql, .ref qp, .ref qc, .int rs, .int rr])), (qt, .inl (cI, 20, .inl ft)), (ql, .inl (cI, 20, .inl fl)), (qp, .inl (cI, 20, .inl fp)), (qc, .inl (cI, 20, .inl fco))]) [(o, .inr (3, [.ref ga, .ref ma, .int (nI n), .int rg, .int bl])), (ga, .inl (cI, 20, .inl fg)), (ma, .inl (cI, 20, .inl fm)), v1, v2, v3, v4, v5, v6, v7, (q, .inr (4, [.ref qt, .ref ql, .ref qp, .ref qc, .int (nI n), .int v])), (qt, .inl (cI, 20, .inl (upd u1 i ((tp G M i) + h)))), (ql, .inl (cI, 20, .inl fl)), (qp, .inl (cI, 20, .inl (upd u2 i 33))), (qc, .inl (cI, 20, .inl fco))] := hD
                refine lv_iload hx hb dX4_survey_82 (lv_at hl 0 rfl) ?_
                refine lv_if_eq (tgt := 91) hx hb dX4_survey_84 (by decide) (fun c_84 => ?_) (fun c_84 => ?_)
                · skip
                  exact absurd c_84 (by decide)
                · skip
                  refine lv_iload_n hx hb dX4_survey_87 rfl (lv_at hl 3 rfl) ?_
                  refine lv_if_le (tgt := 103) hx hb dX4_survey_88 (by decide) (fun c_88 => ?_) (fun c_88 => ?_)
                  · skip
                    exact absurd b2 (Int32.not_lt.mpr c_88)
                  · skip
                    refine lv_aload_n hx hb dX4_survey_91 rfl (lv_at hl 1 rfl) ?_
                    refine lv_dup hx hb dX4_survey_92 rfl ?_
                    refine va_get (D := D) (ci := 4) (v := .int v) (C := RX4) (T := TX4) (N := 6) hx hb hts kX4_survey_2 hown hK hP 10 rfl rfl 5 (by decide) (hts (.fieldLink RX4 28 "SightRidge$Routes" "relays" "I") kX4_survey_4) (fun _ h9 => h9) rfl dX4_survey_93 ?_
                    refine lv_iconst (v := 1) hx hb dX4_survey_96 (by decide) ?_
                    refine lv_iload_n hx hb dX4_survey_97 rfl (lv_at hl 4 rfl) ?_
                    refine lv_ishl hx hb dX4_survey_98 ?_
                    refine lv_ior hx hb dX4_survey_99 ?_
                    refine va_put (D := D) (ci := 4) (v := .int (v ||| (1 <<< ((nI i) &&& 31)))) (ty := .int) (C := RX4) (T := TX4) (N := 6) hx hb hts kX4_survey_2 tyX4 tyX4_ok nmX4 hown hK hP hD hS 10 rfl rfl 5 (by decide) (hts (.fieldLink RX4 28 "SightRidge$Routes" "relays" "I") kX4_survey_4) (fun _ h9 => h9) rfl (by decide +kernel) rfl rfl (Nat.le_of_ble_eq_true rfl) dX4_survey_100 (fun H locs hP hD hS => ?_)
                    have hP : va_P D vwCl [(o, .inr (3, [.ref ga, .ref ma, .int (nI n), .int rg, .int bl])), (ga, .inl (cI, 20, .inl fg)), (ma, .inl (cI, 20, .inl fm)), v1, v2, v3, v4, v5, v6, v7, (q, .inr (4, [.ref qt, .ref ql, .ref qp, .ref qc, .int (nI n), .int (v ||| (1 <<< ((nI i) &&& 31)))])), (qt, .inl (cI, 20, .inl (upd u1 i ((tp G M i) + h)))), (ql, .inl (cI, 20, .inl fl)), (qp, .inl (cI, 20, .inl (upd u2 i 33))), (qc, .inl (cI, 20, .inl fco))] _ := hP
                    have hD : va_D (inW [(o, .inr (3, [.ref ga, .ref ma, .int (nI n), .int rg, .int bl])), (ga, .inl (cI, 20, .inl fg)), (ma, .inl (cI, 20, .inl fm)), v1, v2, v3, v4, v5, v6, v7, (q, .inr (4, [.ref qt, .ref ql, .ref qp, .ref qc, .int rs, .int rr])), (qt, .inl (cI, 20, .inl ft)), (ql, .inl (cI, 20, .inl fl)), (qp, .inl (cI, 20, .inl fp)), (qc, .inl (cI, 20, .inl fco))]) [(o, .inr (3, [.ref ga, .ref ma, .int (nI n), .int rg, .int bl])), (ga, .inl (cI, 20, .inl fg)), (ma, .inl (cI, 20, .inl fm)), v1, v2, v3, v4, v5, v6, v7, (q, .inr (4, [.ref qt, .ref ql, .ref qp, .ref qc, .int (nI n), .int (v ||| (1 <<< ((nI i) &&& 31)))])), (qt, .inl (cI, 20, .inl (upd u1 i ((tp G M i) + h)))), (ql, .inl (cI, 20, .inl fl)), (qp, .inl (cI, 20, .inl (upd u2 i 33))), (qc, .inl (cI, 20, .inl fco))] := hD
                    refine lv_iinc (v := nI (i + 1)) (lv' := [(3, .int (nI (i + 1))), (4, .int 1), (0, .ref q), (1, .ref o), (2, .int h)]) hx hb dX4_survey_103 hl (k := 4) rfl (inc1 _) (by decide) rfl (fun ls hl => ?_)
                    refine lv_goto (tgt := 15) hx hb dX4_survey_106 (by decide) ?_
                    exact ih_15 (i + 1) (upd u1 i ((tp G M i) + h)) (upd u2 i 33) (v ||| (1 <<< ((nI i) &&& 31))) (by omega) (by omega) (by first | exact up_s hu1 (hT_b b1) | exact up_s hu1 (hT_m b1) | fail) (by first | exact up_s hu2 (F := fun k => nI (prN1 M h k)) (pr_33 b1 b2) | exact up_s hu2 (F := fun k => nI (prN1 M h k)) (pr_1 (fun z => b1 z.1)) | exact up_s hu2 (F := fun k => nI (prN1 M h k)) (pr_1 (fun z => b2 z.2)) | fail) (by subst hv; first | exact bs_orT (P := reB M h) (by omega) (decide_eq_true (Or.inl b1)) | exact bs_orT (P := reB M h) (by omega) (decide_eq_true (Or.inr b2)) | exact bs_orF (P := reB M h) (decide_eq_false (fun z => z.elim (fun y => y b1) b2)) | fail) _ _ hP hD hS ls (lv_sub hl [2, 3, 4, 0] rfl)
  exact L_15 _ 0 ft fp 0 (Nat.lt_succ_self _) (by omega) (up_0) (up_0) (rfl) _ _ hP hD hS ls (lv_sub hl [1, 2, 3, 0] rfl)
theorem kX4_findCosts_0 : ∀ w ∈ wsX40, w ∈ wsX4_findCosts := by decide +kernel
theorem kX4_findCosts_1 : (.fieldLink RX4 24 "SightRidge$Routes" "stations" "I" : Cond) ∈ wsX4_findCosts := by decide +kernel
theorem kX4_findCosts_2 : (.fieldLink RX4 21 "SightRidge$Routes" "costs" "[I" : Cond) ∈ wsX4_findCosts := by decide +kernel
theorem kX4_findCosts_3 : (.fieldLink RX4 18 "SightRidge$Routes" "prices" "[I" : Cond) ∈ wsX4_findCosts := by decide +kernel
theorem kX4_findCosts_4 : (.methodLink RX4 78 Lib.Math.min.name : Cond) ∈ wsX4_findCosts := by decide +kernel
theorem kX4_findCosts_5 : (.static Lib.Math.min.name : Cond) ∈ wsX4_findCosts := by decide +kernel
theorem kX4_findCosts_6 : (.initialized "java/lang/Math" : Cond) ∈ wsX4_findCosts := by decide +kernel
theorem kX4_findCosts_7 : (.code Lib.Math.min.name Lib.Math.min.code 2 (some .int) : Cond) ∈ wsX4_findCosts := by decide +kernel
theorem kX4_findCosts_8 : (.constant RX4 61 (1000000) : Cond) ∈ wsX4_findCosts := by decide +kernel
set_option maxHeartbeats 4000000 in
set_option maxRecDepth 100000 in
/-- findCosts(to) -/
theorem c_X4_findCosts (l : Launch) (D : va_G) (cI cB cO : ClassId) (q qt ql qp qc : Nat) (n : Nat) (rr : Int32) (ft fl fp fco : Nat → Int32) (Lk : Nat → Nat → Bool) (Xr : Nat → Bool) (wt : Nat → Nat) (to : Nat) (hn : n ≤ 20) (hlk : ∀ k, k < n → fl k = nI (bs (Lk k) n)) (hxr : rr = nI (bs Xr n)) (hw1 : ∀ k, k < n → 0 < wt k) (hw2 : ∀ k, k < n → wt k ≤ 33) (hfp : ∀ k, k < n → fp k = nI (wt k)) (hto : to < n) : Met l yX4_findCosts wsX4_findCosts (rmD 3) (wrPc D (tyL cI cB cO) [.ref q, .int (nI to)] [(q, .inr (4, [.ref qt, .ref ql, .ref qp, .ref qc, .int (nI n), .int rr])), (qt, .inl (cI, 20, .inl ft)), (ql, .inl (cI, 20, .inl fl)), (qp, .inl (cI, 20, .inl fp)), (qc, .inl (cI, 20, .inl fco))]) (wrQv D [(q, .inr (4, [.ref qt, .ref ql, .ref qp, .ref qc, .int (nI n), .int rr])), (qt, .inl (cI, 20, .inl ft)), (ql, .inl (cI, 20, .inl fl)), (qp, .inl (cI, 20, .inl fp)), (qc, .inl (cI, 20, .inl fco))] (fun (u : Nat → Int32) => ∀ k, k < n → u k = nI (cst (EX Lk Xr to) wt n to k)) (fun (u : Nat → Int32) => [(q, .inr (4, [.ref qt, .ref ql, .ref qp, .ref qc, .int (nI n), .int rr])), (qt, .inl (cI, 20, .inl ft)), (ql, .inl (cI, 20, .inl fl)), (qp, .inl (cI, 20, .inl fp)), (qc, .inl (cI, 20, .inl u))])) 0 0 (inW [(q, .inr (4, [.ref qt, .ref ql, .ref qp, .ref qc, .int (nI n), .int rr])), (qt, .inl (cI, 20, .inl ft)), (ql, .inl (cI, 20, .inl fl)), (qp, .inl (cI, 20, .inl fp)), (qc, .inl (cI, 20, .inl fco))]) := by
  refine Met.ofW (cc := cX4_findCosts) (maxL := 5) (ret := none) (by decide) rfl ?_
  intro p e s m args below meth c s₁ B hml hv
  obtain ⟨rfl, hP, hK, hN, hD⟩ := hv
  have hx := B.exec
  have hb := B.bytes
  have hr := B.returns
  have hts := atoms_spec (ws := wsX4_findCosts) B.pre
  have hown : s.vm.findClass RX4 = some m.cls := findClass_of_methodNamed B.named
  have hlocks := B.notSynchronized
  have hS : va_S (inW [(q, .inr (4, [.ref qt, .ref ql, .ref qp, .ref qc, .int (nI n), .int rr])), (qt, .inl (cI, 20, .inl ft)), (ql, .inl (cI, 20, .inl fl)), (qp, .inl (cI, 20, .inl fp)), (qc, .inl (cI, 20, .inl fco))]) s.heap s.heap [] := va_S.rf
  have hD : va_D (inW [(q, .inr (4, [.ref qt, .ref ql, .ref qp, .ref qc, .int (nI n), .int rr])), (qt, .inl (cI, 20, .inl ft)), (ql, .inl (cI, 20, .inl fl)), (qp, .inl (cI, 20, .inl fp)), (qc, .inl (cI, 20, .inl fco))]) [(q, .inr (4, [.ref qt, .ref ql, .ref qp, .ref qc, .int (nI n), .int rr])), (qt, .inl (cI, 20, .inl ft)), (ql, .inl (cI, 20, .inl fl)), (qp, .inl (cI, 20, .inl fp)), (qc, .inl (cI, 20, .inl fco))] := inW_self hD
  have hl := lv_entry ([.ref q, .int (nI to)]) (n := 5) (Nat.le_of_ble_eq_true rfl)
  rw [lg_entry_eq]
  generalize (lg_sl ([.ref q, .int (nI to)]) ++ List.replicate (5 - (lg_sl ([.ref q, .int (nI to)])).length) Slot.unset).toArray = ls at hl ⊢
  have hl : lv_has ls 5 [(0, .ref q), (1, .int (nI to))] := hl
  refine lv_iconst (v := 0) hx hb dX4_findCosts_0 (by decide) ?_
  refine lv_istore_n (lv' := [(2, .int 0), (0, .ref q), (1, .int (nI to))]) hx hb dX4_findCosts_1 rfl hl (by decide) rfl (fun ls hl => ?_)
  have L_2 : ∀ (k_2 : Nat) (i : Nat) (u : Nat → Int32), n - i < k_2 → (i ≤ n) → (∀ k, k < i → u k = nI (if k = to then wt to else INF)) → ∀ (H : Heap) (locs : List Loc), va_P D vwCl [(q, .inr (4, [.ref qt, .ref ql, .ref qp, .ref qc, .int (nI n), .int rr])), (qt, .inl (cI, 20, .inl ft)), (ql, .inl (cI, 20, .inl fl)), (qp, .inl (cI, 20, .inl fp)), (qc, .inl (cI, 20, .inl u))] H → va_D (inW [(q, .inr (4, [.ref qt, .ref ql, .ref qp, .ref qc, .int (nI n), .int rr])), (qt, .inl (cI, 20, .inl ft)), (ql, .inl (cI, 20, .inl fl)), (qp, .inl (cI, 20, .inl fp)), (qc, .inl (cI, 20, .inl fco))]) [(q, .inr (4, [.ref qt, .ref ql, .ref qp, .ref qc, .int (nI n), .int rr])), (qt, .inl (cI, 20, .inl ft)), (ql, .inl (cI, 20, .inl fl)), (qp, .inl (cI, 20, .inl fp)), (qc, .inl (cI, 20, .inl u))] → va_S (inW [(q, .inr (4, [.ref qt, .ref ql, .ref qp, .ref qc, .int (nI n), .int rr])), (qt, .inl (cI, 20, .inl ft)), (ql, .inl (cI, 20, .inl fl)), (qp, .inl (cI, 20, .inl fp)), (qc, .inl (cI, 20, .inl fco))]) s.heap H locs → ∀ (ls : Array Slot), lv_has ls 5 [(0, .ref q), (1, .int (nI to)), (2, .int (nI i))] → W p l e (rmD 3) s m ([.ref q, .int (nI to)] : List Value).toArray below meth c H locs 0 0 (MQ below (wrQv D [(q, .inr (4, [.ref qt, .ref ql, .ref qp, .ref qc, .int (nI n), .int rr])), (qt, .inl (cI, 20, .inl ft)), (ql, .inl (cI, 20, .inl fl)), (qp, .inl (cI, 20, .inl fp)), (qc, .inl (cI, 20, .inl fco))] (fun (u : Nat → Int32) => ∀ k, k < n → u k = nI (cst (EX Lk Xr to) wt n to k)) (fun (u : Nat → Int32) => [(q, .inr (4, [.ref qt, .ref ql, .ref qp, .ref qc, .int (nI n), .int rr])), (qt, .inl (cI, 20, .inl ft)), (ql, .inl (cI, 20, .inl fl)), (qp, .inl (cI, 20, .inl fp)), (qc, .inl (cI, 20, .inl u))])) ([.ref q, .int (nI to)] : List Value).toArray s 0 0 (inW [(q, .inr (4, [.ref qt, .ref ql, .ref qp, .ref qc, .int (nI n), .int rr])), (qt, .inl (cI, 20, .inl ft)), (ql, .inl (cI, 20, .inl fl)), (qp, .inl (cI, 20, .inl fp)), (qc, .inl (cI, 20, .inl fco))])) (F0 m 2 ls []) := by
    intro k_2
    induction k_2 with
    | zero => intro i u h9; exact absurd h9 (Nat.not_lt_zero _)
    | succ k_2 ih_2 =>
      intro i u hm_2 hi hu H locs hP hD hS ls hl
      refine lv_iload_n hx hb dX4_findCosts_2 rfl (lv_at hl 2 rfl) ?_
      refine lv_aload_n hx hb dX4_findCosts_3 rfl (lv_at hl 0 rfl) ?_
      refine va_get (D := D) (ci := 4) (v := .int (nI n)) (C := RX4) (T := TX4) (N := 6) hx hb hts kX4_findCosts_0 hown hK hP 0 rfl rfl 4 (by decide) (hts (.fieldLink RX4 24 "SightRidge$Routes" "stations" "I") kX4_findCosts_1) (fun _ h9 => h9) rfl dX4_findCosts_4 ?_
      refine lv_icmp_ge (tgt := 38) hx hb dX4_findCosts_7 (by decide) (fun c_7 => ?_) (fun c_7 => ?_)
      · skip
        have c0 : n ≤ i := ge_t (by omega) c_7
        refine lv_iconst (v := 0) hx hb dX4_findCosts_38 (by decide) ?_
        refine lv_istore_n (lv' := [(2, .int 0), (0, .ref q), (1, .int (nI to))]) hx hb dX4_findCosts_39 rfl hl (by decide) rfl (fun ls hl => ?_)
        have hF0 : FO (EX Lk Xr to) wt n to 0 u := FO_0 hto (fun k hk => hu k (by omega)) (Nat.le_trans (hw2 to hto) (by decide))
        have L_40 : ∀ (k_40 : Nat) (zr : Nat) (u2 : Nat → Int32), n - zr < k_40 → (zr ≤ n) → (FO (EX Lk Xr to) wt n to zr u2) → ∀ (H : Heap) (locs : List Loc), va_P D vwCl [(q, .inr (4, [.ref qt, .ref ql, .ref qp, .ref qc, .int (nI n), .int rr])), (qt, .inl (cI, 20, .inl ft)), (ql, .inl (cI, 20, .inl fl)), (qp, .inl (cI, 20, .inl fp)), (qc, .inl (cI, 20, .inl u2))] H → va_D (inW [(q, .inr (4, [.ref qt, .ref ql, .ref qp, .ref qc, .int (nI n), .int rr])), (qt, .inl (cI, 20, .inl ft)), (ql, .inl (cI, 20, .inl fl)), (qp, .inl (cI, 20, .inl fp)), (qc, .inl (cI, 20, .inl fco))]) [(q, .inr (4, [.ref qt, .ref ql, .ref qp, .ref qc, .int (nI n), .int rr])), (qt, .inl (cI, 20, .inl ft)), (ql, .inl (cI, 20, .inl fl)), (qp, .inl (cI, 20, .inl fp)), (qc, .inl (cI, 20, .inl u2))] → va_S (inW [(q, .inr (4, [.ref qt, .ref ql, .ref qp, .ref qc, .int (nI n), .int rr])), (qt, .inl (cI, 20, .inl ft)), (ql, .inl (cI, 20, .inl fl)), (qp, .inl (cI, 20, .inl fp)), (qc, .inl (cI, 20, .inl fco))]) s.heap H locs → ∀ (ls : Array Slot), lv_has ls 5 [(0, .ref q), (1, .int (nI to)), (2, .int (nI zr))] → W p l e (rmD 3) s m ([.ref q, .int (nI to)] : List Value).toArray below meth c H locs 0 0 (MQ below (wrQv D [(q, .inr (4, [.ref qt, .ref ql, .ref qp, .ref qc, .int (nI n), .int rr])), (qt, .inl (cI, 20, .inl ft)), (ql, .inl (cI, 20, .inl fl)), (qp, .inl (cI, 20, .inl fp)), (qc, .inl (cI, 20, .inl fco))] (fun (u : Nat → Int32) => ∀ k, k < n → u k = nI (cst (EX Lk Xr to) wt n to k)) (fun (u : Nat → Int32) => [(q, .inr (4, [.ref qt, .ref ql, .ref qp, .ref qc, .int (nI n), .int rr])), (qt, .inl (cI, 20, .inl ft)), (ql, .inl (cI, 20, .inl fl)), (qp, .inl (cI, 20, .inl fp)), (qc, .inl (cI, 20, .inl u))])) ([.ref q, .int (nI to)] : List Value).toArray s 0 0 (inW [(q, .inr (4, [.ref qt, .ref ql, .ref qp, .ref qc, .int (nI n), .int rr])), (qt, .inl (cI, 20, .inl ft)), (ql, .inl (cI, 20, .inl fl)), (qp, .inl (cI, 20, .inl fp)), (qc, .inl (cI, 20, .inl fco))])) (F0 m 40 ls []) := by
          intro k_40
          induction k_40 with
          | zero => intro zr u2 h9; exact absurd h9 (Nat.not_lt_zero _)
          | succ k_40 ih_40 =>
            intro zr u2 hm_40 hz hF H locs hP hD hS ls hl
            refine lv_iload_n hx hb dX4_findCosts_40 rfl (lv_at hl 2 rfl) ?_
            refine lv_aload_n hx hb dX4_findCosts_41 rfl (lv_at hl 0 rfl) ?_
            refine va_get (D := D) (ci := 4) (v := .int (nI n)) (C := RX4) (T := TX4) (N := 6) hx hb hts kX4_findCosts_0 hown hK hP 0 rfl rfl 4 (by decide) (hts (.fieldLink RX4 24 "SightRidge$Routes" "stations" "I") kX4_findCosts_1) (fun _ h9 => h9) rfl dX4_findCosts_42 ?_
            refine lv_icmp_ge (tgt := 128) hx hb dX4_findCosts_45 (by decide) (fun c_45 => ?_) (fun c_45 => ?_)
            · skip
              have c2 : n ≤ zr := ge_t (by omega) c_45
              exact W.vret hx hb hr (fun tS htS hWS => ⟨⟨u2, rfl, FO_end hw1 hw2 hn hF c2, retP htS hP⟩, hS.F htS⟩) hS.2.2 dX4_findCosts_128
            · skip
              have c2 : zr < n := ge_f (by omega) c_45
              refine lv_iconst (v := 0) hx hb dX4_findCosts_48 (by decide) ?_
              refine lv_istore_n (lv' := [(3, .int 0), (0, .ref q), (1, .int (nI to)), (2, .int (nI zr))]) hx hb dX4_findCosts_49 rfl hl (by decide) rfl (fun ls hl => ?_)
              have L_50 : ∀ (k_50 : Nat) (zs : Nat) (u3 : Nat → Int32), n - zs < k_50 → (zs ≤ n) → (FI (EX Lk Xr to) wt n to zr zs 0 u3) → ∀ (H : Heap) (locs : List Loc), va_P D vwCl [(q, .inr (4, [.ref qt, .ref ql, .ref qp, .ref qc, .int (nI n), .int rr])), (qt, .inl (cI, 20, .inl ft)), (ql, .inl (cI, 20, .inl fl)), (qp, .inl (cI, 20, .inl fp)), (qc, .inl (cI, 20, .inl u3))] H → va_D (inW [(q, .inr (4, [.ref qt, .ref ql, .ref qp, .ref qc, .int (nI n), .int rr])), (qt, .inl (cI, 20, .inl ft)), (ql, .inl (cI, 20, .inl fl)), (qp, .inl (cI, 20, .inl fp)), (qc, .inl (cI, 20, .inl fco))]) [(q, .inr (4, [.ref qt, .ref ql, .ref qp, .ref qc, .int (nI n), .int rr])), (qt, .inl (cI, 20, .inl ft)), (ql, .inl (cI, 20, .inl fl)), (qp, .inl (cI, 20, .inl fp)), (qc, .inl (cI, 20, .inl u3))] → va_S (inW [(q, .inr (4, [.ref qt, .ref ql, .ref qp, .ref qc, .int (nI n), .int rr])), (qt, .inl (cI, 20, .inl ft)), (ql, .inl (cI, 20, .inl fl)), (qp, .inl (cI, 20, .inl fp)), (qc, .inl (cI, 20, .inl fco))]) s.heap H locs → ∀ (ls : Array Slot), lv_has ls 5 [(0, .ref q), (1, .int (nI to)), (2, .int (nI zr)), (3, .int (nI zs))] → W p l e (rmD 3) s m ([.ref q, .int (nI to)] : List Value).toArray below meth c H locs 0 0 (MQ below (wrQv D [(q, .inr (4, [.ref qt, .ref ql, .ref qp, .ref qc, .int (nI n), .int rr])), (qt, .inl (cI, 20, .inl ft)), (ql, .inl (cI, 20, .inl fl)), (qp, .inl (cI, 20, .inl fp)), (qc, .inl (cI, 20, .inl fco))] (fun (u : Nat → Int32) => ∀ k, k < n → u k = nI (cst (EX Lk Xr to) wt n to k)) (fun (u : Nat → Int32) => [(q, .inr (4, [.ref qt, .ref ql, .ref qp, .ref qc, .int (nI n), .int rr])), (qt, .inl (cI, 20, .inl ft)), (ql, .inl (cI, 20, .inl fl)), (qp, .inl (cI, 20, .inl fp)), (qc, .inl (cI, 20, .inl u))])) ([.ref q, .int (nI to)] : List Value).toArray s 0 0 (inW [(q, .inr (4, [.ref qt, .ref ql, .ref qp, .ref qc, .int (nI n), .int rr])), (qt, .inl (cI, 20, .inl ft)), (ql, .inl (cI, 20, .inl fl)), (qp, .inl (cI, 20, .inl fp)), (qc, .inl (cI, 20, .inl fco))])) (F0 m 50 ls []) := by
                intro k_50
                induction k_50 with
                | zero => intro zs u3 h9; exact absurd h9 (Nat.not_lt_zero _)
                | succ k_50 ih_50 =>
                  intro zs u3 hm_50 hzs hF1 H locs hP hD hS ls hl
                  refine lv_iload_n hx hb dX4_findCosts_50 rfl (lv_at hl 3 rfl) ?_
                  refine lv_aload_n hx hb dX4_findCosts_51 rfl (lv_at hl 0 rfl) ?_
                  refine va_get (D := D) (ci := 4) (v := .int (nI n)) (C := RX4) (T := TX4) (N := 6) hx hb hts kX4_findCosts_0 hown hK hP 0 rfl rfl 4 (by decide) (hts (.fieldLink RX4 24 "SightRidge$Routes" "stations" "I") kX4_findCosts_1) (fun _ h9 => h9) rfl dX4_findCosts_52 ?_
                  refine lv_icmp_ge (tgt := 122) hx hb dX4_findCosts_55 (by decide) (fun c_55 => ?_) (fun c_55 => ?_)
                  · skip
                    have c3 : n ≤ zs := ge_t (by omega) c_55
                    refine lv_iinc (v := nI (zr + 1)) (lv' := [(2, .int (nI (zr + 1))), (0, .ref q), (1, .int (nI to)), (3, .int (nI zs))]) hx hb dX4_findCosts_122 hl (k := 2) rfl (inc1 _) (by decide) rfl (fun ls hl => ?_)
                    refine lv_goto (tgt := 40) hx hb dX4_findCosts_125 (by decide) ?_
                    exact ih_40 (zr + 1) u3 (by omega) (by omega) (FI_end hF1 c3) _ _ hP hD hS ls (lv_sub hl [1, 2, 0] rfl)
                  · skip
                    have c3 : zs < n := ge_f (by omega) c_55
                    refine lv_iconst (v := 0) hx hb dX4_findCosts_58 (by decide) ?_
                    refine lv_istore (lv' := [(4, .int 0), (0, .ref q), (1, .int (nI to)), (2, .int (nI zr)), (3, .int (nI zs))]) hx hb dX4_findCosts_59 hl (by decide) rfl (fun ls hl => ?_)
                    have L_61 : ∀ (k_61 : Nat) (zt : Nat) (u4 : Nat → Int32), n - zt < k_61 → (zt ≤ n) → (FI (EX Lk Xr to) wt n to zr zs zt u4) → ∀ (H : Heap) (locs : List Loc), va_P D vwCl [(q, .inr (4, [.ref qt, .ref ql, .ref qp, .ref qc, .int (nI n), .int rr])), (qt, .inl (cI, 20, .inl ft)), (ql, .inl (cI, 20, .inl fl)), (qp, .inl (cI, 20, .inl fp)), (qc, .inl (cI, 20, .inl u4))] H → va_D (inW [(q, .inr (4, [.ref qt, .ref ql, .ref qp, .ref qc, .int (nI n), .int rr])), (qt, .inl (cI, 20, .inl ft)), (ql, .inl (cI, 20, .inl fl)), (qp, .inl (cI, 20, .inl fp)), (qc, .inl (cI, 20, .inl fco))]) [(q, .inr (4, [.ref qt, .ref ql, .ref qp, .ref qc, .int (nI n), .int rr])), (qt, .inl (cI, 20, .inl ft)), (ql, .inl (cI, 20, .inl fl)), (qp, .inl (cI, 20, .inl fp)), (qc, .inl (cI, 20, .inl u4))] → va_S (inW [(q, .inr (4, [.ref qt, .ref ql, .ref qp, .ref qc, .int (nI n), .int rr])), (qt, .inl (cI, 20, .inl ft)), (ql, .inl (cI, 20, .inl fl)), (qp, .inl (cI, 20, .inl fp)), (qc, .inl (cI, 20, .inl fco))]) s.heap H locs → ∀ (ls : Array Slot), lv_has ls 5 [(0, .ref q), (1, .int (nI to)), (2, .int (nI zr)), (3, .int (nI zs)), (4, .int (nI zt))] → W p l e (rmD 3) s m ([.ref q, .int (nI to)] : List Value).toArray below meth c H locs 0 0 (MQ below (wrQv D [(q, .inr (4, [.ref qt, .ref ql, .ref qp, .ref qc, .int (nI n), .int rr])), (qt, .inl (cI, 20, .inl ft)), (ql, .inl (cI, 20, .inl fl)), (qp, .inl (cI, 20, .inl fp)), (qc, .inl (cI, 20, .inl fco))] (fun (u : Nat → Int32) => ∀ k, k < n → u k = nI (cst (EX Lk Xr to) wt n to k)) (fun (u : Nat → Int32) => [(q, .inr (4, [.ref qt, .ref ql, .ref qp, .ref qc, .int (nI n), .int rr])), (qt, .inl (cI, 20, .inl ft)), (ql, .inl (cI, 20, .inl fl)), (qp, .inl (cI, 20, .inl fp)), (qc, .inl (cI, 20, .inl u))])) ([.ref q, .int (nI to)] : List Value).toArray s 0 0 (inW [(q, .inr (4, [.ref qt, .ref ql, .ref qp, .ref qc, .int (nI n), .int rr])), (qt, .inl (cI, 20, .inl ft)), (ql, .inl (cI, 20, .inl fl)), (qp, .inl (cI, 20, .inl fp)), (qc, .inl (cI, 20, .inl fco))])) (F0 m 61 ls []) := by
                      intro k_61
                      induction k_61 with
                      | zero => intro zt u4 h9; exact absurd h9 (Nat.not_lt_zero _)
                      | succ k_61 ih_61 =>
                        intro zt u4 hm_61 hzt hF2 H locs hP hD hS ls hl
                        refine lv_iload hx hb dX4_findCosts_61 (lv_at hl 4 rfl) ?_
                        refine lv_aload_n hx hb dX4_findCosts_63 rfl (lv_at hl 0 rfl) ?_
                        refine va_get (D := D) (ci := 4) (v := .int (nI n)) (C := RX4) (T := TX4) (N := 6) hx hb hts kX4_findCosts_0 hown hK hP 0 rfl rfl 4 (by decide) (hts (.fieldLink RX4 24 "SightRidge$Routes" "stations" "I") kX4_findCosts_1) (fun _ h9 => h9) rfl dX4_findCosts_64 ?_
                        refine lv_icmp_ge (tgt := 116) hx hb dX4_findCosts_67 (by decide) (fun c_67 => ?_) (fun c_67 => ?_)
                        · skip
                          have c4 : n ≤ zt := ge_t (by omega) c_67
                          refine lv_iinc (v := nI (zs + 1)) (lv' := [(3, .int (nI (zs + 1))), (0, .ref q), (1, .int (nI to)), (2, .int (nI zr)), (4, .int (nI zt))]) hx hb dX4_findCosts_116 hl (k := 3) rfl (inc1 _) (by decide) rfl (fun ls hl => ?_)
                          refine lv_goto (tgt := 50) hx hb dX4_findCosts_119 (by decide) ?_
                          exact ih_50 (zs + 1) u4 (by omega) (by omega) (FI_s hF2 c4) _ _ hP hD hS ls (lv_sub hl [1, 2, 3, 0] rfl)
                        · skip
                          have c4 : zt < n := ge_f (by omega) c_67
                          refine lv_aload_n hx hb dX4_findCosts_70 rfl (lv_at hl 0 rfl) ?_
                          refine lv_iload_n hx hb dX4_findCosts_71 rfl (lv_at hl 3 rfl) ?_
                          refine lv_iload hx hb dX4_findCosts_72 (lv_at hl 4 rfl) ?_
                          refine lv_iload_n hx hb dX4_findCosts_74 rfl (lv_at hl 1 rfl) ?_
                          refine rd_calli hP hS (va_runV (As := [.int (nI zs), .int (nI zt), .int (nI to)]) (rest := []) ⟨hx, hb, hml, hown, hts⟩ (c_X4_mayFollow l D cI cB cO q qt ql qp qc n rr ft fl fp u4 Lk Xr zs zt to hn hlk hxr c3 c4 hto) (cwV 3 hts gX4_findCosts_X4_mayFollow rfl rfl rfl (by decide +kernel) ⟨Nat.le_of_ble_eq_true rfl, Nat.le_of_ble_eq_true rfl⟩) (rd_preV (r := (RX4, TX4, 6)) (ci := 4) hK (hP.pick [0, 2] rfl) hN (q0 := 0) rfl rfl) rfl rfl hl.1 rfl (lv_room (Nat.le_of_ble_eq_true rfl)) dX4_findCosts_75 ⟨Nat.le_refl _, Nat.le_refl _⟩) (fun r_75 H locs h_75 hP hS => ?_)
                          refine lv_if_eq (tgt := 110) hx hb dX4_findCosts_78 (by decide) (fun c_78 => ?_) (fun c_78 => ?_)
                          · skip
                            have c5 := bI_e0 (h_75.symm.trans c_78)
                            refine lv_iinc (v := nI (zt + 1)) (lv' := [(4, .int (nI (zt + 1))), (0, .ref q), (1, .int (nI to)), (2, .int (nI zr)), (3, .int (nI zs))]) hx hb dX4_findCosts_110 hl (k := 4) rfl (inc1 _) (by decide) rfl (fun ls hl => ?_)
                            refine lv_goto (tgt := 61) hx hb dX4_findCosts_113 (by decide) ?_
                            exact ih_61 (zt + 1) u4 (by omega) (by omega) (by first | exact hF9 | exact FI_no hF2 c5 | fail) _ _ hP hD hS ls (lv_sub hl [1, 2, 3, 4, 0] rfl)
                          · skip
                            have c5 := bI_n0 (fun q => c_78 (h_75.trans q))
                            obtain ⟨x1, y1, hx1, hy1, hx2, hy2, hF9⟩ := FI_yes hF2 c3 c4 (hw2 zs c3) c5
                            have hin : INF = 1000000 := rfl
                            have hws := hw2 zs c3
                            refine lv_aload_n hx hb dX4_findCosts_81 rfl (lv_at hl 0 rfl) ?_
                            refine va_get (D := D) (ci := 4) (v := .ref qc) (C := RX4) (T := TX4) (N := 6) hx hb hts kX4_findCosts_0 hown hK hP 0 rfl rfl 3 (by decide) (hts (.fieldLink RX4 21 "SightRidge$Routes" "costs" "[I") kX4_findCosts_2) (fun _ h9 => h9) rfl dX4_findCosts_82 ?_
                            refine lv_iload_n hx hb dX4_findCosts_85 rfl (lv_at hl 3 rfl) ?_
                            refine lv_aload_n hx hb dX4_findCosts_86 rfl (lv_at hl 0 rfl) ?_
                            refine va_get (D := D) (ci := 4) (v := .ref qc) (C := RX4) (T := TX4) (N := 6) hx hb hts kX4_findCosts_0 hown hK hP 0 rfl rfl 3 (by decide) (hts (.fieldLink RX4 21 "SightRidge$Routes" "costs" "[I") kX4_findCosts_2) (fun _ h9 => h9) rfl dX4_findCosts_87 ?_
                            refine lv_iload_n hx hb dX4_findCosts_90 rfl (lv_at hl 3 rfl) ?_
                            refine va_iald hx hb hK hP 4 0 rfl rfl (i := nI zs) (vp_in_nI (N := 20) (by omega) (by decide)) dX4_findCosts_91 ?_
                            rw [nI_clamp (n := zs) (by omega)]
                            refine lv_topi (fun y_1 e_2 => ?_)
                            have e_2 : nI x1 = y_1 := (e_2.trans (hx1)).symm
                            subst e_2
                            refine lv_aload_n hx hb dX4_findCosts_92 rfl (lv_at hl 0 rfl) ?_
                            refine va_get (D := D) (ci := 4) (v := .ref qp) (C := RX4) (T := TX4) (N := 6) hx hb hts kX4_findCosts_0 hown hK hP 0 rfl rfl 2 (by decide) (hts (.fieldLink RX4 18 "SightRidge$Routes" "prices" "[I") kX4_findCosts_3) (fun _ h9 => h9) rfl dX4_findCosts_93 ?_
                            refine lv_iload_n hx hb dX4_findCosts_96 rfl (lv_at hl 3 rfl) ?_
                            refine va_iald hx hb hK hP 3 0 rfl rfl (i := nI zs) (vp_in_nI (N := 20) (by omega) (by decide)) dX4_findCosts_97 ?_
                            rw [nI_clamp (n := zs) (by omega)]
                            refine lv_topi (fun y_3 e_4 => ?_)
                            have e_4 : nI (wt zs) = y_3 := (e_4.trans (hfp zs c3)).symm
                            subst e_4
                            refine lv_aload_n hx hb dX4_findCosts_98 rfl (lv_at hl 0 rfl) ?_
                            refine va_get (D := D) (ci := 4) (v := .ref qc) (C := RX4) (T := TX4) (N := 6) hx hb hts kX4_findCosts_0 hown hK hP 0 rfl rfl 3 (by decide) (hts (.fieldLink RX4 21 "SightRidge$Routes" "costs" "[I") kX4_findCosts_2) (fun _ h9 => h9) rfl dX4_findCosts_99 ?_
                            refine lv_iload hx hb dX4_findCosts_102 (lv_at hl 4 rfl) ?_
                            refine va_iald hx hb hK hP 4 0 rfl rfl (i := nI zt) (vp_in_nI (N := 20) (by omega) (by decide)) dX4_findCosts_104 ?_
                            rw [nI_clamp (n := zt) (by omega)]
                            refine lv_topi (fun y_5 e_6 => ?_)
                            have e_6 : nI y1 = y_5 := (e_6.trans (hy1)).symm
                            subst e_6
                            refine lv_iadd hx hb dX4_findCosts_105 ?_
                            refine lv_topi (fun y_7 e_8 => ?_)
                            have e_8 : nI ((wt zs) + y1) = y_7 := (e_8.trans (nI_add (wt zs) y1)).symm
                            subst e_8
                            refine va_mmin hx hb (hml.trans hl.1.symm) hown (hts (.methodLink RX4 78 Lib.Math.min.name) kX4_findCosts_4) (hts (.static Lib.Math.min.name) kX4_findCosts_5) (hts (.initialized "java/lang/Math") kX4_findCosts_6) (hts (.code Lib.Math.min.name Lib.Math.min.code 2 (some .int)) kX4_findCosts_7) (Nat.le_of_ble_eq_true rfl) (Nat.le_of_ble_eq_true rfl) (Nat.le_refl _) (Nat.le_refl _) dX4_findCosts_106 ?_
                            refine lv_topi (fun y_9 e_10 => ?_)
                            have e_10 : nI (min x1 (wt zs + y1)) = y_9 := (e_10.trans (minI (by omega) (by omega))).symm
                            subst e_10
                            refine va_iast hx hb hK hP hD hS 4 0 rfl rfl (i := nI zs) (vp_in_nI (N := 20) (by omega) (by decide)) dX4_findCosts_109 (fun H locs hP hD hS => ?_)
                            rw [nI_clamp (n := zs) (by omega)] at hP hD
                            have hP : va_P D vwCl [(q, .inr (4, [.ref qt, .ref ql, .ref qp, .ref qc, .int (nI n), .int rr])), (qt, .inl (cI, 20, .inl ft)), (ql, .inl (cI, 20, .inl fl)), (qp, .inl (cI, 20, .inl fp)), (qc, .inl (cI, 20, .inl (upd u4 zs (nI (min x1 (wt zs + y1))))))] _ := hP
                            have hD : va_D (inW [(q, .inr (4, [.ref qt, .ref ql, .ref qp, .ref qc, .int (nI n), .int rr])), (qt, .inl (cI, 20, .inl ft)), (ql, .inl (cI, 20, .inl fl)), (qp, .inl (cI, 20, .inl fp)), (qc, .inl (cI, 20, .inl fco))]) [(q, .inr (4, [.ref qt, .ref ql, .ref qp, .ref qc, .int (nI n), .int rr])), (qt, .inl (cI, 20, .inl ft)), (ql, .inl (cI, 20, .inl fl)), (qp, .inl (cI, 20, .inl fp)), (qc, .inl (cI, 20, .inl (upd u4 zs (nI (min x1 (wt zs + y1))))))] := hD
                            refine lv_iinc (v := nI (zt + 1)) (lv' := [(4, .int (nI (zt + 1))), (0, .ref q), (1, .int (nI to)), (2, .int (nI zr)), (3, .int (nI zs))]) hx hb dX4_findCosts_110 hl (k := 4) rfl (inc1 _) (by decide) rfl (fun ls hl => ?_)
                            refine lv_goto (tgt := 61) hx hb dX4_findCosts_113 (by decide) ?_
                            exact ih_61 (zt + 1) (upd u4 zs (nI (min x1 (wt zs + y1)))) (by omega) (by omega) (by first | exact hF9 | exact FI_no hF2 c5 | fail) _ _ hP hD hS ls (lv_sub hl [1, 2, 3, 4, 0] rfl)
                    exact L_61 _ 0 u3 (Nat.lt_succ_self _) (by omega) (hF1) _ _ hP hD hS ls (lv_sub hl [1, 2, 3, 4, 0] rfl)
              exact L_50 _ 0 u2 (Nat.lt_succ_self _) (by omega) (FI_0 hF) _ _ hP hD hS ls (lv_sub hl [1, 2, 3, 0] rfl)
        exact L_40 _ 0 u (Nat.lt_succ_self _) (by omega) (hF0) _ _ hP hD hS ls (lv_sub hl [1, 2, 0] rfl)
      · skip
        have c0 : i < n := ge_f (by omega) c_7
        refine lv_aload_n hx hb dX4_findCosts_10 rfl (lv_at hl 0 rfl) ?_
        refine va_get (D := D) (ci := 4) (v := .ref qc) (C := RX4) (T := TX4) (N := 6) hx hb hts kX4_findCosts_0 hown hK hP 0 rfl rfl 3 (by decide) (hts (.fieldLink RX4 21 "SightRidge$Routes" "costs" "[I") kX4_findCosts_2) (fun _ h9 => h9) rfl dX4_findCosts_11 ?_
        refine lv_iload_n hx hb dX4_findCosts_14 rfl (lv_at hl 2 rfl) ?_
        refine lv_iload_n hx hb dX4_findCosts_15 rfl (lv_at hl 2 rfl) ?_
        refine lv_iload_n hx hb dX4_findCosts_16 rfl (lv_at hl 1 rfl) ?_
        refine lv_icmp_ne (tgt := 29) hx hb dX4_findCosts_17 (by decide) (fun c_17 => ?_) (fun c_17 => ?_)
        · skip
          have c1 : ¬ i = to := fun z => c_17 (by rw [z])
          refine lv_ldc (v := 1000000) hx hb hown (hts (.constant RX4 61 (1000000)) kX4_findCosts_8) dX4_findCosts_29 ?_
          refine va_iast hx hb hK hP hD hS 4 0 rfl rfl (i := nI i) (vp_in_nI (N := 20) (by omega) (by decide)) dX4_findCosts_31 (fun H locs hP hD hS => ?_)
          rw [nI_clamp (n := i) (by omega)] at hP hD
          have hP : va_P D vwCl [(q, .inr (4, [.ref qt, .ref ql, .ref qp, .ref qc, .int (nI n), .int rr])), (qt, .inl (cI, 20, .inl ft)), (ql, .inl (cI, 20, .inl fl)), (qp, .inl (cI, 20, .inl fp)), (qc, .inl (cI, 20, .inl (upd u i 1000000)))] _ := hP
          have hD : va_D (inW [(q, .inr (4, [.ref qt, .ref ql, .ref qp, .ref qc, .int (nI n), .int rr])), (qt, .inl (cI, 20, .inl ft)), (ql, .inl (cI, 20, .inl fl)), (qp, .inl (cI, 20, .inl fp)), (qc, .inl (cI, 20, .inl fco))]) [(q, .inr (4, [.ref qt, .ref ql, .ref qp, .ref qc, .int (nI n), .int rr])), (qt, .inl (cI, 20, .inl ft)), (ql, .inl (cI, 20, .inl fl)), (qp, .inl (cI, 20, .inl fp)), (qc, .inl (cI, 20, .inl (upd u i 1000000)))] := hD
          refine lv_iinc (v := nI (i + 1)) (lv' := [(2, .int (nI (i + 1))), (0, .ref q), (1, .int (nI to))]) hx hb dX4_findCosts_32 hl (k := 2) rfl (inc1 _) (by decide) rfl (fun ls hl => ?_)
          refine lv_goto (tgt := 2) hx hb dX4_findCosts_35 (by decide) ?_
          exact ih_2 (i + 1) (upd u i 1000000) (by omega) (by omega) (by first | exact up_s hu (F := fun k => nI (if k = to then wt to else INF)) (by rw [if_pos c1, ← c1]) | exact up_s hu (F := fun k => nI (if k = to then wt to else INF)) (by rw [if_neg c1]; rfl) | fail) _ _ hP hD hS ls (lv_sub hl [1, 2, 0] rfl)
        · skip
          have c1 : i = to := (nI_eq (by omega) (by omega)).mp c_17
          refine lv_aload_n hx hb dX4_findCosts_20 rfl (lv_at hl 0 rfl) ?_
          refine va_get (D := D) (ci := 4) (v := .ref qp) (C := RX4) (T := TX4) (N := 6) hx hb hts kX4_findCosts_0 hown hK hP 0 rfl rfl 2 (by decide) (hts (.fieldLink RX4 18 "SightRidge$Routes" "prices" "[I") kX4_findCosts_3) (fun _ h9 => h9) rfl dX4_findCosts_21 ?_
          refine lv_iload_n hx hb dX4_findCosts_24 rfl (lv_at hl 2 rfl) ?_
          refine va_iald hx hb hK hP 3 0 rfl rfl (i := nI i) (vp_in_nI (N := 20) (by omega) (by decide)) dX4_findCosts_25 ?_
          rw [nI_clamp (n := i) (by omega)]
          refine lv_topi (fun y_11 e_12 => ?_)
          have e_12 : nI (wt i) = y_11 := (e_12.trans (hfp i c0)).symm
          subst e_12
          refine lv_goto (tgt := 31) hx hb dX4_findCosts_26 (by decide) ?_
          refine va_iast hx hb hK hP hD hS 4 0 rfl rfl (i := nI i) (vp_in_nI (N := 20) (by omega) (by decide)) dX4_findCosts_31 (fun H locs hP hD hS => ?_)
          rw [nI_clamp (n := i) (by omega)] at hP hD
          have hP : va_P D vwCl [(q, .inr (4, [.ref qt, .ref ql, .ref qp, .ref qc, .int (nI n), .int rr])), (qt, .inl (cI, 20, .inl ft)), (ql, .inl (cI, 20, .inl fl)), (qp, .inl (cI, 20, .inl fp)), (qc, .inl (cI, 20, .inl (upd u i (nI (wt i)))))] _ := hP
          have hD : va_D (inW [(q, .inr (4, [.ref qt, .ref ql, .ref qp, .ref qc, .int (nI n), .int rr])), (qt, .inl (cI, 20, .inl ft)), (ql, .inl (cI, 20, .inl fl)), (qp, .inl (cI, 20, .inl fp)), (qc, .inl (cI, 20, .inl fco))]) [(q, .inr (4, [.ref qt, .ref ql, .ref qp, .ref qc, .int (nI n), .int rr])), (qt, .inl (cI, 20, .inl ft)), (ql, .inl (cI, 20, .inl fl)), (qp, .inl (cI, 20, .inl fp)), (qc, .inl (cI, 20, .inl (upd u i (nI (wt i)))))] := hD
          refine lv_iinc (v := nI (i + 1)) (lv' := [(2, .int (nI (i + 1))), (0, .ref q), (1, .int (nI to))]) hx hb dX4_findCosts_32 hl (k := 2) rfl (inc1 _) (by decide) rfl (fun ls hl => ?_)
          refine lv_goto (tgt := 2) hx hb dX4_findCosts_35 (by decide) ?_
          exact ih_2 (i + 1) (upd u i (nI (wt i))) (by omega) (by omega) (by first | exact up_s hu (F := fun k => nI (if k = to then wt to else INF)) (by rw [if_pos c1, ← c1]) | exact up_s hu (F := fun k => nI (if k = to then wt to else INF)) (by rw [if_neg c1]; rfl) | fail) _ _ hP hD hS ls (lv_sub hl [1, 2, 0] rfl)
  exact L_2 _ 0 fco (Nat.lt_succ_self _) (by omega) (up_0) _ _ hP hD hS ls (lv_sub hl [1, 2, 0] rfl)
theorem kX4_nextAfter_0 : ∀ w ∈ wsX40, w ∈ wsX4_nextAfter := by decide +kernel
theorem kX4_nextAfter_1 : (.fieldLink RX4 24 "SightRidge$Routes" "stations" "I" : Cond) ∈ wsX4_nextAfter := by decide +kernel
theorem kX4_nextAfter_2 : (.fieldLink RX4 21 "SightRidge$Routes" "costs" "[I" : Cond) ∈ wsX4_nextAfter := by decide +kernel
theorem kX4_nextAfter_3 : (.fieldLink RX4 18 "SightRidge$Routes" "prices" "[I" : Cond) ∈ wsX4_nextAfter := by decide +kernel
set_option maxHeartbeats 4000000 in
set_option maxRecDepth 100000 in
/-- nextAfter(s, to) -/
theorem c_X4_nextAfter (l : Launch) (D : va_G) (cI cB cO : ClassId) (q qt ql qp qc : Nat) (n : Nat) (rr : Int32) (ft fl fp fco : Nat → Int32) (Lk : Nat → Nat → Bool) (Xr : Nat → Bool) (wt : Nat → Nat) (to s0 : Nat) (hn : n ≤ 20) (hlk : ∀ k, k < n → fl k = nI (bs (Lk k) n)) (hxr : rr = nI (bs Xr n)) (hw1 : ∀ k, k < n → 0 < wt k) (hw2 : ∀ k, k < n → wt k ≤ 33) (hfp : ∀ k, k < n → fp k = nI (wt k)) (hto : to < n) (hco : ∀ k, k < n → fco k = nI (cst (EX Lk Xr to) wt n to k)) (hs0 : dst (EX Lk Xr to) wt n to s0 ≠ 0) (hst : s0 ≠ to) : Met l yX4_nextAfter wsX4_nextAfter (rmD 3) (rdPc D (tyL cI cB cO) [.ref q, .int (nI s0), .int (nI to)] [(q, .inr (4, [.ref qt, .ref ql, .ref qp, .ref qc, .int (nI n), .int rr])), (ql, .inl (cI, 20, .inl fl)), (qp, .inl (cI, 20, .inl fp)), (qc, .inl (cI, 20, .inl fco))]) (rdQi (fun r => r = nI (nxt (EX Lk Xr to) wt (dst (EX Lk Xr to) wt n to) n s0))) 0 0 noA := by
  refine Met.ofW (cc := cX4_nextAfter) (maxL := 4) (ret := (some .int)) (by decide) rfl ?_
  intro p e s m args below meth c s₁ B hml hv
  obtain ⟨rfl, hP, hK, hN⟩ := hv
  have hx := B.exec
  have hb := B.bytes
  have hr := B.returns
  have hts := atoms_spec (ws := wsX4_nextAfter) B.pre
  have hown : s.vm.findClass RX4 = some m.cls := findClass_of_methodNamed B.named
  have hlocks := B.notSynchronized
  have hS : va_S noA s.heap s.heap [] := va_S.rf
  have hl := lv_entry ([.ref q, .int (nI s0), .int (nI to)]) (n := 4) (Nat.le_of_ble_eq_true rfl)
  rw [lg_entry_eq]
  generalize (lg_sl ([.ref q, .int (nI s0), .int (nI to)]) ++ List.replicate (4 - (lg_sl ([.ref q, .int (nI s0), .int (nI to)])).length) Slot.unset).toArray = ls at hl ⊢
  have hl : lv_has ls 4 [(0, .ref q), (1, .int (nI s0)), (2, .int (nI to))] := hl
  have hs1 := dst_lt hs0
  obtain ⟨hnx1, hnx2⟩ := nxt_ok hw1 hs0 hst
  have hin : INF = 1000000 := rfl
  refine lv_iconst (v := 0) hx hb dX4_nextAfter_0 (by decide) ?_
  refine lv_istore_n (lv' := [(3, .int 0), (0, .ref q), (1, .int (nI s0)), (2, .int (nI to))]) hx hb dX4_nextAfter_1 rfl hl (by decide) rfl (fun ls hl => ?_)
  have L_2 : ∀ (k_2 : Nat) (i : Nat), n - i < k_2 → (i ≤ n) → (∀ j, j < i → (tgt (EX Lk Xr to) wt (dst (EX Lk Xr to) wt n to) s0) j = false) → ∀ (H : Heap) (locs : List Loc), va_P D vwCl [(q, .inr (4, [.ref qt, .ref ql, .ref qp, .ref qc, .int (nI n), .int rr])), (ql, .inl (cI, 20, .inl fl)), (qp, .inl (cI, 20, .inl fp)), (qc, .inl (cI, 20, .inl fco))] H → va_S noA s.heap H locs → ∀ (ls : Array Slot), lv_has ls 4 [(0, .ref q), (1, .int (nI s0)), (2, .int (nI to)), (3, .int (nI i))] → W p l e (rmD 3) s m ([.ref q, .int (nI s0), .int (nI to)] : List Value).toArray below meth c H locs 0 0 (MQ below (rdQi (fun r => r = nI (nxt (EX Lk Xr to) wt (dst (EX Lk Xr to) wt n to) n s0))) ([.ref q, .int (nI s0), .int (nI to)] : List Value).toArray s 0 0 noA) (F0 m 2 ls []) := by
    intro k_2
    induction k_2 with
    | zero => intro i h9; exact absurd h9 (Nat.not_lt_zero _)
    | succ k_2 ih_2 =>
      intro i hm_2 hi hf H locs hP hS ls hl
      refine lv_iload_n hx hb dX4_nextAfter_2 rfl (lv_at hl 3 rfl) ?_
      refine lv_aload_n hx hb dX4_nextAfter_3 rfl (lv_at hl 0 rfl) ?_
      refine va_get (D := D) (ci := 4) (v := .int (nI n)) (C := RX4) (T := TX4) (N := 6) hx hb hts kX4_nextAfter_0 hown hK hP 0 rfl rfl 4 (by decide) (hts (.fieldLink RX4 24 "SightRidge$Routes" "stations" "I") kX4_nextAfter_1) (fun _ h9 => h9) rfl dX4_nextAfter_4 ?_
      refine lv_icmp_ge (tgt := 50) hx hb dX4_nextAfter_7 (by decide) (fun c_7 => ?_) (fun c_7 => ?_)
      · skip
        have c0 : n ≤ i := ge_t (by omega) c_7
        have c9 := hf _ (by omega : nxt (EX Lk Xr to) wt (dst (EX Lk Xr to) wt n to) n s0 < i)
        rw [hnx2] at c9; cases c9
      · skip
        have c0 : i < n := ge_f (by omega) c_7
        refine lv_aload_n hx hb dX4_nextAfter_10 rfl (lv_at hl 0 rfl) ?_
        refine lv_iload_n hx hb dX4_nextAfter_11 rfl (lv_at hl 1 rfl) ?_
        refine lv_iload_n hx hb dX4_nextAfter_12 rfl (lv_at hl 3 rfl) ?_
        refine lv_iload_n hx hb dX4_nextAfter_13 rfl (lv_at hl 2 rfl) ?_
        refine rd_calli hP hS (va_runV (As := [.int (nI s0), .int (nI i), .int (nI to)]) (rest := []) ⟨hx, hb, hml, hown, hts⟩ (c_X4_mayFollow l D cI cB cO q qt ql qp qc n rr ft fl fp fco Lk Xr s0 i to hn hlk hxr hs1 c0 hto) (cwV 3 hts gX4_nextAfter_X4_mayFollow rfl rfl rfl (by decide +kernel) ⟨Nat.le_of_ble_eq_true rfl, Nat.le_of_ble_eq_true rfl⟩) (rd_preV (r := (RX4, TX4, 6)) (ci := 4) hK (hP.pick [0, 1] rfl) hN (q0 := 0) rfl rfl) rfl rfl hl.1 rfl (lv_room (Nat.le_of_ble_eq_true rfl)) dX4_nextAfter_14 ⟨Nat.le_refl _, Nat.le_refl _⟩) (fun r_14 H locs h_14 hP hS => ?_)
        refine lv_if_eq (tgt := 44) hx hb dX4_nextAfter_17 (by decide) (fun c_17 => ?_) (fun c_17 => ?_)
        · skip
          have c1 := bI_e0 (h_14.symm.trans c_17)
          have c2 : (tgt (EX Lk Xr to) wt (dst (EX Lk Xr to) wt n to) s0) i = false := by unfold tgt; rw [c1]; rfl
          refine lv_iinc (v := nI (i + 1)) (lv' := [(3, .int (nI (i + 1))), (0, .ref q), (1, .int (nI s0)), (2, .int (nI to))]) hx hb dX4_nextAfter_44 hl (k := 3) rfl (inc1 _) (by decide) rfl (fun ls hl => ?_)
          refine lv_goto (tgt := 2) hx hb dX4_nextAfter_47 (by decide) ?_
          exact ih_2 (i + 1) (by omega) (by omega) (lt_s hf c2) _ _ hP hS ls (lv_sub hl [1, 2, 3, 0] rfl)
        · skip
          have c1 := bI_n0 (fun q => c_17 (h_14.trans q))
          have hci := (cst_inf (E := EX Lk Xr to) (to := to) hw1 hw2 hn i).1
          have hcs := (cst_inf (E := EX Lk Xr to) (to := to) hw1 hw2 hn s0).1
          have hws := hw2 s0 hs1
          refine lv_aload_n hx hb dX4_nextAfter_20 rfl (lv_at hl 0 rfl) ?_
          refine va_get (D := D) (ci := 4) (v := .ref qc) (C := RX4) (T := TX4) (N := 6) hx hb hts kX4_nextAfter_0 hown hK hP 0 rfl rfl 3 (by decide) (hts (.fieldLink RX4 21 "SightRidge$Routes" "costs" "[I") kX4_nextAfter_2) (fun _ h9 => h9) rfl dX4_nextAfter_21 ?_
          refine lv_iload_n hx hb dX4_nextAfter_24 rfl (lv_at hl 1 rfl) ?_
          refine va_iald hx hb hK hP 3 0 rfl rfl (i := nI s0) (vp_in_nI (N := 20) (by omega) (by decide)) dX4_nextAfter_25 ?_
          rw [nI_clamp (n := s0) (by omega)]
          refine lv_topi (fun y_1 e_2 => ?_)
          have e_2 : nI (cst (EX Lk Xr to) wt n to s0) = y_1 := (e_2.trans (hco s0 hs1)).symm
          subst e_2
          refine lv_aload_n hx hb dX4_nextAfter_26 rfl (lv_at hl 0 rfl) ?_
          refine va_get (D := D) (ci := 4) (v := .ref qp) (C := RX4) (T := TX4) (N := 6) hx hb hts kX4_nextAfter_0 hown hK hP 0 rfl rfl 2 (by decide) (hts (.fieldLink RX4 18 "SightRidge$Routes" "prices" "[I") kX4_nextAfter_3) (fun _ h9 => h9) rfl dX4_nextAfter_27 ?_
          refine lv_iload_n hx hb dX4_nextAfter_30 rfl (lv_at hl 1 rfl) ?_
          refine va_iald hx hb hK hP 2 0 rfl rfl (i := nI s0) (vp_in_nI (N := 20) (by omega) (by decide)) dX4_nextAfter_31 ?_
          rw [nI_clamp (n := s0) (by omega)]
          refine lv_topi (fun y_3 e_4 => ?_)
          have e_4 : nI (wt s0) = y_3 := (e_4.trans (hfp s0 hs1)).symm
          subst e_4
          refine lv_aload_n hx hb dX4_nextAfter_32 rfl (lv_at hl 0 rfl) ?_
          refine va_get (D := D) (ci := 4) (v := .ref qc) (C := RX4) (T := TX4) (N := 6) hx hb hts kX4_nextAfter_0 hown hK hP 0 rfl rfl 3 (by decide) (hts (.fieldLink RX4 21 "SightRidge$Routes" "costs" "[I") kX4_nextAfter_2) (fun _ h9 => h9) rfl dX4_nextAfter_33 ?_
          refine lv_iload_n hx hb dX4_nextAfter_36 rfl (lv_at hl 3 rfl) ?_
          refine va_iald hx hb hK hP 3 0 rfl rfl (i := nI i) (vp_in_nI (N := 20) (by omega) (by decide)) dX4_nextAfter_37 ?_
          rw [nI_clamp (n := i) (by omega)]
          refine lv_topi (fun y_5 e_6 => ?_)
          have e_6 : nI (cst (EX Lk Xr to) wt n to i) = y_5 := (e_6.trans (hco i c0)).symm
          subst e_6
          refine lv_iadd hx hb dX4_nextAfter_38 ?_
          refine lv_topi (fun y_7 e_8 => ?_)
          have e_8 : nI ((wt s0) + (cst (EX Lk Xr to) wt n to i)) = y_7 := (e_8.trans (nI_add (wt s0) (cst (EX Lk Xr to) wt n to i))).symm
          subst e_8
          refine lv_icmp_ne (tgt := 44) hx hb dX4_nextAfter_39 (by decide) (fun c_39 => ?_) (fun c_39 => ?_)
          · skip
            have c2 : (tgt (EX Lk Xr to) wt (dst (EX Lk Xr to) wt n to) s0) i = false := Bool.eq_false_iff.mpr (fun z => c_39 (congrArg nI ((tgt_cst hw1 hw2 hn hs0 c1).mpr z)))
            refine lv_iinc (v := nI (i + 1)) (lv' := [(3, .int (nI (i + 1))), (0, .ref q), (1, .int (nI s0)), (2, .int (nI to))]) hx hb dX4_nextAfter_44 hl (k := 3) rfl (inc1 _) (by decide) rfl (fun ls hl => ?_)
            refine lv_goto (tgt := 2) hx hb dX4_nextAfter_47 (by decide) ?_
            exact ih_2 (i + 1) (by omega) (by omega) (lt_s hf c2) _ _ hP hS ls (lv_sub hl [1, 2, 3, 0] rfl)
          · skip
            have c2 : (tgt (EX Lk Xr to) wt (dst (EX Lk Xr to) wt n to) s0) i = true := (tgt_cst hw1 hw2 hn hs0 c1).mp ((nI_eq (by omega) (by omega)).mp c_39)
            refine lv_iload_n hx hb dX4_nextAfter_42 rfl (lv_at hl 3 rfl) ?_
            exact W.iret (v := nI i) hx hb hr (fun tS htS hWS => ⟨⟨nI i, (), rfl, (congrArg nI (fa_first_eq hf c2 c0)).symm, trivial⟩, hS.F htS⟩) hS.2.2 dX4_nextAfter_43
  exact L_2 _ 0 (Nat.lt_succ_self _) (by omega) (fun j hj => absurd hj (Nat.not_lt_zero j)) _ _ hP hS ls (lv_sub hl [1, 2, 3, 0] rfl)
theorem kX4_findChain_no_0 : ∀ w ∈ wsX40, w ∈ wsX4_findChain := by decide +kernel
theorem kX4_findChain_no_1 : (.fieldLink RX4 24 "SightRidge$Routes" "stations" "I" : Cond) ∈ wsX4_findChain := by decide +kernel
theorem kX4_findChain_no_2 : (.fieldLink RX4 21 "SightRidge$Routes" "costs" "[I" : Cond) ∈ wsX4_findChain := by decide +kernel
theorem kX4_findChain_no_3 : (.constant RX4 61 (1000000) : Cond) ∈ wsX4_findChain := by decide +kernel
set_option maxHeartbeats 4000000 in
set_option maxRecDepth 100000 in
/-- findChain: none -/
theorem c_X4_findChain_no (l : Launch) (D : va_G) (cI cB cO : ClassId) (fo fq : Nat) (sz : Int32) (ff : Nat → Int32) (q qt ql qp qc : Nat) (n : Nat) (rr : Int32) (ft fl fp fco : Nat → Int32) (Lk : Nat → Nat → Bool) (Xr : Nat → Bool) (wt : Nat → Nat) (to a : Nat) (hn : n ≤ 20) (hlk : ∀ k, k < n → fl k = nI (bs (Lk k) n)) (hxr : rr = nI (bs Xr n)) (hw1 : ∀ k, k < n → 0 < wt k) (hw2 : ∀ k, k < n → wt k ≤ 33) (hfp : ∀ k, k < n → fp k = nI (wt k)) (hto : to < n) (ha : a < n) (hno : (dst (EX Lk Xr to) wt n to a) = 0) : Met l yX4_findChain wsX4_findChain (rmD 4) (wrPc D (tyL cI cB cO) [.ref q, .int (nI a), .int (nI to), .ref fo] [(fo, .inr (1, [.ref fq, .int sz])), (fq, .inl (cI, 20, .inl ff)), (q, .inr (4, [.ref qt, .ref ql, .ref qp, .ref qc, .int (nI n), .int rr])), (qt, .inl (cI, 20, .inl ft)), (ql, .inl (cI, 20, .inl fl)), (qp, .inl (cI, 20, .inl fp)), (qc, .inl (cI, 20, .inl fco))]) (wrQi D [(fo, .inr (1, [.ref fq, .int sz])), (fq, .inl (cI, 20, .inl ff)), (q, .inr (4, [.ref qt, .ref ql, .ref qp, .ref qc, .int (nI n), .int rr])), (qt, .inl (cI, 20, .inl ft)), (ql, .inl (cI, 20, .inl fl)), (qp, .inl (cI, 20, .inl fp)), (qc, .inl (cI, 20, .inl fco))] (fun (r : Int32) (u : Nat → Int32) => r = 0) (fun (u : Nat → Int32) => [(fo, .inr (1, [.ref fq, .int sz])), (fq, .inl (cI, 20, .inl ff)), (q, .inr (4, [.ref qt, .ref ql, .ref qp, .ref qc, .int (nI n), .int rr])), (qt, .inl (cI, 20, .inl ft)), (ql, .inl (cI, 20, .inl fl)), (qp, .inl (cI, 20, .inl fp)), (qc, .inl (cI, 20, .inl u))])) 0 0 (inW [(fo, .inr (1, [.ref fq, .int sz])), (fq, .inl (cI, 20, .inl ff)), (q, .inr (4, [.ref qt, .ref ql, .ref qp, .ref qc, .int (nI n), .int rr])), (qt, .inl (cI, 20, .inl ft)), (ql, .inl (cI, 20, .inl fl)), (qp, .inl (cI, 20, .inl fp)), (qc, .inl (cI, 20, .inl fco))]) := by
  refine Met.ofW (cc := cX4_findChain) (maxL := 6) (ret := (some .boolean)) (by decide) rfl ?_
  intro p e s m args below meth c s₁ B hml hv
  obtain ⟨rfl, hP, hK, hN, hD⟩ := hv
  have hx := B.exec
  have hb := B.bytes
  have hr := B.returns
  have hts := atoms_spec (ws := wsX4_findChain) B.pre
  have hown : s.vm.findClass RX4 = some m.cls := findClass_of_methodNamed B.named
  have hlocks := B.notSynchronized
  have hS : va_S (inW [(fo, .inr (1, [.ref fq, .int sz])), (fq, .inl (cI, 20, .inl ff)), (q, .inr (4, [.ref qt, .ref ql, .ref qp, .ref qc, .int (nI n), .int rr])), (qt, .inl (cI, 20, .inl ft)), (ql, .inl (cI, 20, .inl fl)), (qp, .inl (cI, 20, .inl fp)), (qc, .inl (cI, 20, .inl fco))]) s.heap s.heap [] := va_S.rf
  have hD : va_D (inW [(fo, .inr (1, [.ref fq, .int sz])), (fq, .inl (cI, 20, .inl ff)), (q, .inr (4, [.ref qt, .ref ql, .ref qp, .ref qc, .int (nI n), .int rr])), (qt, .inl (cI, 20, .inl ft)), (ql, .inl (cI, 20, .inl fl)), (qp, .inl (cI, 20, .inl fp)), (qc, .inl (cI, 20, .inl fco))]) [(fo, .inr (1, [.ref fq, .int sz])), (fq, .inl (cI, 20, .inl ff)), (q, .inr (4, [.ref qt, .ref ql, .ref qp, .ref qc, .int (nI n), .int rr])), (qt, .inl (cI, 20, .inl ft)), (ql, .inl (cI, 20, .inl fl)), (qp, .inl (cI, 20, .inl fp)), (qc, .inl (cI, 20, .inl fco))] := inW_self hD
  have hl := lv_entry ([.ref q, .int (nI a), .int (nI to), .ref fo]) (n := 6) (Nat.le_of_ble_eq_true rfl)
  rw [lg_entry_eq]
  generalize (lg_sl ([.ref q, .int (nI a), .int (nI to), .ref fo]) ++ List.replicate (6 - (lg_sl ([.ref q, .int (nI a), .int (nI to), .ref fo])).length) Slot.unset).toArray = ls at hl ⊢
  have hl : lv_has ls 6 [(0, .ref q), (1, .int (nI a)), (2, .int (nI to)), (3, .ref fo)] := hl
  refine lv_iload_n hx hb dX4_findChain_0 rfl (lv_at hl 1 rfl) ?_
  refine lv_if_lt (tgt := 12) hx hb dX4_findChain_1 (by decide) (fun c_1 => ?_) (fun c_1 => ?_)
  · skip
    exact absurd c_1 (nI_pos (by omega))
  · skip
    refine lv_iload_n hx hb dX4_findChain_4 rfl (lv_at hl 1 rfl) ?_
    refine lv_aload_n hx hb dX4_findChain_5 rfl (lv_at hl 0 rfl) ?_
    refine va_get (D := D) (ci := 4) (v := .int (nI n)) (C := RX4) (T := TX4) (N := 6) hx hb hts kX4_findChain_no_0 hown hK hP 2 rfl rfl 4 (by decide) (hts (.fieldLink RX4 24 "SightRidge$Routes" "stations" "I") kX4_findChain_no_1) (fun _ h9 => h9) rfl dX4_findChain_6 ?_
    refine lv_icmp_lt (tgt := 14) hx hb dX4_findChain_9 (by decide) (fun c_9 => ?_) (fun c_9 => ?_)
    · skip
      refine lv_aload_n hx hb dX4_findChain_14 rfl (lv_at hl 0 rfl) ?_
      refine lv_iload_n hx hb dX4_findChain_15 rfl (lv_at hl 2 rfl) ?_
      refine wv_callv (wc := [(q, .inr (4, [.ref qt, .ref ql, .ref qp, .ref qc, .int (nI n), .int rr])), (qt, .inl (cI, 20, .inl ft)), (ql, .inl (cI, 20, .inl fl)), (qp, .inl (cI, 20, .inl fp)), (qc, .inl (cI, 20, .inl fco))]) hP hD hS [2, 3, 4, 5, 6] rfl rfl (va_runV (As := [.int (nI to)]) (rest := []) ⟨hx, hb, hml, hown, hts⟩ (c_X4_findCosts l D cI cB cO q qt ql qp qc n rr ft fl fp fco Lk Xr wt to hn hlk hxr hw1 hw2 hfp hto) (cwV 1 hts gX4_findChain_X4_findCosts rfl rfl rfl (by decide +kernel) ⟨Nat.le_of_ble_eq_true rfl, Nat.le_of_ble_eq_true rfl⟩) (wr_preV (wc := [(q, .inr (4, [.ref qt, .ref ql, .ref qp, .ref qc, .int (nI n), .int rr])), (qt, .inl (cI, 20, .inl ft)), (ql, .inl (cI, 20, .inl fl)), (qp, .inl (cI, 20, .inl fp)), (qc, .inl (cI, 20, .inl fco))]) (r := (RX4, TX4, 6)) (ci := 4) hK (hP.pick [2, 3, 4, 5, 6] rfl) hN (wr_dsub hD [2, 3, 4, 5, 6] rfl rfl) (q0 := 0) rfl rfl) rfl rfl hl.1 rfl (lv_room (Nat.le_of_ble_eq_true rfl)) dX4_findChain_16 ⟨Nat.le_refl _, Nat.le_refl _⟩) (fun u => [(fo, .inr (1, [.ref fq, .int sz])), (fq, .inl (cI, 20, .inl ff)), (q, .inr (4, [.ref qt, .ref ql, .ref qp, .ref qc, .int (nI n), .int rr])), (qt, .inl (cI, 20, .inl ft)), (ql, .inl (cI, 20, .inl fl)), (qp, .inl (cI, 20, .inl fp)), (qc, .inl (cI, 20, .inl u))]) (fun _ => rfl) (fun _ => rfl) (fun u H locs h_16 hP hD hS => ?_)
      have hP : va_P D vwCl [(fo, .inr (1, [.ref fq, .int sz])), (fq, .inl (cI, 20, .inl ff)), (q, .inr (4, [.ref qt, .ref ql, .ref qp, .ref qc, .int (nI n), .int rr])), (qt, .inl (cI, 20, .inl ft)), (ql, .inl (cI, 20, .inl fl)), (qp, .inl (cI, 20, .inl fp)), (qc, .inl (cI, 20, .inl u))] _ := hP
      have hD : va_D (inW [(fo, .inr (1, [.ref fq, .int sz])), (fq, .inl (cI, 20, .inl ff)), (q, .inr (4, [.ref qt, .ref ql, .ref qp, .ref qc, .int (nI n), .int rr])), (qt, .inl (cI, 20, .inl ft)), (ql, .inl (cI, 20, .inl fl)), (qp, .inl (cI, 20, .inl fp)), (qc, .inl (cI, 20, .inl fco))]) [(fo, .inr (1, [.ref fq, .int sz])), (fq, .inl (cI, 20, .inl ff)), (q, .inr (4, [.ref qt, .ref ql, .ref qp, .ref qc, .int (nI n), .int rr])), (qt, .inl (cI, 20, .inl ft)), (ql, .inl (cI, 20, .inl fl)), (qp, .inl (cI, 20, .inl fp)), (qc, .inl (cI, 20, .inl u))] := hD
      refine lv_aload_n hx hb dX4_findChain_19 rfl (lv_at hl 0 rfl) ?_
      refine va_get (D := D) (ci := 4) (v := .ref qc) (C := RX4) (T := TX4) (N := 6) hx hb hts kX4_findChain_no_0 hown hK hP 2 rfl rfl 3 (by decide) (hts (.fieldLink RX4 21 "SightRidge$Routes" "costs" "[I") kX4_findChain_no_2) (fun _ h9 => h9) rfl dX4_findChain_20 ?_
      refine lv_iload_n hx hb dX4_findChain_23 rfl (lv_at hl 1 rfl) ?_
      refine va_iald hx hb hK hP 6 0 rfl rfl (i := nI a) (vp_in_nI (N := 20) (by omega) (by decide)) dX4_findChain_24 ?_
      rw [nI_clamp (n := a) (by omega)]
      obtain ⟨hci, hcs⟩ := cst_inf (E := EX Lk Xr to) (to := to) hw1 hw2 hn a
      have hin : INF = 1000000 := rfl
      refine lv_topi (fun y_1 e_2 => ?_)
      have e_2 : nI (cst (EX Lk Xr to) wt n to a) = y_1 := (e_2.trans (h_16 a ha)).symm
      subst e_2
      refine lv_ldc (v := 1000000) hx hb hown (hts (.constant RX4 61 (1000000)) kX4_findChain_no_3) dX4_findChain_25 ?_
      refine lv_topi (fun y_3 e_4 => ?_)
      have e_4 : nI INF = y_3 := (e_4.trans (inf_eq.symm)).symm
      subst e_4
      refine lv_icmp_lt (tgt := 32) hx hb dX4_findChain_27 (by decide) (fun c_27 => ?_) (fun c_27 => ?_)
      · skip
        exact absurd ((nI_ltI (by omega) (by omega)).mp c_27) (by have := hcs.mpr hno; omega)
      · skip
        refine lv_iconst (v := 0) hx hb dX4_findChain_30 (by decide) ?_
        exact W.zret (v := 0) hx hb hr (rfl) (fun tS htS hWS => ⟨⟨0, u, rfl, rfl, retP htS hP⟩, hS.F htS⟩) hS.2.2 dX4_findChain_31
    · skip
      exact absurd ((nI_ltI (by omega) (by omega)).mpr ha) c_9
theorem kX4_findChain_ok_0 : ∀ w ∈ wsX40, w ∈ wsX4_findChain := by decide +kernel
theorem kX4_findChain_ok_1 : (.fieldLink RX4 24 "SightRidge$Routes" "stations" "I" : Cond) ∈ wsX4_findChain := by decide +kernel
theorem kX4_findChain_ok_2 : (.fieldLink RX4 21 "SightRidge$Routes" "costs" "[I" : Cond) ∈ wsX4_findChain := by decide +kernel
theorem kX4_findChain_ok_3 : (.constant RX4 61 (1000000) : Cond) ∈ wsX4_findChain := by decide +kernel
set_option maxHeartbeats 4000000 in
set_option maxRecDepth 100000 in
/-- findChain: one -/
theorem c_X4_findChain_ok (l : Launch) (D : va_G) (cI cB cO : ClassId) (fo fq : Nat) (sz : Int32) (ff : Nat → Int32) (q qt ql qp qc : Nat) (n : Nat) (rr : Int32) (ft fl fp fco : Nat → Int32) (Lk : Nat → Nat → Bool) (Xr : Nat → Bool) (wt : Nat → Nat) (to a : Nat) (ln : Nat → Nat) (hn : n ≤ 20) (hlk : ∀ k, k < n → fl k = nI (bs (Lk k) n)) (hxr : rr = nI (bs Xr n)) (hw1 : ∀ k, k < n → 0 < wt k) (hw2 : ∀ k, k < n → wt k ≤ 33) (hfp : ∀ k, k < n → fp k = nI (wt k)) (hto : to < n) (ha : a < n) (hyes : (dst (EX Lk Xr to) wt n to a) ≠ 0) (hu9 : ∀ k c s, k ≤ n + 1 → Ch (EX Lk Xr to) wt n to k c s → ln c = k) : Met l yX4_findChain wsX4_findChain (rmD 4) (wrPc D (tyL cI cB cO) [.ref q, .int (nI a), .int (nI to), .ref fo] [(fo, .inr (1, [.ref fq, .int sz])), (fq, .inl (cI, 20, .inl ff)), (q, .inr (4, [.ref qt, .ref ql, .ref qp, .ref qc, .int (nI n), .int rr])), (qt, .inl (cI, 20, .inl ft)), (ql, .inl (cI, 20, .inl fl)), (qp, .inl (cI, 20, .inl fp)), (qc, .inl (cI, 20, .inl fco))]) (wrQi D [(fo, .inr (1, [.ref fq, .int sz])), (fq, .inl (cI, 20, .inl ff)), (q, .inr (4, [.ref qt, .ref ql, .ref qp, .ref qc, .int (nI n), .int rr])), (qt, .inl (cI, 20, .inl ft)), (ql, .inl (cI, 20, .inl fl)), (qp, .inl (cI, 20, .inl fp)), (qc, .inl (cI, 20, .inl fco))] (fun (r : Int32) (u : (Nat → Int32) × (Nat → Int32)) => r = 1 ∧ ∀ j, j < ln (dst (EX Lk Xr to) wt n to a) → u.1 j = nI (pth (EX Lk Xr to) wt (dst (EX Lk Xr to) wt n to) n a j)) (fun (u : (Nat → Int32) × (Nat → Int32)) => [(fo, .inr (1, [.ref fq, .int (nI (ln (dst (EX Lk Xr to) wt n to a)))])), (fq, .inl (cI, 20, .inl u.1)), (q, .inr (4, [.ref qt, .ref ql, .ref qp, .ref qc, .int (nI n), .int rr])), (qt, .inl (cI, 20, .inl ft)), (ql, .inl (cI, 20, .inl fl)), (qp, .inl (cI, 20, .inl fp)), (qc, .inl (cI, 20, .inl u.2))])) 0 0 (inW [(fo, .inr (1, [.ref fq, .int sz])), (fq, .inl (cI, 20, .inl ff)), (q, .inr (4, [.ref qt, .ref ql, .ref qp, .ref qc, .int (nI n), .int rr])), (qt, .inl (cI, 20, .inl ft)), (ql, .inl (cI, 20, .inl fl)), (qp, .inl (cI, 20, .inl fp)), (qc, .inl (cI, 20, .inl fco))]) := by
  refine Met.ofW (cc := cX4_findChain) (maxL := 6) (ret := (some .boolean)) (by decide) rfl ?_
  intro p e s m args below meth c s₁ B hml hv
  obtain ⟨rfl, hP, hK, hN, hD⟩ := hv
  have hx := B.exec
  have hb := B.bytes
  have hr := B.returns
  have hts := atoms_spec (ws := wsX4_findChain) B.pre
  have hown : s.vm.findClass RX4 = some m.cls := findClass_of_methodNamed B.named
  have hlocks := B.notSynchronized
  have hS : va_S (inW [(fo, .inr (1, [.ref fq, .int sz])), (fq, .inl (cI, 20, .inl ff)), (q, .inr (4, [.ref qt, .ref ql, .ref qp, .ref qc, .int (nI n), .int rr])), (qt, .inl (cI, 20, .inl ft)), (ql, .inl (cI, 20, .inl fl)), (qp, .inl (cI, 20, .inl fp)), (qc, .inl (cI, 20, .inl fco))]) s.heap s.heap [] := va_S.rf
  have hD : va_D (inW [(fo, .inr (1, [.ref fq, .int sz])), (fq, .inl (cI, 20, .inl ff)), (q, .inr (4, [.ref qt, .ref ql, .ref qp, .ref qc, .int (nI n), .int rr])), (qt, .inl (cI, 20, .inl ft)), (ql, .inl (cI, 20, .inl fl)), (qp, .inl (cI, 20, .inl fp)), (qc, .inl (cI, 20, .inl fco))]) [(fo, .inr (1, [.ref fq, .int sz])), (fq, .inl (cI, 20, .inl ff)), (q, .inr (4, [.ref qt, .ref ql, .ref qp, .ref qc, .int (nI n), .int rr])), (qt, .inl (cI, 20, .inl ft)), (ql, .inl (cI, 20, .inl fl)), (qp, .inl (cI, 20, .inl fp)), (qc, .inl (cI, 20, .inl fco))] := inW_self hD
  have hl := lv_entry ([.ref q, .int (nI a), .int (nI to), .ref fo]) (n := 6) (Nat.le_of_ble_eq_true rfl)
  rw [lg_entry_eq]
  generalize (lg_sl ([.ref q, .int (nI a), .int (nI to), .ref fo]) ++ List.replicate (6 - (lg_sl ([.ref q, .int (nI a), .int (nI to), .ref fo])).length) Slot.unset).toArray = ls at hl ⊢
  have hl : lv_has ls 6 [(0, .ref q), (1, .int (nI a)), (2, .int (nI to)), (3, .ref fo)] := hl
  obtain ⟨hl0, hln⟩ := ln_rng hw1 hu9 hyes
  refine lv_iload_n hx hb dX4_findChain_0 rfl (lv_at hl 1 rfl) ?_
  refine lv_if_lt (tgt := 12) hx hb dX4_findChain_1 (by decide) (fun c_1 => ?_) (fun c_1 => ?_)
  · skip
    exact absurd c_1 (nI_pos (by omega))
  · skip
    refine lv_iload_n hx hb dX4_findChain_4 rfl (lv_at hl 1 rfl) ?_
    refine lv_aload_n hx hb dX4_findChain_5 rfl (lv_at hl 0 rfl) ?_
    refine va_get (D := D) (ci := 4) (v := .int (nI n)) (C := RX4) (T := TX4) (N := 6) hx hb hts kX4_findChain_ok_0 hown hK hP 2 rfl rfl 4 (by decide) (hts (.fieldLink RX4 24 "SightRidge$Routes" "stations" "I") kX4_findChain_ok_1) (fun _ h9 => h9) rfl dX4_findChain_6 ?_
    refine lv_icmp_lt (tgt := 14) hx hb dX4_findChain_9 (by decide) (fun c_9 => ?_) (fun c_9 => ?_)
    · skip
      refine lv_aload_n hx hb dX4_findChain_14 rfl (lv_at hl 0 rfl) ?_
      refine lv_iload_n hx hb dX4_findChain_15 rfl (lv_at hl 2 rfl) ?_
      refine wv_callv (wc := [(q, .inr (4, [.ref qt, .ref ql, .ref qp, .ref qc, .int (nI n), .int rr])), (qt, .inl (cI, 20, .inl ft)), (ql, .inl (cI, 20, .inl fl)), (qp, .inl (cI, 20, .inl fp)), (qc, .inl (cI, 20, .inl fco))]) hP hD hS [2, 3, 4, 5, 6] rfl rfl (va_runV (As := [.int (nI to)]) (rest := []) ⟨hx, hb, hml, hown, hts⟩ (c_X4_findCosts l D cI cB cO q qt ql qp qc n rr ft fl fp fco Lk Xr wt to hn hlk hxr hw1 hw2 hfp hto) (cwV 1 hts gX4_findChain_X4_findCosts rfl rfl rfl (by decide +kernel) ⟨Nat.le_of_ble_eq_true rfl, Nat.le_of_ble_eq_true rfl⟩) (wr_preV (wc := [(q, .inr (4, [.ref qt, .ref ql, .ref qp, .ref qc, .int (nI n), .int rr])), (qt, .inl (cI, 20, .inl ft)), (ql, .inl (cI, 20, .inl fl)), (qp, .inl (cI, 20, .inl fp)), (qc, .inl (cI, 20, .inl fco))]) (r := (RX4, TX4, 6)) (ci := 4) hK (hP.pick [2, 3, 4, 5, 6] rfl) hN (wr_dsub hD [2, 3, 4, 5, 6] rfl rfl) (q0 := 0) rfl rfl) rfl rfl hl.1 rfl (lv_room (Nat.le_of_ble_eq_true rfl)) dX4_findChain_16 ⟨Nat.le_refl _, Nat.le_refl _⟩) (fun u => [(fo, .inr (1, [.ref fq, .int sz])), (fq, .inl (cI, 20, .inl ff)), (q, .inr (4, [.ref qt, .ref ql, .ref qp, .ref qc, .int (nI n), .int rr])), (qt, .inl (cI, 20, .inl ft)), (ql, .inl (cI, 20, .inl fl)), (qp, .inl (cI, 20, .inl fp)), (qc, .inl (cI, 20, .inl u))]) (fun _ => rfl) (fun _ => rfl) (fun u H locs h_16 hP hD hS => ?_)
      have hP : va_P D vwCl [(fo, .inr (1, [.ref fq, .int sz])), (fq, .inl (cI, 20, .inl ff)), (q, .inr (4, [.ref qt, .ref ql, .ref qp, .ref qc, .int (nI n), .int rr])), (qt, .inl (cI, 20, .inl ft)), (ql, .inl (cI, 20, .inl fl)), (qp, .inl (cI, 20, .inl fp)), (qc, .inl (cI, 20, .inl u))] _ := hP
      have hD : va_D (inW [(fo, .inr (1, [.ref fq, .int sz])), (fq, .inl (cI, 20, .inl ff)), (q, .inr (4, [.ref qt, .ref ql, .ref qp, .ref qc, .int (nI n), .int rr])), (qt, .inl (cI, 20, .inl ft)), (ql, .inl (cI, 20, .inl fl)), (qp, .inl (cI, 20, .inl fp)), (qc, .inl (cI, 20, .inl fco))]) [(fo, .inr (1, [.ref fq, .int sz])), (fq, .inl (cI, 20, .inl ff)), (q, .inr (4, [.ref qt, .ref ql, .ref qp, .ref qc, .int (nI n), .int rr])), (qt, .inl (cI, 20, .inl ft)), (ql, .inl (cI, 20, .inl fl)), (qp, .inl (cI, 20, .inl fp)), (qc, .inl (cI, 20, .inl u))] := hD
      refine lv_aload_n hx hb dX4_findChain_19 rfl (lv_at hl 0 rfl) ?_
      refine va_get (D := D) (ci := 4) (v := .ref qc) (C := RX4) (T := TX4) (N := 6) hx hb hts kX4_findChain_ok_0 hown hK hP 2 rfl rfl 3 (by decide) (hts (.fieldLink RX4 21 "SightRidge$Routes" "costs" "[I") kX4_findChain_ok_2) (fun _ h9 => h9) rfl dX4_findChain_20 ?_
      refine lv_iload_n hx hb dX4_findChain_23 rfl (lv_at hl 1 rfl) ?_
      refine va_iald hx hb hK hP 6 0 rfl rfl (i := nI a) (vp_in_nI (N := 20) (by omega) (by decide)) dX4_findChain_24 ?_
      rw [nI_clamp (n := a) (by omega)]
      obtain ⟨hci, hcs⟩ := cst_inf (E := EX Lk Xr to) (to := to) hw1 hw2 hn a
      have hin : INF = 1000000 := rfl
      refine lv_topi (fun y_1 e_2 => ?_)
      have e_2 : nI (cst (EX Lk Xr to) wt n to a) = y_1 := (e_2.trans (h_16 a ha)).symm
      subst e_2
      refine lv_ldc (v := 1000000) hx hb hown (hts (.constant RX4 61 (1000000)) kX4_findChain_ok_3) dX4_findChain_25 ?_
      refine lv_topi (fun y_3 e_4 => ?_)
      have e_4 : nI INF = y_3 := (e_4.trans (inf_eq.symm)).symm
      subst e_4
      refine lv_icmp_lt (tgt := 32) hx hb dX4_findChain_27 (by decide) (fun c_27 => ?_) (fun c_27 => ?_)
      · skip
        refine lv_aload_n hx hb dX4_findChain_32 rfl (lv_at hl 3 rfl) ?_
        refine wv_callv (wc := [(fo, .inr (1, [.ref fq, .int sz])), (fq, .inl (cI, 20, .inl ff))]) hP hD hS [0, 1] rfl rfl (va_runV (As := []) (rest := []) ⟨hx, hb, hml, hown, hts⟩ (c_X1_clear l D cI cB cO fo fq ff sz ) (cwV 0 hts gX4_findChain_X1_clear rfl rfl rfl (by decide +kernel) ⟨Nat.le_of_ble_eq_true rfl, Nat.le_of_ble_eq_true rfl⟩) (wr_preV (wc := [(fo, .inr (1, [.ref fq, .int sz])), (fq, .inl (cI, 20, .inl ff))]) (r := (RX1, TX1, 2)) (ci := 1) hK (hP.pick [0, 1] rfl) hN (wr_dsub hD [0, 1] rfl rfl) (q0 := 0) rfl rfl) rfl rfl hl.1 rfl (lv_room (Nat.le_of_ble_eq_true rfl)) dX4_findChain_33 ⟨Nat.le_refl _, Nat.le_refl _⟩) (fun _ => [(fo, .inr (1, [.ref fq, .int 0])), (fq, .inl (cI, 20, .inl ff)), (q, .inr (4, [.ref qt, .ref ql, .ref qp, .ref qc, .int (nI n), .int rr])), (qt, .inl (cI, 20, .inl ft)), (ql, .inl (cI, 20, .inl fl)), (qp, .inl (cI, 20, .inl fp)), (qc, .inl (cI, 20, .inl u))]) (fun _ => rfl) (fun _ => rfl) (fun u_33 H locs h_33 hP hD hS => ?_)
        have hP : va_P D vwCl [(fo, .inr (1, [.ref fq, .int 0])), (fq, .inl (cI, 20, .inl ff)), (q, .inr (4, [.ref qt, .ref ql, .ref qp, .ref qc, .int (nI n), .int rr])), (qt, .inl (cI, 20, .inl ft)), (ql, .inl (cI, 20, .inl fl)), (qp, .inl (cI, 20, .inl fp)), (qc, .inl (cI, 20, .inl u))] _ := hP
        have hD : va_D (inW [(fo, .inr (1, [.ref fq, .int sz])), (fq, .inl (cI, 20, .inl ff)), (q, .inr (4, [.ref qt, .ref ql, .ref qp, .ref qc, .int (nI n), .int rr])), (qt, .inl (cI, 20, .inl ft)), (ql, .inl (cI, 20, .inl fl)), (qp, .inl (cI, 20, .inl fp)), (qc, .inl (cI, 20, .inl fco))]) [(fo, .inr (1, [.ref fq, .int 0])), (fq, .inl (cI, 20, .inl ff)), (q, .inr (4, [.ref qt, .ref ql, .ref qp, .ref qc, .int (nI n), .int rr])), (qt, .inl (cI, 20, .inl ft)), (ql, .inl (cI, 20, .inl fl)), (qp, .inl (cI, 20, .inl fp)), (qc, .inl (cI, 20, .inl u))] := hD
        have e9 : ([(fo, .inr (1, [.ref fq, .int 0])), (fq, .inl (cI, 20, .inl ff)), (q, .inr (4, [.ref qt, .ref ql, .ref qp, .ref qc, .int (nI n), .int rr])), (qt, .inl (cI, 20, .inl ft)), (ql, .inl (cI, 20, .inl fl)), (qp, .inl (cI, 20, .inl fp)), (qc, .inl (cI, 20, .inl u))] : va_W) = [(fo, .inr (1, [.ref fq, .int (nI 0)])), (fq, .inl (cI, 20, .inl ff)), (q, .inr (4, [.ref qt, .ref ql, .ref qp, .ref qc, .int (nI n), .int rr])), (qt, .inl (cI, 20, .inl ft)), (ql, .inl (cI, 20, .inl fl)), (qp, .inl (cI, 20, .inl fp)), (qc, .inl (cI, 20, .inl u))] := congrArg (fun f9 : Int32 => ([(fo, .inr (1, [.ref fq, .int f9])), (fq, .inl (cI, 20, .inl ff)), (q, .inr (4, [.ref qt, .ref ql, .ref qp, .ref qc, .int (nI n), .int rr])), (qt, .inl (cI, 20, .inl ft)), (ql, .inl (cI, 20, .inl fl)), (qp, .inl (cI, 20, .inl fp)), (qc, .inl (cI, 20, .inl u))] : va_W)) (show 0 = nI 0 from rfl)
        have hP := va_P_eq e9 hP
        have hD := va_D_eq e9 hD
        refine lv_aload_n hx hb dX4_findChain_36 rfl (lv_at hl 3 rfl) ?_
        refine lv_iload_n hx hb dX4_findChain_37 rfl (lv_at hl 1 rfl) ?_
        refine wv_callv (wc := [(fo, .inr (1, [.ref fq, .int (nI 0)])), (fq, .inl (cI, 20, .inl ff))]) hP hD hS [0, 1] rfl rfl (va_runV (As := [.int (nI a)]) (rest := []) ⟨hx, hb, hml, hown, hts⟩ (c_X1_append l D cI cB cO fo fq ff 0 (nI a) (by decide)) (cwV 1 hts gX4_findChain_X1_append rfl rfl rfl (by decide +kernel) ⟨Nat.le_of_ble_eq_true rfl, Nat.le_of_ble_eq_true rfl⟩) (wr_preV (wc := [(fo, .inr (1, [.ref fq, .int (nI 0)])), (fq, .inl (cI, 20, .inl ff))]) (r := (RX1, TX1, 2)) (ci := 1) hK (hP.pick [0, 1] rfl) hN (wr_dsub hD [0, 1] rfl rfl) (q0 := 0) rfl rfl) rfl rfl hl.1 rfl (lv_room (Nat.le_of_ble_eq_true rfl)) dX4_findChain_38 ⟨Nat.le_refl _, Nat.le_refl _⟩) (fun _ => [(fo, .inr (1, [.ref fq, .int (nI (0 + 1))])), (fq, .inl (cI, 20, .inl (upd ff 0 (nI a)))), (q, .inr (4, [.ref qt, .ref ql, .ref qp, .ref qc, .int (nI n), .int rr])), (qt, .inl (cI, 20, .inl ft)), (ql, .inl (cI, 20, .inl fl)), (qp, .inl (cI, 20, .inl fp)), (qc, .inl (cI, 20, .inl u))]) (fun _ => rfl) (fun _ => rfl) (fun u_38 H locs h_38 hP hD hS => ?_)
        have hP : va_P D vwCl [(fo, .inr (1, [.ref fq, .int (nI 1)])), (fq, .inl (cI, 20, .inl (upd ff 0 (nI a)))), (q, .inr (4, [.ref qt, .ref ql, .ref qp, .ref qc, .int (nI n), .int rr])), (qt, .inl (cI, 20, .inl ft)), (ql, .inl (cI, 20, .inl fl)), (qp, .inl (cI, 20, .inl fp)), (qc, .inl (cI, 20, .inl u))] _ := hP
        have hD : va_D (inW [(fo, .inr (1, [.ref fq, .int sz])), (fq, .inl (cI, 20, .inl ff)), (q, .inr (4, [.ref qt, .ref ql, .ref qp, .ref qc, .int (nI n), .int rr])), (qt, .inl (cI, 20, .inl ft)), (ql, .inl (cI, 20, .inl fl)), (qp, .inl (cI, 20, .inl fp)), (qc, .inl (cI, 20, .inl fco))]) [(fo, .inr (1, [.ref fq, .int (nI 1)])), (fq, .inl (cI, 20, .inl (upd ff 0 (nI a)))), (q, .inr (4, [.ref qt, .ref ql, .ref qp, .ref qc, .int (nI n), .int rr])), (qt, .inl (cI, 20, .inl ft)), (ql, .inl (cI, 20, .inl fl)), (qp, .inl (cI, 20, .inl fp)), (qc, .inl (cI, 20, .inl u))] := hD
        refine lv_iload_n hx hb dX4_findChain_41 rfl (lv_at hl 1 rfl) ?_
        refine lv_istore (lv' := [(4, .int (nI a)), (0, .ref q), (1, .int (nI a)), (2, .int (nI to)), (3, .ref fo)]) hx hb dX4_findChain_42 hl (by decide) rfl (fun ls hl => ?_)
        refine lv_iconst (v := 1) hx hb dX4_findChain_44 (by decide) ?_
        refine lv_istore (lv' := [(5, .int 1), (4, .int (nI a)), (0, .ref q), (1, .int (nI a)), (2, .int (nI to)), (3, .ref fo)]) hx hb dX4_findChain_45 hl (by decide) rfl (fun ls hl => ?_)
        have L_47 : ∀ (k_47 : Nat) (j : Nat) (sv : Nat) (uf : Nat → Int32), n - j < k_47 → (0 < j ∧ j ≤ ln (dst (EX Lk Xr to) wt n to a)) → (sv = (pth (EX Lk Xr to) wt (dst (EX Lk Xr to) wt n to) n a (j - 1))) → (∀ z, z < j → uf z = nI (pth (EX Lk Xr to) wt (dst (EX Lk Xr to) wt n to) n a z)) → ∀ (H : Heap) (locs : List Loc), va_P D vwCl [(fo, .inr (1, [.ref fq, .int (nI j)])), (fq, .inl (cI, 20, .inl uf)), (q, .inr (4, [.ref qt, .ref ql, .ref qp, .ref qc, .int (nI n), .int rr])), (qt, .inl (cI, 20, .inl ft)), (ql, .inl (cI, 20, .inl fl)), (qp, .inl (cI, 20, .inl fp)), (qc, .inl (cI, 20, .inl u))] H → va_D (inW [(fo, .inr (1, [.ref fq, .int sz])), (fq, .inl (cI, 20, .inl ff)), (q, .inr (4, [.ref qt, .ref ql, .ref qp, .ref qc, .int (nI n), .int rr])), (qt, .inl (cI, 20, .inl ft)), (ql, .inl (cI, 20, .inl fl)), (qp, .inl (cI, 20, .inl fp)), (qc, .inl (cI, 20, .inl fco))]) [(fo, .inr (1, [.ref fq, .int (nI j)])), (fq, .inl (cI, 20, .inl uf)), (q, .inr (4, [.ref qt, .ref ql, .ref qp, .ref qc, .int (nI n), .int rr])), (qt, .inl (cI, 20, .inl ft)), (ql, .inl (cI, 20, .inl fl)), (qp, .inl (cI, 20, .inl fp)), (qc, .inl (cI, 20, .inl u))] → va_S (inW [(fo, .inr (1, [.ref fq, .int sz])), (fq, .inl (cI, 20, .inl ff)), (q, .inr (4, [.ref qt, .ref ql, .ref qp, .ref qc, .int (nI n), .int rr])), (qt, .inl (cI, 20, .inl ft)), (ql, .inl (cI, 20, .inl fl)), (qp, .inl (cI, 20, .inl fp)), (qc, .inl (cI, 20, .inl fco))]) s.heap H locs → ∀ (ls : Array Slot), lv_has ls 6 [(0, .ref q), (1, .int (nI a)), (2, .int (nI to)), (3, .ref fo), (4, .int (nI sv)), (5, .int (nI j))] → W p l e (rmD 4) s m ([.ref q, .int (nI a), .int (nI to), .ref fo] : List Value).toArray below meth c H locs 0 0 (MQ below (wrQi D [(fo, .inr (1, [.ref fq, .int sz])), (fq, .inl (cI, 20, .inl ff)), (q, .inr (4, [.ref qt, .ref ql, .ref qp, .ref qc, .int (nI n), .int rr])), (qt, .inl (cI, 20, .inl ft)), (ql, .inl (cI, 20, .inl fl)), (qp, .inl (cI, 20, .inl fp)), (qc, .inl (cI, 20, .inl fco))] (fun (r : Int32) (u : (Nat → Int32) × (Nat → Int32)) => r = 1 ∧ ∀ j, j < ln (dst (EX Lk Xr to) wt n to a) → u.1 j = nI (pth (EX Lk Xr to) wt (dst (EX Lk Xr to) wt n to) n a j)) (fun (u : (Nat → Int32) × (Nat → Int32)) => [(fo, .inr (1, [.ref fq, .int (nI (ln (dst (EX Lk Xr to) wt n to a)))])), (fq, .inl (cI, 20, .inl u.1)), (q, .inr (4, [.ref qt, .ref ql, .ref qp, .ref qc, .int (nI n), .int rr])), (qt, .inl (cI, 20, .inl ft)), (ql, .inl (cI, 20, .inl fl)), (qp, .inl (cI, 20, .inl fp)), (qc, .inl (cI, 20, .inl u.2))])) ([.ref q, .int (nI a), .int (nI to), .ref fo] : List Value).toArray s 0 0 (inW [(fo, .inr (1, [.ref fq, .int sz])), (fq, .inl (cI, 20, .inl ff)), (q, .inr (4, [.ref qt, .ref ql, .ref qp, .ref qc, .int (nI n), .int rr])), (qt, .inl (cI, 20, .inl ft)), (ql, .inl (cI, 20, .inl fl)), (qp, .inl (cI, 20, .inl fp)), (qc, .inl (cI, 20, .inl fco))])) (F0 m 47 ls []) := by
          intro k_47
          induction k_47 with
          | zero => intro j sv uf h9; exact absurd h9 (Nat.not_lt_zero _)
          | succ k_47 ih_47 =>
            intro j sv uf hm_47 hj hsv huf H locs hP hD hS ls hl
            refine lv_iload hx hb dX4_findChain_47 (lv_at hl 5 rfl) ?_
            refine lv_aload_n hx hb dX4_findChain_49 rfl (lv_at hl 0 rfl) ?_
            refine va_get (D := D) (ci := 4) (v := .int (nI n)) (C := RX4) (T := TX4) (N := 6) hx hb hts kX4_findChain_ok_0 hown hK hP 2 rfl rfl 4 (by decide) (hts (.fieldLink RX4 24 "SightRidge$Routes" "stations" "I") kX4_findChain_ok_1) (fun _ h9 => h9) rfl dX4_findChain_50 ?_
            refine lv_icmp_ge (tgt := 83) hx hb dX4_findChain_53 (by decide) (fun c_53 => ?_) (fun c_53 => ?_)
            · skip
              have c0 : n ≤ j := ge_t (by omega) c_53
              have ej : j = ln (dst (EX Lk Xr to) wt n to a) := by omega
              have e9 : ([(fo, .inr (1, [.ref fq, .int (nI j)])), (fq, .inl (cI, 20, .inl uf)), (q, .inr (4, [.ref qt, .ref ql, .ref qp, .ref qc, .int (nI n), .int rr])), (qt, .inl (cI, 20, .inl ft)), (ql, .inl (cI, 20, .inl fl)), (qp, .inl (cI, 20, .inl fp)), (qc, .inl (cI, 20, .inl u))] : va_W) = [(fo, .inr (1, [.ref fq, .int (nI (ln (dst (EX Lk Xr to) wt n to a)))])), (fq, .inl (cI, 20, .inl uf)), (q, .inr (4, [.ref qt, .ref ql, .ref qp, .ref qc, .int (nI n), .int rr])), (qt, .inl (cI, 20, .inl ft)), (ql, .inl (cI, 20, .inl fl)), (qp, .inl (cI, 20, .inl fp)), (qc, .inl (cI, 20, .inl u))] := congrArg (fun f9 : Int32 => ([(fo, .inr (1, [.ref fq, .int f9])), (fq, .inl (cI, 20, .inl uf)), (q, .inr (4, [.ref qt, .ref ql, .ref qp, .ref qc, .int (nI n), .int rr])), (qt, .inl (cI, 20, .inl ft)), (ql, .inl (cI, 20, .inl fl)), (qp, .inl (cI, 20, .inl fp)), (qc, .inl (cI, 20, .inl u))] : va_W)) (show nI j = nI (ln (dst (EX Lk Xr to) wt n to a)) from congrArg nI ej)
              have hP := va_P_eq e9 hP
              have hD := va_D_eq e9 hD
              refine lv_iconst (v := 1) hx hb dX4_findChain_83 (by decide) ?_
              exact W.zret (v := 1) hx hb hr (rfl) (fun tS htS hWS => ⟨⟨1, (uf, u), rfl, ⟨rfl, fun z hz => huf z (by omega)⟩, retP htS hP⟩, hS.F htS⟩) hS.2.2 dX4_findChain_84
            · skip
              have c0 : j < n := ge_f (by omega) c_53
              obtain ⟨hi1, hi2, hi3⟩ := pth_in hw1 hu9 hyes (j - 1) (by omega)
              rw [← hsv] at hi1 hi2 hi3
              have hsn := dst_lt hi1
              refine lv_iload hx hb dX4_findChain_56 (lv_at hl 4 rfl) ?_
              refine lv_iload_n hx hb dX4_findChain_58 rfl (lv_at hl 2 rfl) ?_
              refine lv_icmp_eq (tgt := 83) hx hb dX4_findChain_59 (by decide) (fun c_59 => ?_) (fun c_59 => ?_)
              · skip
                have c1 : sv = to := (nI_eq (by omega) (by omega)).mp c_59
                have ej : j = ln (dst (EX Lk Xr to) wt n to a) := by have := (ln_one hw1 hu9 hi1).mpr c1; omega
                have e9 : ([(fo, .inr (1, [.ref fq, .int (nI j)])), (fq, .inl (cI, 20, .inl uf)), (q, .inr (4, [.ref qt, .ref ql, .ref qp, .ref qc, .int (nI n), .int rr])), (qt, .inl (cI, 20, .inl ft)), (ql, .inl (cI, 20, .inl fl)), (qp, .inl (cI, 20, .inl fp)), (qc, .inl (cI, 20, .inl u))] : va_W) = [(fo, .inr (1, [.ref fq, .int (nI (ln (dst (EX Lk Xr to) wt n to a)))])), (fq, .inl (cI, 20, .inl uf)), (q, .inr (4, [.ref qt, .ref ql, .ref qp, .ref qc, .int (nI n), .int rr])), (qt, .inl (cI, 20, .inl ft)), (ql, .inl (cI, 20, .inl fl)), (qp, .inl (cI, 20, .inl fp)), (qc, .inl (cI, 20, .inl u))] := congrArg (fun f9 : Int32 => ([(fo, .inr (1, [.ref fq, .int f9])), (fq, .inl (cI, 20, .inl uf)), (q, .inr (4, [.ref qt, .ref ql, .ref qp, .ref qc, .int (nI n), .int rr])), (qt, .inl (cI, 20, .inl ft)), (ql, .inl (cI, 20, .inl fl)), (qp, .inl (cI, 20, .inl fp)), (qc, .inl (cI, 20, .inl u))] : va_W)) (show nI j = nI (ln (dst (EX Lk Xr to) wt n to a)) from congrArg nI ej)
                have hP := va_P_eq e9 hP
                have hD := va_D_eq e9 hD
                refine lv_iconst (v := 1) hx hb dX4_findChain_83 (by decide) ?_
                exact W.zret (v := 1) hx hb hr (rfl) (fun tS htS hWS => ⟨⟨1, (uf, u), rfl, ⟨rfl, fun z hz => huf z (by omega)⟩, retP htS hP⟩, hS.F htS⟩) hS.2.2 dX4_findChain_84
              · skip
                have c1 : sv ≠ to := fun z => c_59 (by rw [z])
                have hgt : j < ln (dst (EX Lk Xr to) wt n to a) := by
                  rcases Nat.lt_or_ge j (ln (dst (EX Lk Xr to) wt n to a)) with z | z
                  · exact z
                  · exact absurd ((ln_one hw1 hu9 hi1).mp (by omega)) c1
                have hnx : nxt (EX Lk Xr to) wt (dst (EX Lk Xr to) wt n to) n sv = (pth (EX Lk Xr to) wt (dst (EX Lk Xr to) wt n to) n a j) := by
                  rw [hsv]; conv => rhs; rw [show j = (j - 1) + 1 by omega]
                  rfl
                have hj20 : j < 20 := by omega
                refine lv_aload_n hx hb dX4_findChain_62 rfl (lv_at hl 0 rfl) ?_
                refine lv_iload hx hb dX4_findChain_63 (lv_at hl 4 rfl) ?_
                refine lv_iload_n hx hb dX4_findChain_65 rfl (lv_at hl 2 rfl) ?_
                refine rd_calli hP hS (va_runV (As := [.int (nI sv), .int (nI to)]) (rest := []) ⟨hx, hb, hml, hown, hts⟩ (c_X4_nextAfter l D cI cB cO q qt ql qp qc n rr ft fl fp u Lk Xr wt to sv hn hlk hxr hw1 hw2 hfp hto h_16 hi1 c1) (cwV 2 hts gX4_findChain_X4_nextAfter rfl rfl rfl (by decide +kernel) ⟨Nat.le_of_ble_eq_true rfl, Nat.le_of_ble_eq_true rfl⟩) (rd_preV (r := (RX4, TX4, 6)) (ci := 4) hK (hP.pick [2, 4, 5, 6] rfl) hN (q0 := 0) rfl rfl) rfl rfl hl.1 rfl (lv_room (Nat.le_of_ble_eq_true rfl)) dX4_findChain_66 ⟨Nat.le_refl _, Nat.le_refl _⟩) (fun r_66 H locs h_66 hP hS => ?_)
                subst h_66
                refine lv_istore (lv' := [(4, .int (nI (nxt (EX Lk Xr to) wt (dst (EX Lk Xr to) wt n to) n sv))), (0, .ref q), (1, .int (nI a)), (2, .int (nI to)), (3, .ref fo), (5, .int (nI j))]) hx hb dX4_findChain_69 hl (by decide) rfl (fun ls hl => ?_)
                refine lv_aload_n hx hb dX4_findChain_71 rfl (lv_at hl 4 rfl) ?_
                refine lv_iload hx hb dX4_findChain_72 (lv_at hl 0 rfl) ?_
                refine wv_callv (wc := [(fo, .inr (1, [.ref fq, .int (nI j)])), (fq, .inl (cI, 20, .inl uf))]) hP hD hS [0, 1] rfl rfl (va_runV (As := [.int (nI (nxt (EX Lk Xr to) wt (dst (EX Lk Xr to) wt n to) n sv))]) (rest := []) ⟨hx, hb, hml, hown, hts⟩ (c_X1_append l D cI cB cO fo fq uf j (nI (nxt (EX Lk Xr to) wt (dst (EX Lk Xr to) wt n to) n sv)) hj20) (cwV 1 hts gX4_findChain_X1_append rfl rfl rfl (by decide +kernel) ⟨Nat.le_of_ble_eq_true rfl, Nat.le_of_ble_eq_true rfl⟩) (wr_preV (wc := [(fo, .inr (1, [.ref fq, .int (nI j)])), (fq, .inl (cI, 20, .inl uf))]) (r := (RX1, TX1, 2)) (ci := 1) hK (hP.pick [0, 1] rfl) hN (wr_dsub hD [0, 1] rfl rfl) (q0 := 0) rfl rfl) rfl rfl hl.1 rfl (lv_room (Nat.le_of_ble_eq_true rfl)) dX4_findChain_74 ⟨Nat.le_refl _, Nat.le_refl _⟩) (fun _ => [(fo, .inr (1, [.ref fq, .int (nI (j + 1))])), (fq, .inl (cI, 20, .inl (upd uf j (nI (nxt (EX Lk Xr to) wt (dst (EX Lk Xr to) wt n to) n sv))))), (q, .inr (4, [.ref qt, .ref ql, .ref qp, .ref qc, .int (nI n), .int rr])), (qt, .inl (cI, 20, .inl ft)), (ql, .inl (cI, 20, .inl fl)), (qp, .inl (cI, 20, .inl fp)), (qc, .inl (cI, 20, .inl u))]) (fun _ => rfl) (fun _ => rfl) (fun u_74 H locs h_74 hP hD hS => ?_)
                have hP : va_P D vwCl [(fo, .inr (1, [.ref fq, .int (nI (j + 1))])), (fq, .inl (cI, 20, .inl (upd uf j (nI (nxt (EX Lk Xr to) wt (dst (EX Lk Xr to) wt n to) n sv))))), (q, .inr (4, [.ref qt, .ref ql, .ref qp, .ref qc, .int (nI n), .int rr])), (qt, .inl (cI, 20, .inl ft)), (ql, .inl (cI, 20, .inl fl)), (qp, .inl (cI, 20, .inl fp)), (qc, .inl (cI, 20, .inl u))] _ := hP
                have hD : va_D (inW [(fo, .inr (1, [.ref fq, .int sz])), (fq, .inl (cI, 20, .inl ff)), (q, .inr (4, [.ref qt, .ref ql, .ref qp, .ref qc, .int (nI n), .int rr])), (qt, .inl (cI, 20, .inl ft)), (ql, .inl (cI, 20, .inl fl)), (qp, .inl (cI, 20, .inl fp)), (qc, .inl (cI, 20, .inl fco))]) [(fo, .inr (1, [.ref fq, .int (nI (j + 1))])), (fq, .inl (cI, 20, .inl (upd uf j (nI (nxt (EX Lk Xr to) wt (dst (EX Lk Xr to) wt n to) n sv))))), (q, .inr (4, [.ref qt, .ref ql, .ref qp, .ref qc, .int (nI n), .int rr])), (qt, .inl (cI, 20, .inl ft)), (ql, .inl (cI, 20, .inl fl)), (qp, .inl (cI, 20, .inl fp)), (qc, .inl (cI, 20, .inl u))] := hD
                refine lv_iinc (v := nI (j + 1)) (lv' := [(5, .int (nI (j + 1))), (4, .int (nI (nxt (EX Lk Xr to) wt (dst (EX Lk Xr to) wt n to) n sv))), (0, .ref q), (1, .int (nI a)), (2, .int (nI to)), (3, .ref fo)]) hx hb dX4_findChain_77 hl (k := 5) rfl (inc1 _) (by decide) rfl (fun ls hl => ?_)
                refine lv_goto (tgt := 47) hx hb dX4_findChain_80 (by decide) ?_
                exact ih_47 (j + 1) (nxt (EX Lk Xr to) wt (dst (EX Lk Xr to) wt n to) n sv) (upd uf j (nI (nxt (EX Lk Xr to) wt (dst (EX Lk Xr to) wt n to) n sv))) (by omega) (⟨by omega, by omega⟩) (hnx) (up_s huf (F := fun z => nI (pth (EX Lk Xr to) wt (dst (EX Lk Xr to) wt n to) n a z)) (congrArg nI hnx)) _ _ hP hD hS ls (lv_sub hl [2, 3, 4, 5, 1, 0] rfl)
        exact L_47 _ 1 a (upd ff 0 (nI a)) (Nat.lt_succ_self _) (⟨by decide, hl0⟩) (rfl) (up_s up_0 (F := fun z => nI (pth (EX Lk Xr to) wt (dst (EX Lk Xr to) wt n to) n a z)) rfl) _ _ hP hD hS ls (lv_sub hl [2, 3, 4, 5, 1, 0] rfl)
      · skip
        exact absurd ((nI_ltI (by omega) (by omega)).mpr (Nat.lt_of_not_le (fun z => hyes (hcs.mp z)))) c_27
    · skip
      exact absurd ((nI_ltI (by omega) (by omega)).mpr ha) c_9
