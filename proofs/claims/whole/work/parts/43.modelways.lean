/-! the reference's ways and prices -/
theorem hT_0 (G M : Nat → Int32) : hT G M 0 = tp G M := by
  funext s; unfold hT
  split <;> exact Int32.add_zero _
/-- the masts are heights -/
def MH (n : Nat) (M : Nat → Int32) : Prop := ∀ k, k < n → ∃ q, q ≤ 200 ∧ M k = nI q
theorem MH_no {n k : Nat} {M : Nat → Int32} (h : MH n M) (hk : k < n) (c : M k ≤ 0) : M k = 0 := by
  obtain ⟨q, h1, h2⟩ := h k hk
  rw [h2] at c ⊢
  have : q ≤ 0 := (nI_leI (a := q) (b := 0) (by omega) (by decide)).mp c
  rw [show q = 0 by omega]; rfl
theorem MH_yes {k : Nat} {M : Nat → Int32} (c : ¬ M k ≤ 0) : ¬ M k = 0 := fun z => c (by rw [z]; exact Int32.le_refl 0)
def lvl (z d : Nat) : Nat := if d ≤ z then d else 0
/-- round z, the stations less than s are done -/
def WS (d : Nat → Nat) (n z s : Nat) (u : Nat → Int32) : Prop := ∀ k, k < n → u k = nI (if k < s then lvl z (d k) else lvl (z - 1) (d k))
/-- round z, station s is looked at, the stations less than t are behind -/
def WJ (E : Nat → Nat → Bool) (d : Nat → Nat) (n z s t : Nat) (u : Nat → Int32) : Prop := (∀ k, k < n → k ≠ s → u k = nI (if k < s then lvl z (d k) else lvl (z - 1) (d k))) ∧ ((u s = nI (lvl (z - 1) (d s)) ∧ (lvl (z - 1) (d s) = 0 → ∀ j, j < t → E s j = true → d j ≠ z - 1)) ∨ (u s = nI z ∧ d s = z))
theorem lvl_le (z d : Nat) : lvl z d ≤ z := by unfold lvl; split <;> omega
section WAYS
variable {E : Nat → Nat → Bool} {n to z s t : Nat} {u : Nat → Int32}
theorem one_pos : ∀ s, s < n → 0 < (fun _ : Nat => 1) s := fun _ _ => Nat.one_pos
theorem dst1_le (k : Nat) : dst E (fun _ => 1) n to k ≤ n := by
  by_cases q : dst E (fun _ => 1) n to k = 0
  · omega
  · exact (ln_rng (ln := id) one_pos ln_0 q).2
theorem WS_0 (h : ∀ k, k < n → u k = nI (if k = to then 1 else 0)) (hto : to < n) : WS (dst E (fun _ => 1) n to) n 2 0 u := by
  intro k hk
  rw [h k hk, if_neg (Nat.not_lt_zero k)]
  refine congrArg nI ?_
  show _ = lvl 1 _
  by_cases q : k = to
  · rw [if_pos q, q, dst_to hto]; rfl
  · rw [if_neg q]
    unfold lvl
    split
    · by_cases z0 : dst E (fun _ => 1) n to k = 0
      · exact z0.symm
      · exact absurd ((ln_one (ln := id) one_pos ln_0 z0).mp (by show dst _ _ _ _ _ = 1; omega)) q
    · rfl
theorem WS_s {d : Nat → Nat} (h : WS d n z s u) (hs : n ≤ s) : WS d n (z + 1) 0 u := by
  intro k hk
  rw [h k hk, if_pos (by omega), if_neg (Nat.not_lt_zero k)]
  rfl
theorem WS_end (h : WS (dst E (fun _ => 1) n to) n z s u) (hs : s = 0) (hz : n < z) : ∀ k, k < n → u k = nI (dst E (fun _ => 1) n to k) := by
  intro k hk
  have := dst1_le (E := E) (n := n) (to := to) k
  rw [h k hk, if_neg (by omega)]
  unfold lvl
  rw [if_pos (by omega)]
theorem WJ_0 {d : Nat → Nat} (h : WS d n z s u) (hs : s < n) : WJ E d n z s 0 u := by
  refine ⟨fun k hk _ => h k hk, Or.inl ⟨?_, fun _ j hj => absurd hj (Nat.not_lt_zero j)⟩⟩
  rw [h s hs, if_neg (Nat.lt_irrefl s)]
/-- way[s] isn't 0: the next station -/
theorem WJ_set {d : Nat → Nat} (h : WJ E d n z s t u) (c : ¬ u s = 0) : WS d n z (s + 1) u := by
  intro k hk
  by_cases q : k = s
  · subst q
    rw [if_pos (Nat.lt_succ_self k)]
    rcases h.2 with ⟨h1, -⟩ | ⟨h1, h2⟩
    · rw [h1]
      refine congrArg nI ?_
      unfold lvl at h1 ⊢
      by_cases q : d k ≤ z - 1
      · rw [if_pos q, if_pos (by omega)]
      · rw [if_neg q] at h1; exact absurd h1 c
    · rw [h1, h2]; refine congrArg nI ?_; unfold lvl; rw [if_pos (Nat.le_refl z)]
  · rw [h.1 k hk q]
    refine congrArg nI ?_
    by_cases q2 : k < s
    · rw [if_pos q2, if_pos (by omega)]
    · rw [if_neg q2, if_neg (by omega)]
theorem WJ_end (h : WJ E (dst E (fun _ => 1) n to) n z s t u) (ht : n ≤ t) (hz : 2 ≤ z) (hs : s < n) : WS (dst E (fun _ => 1) n to) n z (s + 1) u := by
  by_cases c : u s = 0
  · intro k hk
    by_cases q : k = s
    · subst q
      rw [if_pos (Nat.lt_succ_self k)]
      rcases h.2 with ⟨h1, h2⟩ | ⟨h1, h2⟩
      · rw [h1]
        refine congrArg nI ?_
        unfold lvl at h2 ⊢
        by_cases q : dst E (fun _ => 1) n to k ≤ z - 1
        · rw [if_pos q, if_pos (by omega)]
        · rw [if_neg q]
          by_cases q3 : dst E (fun _ => 1) n to k ≤ z
          · have h0 : dst E (fun _ => 1) n to k ≠ 0 := by omega
            have h4 : k ≠ to := fun e => by rw [e, dst_to (e ▸ hk)] at q; omega
            obtain ⟨j, j1, j2, j3, j4⟩ := dst_tight one_pos h0 h4
            have j4 : dst E (fun _ => 1) n to k = 1 + dst E (fun _ => 1) n to j := j4
            exact absurd (by omega : dst E (fun _ => 1) n to j = z - 1) (h2 (if_neg q) j (by omega) j2)
          · rw [if_neg q3]
      · rw [h1, h2]; refine congrArg nI ?_; unfold lvl; rw [if_pos (Nat.le_refl z)]
    · rw [h.1 k hk q]
      refine congrArg nI ?_
      by_cases q2 : k < s
      · rw [if_pos q2, if_pos (by omega)]
      · rw [if_neg q2, if_neg (by omega)]
  · exact WJ_set h c
/-- way[s] is 0: what way[t] says -/
theorem WJ_t {d : Nat → Nat} (h : WJ E d n z s t u) (c : u s = 0) (hz : 2 ≤ z) (hz2 : z ≤ 20) (ht : t < n) : lvl (z - 1) (d s) = 0 ∧ ∃ y, u t = nI y ∧ y ≤ 20 ∧ (y = z - 1 ↔ d t = z - 1) := by
  have h0 : lvl (z - 1) (d s) = 0 ∧ u s = nI (lvl (z - 1) (d s)) := by
    rcases h.2 with ⟨h1, -⟩ | ⟨h1, h2⟩
    · have := lvl_le (z - 1) (d s)
      exact ⟨(nI_eq (b := 0) (by omega) (by decide)).mp (h1.symm.trans c), h1⟩
    · exact absurd ((nI_eq (b := 0) (by omega) (by decide)).mp (h1.symm.trans c)) (by omega)
  refine ⟨h0.1, ?_⟩
  by_cases q : t = s
  · refine ⟨0, by rw [q]; exact c, by omega, ?_⟩
    have h1 := h0.1
    unfold lvl at h1
    rw [q]
    split at h1
    · omega
    · omega
  · have h1 := h.1 t ht q
    by_cases q2 : t < s
    · rw [if_pos q2] at h1
      refine ⟨_, h1, by have := lvl_le z (d t); omega, ?_⟩
      unfold lvl; split <;> omega
    · rw [if_neg q2] at h1
      refine ⟨_, h1, by have := lvl_le (z - 1) (d t); omega, ?_⟩
      unfold lvl; split <;> omega
theorem WJ_no {d : Nat → Nat} (h : WJ E d n z s t u) (c : u s = 0) (h0 : lvl (z - 1) (d s) = 0) (hc : ¬ (E s t = true ∧ d t = z - 1)) (hz : 0 < z) (hz2 : z ≤ 20) : WJ E d n z s (t + 1) (upd u s 0) := by
  refine ⟨fun k hk q => by rw [pk_un q]; exact h.1 k hk q, Or.inl ⟨by rw [pk_us, h0]; rfl, fun _ j hj he => ?_⟩⟩
  rcases h.2 with ⟨h1, h2⟩ | ⟨h1, h2⟩
  · rcases Nat.lt_succ_iff_lt_or_eq.mp hj with q | q
    · exact h2 h0 j q he
    · intro e; rw [q] at he e; exact hc ⟨he, e⟩
  · exact absurd ((nI_eq (b := 0) (by omega) (by decide)).mp (h1.symm.trans c)) (by omega)
theorem WJ_yes (h : WJ E (dst E (fun _ => 1) n to) n z s t u) (h0 : lvl (z - 1) (dst E (fun _ => 1) n to s) = 0) (hs : s < n) (h1 : E s t = true) (h2 : dst E (fun _ => 1) n to t = z - 1) (hz : 2 ≤ z) : WJ E (dst E (fun _ => 1) n to) n z s (t + 1) (upd u s (nI z)) := by
  refine ⟨fun k hk q => by rw [pk_un q]; exact h.1 k hk q, Or.inr ⟨pk_us, ?_⟩⟩
  obtain ⟨h3, h4⟩ := dst_closed one_pos hs h1 (by omega : dst E (fun _ => 1) n to t ≠ 0)
  have h4 : dst E (fun _ => 1) n to s ≤ 1 + dst E (fun _ => 1) n to t := h4
  unfold lvl at h0
  split at h0
  · omega
  · omega
end WAYS
theorem kX7_ways_0 : ∀ w ∈ wsX70, w ∈ wsX7_ways := by decide +kernel
theorem kX7_ways_1 : (.fieldLink RX7 7 "SightRidgeModel" "m" "[I" : Cond) ∈ wsX7_ways := by decide +kernel
theorem kX7_ways_2 : (.fieldLink RX7 32 "SightRidgeModel" "way" "[I" : Cond) ∈ wsX7_ways := by decide +kernel
set_option maxHeartbeats 4000000 in
set_option maxRecDepth 100000 in
/-- ways(to) -/
theorem c_X7_ways (l : Launch) (D : va_G) (cI cB cO : ClassId) (q0 q1 q2 q3 q4 q5 q6 q7 q8 : Nat) (mm pp fd tx rgd rmd wy cvr : Nat → Int32) (un fi tl re at0 fa : Int32) (hsh : Int64) (n : Nat) (rg bl : Int32) (G M : Nat → Int32) (to : Nat) (hm : MOK n mm rg bl G M) (hmh : MH n M) (hto : to < n) : Met l yX7_ways wsX7_ways (rmD 5) (wrPc D (tyL cI cB cO) [.ref q0, .int (nI to)] [(q0, .inr (7, [.ref q1, .ref q2, .int un, .ref q3, .int fi, .ref q4, .int tl, .ref q5, .ref q6, .int re, .int at0, .int fa, .ref q7, .ref q8, .long hsh])), (q1, .inl (cI, 43, .inl mm)), (q7, .inl (cI, 20, .inl wy))]) (wrQv D [(q0, .inr (7, [.ref q1, .ref q2, .int un, .ref q3, .int fi, .ref q4, .int tl, .ref q5, .ref q6, .int re, .int at0, .int fa, .ref q7, .ref q8, .long hsh])), (q1, .inl (cI, 43, .inl mm)), (q7, .inl (cI, 20, .inl wy))] (fun (u : Nat → Int32) => ∀ k, k < n → u k = nI ((dst (EX (lkB G rg bl (hT G M 0)) (reB M 0) to) (fun _ => 1) n to) k)) (fun (u : Nat → Int32) => [(q0, .inr (7, [.ref q1, .ref q2, .int un, .ref q3, .int fi, .ref q4, .int tl, .ref q5, .ref q6, .int re, .int at0, .int fa, .ref q7, .ref q8, .long hsh])), (q1, .inl (cI, 43, .inl mm)), (q7, .inl (cI, 20, .inl u))])) 0 0 (inW [(q0, .inr (7, [.ref q1, .ref q2, .int un, .ref q3, .int fi, .ref q4, .int tl, .ref q5, .ref q6, .int re, .int at0, .int fa, .ref q7, .ref q8, .long hsh])), (q1, .inl (cI, 43, .inl mm)), (q7, .inl (cI, 20, .inl wy))]) := by
  refine Met.ofW (cc := cX7_ways) (maxL := 6) (ret := none) (by decide) rfl ?_
  intro p e s m args below meth c s₁ B hml hv
  obtain ⟨rfl, hP, hK, hN, hD⟩ := hv
  have hx := B.exec
  have hb := B.bytes
  have hr := B.returns
  have hts := atoms_spec (ws := wsX7_ways) B.pre
  have hown : s.vm.findClass RX7 = some m.cls := findClass_of_methodNamed B.named
  have hlocks := B.notSynchronized
  have hS : va_S (inW [(q0, .inr (7, [.ref q1, .ref q2, .int un, .ref q3, .int fi, .ref q4, .int tl, .ref q5, .ref q6, .int re, .int at0, .int fa, .ref q7, .ref q8, .long hsh])), (q1, .inl (cI, 43, .inl mm)), (q7, .inl (cI, 20, .inl wy))]) s.heap s.heap [] := va_S.rf
  have hD : va_D (inW [(q0, .inr (7, [.ref q1, .ref q2, .int un, .ref q3, .int fi, .ref q4, .int tl, .ref q5, .ref q6, .int re, .int at0, .int fa, .ref q7, .ref q8, .long hsh])), (q1, .inl (cI, 43, .inl mm)), (q7, .inl (cI, 20, .inl wy))]) [(q0, .inr (7, [.ref q1, .ref q2, .int un, .ref q3, .int fi, .ref q4, .int tl, .ref q5, .ref q6, .int re, .int at0, .int fa, .ref q7, .ref q8, .long hsh])), (q1, .inl (cI, 43, .inl mm)), (q7, .inl (cI, 20, .inl wy))] := inW_self hD
  have hl := lv_entry ([.ref q0, .int (nI to)]) (n := 6) (Nat.le_of_ble_eq_true rfl)
  rw [lg_entry_eq]
  generalize (lg_sl ([.ref q0, .int (nI to)]) ++ List.replicate (6 - (lg_sl ([.ref q0, .int (nI to)])).length) Slot.unset).toArray = ls at hl ⊢
  have hl : lv_has ls 6 [(0, .ref q0), (1, .int (nI to))] := hl
  obtain ⟨hn, hn1, hm0, hm1, hm2, hG, hM⟩ := id hm
  refine lv_iconst (v := 0) hx hb dX7_ways_0 (by decide) ?_
  refine lv_istore_n (lv' := [(2, .int 0), (0, .ref q0), (1, .int (nI to))]) hx hb dX7_ways_1 rfl hl (by decide) rfl (fun ls hl => ?_)
  have L_2 : ∀ (k_2 : Nat) (i : Nat) (u : Nat → Int32), 20 - i < k_2 → (i ≤ 20) → (∀ k, k < i → u k = nI (if k = to then 1 else 0)) → ∀ (H : Heap) (locs : List Loc), va_P D vwCl [(q0, .inr (7, [.ref q1, .ref q2, .int un, .ref q3, .int fi, .ref q4, .int tl, .ref q5, .ref q6, .int re, .int at0, .int fa, .ref q7, .ref q8, .long hsh])), (q1, .inl (cI, 43, .inl mm)), (q7, .inl (cI, 20, .inl u))] H → va_D (inW [(q0, .inr (7, [.ref q1, .ref q2, .int un, .ref q3, .int fi, .ref q4, .int tl, .ref q5, .ref q6, .int re, .int at0, .int fa, .ref q7, .ref q8, .long hsh])), (q1, .inl (cI, 43, .inl mm)), (q7, .inl (cI, 20, .inl wy))]) [(q0, .inr (7, [.ref q1, .ref q2, .int un, .ref q3, .int fi, .ref q4, .int tl, .ref q5, .ref q6, .int re, .int at0, .int fa, .ref q7, .ref q8, .long hsh])), (q1, .inl (cI, 43, .inl mm)), (q7, .inl (cI, 20, .inl u))] → va_S (inW [(q0, .inr (7, [.ref q1, .ref q2, .int un, .ref q3, .int fi, .ref q4, .int tl, .ref q5, .ref q6, .int re, .int at0, .int fa, .ref q7, .ref q8, .long hsh])), (q1, .inl (cI, 43, .inl mm)), (q7, .inl (cI, 20, .inl wy))]) s.heap H locs → ∀ (ls : Array Slot), lv_has ls 6 [(0, .ref q0), (1, .int (nI to)), (2, .int (nI i))] → W p l e (rmD 5) s m ([.ref q0, .int (nI to)] : List Value).toArray below meth c H locs 0 0 (MQ below (wrQv D [(q0, .inr (7, [.ref q1, .ref q2, .int un, .ref q3, .int fi, .ref q4, .int tl, .ref q5, .ref q6, .int re, .int at0, .int fa, .ref q7, .ref q8, .long hsh])), (q1, .inl (cI, 43, .inl mm)), (q7, .inl (cI, 20, .inl wy))] (fun (u : Nat → Int32) => ∀ k, k < n → u k = nI ((dst (EX (lkB G rg bl (hT G M 0)) (reB M 0) to) (fun _ => 1) n to) k)) (fun (u : Nat → Int32) => [(q0, .inr (7, [.ref q1, .ref q2, .int un, .ref q3, .int fi, .ref q4, .int tl, .ref q5, .ref q6, .int re, .int at0, .int fa, .ref q7, .ref q8, .long hsh])), (q1, .inl (cI, 43, .inl mm)), (q7, .inl (cI, 20, .inl u))])) ([.ref q0, .int (nI to)] : List Value).toArray s 0 0 (inW [(q0, .inr (7, [.ref q1, .ref q2, .int un, .ref q3, .int fi, .ref q4, .int tl, .ref q5, .ref q6, .int re, .int at0, .int fa, .ref q7, .ref q8, .long hsh])), (q1, .inl (cI, 43, .inl mm)), (q7, .inl (cI, 20, .inl wy))])) (F0 m 2 ls []) := by
    intro k_2
    induction k_2 with
    | zero => intro i u h9; exact absurd h9 (Nat.not_lt_zero _)
    | succ k_2 ih_2 =>
      intro i u hm_2 hi hu H locs hP hD hS ls hl
      refine lv_iload_n hx hb dX7_ways_2 rfl (lv_at hl 2 rfl) ?_
      refine lv_bipush (v := 20) hx hb dX7_ways_3 (by decide) ?_
      refine lv_icmp_ge (tgt := 30) hx hb dX7_ways_5 (by decide) (fun c_5 => ?_) (fun c_5 => ?_)
      · skip
        have c0 : 20 ≤ i := ge_t (by omega) c_5
        refine lv_iconst (v := 2) hx hb dX7_ways_30 (by decide) ?_
        refine lv_istore_n (lv' := [(2, .int 2), (0, .ref q0), (1, .int (nI to))]) hx hb dX7_ways_31 rfl hl (by decide) rfl (fun ls hl => ?_)
        have hW0 : WS (dst (EX (lkB G rg bl (hT G M 0)) (reB M 0) to) (fun _ => 1) n to) n 2 0 u := WS_0 (fun k hk => hu k (by omega)) hto
        have L_32 : ∀ (k_32 : Nat) (z : Nat) (u2 : Nat → Int32), 22 - z < k_32 → (2 ≤ z ∧ z ≤ n + 1) → (WS (dst (EX (lkB G rg bl (hT G M 0)) (reB M 0) to) (fun _ => 1) n to) n z 0 u2) → ∀ (H : Heap) (locs : List Loc), va_P D vwCl [(q0, .inr (7, [.ref q1, .ref q2, .int un, .ref q3, .int fi, .ref q4, .int tl, .ref q5, .ref q6, .int re, .int at0, .int fa, .ref q7, .ref q8, .long hsh])), (q1, .inl (cI, 43, .inl mm)), (q7, .inl (cI, 20, .inl u2))] H → va_D (inW [(q0, .inr (7, [.ref q1, .ref q2, .int un, .ref q3, .int fi, .ref q4, .int tl, .ref q5, .ref q6, .int re, .int at0, .int fa, .ref q7, .ref q8, .long hsh])), (q1, .inl (cI, 43, .inl mm)), (q7, .inl (cI, 20, .inl wy))]) [(q0, .inr (7, [.ref q1, .ref q2, .int un, .ref q3, .int fi, .ref q4, .int tl, .ref q5, .ref q6, .int re, .int at0, .int fa, .ref q7, .ref q8, .long hsh])), (q1, .inl (cI, 43, .inl mm)), (q7, .inl (cI, 20, .inl u2))] → va_S (inW [(q0, .inr (7, [.ref q1, .ref q2, .int un, .ref q3, .int fi, .ref q4, .int tl, .ref q5, .ref q6, .int re, .int at0, .int fa, .ref q7, .ref q8, .long hsh])), (q1, .inl (cI, 43, .inl mm)), (q7, .inl (cI, 20, .inl wy))]) s.heap H locs → ∀ (ls : Array Slot), lv_has ls 6 [(0, .ref q0), (1, .int (nI to)), (2, .int (nI z))] → W p l e (rmD 5) s m ([.ref q0, .int (nI to)] : List Value).toArray below meth c H locs 0 0 (MQ below (wrQv D [(q0, .inr (7, [.ref q1, .ref q2, .int un, .ref q3, .int fi, .ref q4, .int tl, .ref q5, .ref q6, .int re, .int at0, .int fa, .ref q7, .ref q8, .long hsh])), (q1, .inl (cI, 43, .inl mm)), (q7, .inl (cI, 20, .inl wy))] (fun (u : Nat → Int32) => ∀ k, k < n → u k = nI ((dst (EX (lkB G rg bl (hT G M 0)) (reB M 0) to) (fun _ => 1) n to) k)) (fun (u : Nat → Int32) => [(q0, .inr (7, [.ref q1, .ref q2, .int un, .ref q3, .int fi, .ref q4, .int tl, .ref q5, .ref q6, .int re, .int at0, .int fa, .ref q7, .ref q8, .long hsh])), (q1, .inl (cI, 43, .inl mm)), (q7, .inl (cI, 20, .inl u))])) ([.ref q0, .int (nI to)] : List Value).toArray s 0 0 (inW [(q0, .inr (7, [.ref q1, .ref q2, .int un, .ref q3, .int fi, .ref q4, .int tl, .ref q5, .ref q6, .int re, .int at0, .int fa, .ref q7, .ref q8, .long hsh])), (q1, .inl (cI, 43, .inl mm)), (q7, .inl (cI, 20, .inl wy))])) (F0 m 32 ls []) := by
          intro k_32
          induction k_32 with
          | zero => intro z u2 h9; exact absurd h9 (Nat.not_lt_zero _)
          | succ k_32 ih_32 =>
            intro z u2 hm_32 hz hW H locs hP hD hS ls hl
            refine lv_iload_n hx hb dX7_ways_32 rfl (lv_at hl 2 rfl) ?_
            refine lv_aload_n hx hb dX7_ways_33 rfl (lv_at hl 0 rfl) ?_
            refine va_get (D := D) (ci := 7) (v := .ref q1) (C := RX7) (T := TX7) (N := 15) hx hb hts kX7_ways_0 hown hK hP 0 rfl rfl 0 (by decide) (hts (.fieldLink RX7 7 "SightRidgeModel" "m" "[I") kX7_ways_1) (fun _ h9 => h9) rfl dX7_ways_34 ?_
            refine lv_iconst (v := 0) hx hb dX7_ways_37 (by decide) ?_
            refine va_iald hx hb hK hP 1 0 rfl rfl (i := nI 0) (vp_in_nI (N := 43) (by decide) (by decide)) dX7_ways_38 ?_
            rw [nI_clamp (n := 0) (by decide)]
            refine lv_topi (fun y_1 e_2 => ?_)
            have e_2 : nI n = y_1 := (e_2.trans (hm0)).symm
            subst e_2
            refine lv_icmp_gt (tgt := 160) hx hb dX7_ways_39 (by decide) (fun c_39 => ?_) (fun c_39 => ?_)
            · skip
              have c2 : n < z := gt_t (by omega) c_39
              exact W.vret hx hb hr (fun tS htS hWS => ⟨⟨u2, rfl, WS_end hW rfl c2, retP htS hP⟩, hS.F htS⟩) hS.2.2 dX7_ways_160
            · skip
              have c2 : z ≤ n := by rcases Nat.lt_or_ge n z with q | q; exact absurd (nI_lt q (by omega)) c_39; exact q
              refine lv_iconst (v := 0) hx hb dX7_ways_42 (by decide) ?_
              refine lv_istore_n (lv' := [(3, .int 0), (0, .ref q0), (1, .int (nI to)), (2, .int (nI z))]) hx hb dX7_ways_43 rfl hl (by decide) rfl (fun ls hl => ?_)
              have L_44 : ∀ (k_44 : Nat) (zs : Nat) (u3 : Nat → Int32), n - zs < k_44 → (zs ≤ n) → (WS (dst (EX (lkB G rg bl (hT G M 0)) (reB M 0) to) (fun _ => 1) n to) n z zs u3) → ∀ (H : Heap) (locs : List Loc), va_P D vwCl [(q0, .inr (7, [.ref q1, .ref q2, .int un, .ref q3, .int fi, .ref q4, .int tl, .ref q5, .ref q6, .int re, .int at0, .int fa, .ref q7, .ref q8, .long hsh])), (q1, .inl (cI, 43, .inl mm)), (q7, .inl (cI, 20, .inl u3))] H → va_D (inW [(q0, .inr (7, [.ref q1, .ref q2, .int un, .ref q3, .int fi, .ref q4, .int tl, .ref q5, .ref q6, .int re, .int at0, .int fa, .ref q7, .ref q8, .long hsh])), (q1, .inl (cI, 43, .inl mm)), (q7, .inl (cI, 20, .inl wy))]) [(q0, .inr (7, [.ref q1, .ref q2, .int un, .ref q3, .int fi, .ref q4, .int tl, .ref q5, .ref q6, .int re, .int at0, .int fa, .ref q7, .ref q8, .long hsh])), (q1, .inl (cI, 43, .inl mm)), (q7, .inl (cI, 20, .inl u3))] → va_S (inW [(q0, .inr (7, [.ref q1, .ref q2, .int un, .ref q3, .int fi, .ref q4, .int tl, .ref q5, .ref q6, .int re, .int at0, .int fa, .ref q7, .ref q8, .long hsh])), (q1, .inl (cI, 43, .inl mm)), (q7, .inl (cI, 20, .inl wy))]) s.heap H locs → ∀ (ls : Array Slot), lv_has ls 6 [(0, .ref q0), (1, .int (nI to)), (2, .int (nI z)), (3, .int (nI zs))] → W p l e (rmD 5) s m ([.ref q0, .int (nI to)] : List Value).toArray below meth c H locs 0 0 (MQ below (wrQv D [(q0, .inr (7, [.ref q1, .ref q2, .int un, .ref q3, .int fi, .ref q4, .int tl, .ref q5, .ref q6, .int re, .int at0, .int fa, .ref q7, .ref q8, .long hsh])), (q1, .inl (cI, 43, .inl mm)), (q7, .inl (cI, 20, .inl wy))] (fun (u : Nat → Int32) => ∀ k, k < n → u k = nI ((dst (EX (lkB G rg bl (hT G M 0)) (reB M 0) to) (fun _ => 1) n to) k)) (fun (u : Nat → Int32) => [(q0, .inr (7, [.ref q1, .ref q2, .int un, .ref q3, .int fi, .ref q4, .int tl, .ref q5, .ref q6, .int re, .int at0, .int fa, .ref q7, .ref q8, .long hsh])), (q1, .inl (cI, 43, .inl mm)), (q7, .inl (cI, 20, .inl u))])) ([.ref q0, .int (nI to)] : List Value).toArray s 0 0 (inW [(q0, .inr (7, [.ref q1, .ref q2, .int un, .ref q3, .int fi, .ref q4, .int tl, .ref q5, .ref q6, .int re, .int at0, .int fa, .ref q7, .ref q8, .long hsh])), (q1, .inl (cI, 43, .inl mm)), (q7, .inl (cI, 20, .inl wy))])) (F0 m 44 ls []) := by
                intro k_44
                induction k_44 with
                | zero => intro zs u3 h9; exact absurd h9 (Nat.not_lt_zero _)
                | succ k_44 ih_44 =>
                  intro zs u3 hm_44 hzs hW1 H locs hP hD hS ls hl
                  refine lv_iload_n hx hb dX7_ways_44 rfl (lv_at hl 3 rfl) ?_
                  refine lv_aload_n hx hb dX7_ways_45 rfl (lv_at hl 0 rfl) ?_
                  refine va_get (D := D) (ci := 7) (v := .ref q1) (C := RX7) (T := TX7) (N := 15) hx hb hts kX7_ways_0 hown hK hP 0 rfl rfl 0 (by decide) (hts (.fieldLink RX7 7 "SightRidgeModel" "m" "[I") kX7_ways_1) (fun _ h9 => h9) rfl dX7_ways_46 ?_
                  refine lv_iconst (v := 0) hx hb dX7_ways_49 (by decide) ?_
                  refine va_iald hx hb hK hP 1 0 rfl rfl (i := nI 0) (vp_in_nI (N := 43) (by decide) (by decide)) dX7_ways_50 ?_
                  rw [nI_clamp (n := 0) (by decide)]
                  refine lv_topi (fun y_3 e_4 => ?_)
                  have e_4 : nI n = y_3 := (e_4.trans (hm0)).symm
                  subst e_4
                  refine lv_icmp_ge (tgt := 154) hx hb dX7_ways_51 (by decide) (fun c_51 => ?_) (fun c_51 => ?_)
                  · skip
                    have c3 : n ≤ zs := ge_t (by omega) c_51
                    refine lv_iinc (v := nI (z + 1)) (lv' := [(2, .int (nI (z + 1))), (0, .ref q0), (1, .int (nI to)), (3, .int (nI zs))]) hx hb dX7_ways_154 hl (k := 2) rfl (inc1 _) (by decide) rfl (fun ls hl => ?_)
                    refine lv_goto (tgt := 32) hx hb dX7_ways_157 (by decide) ?_
                    exact ih_32 (z + 1) u3 (by omega) (⟨by omega, by omega⟩) (WS_s hW1 c3) _ _ hP hD hS ls (lv_sub hl [1, 2, 0] rfl)
                  · skip
                    have c3 : zs < n := ge_f (by omega) c_51
                    refine lv_iconst (v := 0) hx hb dX7_ways_54 (by decide) ?_
                    refine lv_istore (lv' := [(4, .int 0), (0, .ref q0), (1, .int (nI to)), (2, .int (nI z)), (3, .int (nI zs))]) hx hb dX7_ways_55 hl (by decide) rfl (fun ls hl => ?_)
                    have L_57 : ∀ (k_57 : Nat) (zt : Nat) (u4 : Nat → Int32), n - zt < k_57 → (zt ≤ n) → (WJ (EX (lkB G rg bl (hT G M 0)) (reB M 0) to) (dst (EX (lkB G rg bl (hT G M 0)) (reB M 0) to) (fun _ => 1) n to) n z zs zt u4) → ∀ (H : Heap) (locs : List Loc), va_P D vwCl [(q0, .inr (7, [.ref q1, .ref q2, .int un, .ref q3, .int fi, .ref q4, .int tl, .ref q5, .ref q6, .int re, .int at0, .int fa, .ref q7, .ref q8, .long hsh])), (q1, .inl (cI, 43, .inl mm)), (q7, .inl (cI, 20, .inl u4))] H → va_D (inW [(q0, .inr (7, [.ref q1, .ref q2, .int un, .ref q3, .int fi, .ref q4, .int tl, .ref q5, .ref q6, .int re, .int at0, .int fa, .ref q7, .ref q8, .long hsh])), (q1, .inl (cI, 43, .inl mm)), (q7, .inl (cI, 20, .inl wy))]) [(q0, .inr (7, [.ref q1, .ref q2, .int un, .ref q3, .int fi, .ref q4, .int tl, .ref q5, .ref q6, .int re, .int at0, .int fa, .ref q7, .ref q8, .long hsh])), (q1, .inl (cI, 43, .inl mm)), (q7, .inl (cI, 20, .inl u4))] → va_S (inW [(q0, .inr (7, [.ref q1, .ref q2, .int un, .ref q3, .int fi, .ref q4, .int tl, .ref q5, .ref q6, .int re, .int at0, .int fa, .ref q7, .ref q8, .long hsh])), (q1, .inl (cI, 43, .inl mm)), (q7, .inl (cI, 20, .inl wy))]) s.heap H locs → ∀ (ls : Array Slot), lv_has ls 6 [(0, .ref q0), (1, .int (nI to)), (2, .int (nI z)), (3, .int (nI zs)), (4, .int (nI zt))] → W p l e (rmD 5) s m ([.ref q0, .int (nI to)] : List Value).toArray below meth c H locs 0 0 (MQ below (wrQv D [(q0, .inr (7, [.ref q1, .ref q2, .int un, .ref q3, .int fi, .ref q4, .int tl, .ref q5, .ref q6, .int re, .int at0, .int fa, .ref q7, .ref q8, .long hsh])), (q1, .inl (cI, 43, .inl mm)), (q7, .inl (cI, 20, .inl wy))] (fun (u : Nat → Int32) => ∀ k, k < n → u k = nI ((dst (EX (lkB G rg bl (hT G M 0)) (reB M 0) to) (fun _ => 1) n to) k)) (fun (u : Nat → Int32) => [(q0, .inr (7, [.ref q1, .ref q2, .int un, .ref q3, .int fi, .ref q4, .int tl, .ref q5, .ref q6, .int re, .int at0, .int fa, .ref q7, .ref q8, .long hsh])), (q1, .inl (cI, 43, .inl mm)), (q7, .inl (cI, 20, .inl u))])) ([.ref q0, .int (nI to)] : List Value).toArray s 0 0 (inW [(q0, .inr (7, [.ref q1, .ref q2, .int un, .ref q3, .int fi, .ref q4, .int tl, .ref q5, .ref q6, .int re, .int at0, .int fa, .ref q7, .ref q8, .long hsh])), (q1, .inl (cI, 43, .inl mm)), (q7, .inl (cI, 20, .inl wy))])) (F0 m 57 ls []) := by
                      intro k_57
                      induction k_57 with
                      | zero => intro zt u4 h9; exact absurd h9 (Nat.not_lt_zero _)
                      | succ k_57 ih_57 =>
                        intro zt u4 hm_57 hzt hW2 H locs hP hD hS ls hl
                        refine lv_iload hx hb dX7_ways_57 (lv_at hl 4 rfl) ?_
                        refine lv_aload_n hx hb dX7_ways_59 rfl (lv_at hl 0 rfl) ?_
                        refine va_get (D := D) (ci := 7) (v := .ref q1) (C := RX7) (T := TX7) (N := 15) hx hb hts kX7_ways_0 hown hK hP 0 rfl rfl 0 (by decide) (hts (.fieldLink RX7 7 "SightRidgeModel" "m" "[I") kX7_ways_1) (fun _ h9 => h9) rfl dX7_ways_60 ?_
                        refine lv_iconst (v := 0) hx hb dX7_ways_63 (by decide) ?_
                        refine va_iald hx hb hK hP 1 0 rfl rfl (i := nI 0) (vp_in_nI (N := 43) (by decide) (by decide)) dX7_ways_64 ?_
                        rw [nI_clamp (n := 0) (by decide)]
                        refine lv_topi (fun y_5 e_6 => ?_)
                        have e_6 : nI n = y_5 := (e_6.trans (hm0)).symm
                        subst e_6
                        refine lv_icmp_ge (tgt := 148) hx hb dX7_ways_65 (by decide) (fun c_65 => ?_) (fun c_65 => ?_)
                        · skip
                          have c4 : n ≤ zt := ge_t (by omega) c_65
                          refine lv_iinc (v := nI (zs + 1)) (lv' := [(3, .int (nI (zs + 1))), (0, .ref q0), (1, .int (nI to)), (2, .int (nI z)), (4, .int (nI zt))]) hx hb dX7_ways_148 hl (k := 3) rfl (inc1 _) (by decide) rfl (fun ls hl => ?_)
                          refine lv_goto (tgt := 44) hx hb dX7_ways_151 (by decide) ?_
                          exact ih_44 (zs + 1) u4 (by omega) (by omega) (WJ_end hW2 c4 hz.1 c3) _ _ hP hD hS ls (lv_sub hl [1, 2, 3, 0] rfl)
                        · skip
                          have c4 : zt < n := ge_f (by omega) c_65
                          refine lv_aload_n hx hb dX7_ways_68 rfl (lv_at hl 0 rfl) ?_
                          refine va_get (D := D) (ci := 7) (v := .ref q7) (C := RX7) (T := TX7) (N := 15) hx hb hts kX7_ways_0 hown hK hP 0 rfl rfl 12 (by decide) (hts (.fieldLink RX7 32 "SightRidgeModel" "way" "[I") kX7_ways_2) (fun _ h9 => h9) rfl dX7_ways_69 ?_
                          refine lv_iload_n hx hb dX7_ways_72 rfl (lv_at hl 3 rfl) ?_
                          refine va_iald hx hb hK hP 2 0 rfl rfl (i := nI zs) (vp_in_nI (N := 20) (by omega) (by decide)) dX7_ways_73 ?_
                          rw [nI_clamp (n := zs) (by omega)]
                          refine lv_if_ne (tgt := 148) hx hb dX7_ways_74 (by decide) (fun c_74 => ?_) (fun c_74 => ?_)
                          · skip
                            have c5 : ¬ u4 zs = 0 := c_74
                            refine lv_iinc (v := nI (zs + 1)) (lv' := [(3, .int (nI (zs + 1))), (0, .ref q0), (1, .int (nI to)), (2, .int (nI z)), (4, .int (nI zt))]) hx hb dX7_ways_148 hl (k := 3) rfl (inc1 _) (by decide) rfl (fun ls hl => ?_)
                            refine lv_goto (tgt := 44) hx hb dX7_ways_151 (by decide) ?_
                            exact ih_44 (zs + 1) u4 (by omega) (by omega) (WJ_set hW2 c5) _ _ hP hD hS ls (lv_sub hl [1, 2, 3, 0] rfl)
                          · skip
                            have c5 : u4 zs = 0 := c_74
                            obtain ⟨h0, y1, hy1, hy2, hy3⟩ := WJ_t hW2 c5 hz.1 (by omega) c4
                            refine lv_aload_n hx hb dX7_ways_77 rfl (lv_at hl 0 rfl) ?_
                            refine va_get (D := D) (ci := 7) (v := .ref q7) (C := RX7) (T := TX7) (N := 15) hx hb hts kX7_ways_0 hown hK hP 0 rfl rfl 12 (by decide) (hts (.fieldLink RX7 32 "SightRidgeModel" "way" "[I") kX7_ways_2) (fun _ h9 => h9) rfl dX7_ways_78 ?_
                            refine lv_iload hx hb dX7_ways_81 (lv_at hl 4 rfl) ?_
                            refine va_iald hx hb hK hP 2 0 rfl rfl (i := nI zt) (vp_in_nI (N := 20) (by omega) (by decide)) dX7_ways_83 ?_
                            rw [nI_clamp (n := zt) (by omega)]
                            refine lv_topi (fun y_7 e_8 => ?_)
                            have e_8 : nI y1 = y_7 := (e_8.trans (hy1)).symm
                            subst e_8
                            refine lv_iload_n hx hb dX7_ways_84 rfl (lv_at hl 2 rfl) ?_
                            refine lv_iconst (v := 1) hx hb dX7_ways_85 (by decide) ?_
                            refine lv_isub hx hb dX7_ways_86 ?_
                            refine lv_topi (fun y_9 e_10 => ?_)
                            have e_10 : nI (z - 1) = y_9 := (e_10.trans (pk_sub (a := z) (b := 1) (by omega))).symm
                            subst e_10
                            refine lv_icmp_ne (tgt := 123) hx hb dX7_ways_87 (by decide) (fun c_87 => ?_) (fun c_87 => ?_)
                            · skip
                              have w1 : ¬ ((EX (lkB G rg bl (hT G M 0)) (reB M 0) to) zs zt = true ∧ (dst (EX (lkB G rg bl (hT G M 0)) (reB M 0) to) (fun _ => 1) n to) zt = z - 1) := fun q => c_87 (congrArg nI (hy3.mpr q.2))
                              refine lv_iconst (v := 0) hx hb dX7_ways_123 (by decide) ?_
                              refine lv_istore (lv' := [(5, .int 0), (0, .ref q0), (1, .int (nI to)), (2, .int (nI z)), (3, .int (nI zs)), (4, .int (nI zt))]) hx hb dX7_ways_124 hl (by decide) rfl (fun ls hl => ?_)
                              refine lv_aload_n hx hb dX7_ways_126 rfl (lv_at hl 1 rfl) ?_
                              refine va_get (D := D) (ci := 7) (v := .ref q7) (C := RX7) (T := TX7) (N := 15) hx hb hts kX7_ways_0 hown hK hP 0 rfl rfl 12 (by decide) (hts (.fieldLink RX7 32 "SightRidgeModel" "way" "[I") kX7_ways_2) (fun _ h9 => h9) rfl dX7_ways_127 ?_
                              refine lv_iload_n hx hb dX7_ways_130 rfl (lv_at hl 4 rfl) ?_
                              refine lv_iload hx hb dX7_ways_131 (lv_at hl 0 rfl) ?_
                              refine lv_if_eq (tgt := 140) hx hb dX7_ways_133 (by decide) (fun c_133 => ?_) (fun c_133 => ?_)
                              · skip
                                refine lv_iconst (v := 0) hx hb dX7_ways_140 (by decide) ?_
                                refine va_iast hx hb hK hP hD hS 2 0 rfl rfl (i := nI zs) (vp_in_nI (N := 20) (by omega) (by decide)) dX7_ways_141 (fun H locs hP hD hS => ?_)
                                rw [nI_clamp (n := zs) (by omega)] at hP hD
                                have hP : va_P D vwCl [(q0, .inr (7, [.ref q1, .ref q2, .int un, .ref q3, .int fi, .ref q4, .int tl, .ref q5, .ref q6, .int re, .int at0, .int fa, .ref q7, .ref q8, .long hsh])), (q1, .inl (cI, 43, .inl mm)), (q7, .inl (cI, 20, .inl (upd u4 zs 0)))] _ := hP
                                have hD : va_D (inW [(q0, .inr (7, [.ref q1, .ref q2, .int un, .ref q3, .int fi, .ref q4, .int tl, .ref q5, .ref q6, .int re, .int at0, .int fa, .ref q7, .ref q8, .long hsh])), (q1, .inl (cI, 43, .inl mm)), (q7, .inl (cI, 20, .inl wy))]) [(q0, .inr (7, [.ref q1, .ref q2, .int un, .ref q3, .int fi, .ref q4, .int tl, .ref q5, .ref q6, .int re, .int at0, .int fa, .ref q7, .ref q8, .long hsh])), (q1, .inl (cI, 43, .inl mm)), (q7, .inl (cI, 20, .inl (upd u4 zs 0)))] := hD
                                refine lv_iinc (v := nI (zt + 1)) (lv' := [(4, .int (nI (zt + 1))), (5, .int 0), (0, .ref q0), (1, .int (nI to)), (2, .int (nI z)), (3, .int (nI zs))]) hx hb dX7_ways_142 hl (k := 5) rfl (inc1 _) (by decide) rfl (fun ls hl => ?_)
                                refine lv_goto (tgt := 57) hx hb dX7_ways_145 (by decide) ?_
                                exact ih_57 (zt + 1) (upd u4 zs 0) (by omega) (by omega) (WJ_no hW2 c5 h0 w1 (by omega) (by omega)) _ _ hP hD hS ls (lv_sub hl [2, 3, 4, 5, 0] rfl)
                              · skip
                                exact absurd (by decide) c_133
                            · skip
                              have c6 : (dst (EX (lkB G rg bl (hT G M 0)) (reB M 0) to) (fun _ => 1) n to) zt = z - 1 := hy3.mp ((nI_eq (by omega) (by omega)).mp c_87)
                              refine lv_iload hx hb dX7_ways_90 (lv_at hl 4 rfl) ?_
                              refine lv_iload_n hx hb dX7_ways_92 rfl (lv_at hl 1 rfl) ?_
                              refine lv_icmp_eq (tgt := 109) hx hb dX7_ways_93 (by decide) (fun c_93 => ?_) (fun c_93 => ?_)
                              · skip
                                have c7 : zt = to ∨ reB M 0 zt = true := Or.inl ((nI_eq (by omega) (by omega)).mp c_93)
                                refine lv_aload_n hx hb dX7_ways_109 rfl (lv_at hl 0 rfl) ?_
                                refine lv_iload_n hx hb dX7_ways_110 rfl (lv_at hl 3 rfl) ?_
                                refine lv_iload hx hb dX7_ways_111 (lv_at hl 4 rfl) ?_
                                refine rd_calli hP hS (va_runV (As := [.int (nI zs), .int (nI zt)]) (rest := []) ⟨hx, hb, hml, hown, hts⟩ (c_X7_inContact l D cI cB cO q0 q1 [.ref q2, .int un, .ref q3, .int fi, .ref q4, .int tl, .ref q5, .ref q6, .int re, .int at0, .int fa, .ref q7, .ref q8, .long hsh] n mm rg bl G M zs zt hm c3 c4) (cwV 2 hts gX7_ways_X7_inContact rfl rfl rfl (by decide +kernel) ⟨Nat.le_of_ble_eq_true rfl, Nat.le_of_ble_eq_true rfl⟩) (rd_preV (r := (RX7, TX7, 15)) (ci := 7) hK (hP.pick [0, 1] rfl) hN (q0 := 0) rfl rfl) rfl rfl hl.1 rfl (lv_room (Nat.le_of_ble_eq_true rfl)) dX7_ways_113 ⟨Nat.le_refl _, Nat.le_refl _⟩) (fun r_113 H locs h_113 hP hS => ?_)
                                refine lv_if_eq (tgt := 123) hx hb dX7_ways_116 (by decide) (fun c_116 => ?_) (fun c_116 => ?_)
                                · skip
                                  have d1 := bI_e0 (h_113.symm.trans c_116)
                                  have w1 : ¬ ((EX (lkB G rg bl (hT G M 0)) (reB M 0) to) zs zt = true ∧ (dst (EX (lkB G rg bl (hT G M 0)) (reB M 0) to) (fun _ => 1) n to) zt = z - 1) := fun q => by
                                    have q1 := q.1
                                    unfold EX at q1
                                    rw [hT_0, ← lk_con, d1, Bool.false_and] at q1
                                    cases q1
                                  refine lv_iconst (v := 0) hx hb dX7_ways_123 (by decide) ?_
                                  refine lv_istore (lv' := [(5, .int 0), (0, .ref q0), (1, .int (nI to)), (2, .int (nI z)), (3, .int (nI zs)), (4, .int (nI zt))]) hx hb dX7_ways_124 hl (by decide) rfl (fun ls hl => ?_)
                                  refine lv_aload_n hx hb dX7_ways_126 rfl (lv_at hl 1 rfl) ?_
                                  refine va_get (D := D) (ci := 7) (v := .ref q7) (C := RX7) (T := TX7) (N := 15) hx hb hts kX7_ways_0 hown hK hP 0 rfl rfl 12 (by decide) (hts (.fieldLink RX7 32 "SightRidgeModel" "way" "[I") kX7_ways_2) (fun _ h9 => h9) rfl dX7_ways_127 ?_
                                  refine lv_iload_n hx hb dX7_ways_130 rfl (lv_at hl 4 rfl) ?_
                                  refine lv_iload hx hb dX7_ways_131 (lv_at hl 0 rfl) ?_
                                  refine lv_if_eq (tgt := 140) hx hb dX7_ways_133 (by decide) (fun c_133 => ?_) (fun c_133 => ?_)
                                  · skip
                                    refine lv_iconst (v := 0) hx hb dX7_ways_140 (by decide) ?_
                                    refine va_iast hx hb hK hP hD hS 2 0 rfl rfl (i := nI zs) (vp_in_nI (N := 20) (by omega) (by decide)) dX7_ways_141 (fun H locs hP hD hS => ?_)
                                    rw [nI_clamp (n := zs) (by omega)] at hP hD
                                    have hP : va_P D vwCl [(q0, .inr (7, [.ref q1, .ref q2, .int un, .ref q3, .int fi, .ref q4, .int tl, .ref q5, .ref q6, .int re, .int at0, .int fa, .ref q7, .ref q8, .long hsh])), (q1, .inl (cI, 43, .inl mm)), (q7, .inl (cI, 20, .inl (upd u4 zs 0)))] _ := hP
                                    have hD : va_D (inW [(q0, .inr (7, [.ref q1, .ref q2, .int un, .ref q3, .int fi, .ref q4, .int tl, .ref q5, .ref q6, .int re, .int at0, .int fa, .ref q7, .ref q8, .long hsh])), (q1, .inl (cI, 43, .inl mm)), (q7, .inl (cI, 20, .inl wy))]) [(q0, .inr (7, [.ref q1, .ref q2, .int un, .ref q3, .int fi, .ref q4, .int tl, .ref q5, .ref q6, .int re, .int at0, .int fa, .ref q7, .ref q8, .long hsh])), (q1, .inl (cI, 43, .inl mm)), (q7, .inl (cI, 20, .inl (upd u4 zs 0)))] := hD
                                    refine lv_iinc (v := nI (zt + 1)) (lv' := [(4, .int (nI (zt + 1))), (5, .int 0), (0, .ref q0), (1, .int (nI to)), (2, .int (nI z)), (3, .int (nI zs))]) hx hb dX7_ways_142 hl (k := 5) rfl (inc1 _) (by decide) rfl (fun ls hl => ?_)
                                    refine lv_goto (tgt := 57) hx hb dX7_ways_145 (by decide) ?_
                                    exact ih_57 (zt + 1) (upd u4 zs 0) (by omega) (by omega) (WJ_no hW2 c5 h0 w1 (by omega) (by omega)) _ _ hP hD hS ls (lv_sub hl [2, 3, 4, 5, 0] rfl)
                                  · skip
                                    exact absurd (by decide) c_133
                                · skip
                                  have d1 := bI_n0 (fun q => c_116 (h_113.trans q))
                                  have w1 : (EX (lkB G rg bl (hT G M 0)) (reB M 0) to) zs zt = true := by
                                    unfold EX
                                    rw [hT_0, ← lk_con, d1, Bool.true_and, Bool.or_eq_true, decide_eq_true_iff]
                                    exact c7
                                  refine lv_iconst (v := 1) hx hb dX7_ways_119 (by decide) ?_
                                  refine lv_goto (tgt := 124) hx hb dX7_ways_120 (by decide) ?_
                                  refine lv_istore (lv' := [(5, .int 1), (0, .ref q0), (1, .int (nI to)), (2, .int (nI z)), (3, .int (nI zs)), (4, .int (nI zt))]) hx hb dX7_ways_124 hl (by decide) rfl (fun ls hl => ?_)
                                  refine lv_aload_n hx hb dX7_ways_126 rfl (lv_at hl 1 rfl) ?_
                                  refine va_get (D := D) (ci := 7) (v := .ref q7) (C := RX7) (T := TX7) (N := 15) hx hb hts kX7_ways_0 hown hK hP 0 rfl rfl 12 (by decide) (hts (.fieldLink RX7 32 "SightRidgeModel" "way" "[I") kX7_ways_2) (fun _ h9 => h9) rfl dX7_ways_127 ?_
                                  refine lv_iload_n hx hb dX7_ways_130 rfl (lv_at hl 4 rfl) ?_
                                  refine lv_iload hx hb dX7_ways_131 (lv_at hl 0 rfl) ?_
                                  refine lv_if_eq (tgt := 140) hx hb dX7_ways_133 (by decide) (fun c_133 => ?_) (fun c_133 => ?_)
                                  · skip
                                    exact absurd c_133 (by decide)
                                  · skip
                                    refine lv_iload_n hx hb dX7_ways_136 rfl (lv_at hl 3 rfl) ?_
                                    refine lv_goto (tgt := 141) hx hb dX7_ways_137 (by decide) ?_
                                    refine va_iast hx hb hK hP hD hS 2 0 rfl rfl (i := nI zs) (vp_in_nI (N := 20) (by omega) (by decide)) dX7_ways_141 (fun H locs hP hD hS => ?_)
                                    rw [nI_clamp (n := zs) (by omega)] at hP hD
                                    have hP : va_P D vwCl [(q0, .inr (7, [.ref q1, .ref q2, .int un, .ref q3, .int fi, .ref q4, .int tl, .ref q5, .ref q6, .int re, .int at0, .int fa, .ref q7, .ref q8, .long hsh])), (q1, .inl (cI, 43, .inl mm)), (q7, .inl (cI, 20, .inl (upd u4 zs (nI z))))] _ := hP
                                    have hD : va_D (inW [(q0, .inr (7, [.ref q1, .ref q2, .int un, .ref q3, .int fi, .ref q4, .int tl, .ref q5, .ref q6, .int re, .int at0, .int fa, .ref q7, .ref q8, .long hsh])), (q1, .inl (cI, 43, .inl mm)), (q7, .inl (cI, 20, .inl wy))]) [(q0, .inr (7, [.ref q1, .ref q2, .int un, .ref q3, .int fi, .ref q4, .int tl, .ref q5, .ref q6, .int re, .int at0, .int fa, .ref q7, .ref q8, .long hsh])), (q1, .inl (cI, 43, .inl mm)), (q7, .inl (cI, 20, .inl (upd u4 zs (nI z))))] := hD
                                    refine lv_iinc (v := nI (zt + 1)) (lv' := [(4, .int (nI (zt + 1))), (5, .int 1), (0, .ref q0), (1, .int (nI to)), (2, .int (nI z)), (3, .int (nI zs))]) hx hb dX7_ways_142 hl (k := 5) rfl (inc1 _) (by decide) rfl (fun ls hl => ?_)
                                    refine lv_goto (tgt := 57) hx hb dX7_ways_145 (by decide) ?_
                                    exact ih_57 (zt + 1) (upd u4 zs (nI z)) (by omega) (by omega) (WJ_yes hW2 h0 c3 w1 c6 hz.1) _ _ hP hD hS ls (lv_sub hl [2, 3, 4, 5, 0] rfl)
                              · skip
                                have c8 : ¬ zt = to := fun q => c_93 (by rw [q])
                                refine lv_aload_n hx hb dX7_ways_96 rfl (lv_at hl 0 rfl) ?_
                                refine va_get (D := D) (ci := 7) (v := .ref q1) (C := RX7) (T := TX7) (N := 15) hx hb hts kX7_ways_0 hown hK hP 0 rfl rfl 0 (by decide) (hts (.fieldLink RX7 7 "SightRidgeModel" "m" "[I") kX7_ways_1) (fun _ h9 => h9) rfl dX7_ways_97 ?_
                                refine lv_bipush (v := 23) hx hb dX7_ways_100 (by decide) ?_
                                refine lv_iload hx hb dX7_ways_102 (lv_at hl 4 rfl) ?_
                                refine lv_iadd hx hb dX7_ways_104 ?_
                                refine lv_topi (fun y_11 e_12 => ?_)
                                have e_12 : nI (23 + zt) = y_11 := (e_12.trans (nI_add 23 zt)).symm
                                subst e_12
                                refine va_iald hx hb hK hP 1 0 rfl rfl (i := nI (23 + zt)) (vp_in_nI (N := 43) (by omega) (by decide)) dX7_ways_105 ?_
                                rw [nI_clamp (n := 23 + zt) (by omega)]
                                refine lv_topi (fun y_13 e_14 => ?_)
                                have e_14 : M zt = y_13 := (e_14.trans (hM zt c4)).symm
                                subst e_14
                                refine lv_if_le (tgt := 123) hx hb dX7_ways_106 (by decide) (fun c_106 => ?_) (fun c_106 => ?_)
                                · skip
                                  have c9 : M zt = 0 := MH_no hmh c4 c_106
                                  have w1 : ¬ ((EX (lkB G rg bl (hT G M 0)) (reB M 0) to) zs zt = true ∧ (dst (EX (lkB G rg bl (hT G M 0)) (reB M 0) to) (fun _ => 1) n to) zt = z - 1) := fun q => by
                                    have q1 := q.1
                                    unfold EX reB at q1
                                    rw [decide_eq_false c8, decide_eq_false (fun q3 => q3.elim (fun q4 => q4 c9) (by decide)), Bool.false_or, Bool.and_false] at q1
                                    cases q1
                                  refine lv_iconst (v := 0) hx hb dX7_ways_123 (by decide) ?_
                                  refine lv_istore (lv' := [(5, .int 0), (0, .ref q0), (1, .int (nI to)), (2, .int (nI z)), (3, .int (nI zs)), (4, .int (nI zt))]) hx hb dX7_ways_124 hl (by decide) rfl (fun ls hl => ?_)
                                  refine lv_aload_n hx hb dX7_ways_126 rfl (lv_at hl 1 rfl) ?_
                                  refine va_get (D := D) (ci := 7) (v := .ref q7) (C := RX7) (T := TX7) (N := 15) hx hb hts kX7_ways_0 hown hK hP 0 rfl rfl 12 (by decide) (hts (.fieldLink RX7 32 "SightRidgeModel" "way" "[I") kX7_ways_2) (fun _ h9 => h9) rfl dX7_ways_127 ?_
                                  refine lv_iload_n hx hb dX7_ways_130 rfl (lv_at hl 4 rfl) ?_
                                  refine lv_iload hx hb dX7_ways_131 (lv_at hl 0 rfl) ?_
                                  refine lv_if_eq (tgt := 140) hx hb dX7_ways_133 (by decide) (fun c_133 => ?_) (fun c_133 => ?_)
                                  · skip
                                    refine lv_iconst (v := 0) hx hb dX7_ways_140 (by decide) ?_
                                    refine va_iast hx hb hK hP hD hS 2 0 rfl rfl (i := nI zs) (vp_in_nI (N := 20) (by omega) (by decide)) dX7_ways_141 (fun H locs hP hD hS => ?_)
                                    rw [nI_clamp (n := zs) (by omega)] at hP hD
                                    have hP : va_P D vwCl [(q0, .inr (7, [.ref q1, .ref q2, .int un, .ref q3, .int fi, .ref q4, .int tl, .ref q5, .ref q6, .int re, .int at0, .int fa, .ref q7, .ref q8, .long hsh])), (q1, .inl (cI, 43, .inl mm)), (q7, .inl (cI, 20, .inl (upd u4 zs 0)))] _ := hP
                                    have hD : va_D (inW [(q0, .inr (7, [.ref q1, .ref q2, .int un, .ref q3, .int fi, .ref q4, .int tl, .ref q5, .ref q6, .int re, .int at0, .int fa, .ref q7, .ref q8, .long hsh])), (q1, .inl (cI, 43, .inl mm)), (q7, .inl (cI, 20, .inl wy))]) [(q0, .inr (7, [.ref q1, .ref q2, .int un, .ref q3, .int fi, .ref q4, .int tl, .ref q5, .ref q6, .int re, .int at0, .int fa, .ref q7, .ref q8, .long hsh])), (q1, .inl (cI, 43, .inl mm)), (q7, .inl (cI, 20, .inl (upd u4 zs 0)))] := hD
                                    refine lv_iinc (v := nI (zt + 1)) (lv' := [(4, .int (nI (zt + 1))), (5, .int 0), (0, .ref q0), (1, .int (nI to)), (2, .int (nI z)), (3, .int (nI zs))]) hx hb dX7_ways_142 hl (k := 5) rfl (inc1 _) (by decide) rfl (fun ls hl => ?_)
                                    refine lv_goto (tgt := 57) hx hb dX7_ways_145 (by decide) ?_
                                    exact ih_57 (zt + 1) (upd u4 zs 0) (by omega) (by omega) (WJ_no hW2 c5 h0 w1 (by omega) (by omega)) _ _ hP hD hS ls (lv_sub hl [2, 3, 4, 5, 0] rfl)
                                  · skip
                                    exact absurd (by decide) c_133
                                · skip
                                  have c7 : zt = to ∨ reB M 0 zt = true := Or.inr (decide_eq_true (Or.inl (MH_yes c_106)))
                                  refine lv_aload_n hx hb dX7_ways_109 rfl (lv_at hl 0 rfl) ?_
                                  refine lv_iload_n hx hb dX7_ways_110 rfl (lv_at hl 3 rfl) ?_
                                  refine lv_iload hx hb dX7_ways_111 (lv_at hl 4 rfl) ?_
                                  refine rd_calli hP hS (va_runV (As := [.int (nI zs), .int (nI zt)]) (rest := []) ⟨hx, hb, hml, hown, hts⟩ (c_X7_inContact l D cI cB cO q0 q1 [.ref q2, .int un, .ref q3, .int fi, .ref q4, .int tl, .ref q5, .ref q6, .int re, .int at0, .int fa, .ref q7, .ref q8, .long hsh] n mm rg bl G M zs zt hm c3 c4) (cwV 2 hts gX7_ways_X7_inContact rfl rfl rfl (by decide +kernel) ⟨Nat.le_of_ble_eq_true rfl, Nat.le_of_ble_eq_true rfl⟩) (rd_preV (r := (RX7, TX7, 15)) (ci := 7) hK (hP.pick [0, 1] rfl) hN (q0 := 0) rfl rfl) rfl rfl hl.1 rfl (lv_room (Nat.le_of_ble_eq_true rfl)) dX7_ways_113 ⟨Nat.le_refl _, Nat.le_refl _⟩) (fun r_113 H locs h_113 hP hS => ?_)
                                  refine lv_if_eq (tgt := 123) hx hb dX7_ways_116 (by decide) (fun c_116 => ?_) (fun c_116 => ?_)
                                  · skip
                                    have d1 := bI_e0 (h_113.symm.trans c_116)
                                    have w1 : ¬ ((EX (lkB G rg bl (hT G M 0)) (reB M 0) to) zs zt = true ∧ (dst (EX (lkB G rg bl (hT G M 0)) (reB M 0) to) (fun _ => 1) n to) zt = z - 1) := fun q => by
                                      have q1 := q.1
                                      unfold EX at q1
                                      rw [hT_0, ← lk_con, d1, Bool.false_and] at q1
                                      cases q1
                                    refine lv_iconst (v := 0) hx hb dX7_ways_123 (by decide) ?_
                                    refine lv_istore (lv' := [(5, .int 0), (0, .ref q0), (1, .int (nI to)), (2, .int (nI z)), (3, .int (nI zs)), (4, .int (nI zt))]) hx hb dX7_ways_124 hl (by decide) rfl (fun ls hl => ?_)
                                    refine lv_aload_n hx hb dX7_ways_126 rfl (lv_at hl 1 rfl) ?_
                                    refine va_get (D := D) (ci := 7) (v := .ref q7) (C := RX7) (T := TX7) (N := 15) hx hb hts kX7_ways_0 hown hK hP 0 rfl rfl 12 (by decide) (hts (.fieldLink RX7 32 "SightRidgeModel" "way" "[I") kX7_ways_2) (fun _ h9 => h9) rfl dX7_ways_127 ?_
                                    refine lv_iload_n hx hb dX7_ways_130 rfl (lv_at hl 4 rfl) ?_
                                    refine lv_iload hx hb dX7_ways_131 (lv_at hl 0 rfl) ?_
                                    refine lv_if_eq (tgt := 140) hx hb dX7_ways_133 (by decide) (fun c_133 => ?_) (fun c_133 => ?_)
                                    · skip
                                      refine lv_iconst (v := 0) hx hb dX7_ways_140 (by decide) ?_
                                      refine va_iast hx hb hK hP hD hS 2 0 rfl rfl (i := nI zs) (vp_in_nI (N := 20) (by omega) (by decide)) dX7_ways_141 (fun H locs hP hD hS => ?_)
                                      rw [nI_clamp (n := zs) (by omega)] at hP hD
                                      have hP : va_P D vwCl [(q0, .inr (7, [.ref q1, .ref q2, .int un, .ref q3, .int fi, .ref q4, .int tl, .ref q5, .ref q6, .int re, .int at0, .int fa, .ref q7, .ref q8, .long hsh])), (q1, .inl (cI, 43, .inl mm)), (q7, .inl (cI, 20, .inl (upd u4 zs 0)))] _ := hP
                                      have hD : va_D (inW [(q0, .inr (7, [.ref q1, .ref q2, .int un, .ref q3, .int fi, .ref q4, .int tl, .ref q5, .ref q6, .int re, .int at0, .int fa, .ref q7, .ref q8, .long hsh])), (q1, .inl (cI, 43, .inl mm)), (q7, .inl (cI, 20, .inl wy))]) [(q0, .inr (7, [.ref q1, .ref q2, .int un, .ref q3, .int fi, .ref q4, .int tl, .ref q5, .ref q6, .int re, .int at0, .int fa, .ref q7, .ref q8, .long hsh])), (q1, .inl (cI, 43, .inl mm)), (q7, .inl (cI, 20, .inl (upd u4 zs 0)))] := hD
                                      refine lv_iinc (v := nI (zt + 1)) (lv' := [(4, .int (nI (zt + 1))), (5, .int 0), (0, .ref q0), (1, .int (nI to)), (2, .int (nI z)), (3, .int (nI zs))]) hx hb dX7_ways_142 hl (k := 5) rfl (inc1 _) (by decide) rfl (fun ls hl => ?_)
                                      refine lv_goto (tgt := 57) hx hb dX7_ways_145 (by decide) ?_
                                      exact ih_57 (zt + 1) (upd u4 zs 0) (by omega) (by omega) (WJ_no hW2 c5 h0 w1 (by omega) (by omega)) _ _ hP hD hS ls (lv_sub hl [2, 3, 4, 5, 0] rfl)
                                    · skip
                                      exact absurd (by decide) c_133
                                  · skip
                                    have d1 := bI_n0 (fun q => c_116 (h_113.trans q))
                                    have w1 : (EX (lkB G rg bl (hT G M 0)) (reB M 0) to) zs zt = true := by
                                      unfold EX
                                      rw [hT_0, ← lk_con, d1, Bool.true_and, Bool.or_eq_true, decide_eq_true_iff]
                                      exact c7
                                    refine lv_iconst (v := 1) hx hb dX7_ways_119 (by decide) ?_
                                    refine lv_goto (tgt := 124) hx hb dX7_ways_120 (by decide) ?_
                                    refine lv_istore (lv' := [(5, .int 1), (0, .ref q0), (1, .int (nI to)), (2, .int (nI z)), (3, .int (nI zs)), (4, .int (nI zt))]) hx hb dX7_ways_124 hl (by decide) rfl (fun ls hl => ?_)
                                    refine lv_aload_n hx hb dX7_ways_126 rfl (lv_at hl 1 rfl) ?_
                                    refine va_get (D := D) (ci := 7) (v := .ref q7) (C := RX7) (T := TX7) (N := 15) hx hb hts kX7_ways_0 hown hK hP 0 rfl rfl 12 (by decide) (hts (.fieldLink RX7 32 "SightRidgeModel" "way" "[I") kX7_ways_2) (fun _ h9 => h9) rfl dX7_ways_127 ?_
                                    refine lv_iload_n hx hb dX7_ways_130 rfl (lv_at hl 4 rfl) ?_
                                    refine lv_iload hx hb dX7_ways_131 (lv_at hl 0 rfl) ?_
                                    refine lv_if_eq (tgt := 140) hx hb dX7_ways_133 (by decide) (fun c_133 => ?_) (fun c_133 => ?_)
                                    · skip
                                      exact absurd c_133 (by decide)
                                    · skip
                                      refine lv_iload_n hx hb dX7_ways_136 rfl (lv_at hl 3 rfl) ?_
                                      refine lv_goto (tgt := 141) hx hb dX7_ways_137 (by decide) ?_
                                      refine va_iast hx hb hK hP hD hS 2 0 rfl rfl (i := nI zs) (vp_in_nI (N := 20) (by omega) (by decide)) dX7_ways_141 (fun H locs hP hD hS => ?_)
                                      rw [nI_clamp (n := zs) (by omega)] at hP hD
                                      have hP : va_P D vwCl [(q0, .inr (7, [.ref q1, .ref q2, .int un, .ref q3, .int fi, .ref q4, .int tl, .ref q5, .ref q6, .int re, .int at0, .int fa, .ref q7, .ref q8, .long hsh])), (q1, .inl (cI, 43, .inl mm)), (q7, .inl (cI, 20, .inl (upd u4 zs (nI z))))] _ := hP
                                      have hD : va_D (inW [(q0, .inr (7, [.ref q1, .ref q2, .int un, .ref q3, .int fi, .ref q4, .int tl, .ref q5, .ref q6, .int re, .int at0, .int fa, .ref q7, .ref q8, .long hsh])), (q1, .inl (cI, 43, .inl mm)), (q7, .inl (cI, 20, .inl wy))]) [(q0, .inr (7, [.ref q1, .ref q2, .int un, .ref q3, .int fi, .ref q4, .int tl, .ref q5, .ref q6, .int re, .int at0, .int fa, .ref q7, .ref q8, .long hsh])), (q1, .inl (cI, 43, .inl mm)), (q7, .inl (cI, 20, .inl (upd u4 zs (nI z))))] := hD
                                      refine lv_iinc (v := nI (zt + 1)) (lv' := [(4, .int (nI (zt + 1))), (5, .int 1), (0, .ref q0), (1, .int (nI to)), (2, .int (nI z)), (3, .int (nI zs))]) hx hb dX7_ways_142 hl (k := 5) rfl (inc1 _) (by decide) rfl (fun ls hl => ?_)
                                      refine lv_goto (tgt := 57) hx hb dX7_ways_145 (by decide) ?_
                                      exact ih_57 (zt + 1) (upd u4 zs (nI z)) (by omega) (by omega) (WJ_yes hW2 h0 c3 w1 c6 hz.1) _ _ hP hD hS ls (lv_sub hl [2, 3, 4, 5, 0] rfl)
                    exact L_57 _ 0 u3 (Nat.lt_succ_self _) (by omega) (WJ_0 hW1 c3) _ _ hP hD hS ls (lv_sub hl [1, 2, 3, 4, 0] rfl)
              exact L_44 _ 0 u2 (Nat.lt_succ_self _) (by omega) (hW) _ _ hP hD hS ls (lv_sub hl [1, 2, 3, 0] rfl)
        exact L_32 _ 2 u (Nat.lt_succ_self _) (⟨by decide, by omega⟩) (hW0) _ _ hP hD hS ls (lv_sub hl [1, 2, 0] rfl)
      · skip
        have c0 : i < 20 := ge_f (by omega) c_5
        refine lv_aload_n hx hb dX7_ways_8 rfl (lv_at hl 0 rfl) ?_
        refine va_get (D := D) (ci := 7) (v := .ref q7) (C := RX7) (T := TX7) (N := 15) hx hb hts kX7_ways_0 hown hK hP 0 rfl rfl 12 (by decide) (hts (.fieldLink RX7 32 "SightRidgeModel" "way" "[I") kX7_ways_2) (fun _ h9 => h9) rfl dX7_ways_9 ?_
        refine lv_iload_n hx hb dX7_ways_12 rfl (lv_at hl 2 rfl) ?_
        refine lv_iload_n hx hb dX7_ways_13 rfl (lv_at hl 2 rfl) ?_
        refine lv_iload_n hx hb dX7_ways_14 rfl (lv_at hl 1 rfl) ?_
        refine lv_icmp_ne (tgt := 22) hx hb dX7_ways_15 (by decide) (fun c_15 => ?_) (fun c_15 => ?_)
        · skip
          have c1 : ¬ i = to := fun z => c_15 (by rw [z])
          refine lv_iconst (v := 0) hx hb dX7_ways_22 (by decide) ?_
          refine va_iast hx hb hK hP hD hS 2 0 rfl rfl (i := nI i) (vp_in_nI (N := 20) (by omega) (by decide)) dX7_ways_23 (fun H locs hP hD hS => ?_)
          rw [nI_clamp (n := i) (by omega)] at hP hD
          have hP : va_P D vwCl [(q0, .inr (7, [.ref q1, .ref q2, .int un, .ref q3, .int fi, .ref q4, .int tl, .ref q5, .ref q6, .int re, .int at0, .int fa, .ref q7, .ref q8, .long hsh])), (q1, .inl (cI, 43, .inl mm)), (q7, .inl (cI, 20, .inl (upd u i 0)))] _ := hP
          have hD : va_D (inW [(q0, .inr (7, [.ref q1, .ref q2, .int un, .ref q3, .int fi, .ref q4, .int tl, .ref q5, .ref q6, .int re, .int at0, .int fa, .ref q7, .ref q8, .long hsh])), (q1, .inl (cI, 43, .inl mm)), (q7, .inl (cI, 20, .inl wy))]) [(q0, .inr (7, [.ref q1, .ref q2, .int un, .ref q3, .int fi, .ref q4, .int tl, .ref q5, .ref q6, .int re, .int at0, .int fa, .ref q7, .ref q8, .long hsh])), (q1, .inl (cI, 43, .inl mm)), (q7, .inl (cI, 20, .inl (upd u i 0)))] := hD
          refine lv_iinc (v := nI (i + 1)) (lv' := [(2, .int (nI (i + 1))), (0, .ref q0), (1, .int (nI to))]) hx hb dX7_ways_24 hl (k := 2) rfl (inc1 _) (by decide) rfl (fun ls hl => ?_)
          refine lv_goto (tgt := 2) hx hb dX7_ways_27 (by decide) ?_
          exact ih_2 (i + 1) (upd u i 0) (by omega) (by omega) (by first | exact up_s hu (F := fun k => nI (if k = to then 1 else 0)) (by rw [if_pos c1]; rfl) | exact up_s hu (F := fun k => nI (if k = to then 1 else 0)) (by rw [if_neg c1]; rfl) | fail) _ _ hP hD hS ls (lv_sub hl [1, 2, 0] rfl)
        · skip
          have c1 : i = to := (nI_eq (by omega) (by omega)).mp c_15
          refine lv_iconst (v := 1) hx hb dX7_ways_18 (by decide) ?_
          refine lv_goto (tgt := 23) hx hb dX7_ways_19 (by decide) ?_
          refine va_iast hx hb hK hP hD hS 2 0 rfl rfl (i := nI i) (vp_in_nI (N := 20) (by omega) (by decide)) dX7_ways_23 (fun H locs hP hD hS => ?_)
          rw [nI_clamp (n := i) (by omega)] at hP hD
          have hP : va_P D vwCl [(q0, .inr (7, [.ref q1, .ref q2, .int un, .ref q3, .int fi, .ref q4, .int tl, .ref q5, .ref q6, .int re, .int at0, .int fa, .ref q7, .ref q8, .long hsh])), (q1, .inl (cI, 43, .inl mm)), (q7, .inl (cI, 20, .inl (upd u i 1)))] _ := hP
          have hD : va_D (inW [(q0, .inr (7, [.ref q1, .ref q2, .int un, .ref q3, .int fi, .ref q4, .int tl, .ref q5, .ref q6, .int re, .int at0, .int fa, .ref q7, .ref q8, .long hsh])), (q1, .inl (cI, 43, .inl mm)), (q7, .inl (cI, 20, .inl wy))]) [(q0, .inr (7, [.ref q1, .ref q2, .int un, .ref q3, .int fi, .ref q4, .int tl, .ref q5, .ref q6, .int re, .int at0, .int fa, .ref q7, .ref q8, .long hsh])), (q1, .inl (cI, 43, .inl mm)), (q7, .inl (cI, 20, .inl (upd u i 1)))] := hD
          refine lv_iinc (v := nI (i + 1)) (lv' := [(2, .int (nI (i + 1))), (0, .ref q0), (1, .int (nI to))]) hx hb dX7_ways_24 hl (k := 2) rfl (inc1 _) (by decide) rfl (fun ls hl => ?_)
          refine lv_goto (tgt := 2) hx hb dX7_ways_27 (by decide) ?_
          exact ih_2 (i + 1) (upd u i 1) (by omega) (by omega) (by first | exact up_s hu (F := fun k => nI (if k = to then 1 else 0)) (by rw [if_pos c1]; rfl) | exact up_s hu (F := fun k => nI (if k = to then 1 else 0)) (by rw [if_neg c1]; rfl) | fail) _ _ hP hD hS ls (lv_sub hl [1, 2, 0] rfl)
  exact L_2 _ 0 wy (Nat.lt_succ_self _) (by omega) (up_0) _ _ hP hD hS ls (lv_sub hl [1, 2, 0] rfl)
theorem kX7_isChained_0 : ∀ w ∈ wsX70, w ∈ wsX7_isChained := by decide +kernel
theorem kX7_isChained_1 : (.fieldLink RX7 32 "SightRidgeModel" "way" "[I" : Cond) ∈ wsX7_isChained := by decide +kernel
set_option maxHeartbeats 4000000 in
set_option maxRecDepth 100000 in
/-- isChained(from, to) -/
theorem c_X7_isChained (l : Launch) (D : va_G) (cI cB cO : ClassId) (q0 q1 q2 q3 q4 q5 q6 q7 q8 : Nat) (mm pp fd tx rgd rmd wy cvr : Nat → Int32) (un fi tl re at0 fa : Int32) (hsh : Int64) (n : Nat) (rg bl : Int32) (G M : Nat → Int32) (a to : Nat) (hm : MOK n mm rg bl G M) (hmh : MH n M) (ha : a < n) (hto : to < n) : Met l yX7_isChained wsX7_isChained (rmD 6) (wrPc D (tyL cI cB cO) [.ref q0, .int (nI a), .int (nI to)] [(q0, .inr (7, [.ref q1, .ref q2, .int un, .ref q3, .int fi, .ref q4, .int tl, .ref q5, .ref q6, .int re, .int at0, .int fa, .ref q7, .ref q8, .long hsh])), (q1, .inl (cI, 43, .inl mm)), (q7, .inl (cI, 20, .inl wy))]) (wrQi D [(q0, .inr (7, [.ref q1, .ref q2, .int un, .ref q3, .int fi, .ref q4, .int tl, .ref q5, .ref q6, .int re, .int at0, .int fa, .ref q7, .ref q8, .long hsh])), (q1, .inl (cI, 43, .inl mm)), (q7, .inl (cI, 20, .inl wy))] (fun (r : Int32) (u : Nat → Int32) => r = bI (joB (lkB G rg bl (hT G M 0)) (reB M 0) n a to)) (fun (u : Nat → Int32) => [(q0, .inr (7, [.ref q1, .ref q2, .int un, .ref q3, .int fi, .ref q4, .int tl, .ref q5, .ref q6, .int re, .int at0, .int fa, .ref q7, .ref q8, .long hsh])), (q1, .inl (cI, 43, .inl mm)), (q7, .inl (cI, 20, .inl u))])) 0 0 (inW [(q0, .inr (7, [.ref q1, .ref q2, .int un, .ref q3, .int fi, .ref q4, .int tl, .ref q5, .ref q6, .int re, .int at0, .int fa, .ref q7, .ref q8, .long hsh])), (q1, .inl (cI, 43, .inl mm)), (q7, .inl (cI, 20, .inl wy))]) := by
  refine Met.ofW (cc := cX7_isChained) (maxL := 3) (ret := (some .boolean)) (by decide) rfl ?_
  intro p e s m args below meth c s₁ B hml hv
  obtain ⟨rfl, hP, hK, hN, hD⟩ := hv
  have hx := B.exec
  have hb := B.bytes
  have hr := B.returns
  have hts := atoms_spec (ws := wsX7_isChained) B.pre
  have hown : s.vm.findClass RX7 = some m.cls := findClass_of_methodNamed B.named
  have hlocks := B.notSynchronized
  have hS : va_S (inW [(q0, .inr (7, [.ref q1, .ref q2, .int un, .ref q3, .int fi, .ref q4, .int tl, .ref q5, .ref q6, .int re, .int at0, .int fa, .ref q7, .ref q8, .long hsh])), (q1, .inl (cI, 43, .inl mm)), (q7, .inl (cI, 20, .inl wy))]) s.heap s.heap [] := va_S.rf
  have hD : va_D (inW [(q0, .inr (7, [.ref q1, .ref q2, .int un, .ref q3, .int fi, .ref q4, .int tl, .ref q5, .ref q6, .int re, .int at0, .int fa, .ref q7, .ref q8, .long hsh])), (q1, .inl (cI, 43, .inl mm)), (q7, .inl (cI, 20, .inl wy))]) [(q0, .inr (7, [.ref q1, .ref q2, .int un, .ref q3, .int fi, .ref q4, .int tl, .ref q5, .ref q6, .int re, .int at0, .int fa, .ref q7, .ref q8, .long hsh])), (q1, .inl (cI, 43, .inl mm)), (q7, .inl (cI, 20, .inl wy))] := inW_self hD
  have hl := lv_entry ([.ref q0, .int (nI a), .int (nI to)]) (n := 3) (Nat.le_of_ble_eq_true rfl)
  rw [lg_entry_eq]
  generalize (lg_sl ([.ref q0, .int (nI a), .int (nI to)]) ++ List.replicate (3 - (lg_sl ([.ref q0, .int (nI a), .int (nI to)])).length) Slot.unset).toArray = ls at hl ⊢
  have hl : lv_has ls 3 [(0, .ref q0), (1, .int (nI a)), (2, .int (nI to))] := hl
  obtain ⟨hn, hn1, hm0, hm1, hm2, hG, hM⟩ := id hm
  refine lv_aload_n hx hb dX7_isChained_0 rfl (lv_at hl 0 rfl) ?_
  refine lv_iload_n hx hb dX7_isChained_1 rfl (lv_at hl 2 rfl) ?_
  refine wv_callv (wc := [(q0, .inr (7, [.ref q1, .ref q2, .int un, .ref q3, .int fi, .ref q4, .int tl, .ref q5, .ref q6, .int re, .int at0, .int fa, .ref q7, .ref q8, .long hsh])), (q1, .inl (cI, 43, .inl mm)), (q7, .inl (cI, 20, .inl wy))]) hP hD hS [0, 1, 2] rfl rfl (va_runV (As := [.int (nI to)]) (rest := []) ⟨hx, hb, hml, hown, hts⟩ (c_X7_ways l D cI cB cO q0 q1 q2 q3 q4 q5 q6 q7 q8 mm pp fd tx rgd rmd wy cvr un fi tl re at0 fa hsh n rg bl G M to hm hmh hto) (cwV 1 hts gX7_isChained_X7_ways rfl rfl rfl (by decide +kernel) ⟨Nat.le_of_ble_eq_true rfl, Nat.le_of_ble_eq_true rfl⟩) (wr_preV (wc := [(q0, .inr (7, [.ref q1, .ref q2, .int un, .ref q3, .int fi, .ref q4, .int tl, .ref q5, .ref q6, .int re, .int at0, .int fa, .ref q7, .ref q8, .long hsh])), (q1, .inl (cI, 43, .inl mm)), (q7, .inl (cI, 20, .inl wy))]) (r := (RX7, TX7, 15)) (ci := 7) hK (hP.pick [0, 1, 2] rfl) hN (wr_dsub hD [0, 1, 2] rfl rfl) (q0 := 0) rfl rfl) rfl rfl hl.1 rfl (lv_room (Nat.le_of_ble_eq_true rfl)) dX7_isChained_2 ⟨Nat.le_refl _, Nat.le_refl _⟩) (fun u => [(q0, .inr (7, [.ref q1, .ref q2, .int un, .ref q3, .int fi, .ref q4, .int tl, .ref q5, .ref q6, .int re, .int at0, .int fa, .ref q7, .ref q8, .long hsh])), (q1, .inl (cI, 43, .inl mm)), (q7, .inl (cI, 20, .inl u))]) (fun _ => rfl) (fun _ => rfl) (fun u H locs h_2 hP hD hS => ?_)
  have hdl := dst1_le (E := EX (lkB G rg bl (hT G M 0)) (reB M 0) to) (n := n) (to := to) a
  have hP : va_P D vwCl [(q0, .inr (7, [.ref q1, .ref q2, .int un, .ref q3, .int fi, .ref q4, .int tl, .ref q5, .ref q6, .int re, .int at0, .int fa, .ref q7, .ref q8, .long hsh])), (q1, .inl (cI, 43, .inl mm)), (q7, .inl (cI, 20, .inl u))] _ := hP
  have hD : va_D (inW [(q0, .inr (7, [.ref q1, .ref q2, .int un, .ref q3, .int fi, .ref q4, .int tl, .ref q5, .ref q6, .int re, .int at0, .int fa, .ref q7, .ref q8, .long hsh])), (q1, .inl (cI, 43, .inl mm)), (q7, .inl (cI, 20, .inl wy))]) [(q0, .inr (7, [.ref q1, .ref q2, .int un, .ref q3, .int fi, .ref q4, .int tl, .ref q5, .ref q6, .int re, .int at0, .int fa, .ref q7, .ref q8, .long hsh])), (q1, .inl (cI, 43, .inl mm)), (q7, .inl (cI, 20, .inl u))] := hD
  refine lv_aload_n hx hb dX7_isChained_5 rfl (lv_at hl 0 rfl) ?_
  refine va_get (D := D) (ci := 7) (v := .ref q7) (C := RX7) (T := TX7) (N := 15) hx hb hts kX7_isChained_0 hown hK hP 0 rfl rfl 12 (by decide) (hts (.fieldLink RX7 32 "SightRidgeModel" "way" "[I") kX7_isChained_1) (fun _ h9 => h9) rfl dX7_isChained_6 ?_
  refine lv_iload_n hx hb dX7_isChained_9 rfl (lv_at hl 1 rfl) ?_
  refine va_iald hx hb hK hP 2 0 rfl rfl (i := nI a) (vp_in_nI (N := 20) (by omega) (by decide)) dX7_isChained_10 ?_
  rw [nI_clamp (n := a) (by omega)]
  refine lv_topi (fun y_1 e_2 => ?_)
  have e_2 : nI ((dst (EX (lkB G rg bl (hT G M 0)) (reB M 0) to) (fun _ => 1) n to) a) = y_1 := (e_2.trans (h_2 a ha)).symm
  subst e_2
  refine lv_if_le (tgt := 18) hx hb dX7_isChained_11 (by decide) (fun c_11 => ?_) (fun c_11 => ?_)
  · skip
    have c1 : (dst (EX (lkB G rg bl (hT G M 0)) (reB M 0) to) (fun _ => 1) n to) a = 0 := by have := (nI_leI (b := 0) (by omega) (by decide)).mp c_11; omega
    refine lv_iconst (v := 0) hx hb dX7_isChained_18 (by decide) ?_
    exact W.zret (v := 0) hx hb hr (rfl) (fun tS htS hWS => ⟨⟨0, u, rfl, (by unfold joB; first | exact bI_t (decide_eq_true c1) | exact bI_f (decide_eq_false (fun q => q c1)) | fail), retP htS hP⟩, hS.F htS⟩) hS.2.2 dX7_isChained_19
  · skip
    have c1 : (dst (EX (lkB G rg bl (hT G M 0)) (reB M 0) to) (fun _ => 1) n to) a ≠ 0 := fun q => c_11 (by rw [q]; decide)
    refine lv_iconst (v := 1) hx hb dX7_isChained_14 (by decide) ?_
    refine lv_goto (tgt := 19) hx hb dX7_isChained_15 (by decide) ?_
    exact W.zret (v := 1) hx hb hr (rfl) (fun tS htS hWS => ⟨⟨1, u, rfl, (by unfold joB; first | exact bI_t (decide_eq_true c1) | exact bI_f (decide_eq_false (fun q => q c1)) | fail), retP htS hP⟩, hS.F htS⟩) hS.2.2 dX7_isChained_19
