/-! WAYS: their steps -/
section STx
variable {L nC nS : Nat} {m m0 m1 m2 : Nat → Nat → Int32} {z : Nat → Nat}
/-- the least corner with p; -1 without one -/
noncomputable def mi (p : Nat → Prop) : Int32 := (fun i => @ite _ (i < 24) (Nat.decLt _ _) (nI i) (-1)) (fi p 24)
theorem mi_y {p : Nat → Prop} {i : Nat} (hi : i < 24) (hp : p i) (hno : ∀ j, j < i → ¬ p j) : mi p = nI i := by
  unfold mi
  rw [fi_is hi hp hno]
  exact if_pos hi
theorem mi_n {p : Nat → Prop} (hno : ∀ j, j < 24 → ¬ p j) : mi p = -1 := by
  unfold mi
  rw [fi_none hno]
  exact if_neg (Nat.lt_irrefl 24)
theorem mi_c {p q : Nat → Prop} (h : ∀ i, i < 24 → (p i ↔ q i)) : mi p = mi q := by
  unfold mi
  rw [fi_c h]
theorem mi_cases (p : Nat → Prop) : (mi p = -1 ∧ ∀ j, j < 24 → ¬ p j) ∨ ∃ i, i < 24 ∧ p i ∧ (∀ j, j < i → ¬ p j) ∧ mi p = nI i := by
  by_cases h : fi p 24 < 24
  · right
    have hy := fi_yes p 24 h
    have hn := fun j hj => fi_no p 24 j hj
    exact ⟨fi p 24, h, hy, hn, mi_y h hy hn⟩
  · left
    have h2 : ∀ j, j < 24 → ¬ p j := fun j hj => fi_no p 24 j (by have := fi_le p 24; omega)
    exact ⟨mi_n h2, h2⟩
theorem mi_add {p : Nat → Prop} {n : Nat} (hn : n < 24) : mi (fun i => p i ∨ i = n) = if mi p < 0 ∨ nI n < mi p then nI n else mi p := by
  rcases mi_cases p with ⟨h1, h2⟩ | ⟨i, h1, h2, h3, h4⟩
  · rw [h1, if_pos (Or.inl (by decide))]
    exact mi_y hn (Or.inr rfl) (fun j hj q => q.elim (h2 j (by omega)) (fun e => by omega))
  · rw [h4]
    by_cases hl : n < i
    · rw [if_pos (Or.inr (nI_lt hl (by omega)))]
      exact mi_y hn (Or.inr rfl) (fun j hj q => q.elim (h3 j (by omega)) (fun e => by omega))
    · rw [if_neg (fun q => q.elim (nI_pos (by omega)) (fun q => by rw [nI_ltI (by omega) (by omega)] at q; omega))]
      exact mi_y h1 (Or.inl h2) (fun j hj q => q.elim (h3 j hj) (fun e => by omega))
/-- the way may go on to n over one of the first s streets -/
def CS (G : MP) (t c s n : Nat) : Prop := ∃ s', s' < s ∧ EG G s' c n ∧ DD G t n + cs G s' = DD G t c
theorem CS_n {G : MP} {t c s : Nat} (h : ∀ n, ¬ (EG G s c n ∧ DD G t n + cs G s = DD G t c)) : mi (CS G t c (s + 1)) = mi (CS G t c s) := mi_c (fun n _ => ⟨fun ⟨s', h1, h2⟩ => by
  rcases Nat.lt_succ_iff_lt_or_eq.mp h1 with q | q
  · exact ⟨s', q, h2⟩
  · subst q; exact absurd h2 (h n), fun ⟨s', h1, h2⟩ => ⟨s', by omega, h2⟩⟩)
theorem CS_y {G : MP} {t c s n nC : Nat} (g : GM G nC) (h : EG G s c n ∧ DD G t n + cs G s = DD G t c) (hcn : c ≠ n) : mi (CS G t c (s + 1)) = if mi (CS G t c s) < 0 ∨ nI n < mi (CS G t c s) then nI n else mi (CS G t c s) := by
  have hs := g.2 s h.1.1
  have hn : n < 24 := by
    have := g.1
    rcases h.1.2.2 with ⟨q1, q2⟩ | ⟨q1, q2⟩ <;> omega
  rw [← mi_add hn]
  refine mi_c (fun i _ => ⟨fun ⟨s', h1, h2⟩ => ?_, fun q => ?_⟩)
  · rcases Nat.lt_succ_iff_lt_or_eq.mp h1 with q | q
    · exact Or.inl ⟨s', q, h2⟩
    · subst q
      right
      have e1 := h2.1.2.2
      have e2 := h.1.2.2
      rcases e1 with ⟨q1, q2⟩ | ⟨q1, q2⟩ <;> rcases e2 with ⟨q3, q4⟩ | ⟨q3, q4⟩ <;> omega
  · rcases q with ⟨s', h1, h2⟩ | rfl
    · exact ⟨s', by omega, h2⟩
    · exact ⟨s, Nat.lt_succ_self s, h⟩
theorem CS_all {G : MP} {t c : Nat} : mi (CS G t c (gN G)) = mi (fun n => ∃ s, EG G s c n ∧ DD G t n + cs G s = DD G t c) := mi_c (fun n _ => ⟨fun ⟨s, _, h⟩ => ⟨s, h⟩, fun ⟨s, h⟩ => ⟨s, h.1.1, h⟩⟩)
theorem mi_nx {G : MP} {t c nC : Nat} (g : GM G nC) (h : RC G t c) (hc : c ≠ t) : mi (fun n => ∃ s, EG G s c n ∧ DD G t n + cs G s = DD G t c) = nI (nx G t c) := by
  have := nx_ok g h hc
  unfold mi
  have h1 : fi (fun n => ∃ s, EG G s c n ∧ DD G t n + cs G s = DD G t c) 24 = nx G t c := rfl
  rw [h1]
  exact if_pos (by have := g.1; omega)
/-- the corners of the way from a -/
noncomputable def pt (G : MP) (t a : Nat) : Nat → Nat
  | 0 => a
  | i + 1 => nx G t (pt G t a i)
noncomputable def ln (G : MP) (t a : Nat) : Nat := fi (fun i => pt G t a i = t) 24
theorem pt_ok {G : MP} {t a nC : Nat} (g : GM G nC) (h : RC G t a) (ha : a < nC) : ∀ i, (∀ j, j < i → pt G t a j ≠ t) → RC G t (pt G t a i) ∧ pt G t a i < nC ∧ rk G t nC (pt G t a i) + i ≤ rk G t nC a
  | 0, _ => ⟨h, ha, Nat.le_refl _⟩
  | i + 1, hno => by
    obtain ⟨h1, h2, h3⟩ := pt_ok g h ha i (fun j hj => hno j (by omega))
    obtain ⟨q1, q2, q3, q4⟩ := nx_ok g h1 (hno i (Nat.lt_succ_self i))
    refine ⟨q3, q1, ?_⟩
    show rk G t nC (nx G t (pt G t a i)) + (i + 1) ≤ _
    omega
theorem ln_lt {G : MP} {t a nC : Nat} (g : GM G nC) (h : RC G t a) (ha : a < nC) : ln G t a < 24 := by
  apply Nat.lt_of_not_le
  intro hle
  have hno : ∀ j, j < 24 → pt G t a j ≠ t := fun j hj => fi_no (fun i => pt G t a i = t) 24 j (Nat.lt_of_lt_of_le hj hle)
  have h1 := (pt_ok g h ha 24 hno).2.2
  have h2 := rk_le (t := t) g ha
  omega
theorem ln_t {G : MP} {t a nC : Nat} (g : GM G nC) (h : RC G t a) (ha : a < nC) : pt G t a (ln G t a) = t := fi_yes (fun i => pt G t a i = t) 24 (ln_lt g h ha)
theorem ln_no {G : MP} {t a : Nat} : ∀ j, j < ln G t a → pt G t a j ≠ t := fun j hj => fi_no (fun i => pt G t a i = t) 24 j hj
set_option maxRecDepth 20000 in
set_option maxHeartbeats 2000000 in
theorem lq_leastNextA (hS : m 2 3 = nI nS) (hS6 : nS ≤ 60) (hg : GS m nC nS) (hC : nC ≤ 24) (hn : m 1 0 = nI nC) {u : Int32} {t c : Nat} (hX : CX m nS u t (fun c => DD (GG m nS u) t c) m1) (hc : c < nC) {s : Nat} (hs : s < nS) (ih : ∀ l4 l5 l6 l7 : Option Value, hk_WP MX0_leastNext 2 0 0 0 0 4 [some (.ref 1), some (.int (nI c)), some (.int (mi (CS (GG m nS u) t c (s + 1)))), some (.int (nI (s + 1))), l4, l5, l6, l7] [] (hk_h L m1) (fun r h' => r = some (.int (mi (fun n => ∃ s, EG (GG m nS u) s c n ∧ DD (GG m nS u) t n + cs (GG m nS u) s = DD (GG m nS u) t c))) ∧ h' = hk_h L m1)) (hop : ¬ opn m s u) (l4 l5 l6 l7 : Option Value) : hk_WP MX0_leastNext 2 0 0 0 0 15 [some (.ref 1), some (.int (nI c)), some (.int (mi (CS (GG m nS u) t c s))), some (.int (nI s)), l4, l5, l6, l7] [] (hk_h L m1) (fun r h' => r = some (.int (mi (fun n => ∃ s, EG (GG m nS u) s c n ∧ DD (GG m nS u) t n + cs (GG m nS u) s = DD (GG m nS u) t c))) ∧ h' = hk_h L m1) := by
  have g := GS.gm hg u hC
  obtain ⟨h1, h2, h3, h4, h5⟩ := id hX
  have e23 : m1 2 3 = nI nS := by rw [h1.1 2 (by decide) (by decide)]; exact hS
  have e10 : m1 1 0 = nI nC := by rw [h1.1 1 (by decide) (by decide)]; exact hn
  have hg1 := h1.gs hg
  obtain ⟨_, _, _, _, f5, f6, f7, f8, _⟩ := GS.g hg u hs hC
  have q0 : m1 3 (s * 13 + 0) = nI (gA (GG m nS u) s) := (h1.2 _ (by omega)).trans f6
  have q1 : m1 3 (s * 13 + 1) = nI (gB (GG m nS u) s) := (h1.2 _ (by omega)).trans f7
  have q2 : m1 3 (s * 13 + 2) = nI (cs (GG m nS u) s) := (h1.2 _ (by omega)).trans f8
  have hcs : cs (GG m nS u) s ≤ 200001 := by unfold cs; omega
  have dA := DD_max (t := t) (c := gA (GG m nS u) s) g
  have dB := DD_max (t := t) (c := gB (GG m nS u) s) g
  have dC := DD_max (t := t) (c := c) g
  have uA : m1 6 (gA (GG m nS u) s) = nI (DD (GG m nS u) t (gA (GG m nS u) s)) := h2 _ (Nat.lt_of_lt_of_le f5.1 hC)
  have uB : m1 6 (gB (GG m nS u) s) = nI (DD (GG m nS u) t (gB (GG m nS u) s)) := h2 _ (Nat.lt_of_lt_of_le f5.2.1 hC)
  have uC : m1 6 c = nI (DD (GG m nS u) t c) := h2 _ (Nat.lt_of_lt_of_le hc hC)
  have lA : DD (GG m nS u) t (gA (GG m nS u) s) + cs (GG m nS u) s < 2 ^ 31 := by omega
  have lB : DD (GG m nS u) t (gB (GG m nS u) s) + cs (GG m nS u) s < 2 ^ 31 := by omega
  have lC : DD (GG m nS u) t c < 2 ^ 31 := by omega
  have lsA : gA (GG m nS u) s < 2 ^ 31 := by omega
  have lsB : gB (GG m nS u) s < 2 ^ 31 := by omega
  have lc : c < 2 ^ 31 := by omega
  clear h2 h3 h4 h5 dA dB dC hcs
  refine hk_aload_n dX0_leastNext_15 rfl rfl ?_
  refine gfX0_16 rfl dX0_leastNext_16 (hk_lt (by decide)) rfl rfl ?_
  refine hk_iload_n dX0_leastNext_19 rfl rfl ?_
  refine hk_iconst (v := 0) dX0_leastNext_20 (by decide) ?_
  refine ivX0_47 rfl (ct_geti (i := s) tb2 hS6 e23 rfl hs (show 0 < 13 by omega)) dX0_leastNext_21 (hk_lt (by decide)) rfl rfl rfl (by decide) ⟨by decide, by decide⟩ (Nat.le_of_ble_eq_true rfl) (hk_kd ?_)
  rw [q0]
  refine hk_istore dX0_leastNext_24 (by decide) rfl ?_
  refine hk_aload_n dX0_leastNext_26 rfl rfl ?_
  refine gfX0_16 rfl dX0_leastNext_27 (hk_lt (by decide)) rfl rfl ?_
  refine hk_iload_n dX0_leastNext_30 rfl rfl ?_
  refine hk_iconst (v := 1) dX0_leastNext_31 (by decide) ?_
  refine ivX0_47 rfl (ct_geti (i := s) tb2 hS6 e23 rfl hs (show 1 < 13 by omega)) dX0_leastNext_32 (hk_lt (by decide)) rfl rfl rfl (by decide) ⟨by decide, by decide⟩ (Nat.le_of_ble_eq_true rfl) (hk_kd ?_)
  rw [q1]
  refine hk_istore dX0_leastNext_35 (by decide) rfl ?_
  refine hk_iload dX0_leastNext_37 rfl ?_
  refine hk_iload_n dX0_leastNext_39 rfl rfl ?_
  refine hk_icmp_ne (tgt := 48) dX0_leastNext_40 (by decide) (fun c40 => ?_) (fun c40 => ?_)
  · refine hk_iload dX0_leastNext_48 rfl ?_
    refine hk_istore dX0_leastNext_50 (by decide) rfl ?_
    refine hk_aload_n dX0_leastNext_52 rfl rfl ?_
    refine hk_iload_n dX0_leastNext_53 rfl rfl ?_
    refine ivX0_72 rfl (ct_isOpen e23 hS6 hg1 hC hs (hX.2.2.1 s hs)) dX0_leastNext_54 (hk_lt (by decide)) rfl rfl rfl (by decide) ⟨by decide, by decide⟩ (Nat.le_of_ble_eq_true rfl) (hk_kd ?_)
    refine hk_if_eq (tgt := 100) dX0_leastNext_57 (by decide) (fun _ => ?_) (fun c57 => absurd (bI_f hop) c57)
    have hno : ∀ n, ¬ (EG (GG m nS u) s c n ∧ DD (GG m nS u) t n + cs (GG m nS u) s = DD (GG m nS u) t c) := fun n q => hop q.1.2.1
    rw [CS_n hno] at ih
    refine hk_iconst (v := 0) dX0_leastNext_100 (by decide) ?_
    refine hk_istore dX0_leastNext_101 (by decide) rfl ?_
    refine hk_iload dX0_leastNext_103 rfl ?_
    refine hk_if_eq (tgt := 121) dX0_leastNext_105 (by decide) (fun _ => ?_) (fun c105 => absurd (by decide) c105)
    refine hk_iinc (v := nI (s + 1)) dX0_leastNext_121 rfl (nI_1 s) (by decide) rfl ?_
    refine hk_goto (tgt := 4) dX0_leastNext_124 (by decide) ?_
    exact ih _ _ _ _
  · refine hk_iload dX0_leastNext_43 rfl ?_
    refine hk_goto (tgt := 50) dX0_leastNext_45 (by decide) ?_
    refine hk_istore dX0_leastNext_50 (by decide) rfl ?_
    refine hk_aload_n dX0_leastNext_52 rfl rfl ?_
    refine hk_iload_n dX0_leastNext_53 rfl rfl ?_
    refine ivX0_72 rfl (ct_isOpen e23 hS6 hg1 hC hs (hX.2.2.1 s hs)) dX0_leastNext_54 (hk_lt (by decide)) rfl rfl rfl (by decide) ⟨by decide, by decide⟩ (Nat.le_of_ble_eq_true rfl) (hk_kd ?_)
    refine hk_if_eq (tgt := 100) dX0_leastNext_57 (by decide) (fun _ => ?_) (fun c57 => absurd (bI_f hop) c57)
    have hno : ∀ n, ¬ (EG (GG m nS u) s c n ∧ DD (GG m nS u) t n + cs (GG m nS u) s = DD (GG m nS u) t c) := fun n q => hop q.1.2.1
    rw [CS_n hno] at ih
    refine hk_iconst (v := 0) dX0_leastNext_100 (by decide) ?_
    refine hk_istore dX0_leastNext_101 (by decide) rfl ?_
    refine hk_iload dX0_leastNext_103 rfl ?_
    refine hk_if_eq (tgt := 121) dX0_leastNext_105 (by decide) (fun _ => ?_) (fun c105 => absurd (by decide) c105)
    refine hk_iinc (v := nI (s + 1)) dX0_leastNext_121 rfl (nI_1 s) (by decide) rfl ?_
    refine hk_goto (tgt := 4) dX0_leastNext_124 (by decide) ?_
    exact ih _ _ _ _
set_option maxRecDepth 20000 in
set_option maxHeartbeats 2000000 in
theorem lq_leastNextB (hS : m 2 3 = nI nS) (hS6 : nS ≤ 60) (hg : GS m nC nS) (hC : nC ≤ 24) (hn : m 1 0 = nI nC) {u : Int32} {t c : Nat} (hX : CX m nS u t (fun c => DD (GG m nS u) t c) m1) (hc : c < nC) {s : Nat} (hs : s < nS) (ih : ∀ l4 l5 l6 l7 : Option Value, hk_WP MX0_leastNext 2 0 0 0 0 4 [some (.ref 1), some (.int (nI c)), some (.int (mi (CS (GG m nS u) t c (s + 1)))), some (.int (nI (s + 1))), l4, l5, l6, l7] [] (hk_h L m1) (fun r h' => r = some (.int (mi (fun n => ∃ s, EG (GG m nS u) s c n ∧ DD (GG m nS u) t n + cs (GG m nS u) s = DD (GG m nS u) t c))) ∧ h' = hk_h L m1)) (hop : opn m s u) (hac : gA (GG m nS u) s = c) (hne : c ≠ gB (GG m nS u) s) (l4 l5 l6 l7 : Option Value) : hk_WP MX0_leastNext 2 0 0 0 0 15 [some (.ref 1), some (.int (nI c)), some (.int (mi (CS (GG m nS u) t c s))), some (.int (nI s)), l4, l5, l6, l7] [] (hk_h L m1) (fun r h' => r = some (.int (mi (fun n => ∃ s, EG (GG m nS u) s c n ∧ DD (GG m nS u) t n + cs (GG m nS u) s = DD (GG m nS u) t c))) ∧ h' = hk_h L m1) := by
  have g := GS.gm hg u hC
  obtain ⟨h1, h2, h3, h4, h5⟩ := id hX
  have e23 : m1 2 3 = nI nS := by rw [h1.1 2 (by decide) (by decide)]; exact hS
  have e10 : m1 1 0 = nI nC := by rw [h1.1 1 (by decide) (by decide)]; exact hn
  have hg1 := h1.gs hg
  obtain ⟨_, _, _, _, f5, f6, f7, f8, _⟩ := GS.g hg u hs hC
  have q0 : m1 3 (s * 13 + 0) = nI (gA (GG m nS u) s) := (h1.2 _ (by omega)).trans f6
  have q1 : m1 3 (s * 13 + 1) = nI (gB (GG m nS u) s) := (h1.2 _ (by omega)).trans f7
  have q2 : m1 3 (s * 13 + 2) = nI (cs (GG m nS u) s) := (h1.2 _ (by omega)).trans f8
  have hcs : cs (GG m nS u) s ≤ 200001 := by unfold cs; omega
  have dA := DD_max (t := t) (c := gA (GG m nS u) s) g
  have dB := DD_max (t := t) (c := gB (GG m nS u) s) g
  have dC := DD_max (t := t) (c := c) g
  have uA : m1 6 (gA (GG m nS u) s) = nI (DD (GG m nS u) t (gA (GG m nS u) s)) := h2 _ (Nat.lt_of_lt_of_le f5.1 hC)
  have uB : m1 6 (gB (GG m nS u) s) = nI (DD (GG m nS u) t (gB (GG m nS u) s)) := h2 _ (Nat.lt_of_lt_of_le f5.2.1 hC)
  have uC : m1 6 c = nI (DD (GG m nS u) t c) := h2 _ (Nat.lt_of_lt_of_le hc hC)
  have lA : DD (GG m nS u) t (gA (GG m nS u) s) + cs (GG m nS u) s < 2 ^ 31 := by omega
  have lB : DD (GG m nS u) t (gB (GG m nS u) s) + cs (GG m nS u) s < 2 ^ 31 := by omega
  have lC : DD (GG m nS u) t c < 2 ^ 31 := by omega
  have lsA : gA (GG m nS u) s < 2 ^ 31 := by omega
  have lsB : gB (GG m nS u) s < 2 ^ 31 := by omega
  have lc : c < 2 ^ 31 := by omega
  clear h2 h3 h4 h5 dA dB dC hcs
  refine hk_aload_n dX0_leastNext_15 rfl rfl ?_
  refine gfX0_16 rfl dX0_leastNext_16 (hk_lt (by decide)) rfl rfl ?_
  refine hk_iload_n dX0_leastNext_19 rfl rfl ?_
  refine hk_iconst (v := 0) dX0_leastNext_20 (by decide) ?_
  refine ivX0_47 rfl (ct_geti (i := s) tb2 hS6 e23 rfl hs (show 0 < 13 by omega)) dX0_leastNext_21 (hk_lt (by decide)) rfl rfl rfl (by decide) ⟨by decide, by decide⟩ (Nat.le_of_ble_eq_true rfl) (hk_kd ?_)
  rw [q0]
  refine hk_istore dX0_leastNext_24 (by decide) rfl ?_
  refine hk_aload_n dX0_leastNext_26 rfl rfl ?_
  refine gfX0_16 rfl dX0_leastNext_27 (hk_lt (by decide)) rfl rfl ?_
  refine hk_iload_n dX0_leastNext_30 rfl rfl ?_
  refine hk_iconst (v := 1) dX0_leastNext_31 (by decide) ?_
  refine ivX0_47 rfl (ct_geti (i := s) tb2 hS6 e23 rfl hs (show 1 < 13 by omega)) dX0_leastNext_32 (hk_lt (by decide)) rfl rfl rfl (by decide) ⟨by decide, by decide⟩ (Nat.le_of_ble_eq_true rfl) (hk_kd ?_)
  rw [q1]
  refine hk_istore dX0_leastNext_35 (by decide) rfl ?_
  refine hk_iload dX0_leastNext_37 rfl ?_
  refine hk_iload_n dX0_leastNext_39 rfl rfl ?_
  refine hk_icmp_ne (tgt := 48) dX0_leastNext_40 (by decide) (fun c40 => absurd (by rw [hac]) c40) (fun _ => ?_)
  refine hk_iload dX0_leastNext_43 rfl ?_
  refine hk_goto (tgt := 50) dX0_leastNext_45 (by decide) ?_
  refine hk_istore dX0_leastNext_50 (by decide) rfl ?_
  refine hk_aload_n dX0_leastNext_52 rfl rfl ?_
  refine hk_iload_n dX0_leastNext_53 rfl rfl ?_
  refine ivX0_72 rfl (ct_isOpen e23 hS6 hg1 hC hs (hX.2.2.1 s hs)) dX0_leastNext_54 (hk_lt (by decide)) rfl rfl rfl (by decide) ⟨by decide, by decide⟩ (Nat.le_of_ble_eq_true rfl) (hk_kd ?_)
  refine hk_if_eq (tgt := 100) dX0_leastNext_57 (by decide) (fun c57 => absurd c57 (fun e => bI_0.mp e hop)) (fun _ => ?_)
  refine hk_iload dX0_leastNext_60 rfl ?_
  refine hk_iload_n dX0_leastNext_62 rfl rfl ?_
  refine hk_icmp_eq (tgt := 72) dX0_leastNext_63 (by decide) (fun _ => ?_) (fun c63 => absurd (by rw [hac]) c63)
  refine hk_aload_n dX0_leastNext_72 rfl rfl ?_
  refine hk_iload dX0_leastNext_73 rfl ?_
  refine ivX0_75 rfl (ct_costFrom e10 hC f5.2.1) dX0_leastNext_75 (hk_lt (by decide)) rfl rfl rfl (by decide) ⟨by decide, by decide⟩ (Nat.le_of_ble_eq_true rfl) (hk_kd ?_)
  rw [uB]
  refine hk_aload_n dX0_leastNext_78 rfl rfl ?_
  refine gfX0_16 rfl dX0_leastNext_79 (hk_lt (by decide)) rfl rfl ?_
  refine hk_iload_n dX0_leastNext_82 rfl rfl ?_
  refine hk_iconst (v := 2) dX0_leastNext_83 (by decide) ?_
  refine ivX0_47 rfl (ct_geti (i := s) tb2 hS6 e23 rfl hs (show 2 < 13 by omega)) dX0_leastNext_84 (hk_lt (by decide)) rfl rfl rfl (by decide) ⟨by decide, by decide⟩ (Nat.le_of_ble_eq_true rfl) (hk_kd ?_)
  rw [q2]
  refine hk_iadd dX0_leastNext_87 ?_
  refine hk_aload_n dX0_leastNext_88 rfl rfl ?_
  refine hk_iload_n dX0_leastNext_89 rfl rfl ?_
  refine ivX0_75 rfl (ct_costFrom e10 hC hc) dX0_leastNext_90 (hk_lt (by decide)) rfl rfl rfl (by decide) ⟨by decide, by decide⟩ (Nat.le_of_ble_eq_true rfl) (hk_kd ?_)
  rw [uC]
  refine hk_icmp_ne (tgt := 100) dX0_leastNext_93 (by decide) (fun c93 => ?_) (fun c93 => ?_)
  · rw [nI_add, nI_eq lB lC] at c93
    have hno : ∀ n, ¬ (EG (GG m nS u) s c n ∧ DD (GG m nS u) t n + cs (GG m nS u) s = DD (GG m nS u) t c) := fun n q => q.1.2.2.elim (fun k => c93 (k.2 ▸ q.2)) (fun k => hne k.2.symm)
    rw [CS_n hno] at ih
    refine hk_iconst (v := 0) dX0_leastNext_100 (by decide) ?_
    refine hk_istore dX0_leastNext_101 (by decide) rfl ?_
    refine hk_iload dX0_leastNext_103 rfl ?_
    refine hk_if_eq (tgt := 121) dX0_leastNext_105 (by decide) (fun _ => ?_) (fun c105 => absurd (by decide) c105)
    refine hk_iinc (v := nI (s + 1)) dX0_leastNext_121 rfl (nI_1 s) (by decide) rfl ?_
    refine hk_goto (tgt := 4) dX0_leastNext_124 (by decide) ?_
    exact ih _ _ _ _
  · rw [nI_add, nI_eq lB lC] at c93
    rw [CS_y (n := gB (GG m nS u) s) g ⟨⟨hs, hop, Or.inl ⟨hac, rfl⟩⟩, c93⟩ hne] at ih
    refine hk_iconst (v := 1) dX0_leastNext_96 (by decide) ?_
    refine hk_goto (tgt := 101) dX0_leastNext_97 (by decide) ?_
    refine hk_istore dX0_leastNext_101 (by decide) rfl ?_
    refine hk_iload dX0_leastNext_103 rfl ?_
    refine hk_if_eq (tgt := 121) dX0_leastNext_105 (by decide) (fun c105 => absurd c105 (by decide)) (fun _ => ?_)
    refine hk_iload_n dX0_leastNext_108 rfl rfl ?_
    refine hk_if_lt (tgt := 118) dX0_leastNext_109 (by decide) (fun c109 => ?_) (fun c109 => ?_)
    · first | rw [if_pos (Or.inl c109)] at ih | skip
      refine hk_iload dX0_leastNext_118 rfl ?_
      refine hk_istore_n dX0_leastNext_120 rfl (by decide) rfl ?_
      refine hk_iinc (v := nI (s + 1)) dX0_leastNext_121 rfl (nI_1 s) (by decide) rfl ?_
      refine hk_goto (tgt := 4) dX0_leastNext_124 (by decide) ?_
      exact ih _ _ _ _
    · first | rw [if_pos (Or.inl c109)] at ih | skip
      refine hk_iload dX0_leastNext_112 rfl ?_
      refine hk_iload_n dX0_leastNext_114 rfl rfl ?_
      refine hk_icmp_ge (tgt := 121) dX0_leastNext_115 (by decide) (fun c115 => ?_) (fun c115 => ?_)
      · first | rw [if_pos (Or.inr (Int32.not_le.mp c115))] at ih | rw [if_neg (fun q => q.elim c109 (Int32.not_lt.mpr c115))] at ih
        refine hk_iinc (v := nI (s + 1)) dX0_leastNext_121 rfl (nI_1 s) (by decide) rfl ?_
        refine hk_goto (tgt := 4) dX0_leastNext_124 (by decide) ?_
        exact ih _ _ _ _
      · first | rw [if_pos (Or.inr (Int32.not_le.mp c115))] at ih | rw [if_neg (fun q => q.elim c109 (Int32.not_lt.mpr c115))] at ih
        refine hk_iload dX0_leastNext_118 rfl ?_
        refine hk_istore_n dX0_leastNext_120 rfl (by decide) rfl ?_
        refine hk_iinc (v := nI (s + 1)) dX0_leastNext_121 rfl (nI_1 s) (by decide) rfl ?_
        refine hk_goto (tgt := 4) dX0_leastNext_124 (by decide) ?_
        exact ih _ _ _ _
set_option maxRecDepth 20000 in
set_option maxHeartbeats 2000000 in
theorem lq_leastNextC (hS : m 2 3 = nI nS) (hS6 : nS ≤ 60) (hg : GS m nC nS) (hC : nC ≤ 24) (hn : m 1 0 = nI nC) {u : Int32} {t c : Nat} (hX : CX m nS u t (fun c => DD (GG m nS u) t c) m1) (hc : c < nC) {s : Nat} (hs : s < nS) (ih : ∀ l4 l5 l6 l7 : Option Value, hk_WP MX0_leastNext 2 0 0 0 0 4 [some (.ref 1), some (.int (nI c)), some (.int (mi (CS (GG m nS u) t c (s + 1)))), some (.int (nI (s + 1))), l4, l5, l6, l7] [] (hk_h L m1) (fun r h' => r = some (.int (mi (fun n => ∃ s, EG (GG m nS u) s c n ∧ DD (GG m nS u) t n + cs (GG m nS u) s = DD (GG m nS u) t c))) ∧ h' = hk_h L m1)) (hop : opn m s u) (hac : ¬ gA (GG m nS u) s = c) (hbc : gB (GG m nS u) s = c) (hne : c ≠ gA (GG m nS u) s) (l4 l5 l6 l7 : Option Value) : hk_WP MX0_leastNext 2 0 0 0 0 15 [some (.ref 1), some (.int (nI c)), some (.int (mi (CS (GG m nS u) t c s))), some (.int (nI s)), l4, l5, l6, l7] [] (hk_h L m1) (fun r h' => r = some (.int (mi (fun n => ∃ s, EG (GG m nS u) s c n ∧ DD (GG m nS u) t n + cs (GG m nS u) s = DD (GG m nS u) t c))) ∧ h' = hk_h L m1) := by
  have g := GS.gm hg u hC
  obtain ⟨h1, h2, h3, h4, h5⟩ := id hX
  have e23 : m1 2 3 = nI nS := by rw [h1.1 2 (by decide) (by decide)]; exact hS
  have e10 : m1 1 0 = nI nC := by rw [h1.1 1 (by decide) (by decide)]; exact hn
  have hg1 := h1.gs hg
  obtain ⟨_, _, _, _, f5, f6, f7, f8, _⟩ := GS.g hg u hs hC
  have q0 : m1 3 (s * 13 + 0) = nI (gA (GG m nS u) s) := (h1.2 _ (by omega)).trans f6
  have q1 : m1 3 (s * 13 + 1) = nI (gB (GG m nS u) s) := (h1.2 _ (by omega)).trans f7
  have q2 : m1 3 (s * 13 + 2) = nI (cs (GG m nS u) s) := (h1.2 _ (by omega)).trans f8
  have hcs : cs (GG m nS u) s ≤ 200001 := by unfold cs; omega
  have dA := DD_max (t := t) (c := gA (GG m nS u) s) g
  have dB := DD_max (t := t) (c := gB (GG m nS u) s) g
  have dC := DD_max (t := t) (c := c) g
  have uA : m1 6 (gA (GG m nS u) s) = nI (DD (GG m nS u) t (gA (GG m nS u) s)) := h2 _ (Nat.lt_of_lt_of_le f5.1 hC)
  have uB : m1 6 (gB (GG m nS u) s) = nI (DD (GG m nS u) t (gB (GG m nS u) s)) := h2 _ (Nat.lt_of_lt_of_le f5.2.1 hC)
  have uC : m1 6 c = nI (DD (GG m nS u) t c) := h2 _ (Nat.lt_of_lt_of_le hc hC)
  have lA : DD (GG m nS u) t (gA (GG m nS u) s) + cs (GG m nS u) s < 2 ^ 31 := by omega
  have lB : DD (GG m nS u) t (gB (GG m nS u) s) + cs (GG m nS u) s < 2 ^ 31 := by omega
  have lC : DD (GG m nS u) t c < 2 ^ 31 := by omega
  have lsA : gA (GG m nS u) s < 2 ^ 31 := by omega
  have lsB : gB (GG m nS u) s < 2 ^ 31 := by omega
  have lc : c < 2 ^ 31 := by omega
  clear h2 h3 h4 h5 dA dB dC hcs
  refine hk_aload_n dX0_leastNext_15 rfl rfl ?_
  refine gfX0_16 rfl dX0_leastNext_16 (hk_lt (by decide)) rfl rfl ?_
  refine hk_iload_n dX0_leastNext_19 rfl rfl ?_
  refine hk_iconst (v := 0) dX0_leastNext_20 (by decide) ?_
  refine ivX0_47 rfl (ct_geti (i := s) tb2 hS6 e23 rfl hs (show 0 < 13 by omega)) dX0_leastNext_21 (hk_lt (by decide)) rfl rfl rfl (by decide) ⟨by decide, by decide⟩ (Nat.le_of_ble_eq_true rfl) (hk_kd ?_)
  rw [q0]
  refine hk_istore dX0_leastNext_24 (by decide) rfl ?_
  refine hk_aload_n dX0_leastNext_26 rfl rfl ?_
  refine gfX0_16 rfl dX0_leastNext_27 (hk_lt (by decide)) rfl rfl ?_
  refine hk_iload_n dX0_leastNext_30 rfl rfl ?_
  refine hk_iconst (v := 1) dX0_leastNext_31 (by decide) ?_
  refine ivX0_47 rfl (ct_geti (i := s) tb2 hS6 e23 rfl hs (show 1 < 13 by omega)) dX0_leastNext_32 (hk_lt (by decide)) rfl rfl rfl (by decide) ⟨by decide, by decide⟩ (Nat.le_of_ble_eq_true rfl) (hk_kd ?_)
  rw [q1]
  refine hk_istore dX0_leastNext_35 (by decide) rfl ?_
  refine hk_iload dX0_leastNext_37 rfl ?_
  refine hk_iload_n dX0_leastNext_39 rfl rfl ?_
  refine hk_icmp_ne (tgt := 48) dX0_leastNext_40 (by decide) (fun _ => ?_) (fun c40 => absurd c40 (fun q => hac ((nI_eq lsA lc).mp q)))
  refine hk_iload dX0_leastNext_48 rfl ?_
  refine hk_istore dX0_leastNext_50 (by decide) rfl ?_
  refine hk_aload_n dX0_leastNext_52 rfl rfl ?_
  refine hk_iload_n dX0_leastNext_53 rfl rfl ?_
  refine ivX0_72 rfl (ct_isOpen e23 hS6 hg1 hC hs (hX.2.2.1 s hs)) dX0_leastNext_54 (hk_lt (by decide)) rfl rfl rfl (by decide) ⟨by decide, by decide⟩ (Nat.le_of_ble_eq_true rfl) (hk_kd ?_)
  refine hk_if_eq (tgt := 100) dX0_leastNext_57 (by decide) (fun c57 => absurd c57 (fun e => bI_0.mp e hop)) (fun _ => ?_)
  refine hk_iload dX0_leastNext_60 rfl ?_
  refine hk_iload_n dX0_leastNext_62 rfl rfl ?_
  refine hk_icmp_eq (tgt := 72) dX0_leastNext_63 (by decide) (fun c63 => absurd c63 (fun q => hac ((nI_eq lsA lc).mp q))) (fun _ => ?_)
  refine hk_iload dX0_leastNext_66 rfl ?_
  refine hk_iload_n dX0_leastNext_68 rfl rfl ?_
  refine hk_icmp_ne (tgt := 100) dX0_leastNext_69 (by decide) (fun c69 => absurd (by rw [hbc]) c69) (fun _ => ?_)
  refine hk_aload_n dX0_leastNext_72 rfl rfl ?_
  refine hk_iload dX0_leastNext_73 rfl ?_
  refine ivX0_75 rfl (ct_costFrom e10 hC f5.1) dX0_leastNext_75 (hk_lt (by decide)) rfl rfl rfl (by decide) ⟨by decide, by decide⟩ (Nat.le_of_ble_eq_true rfl) (hk_kd ?_)
  rw [uA]
  refine hk_aload_n dX0_leastNext_78 rfl rfl ?_
  refine gfX0_16 rfl dX0_leastNext_79 (hk_lt (by decide)) rfl rfl ?_
  refine hk_iload_n dX0_leastNext_82 rfl rfl ?_
  refine hk_iconst (v := 2) dX0_leastNext_83 (by decide) ?_
  refine ivX0_47 rfl (ct_geti (i := s) tb2 hS6 e23 rfl hs (show 2 < 13 by omega)) dX0_leastNext_84 (hk_lt (by decide)) rfl rfl rfl (by decide) ⟨by decide, by decide⟩ (Nat.le_of_ble_eq_true rfl) (hk_kd ?_)
  rw [q2]
  refine hk_iadd dX0_leastNext_87 ?_
  refine hk_aload_n dX0_leastNext_88 rfl rfl ?_
  refine hk_iload_n dX0_leastNext_89 rfl rfl ?_
  refine ivX0_75 rfl (ct_costFrom e10 hC hc) dX0_leastNext_90 (hk_lt (by decide)) rfl rfl rfl (by decide) ⟨by decide, by decide⟩ (Nat.le_of_ble_eq_true rfl) (hk_kd ?_)
  rw [uC]
  refine hk_icmp_ne (tgt := 100) dX0_leastNext_93 (by decide) (fun c93 => ?_) (fun c93 => ?_)
  · rw [nI_add, nI_eq lA lC] at c93
    have hno : ∀ n, ¬ (EG (GG m nS u) s c n ∧ DD (GG m nS u) t n + cs (GG m nS u) s = DD (GG m nS u) t c) := fun n q => q.1.2.2.elim (fun k => hac k.1) (fun k => c93 (k.1 ▸ q.2))
    rw [CS_n hno] at ih
    refine hk_iconst (v := 0) dX0_leastNext_100 (by decide) ?_
    refine hk_istore dX0_leastNext_101 (by decide) rfl ?_
    refine hk_iload dX0_leastNext_103 rfl ?_
    refine hk_if_eq (tgt := 121) dX0_leastNext_105 (by decide) (fun _ => ?_) (fun c105 => absurd (by decide) c105)
    refine hk_iinc (v := nI (s + 1)) dX0_leastNext_121 rfl (nI_1 s) (by decide) rfl ?_
    refine hk_goto (tgt := 4) dX0_leastNext_124 (by decide) ?_
    exact ih _ _ _ _
  · rw [nI_add, nI_eq lA lC] at c93
    rw [CS_y (n := gA (GG m nS u) s) g ⟨⟨hs, hop, Or.inr ⟨rfl, hbc⟩⟩, c93⟩ hne] at ih
    refine hk_iconst (v := 1) dX0_leastNext_96 (by decide) ?_
    refine hk_goto (tgt := 101) dX0_leastNext_97 (by decide) ?_
    refine hk_istore dX0_leastNext_101 (by decide) rfl ?_
    refine hk_iload dX0_leastNext_103 rfl ?_
    refine hk_if_eq (tgt := 121) dX0_leastNext_105 (by decide) (fun c105 => absurd c105 (by decide)) (fun _ => ?_)
    refine hk_iload_n dX0_leastNext_108 rfl rfl ?_
    refine hk_if_lt (tgt := 118) dX0_leastNext_109 (by decide) (fun c109 => ?_) (fun c109 => ?_)
    · first | rw [if_pos (Or.inl c109)] at ih | skip
      refine hk_iload dX0_leastNext_118 rfl ?_
      refine hk_istore_n dX0_leastNext_120 rfl (by decide) rfl ?_
      refine hk_iinc (v := nI (s + 1)) dX0_leastNext_121 rfl (nI_1 s) (by decide) rfl ?_
      refine hk_goto (tgt := 4) dX0_leastNext_124 (by decide) ?_
      exact ih _ _ _ _
    · first | rw [if_pos (Or.inl c109)] at ih | skip
      refine hk_iload dX0_leastNext_112 rfl ?_
      refine hk_iload_n dX0_leastNext_114 rfl rfl ?_
      refine hk_icmp_ge (tgt := 121) dX0_leastNext_115 (by decide) (fun c115 => ?_) (fun c115 => ?_)
      · first | rw [if_pos (Or.inr (Int32.not_le.mp c115))] at ih | rw [if_neg (fun q => q.elim c109 (Int32.not_lt.mpr c115))] at ih
        refine hk_iinc (v := nI (s + 1)) dX0_leastNext_121 rfl (nI_1 s) (by decide) rfl ?_
        refine hk_goto (tgt := 4) dX0_leastNext_124 (by decide) ?_
        exact ih _ _ _ _
      · first | rw [if_pos (Or.inr (Int32.not_le.mp c115))] at ih | rw [if_neg (fun q => q.elim c109 (Int32.not_lt.mpr c115))] at ih
        refine hk_iload dX0_leastNext_118 rfl ?_
        refine hk_istore_n dX0_leastNext_120 rfl (by decide) rfl ?_
        refine hk_iinc (v := nI (s + 1)) dX0_leastNext_121 rfl (nI_1 s) (by decide) rfl ?_
        refine hk_goto (tgt := 4) dX0_leastNext_124 (by decide) ?_
        exact ih _ _ _ _
set_option maxRecDepth 20000 in
set_option maxHeartbeats 2000000 in
theorem lq_leastNextD (hS : m 2 3 = nI nS) (hS6 : nS ≤ 60) (hg : GS m nC nS) (hC : nC ≤ 24) (hn : m 1 0 = nI nC) {u : Int32} {t c : Nat} (hX : CX m nS u t (fun c => DD (GG m nS u) t c) m1) (hc : c < nC) {s : Nat} (hs : s < nS) (ih : ∀ l4 l5 l6 l7 : Option Value, hk_WP MX0_leastNext 2 0 0 0 0 4 [some (.ref 1), some (.int (nI c)), some (.int (mi (CS (GG m nS u) t c (s + 1)))), some (.int (nI (s + 1))), l4, l5, l6, l7] [] (hk_h L m1) (fun r h' => r = some (.int (mi (fun n => ∃ s, EG (GG m nS u) s c n ∧ DD (GG m nS u) t n + cs (GG m nS u) s = DD (GG m nS u) t c))) ∧ h' = hk_h L m1)) (hop : opn m s u) (hac : ¬ gA (GG m nS u) s = c) (hbc : ¬ gB (GG m nS u) s = c) (l4 l5 l6 l7 : Option Value) : hk_WP MX0_leastNext 2 0 0 0 0 15 [some (.ref 1), some (.int (nI c)), some (.int (mi (CS (GG m nS u) t c s))), some (.int (nI s)), l4, l5, l6, l7] [] (hk_h L m1) (fun r h' => r = some (.int (mi (fun n => ∃ s, EG (GG m nS u) s c n ∧ DD (GG m nS u) t n + cs (GG m nS u) s = DD (GG m nS u) t c))) ∧ h' = hk_h L m1) := by
  have g := GS.gm hg u hC
  obtain ⟨h1, h2, h3, h4, h5⟩ := id hX
  have e23 : m1 2 3 = nI nS := by rw [h1.1 2 (by decide) (by decide)]; exact hS
  have e10 : m1 1 0 = nI nC := by rw [h1.1 1 (by decide) (by decide)]; exact hn
  have hg1 := h1.gs hg
  obtain ⟨_, _, _, _, f5, f6, f7, f8, _⟩ := GS.g hg u hs hC
  have q0 : m1 3 (s * 13 + 0) = nI (gA (GG m nS u) s) := (h1.2 _ (by omega)).trans f6
  have q1 : m1 3 (s * 13 + 1) = nI (gB (GG m nS u) s) := (h1.2 _ (by omega)).trans f7
  have q2 : m1 3 (s * 13 + 2) = nI (cs (GG m nS u) s) := (h1.2 _ (by omega)).trans f8
  have hcs : cs (GG m nS u) s ≤ 200001 := by unfold cs; omega
  have dA := DD_max (t := t) (c := gA (GG m nS u) s) g
  have dB := DD_max (t := t) (c := gB (GG m nS u) s) g
  have dC := DD_max (t := t) (c := c) g
  have uA : m1 6 (gA (GG m nS u) s) = nI (DD (GG m nS u) t (gA (GG m nS u) s)) := h2 _ (Nat.lt_of_lt_of_le f5.1 hC)
  have uB : m1 6 (gB (GG m nS u) s) = nI (DD (GG m nS u) t (gB (GG m nS u) s)) := h2 _ (Nat.lt_of_lt_of_le f5.2.1 hC)
  have uC : m1 6 c = nI (DD (GG m nS u) t c) := h2 _ (Nat.lt_of_lt_of_le hc hC)
  have lA : DD (GG m nS u) t (gA (GG m nS u) s) + cs (GG m nS u) s < 2 ^ 31 := by omega
  have lB : DD (GG m nS u) t (gB (GG m nS u) s) + cs (GG m nS u) s < 2 ^ 31 := by omega
  have lC : DD (GG m nS u) t c < 2 ^ 31 := by omega
  have lsA : gA (GG m nS u) s < 2 ^ 31 := by omega
  have lsB : gB (GG m nS u) s < 2 ^ 31 := by omega
  have lc : c < 2 ^ 31 := by omega
  clear h2 h3 h4 h5 dA dB dC hcs
  refine hk_aload_n dX0_leastNext_15 rfl rfl ?_
  refine gfX0_16 rfl dX0_leastNext_16 (hk_lt (by decide)) rfl rfl ?_
  refine hk_iload_n dX0_leastNext_19 rfl rfl ?_
  refine hk_iconst (v := 0) dX0_leastNext_20 (by decide) ?_
  refine ivX0_47 rfl (ct_geti (i := s) tb2 hS6 e23 rfl hs (show 0 < 13 by omega)) dX0_leastNext_21 (hk_lt (by decide)) rfl rfl rfl (by decide) ⟨by decide, by decide⟩ (Nat.le_of_ble_eq_true rfl) (hk_kd ?_)
  rw [q0]
  refine hk_istore dX0_leastNext_24 (by decide) rfl ?_
  refine hk_aload_n dX0_leastNext_26 rfl rfl ?_
  refine gfX0_16 rfl dX0_leastNext_27 (hk_lt (by decide)) rfl rfl ?_
  refine hk_iload_n dX0_leastNext_30 rfl rfl ?_
  refine hk_iconst (v := 1) dX0_leastNext_31 (by decide) ?_
  refine ivX0_47 rfl (ct_geti (i := s) tb2 hS6 e23 rfl hs (show 1 < 13 by omega)) dX0_leastNext_32 (hk_lt (by decide)) rfl rfl rfl (by decide) ⟨by decide, by decide⟩ (Nat.le_of_ble_eq_true rfl) (hk_kd ?_)
  rw [q1]
  refine hk_istore dX0_leastNext_35 (by decide) rfl ?_
  refine hk_iload dX0_leastNext_37 rfl ?_
  refine hk_iload_n dX0_leastNext_39 rfl rfl ?_
  refine hk_icmp_ne (tgt := 48) dX0_leastNext_40 (by decide) (fun _ => ?_) (fun c40 => absurd c40 (fun q => hac ((nI_eq lsA lc).mp q)))
  refine hk_iload dX0_leastNext_48 rfl ?_
  refine hk_istore dX0_leastNext_50 (by decide) rfl ?_
  refine hk_aload_n dX0_leastNext_52 rfl rfl ?_
  refine hk_iload_n dX0_leastNext_53 rfl rfl ?_
  refine ivX0_72 rfl (ct_isOpen e23 hS6 hg1 hC hs (hX.2.2.1 s hs)) dX0_leastNext_54 (hk_lt (by decide)) rfl rfl rfl (by decide) ⟨by decide, by decide⟩ (Nat.le_of_ble_eq_true rfl) (hk_kd ?_)
  refine hk_if_eq (tgt := 100) dX0_leastNext_57 (by decide) (fun c57 => absurd c57 (fun e => bI_0.mp e hop)) (fun _ => ?_)
  refine hk_iload dX0_leastNext_60 rfl ?_
  refine hk_iload_n dX0_leastNext_62 rfl rfl ?_
  refine hk_icmp_eq (tgt := 72) dX0_leastNext_63 (by decide) (fun c63 => absurd c63 (fun q => hac ((nI_eq lsA lc).mp q))) (fun _ => ?_)
  refine hk_iload dX0_leastNext_66 rfl ?_
  refine hk_iload_n dX0_leastNext_68 rfl rfl ?_
  refine hk_icmp_ne (tgt := 100) dX0_leastNext_69 (by decide) (fun _ => ?_) (fun c69 => absurd c69 (fun q => hbc ((nI_eq lsB lc).mp q)))
  have hno : ∀ n, ¬ (EG (GG m nS u) s c n ∧ DD (GG m nS u) t n + cs (GG m nS u) s = DD (GG m nS u) t c) := fun n q => q.1.2.2.elim (fun k => hac k.1) (fun k => hbc k.2)
  rw [CS_n hno] at ih
  refine hk_iconst (v := 0) dX0_leastNext_100 (by decide) ?_
  refine hk_istore dX0_leastNext_101 (by decide) rfl ?_
  refine hk_iload dX0_leastNext_103 rfl ?_
  refine hk_if_eq (tgt := 121) dX0_leastNext_105 (by decide) (fun _ => ?_) (fun c105 => absurd (by decide) c105)
  refine hk_iinc (v := nI (s + 1)) dX0_leastNext_121 rfl (nI_1 s) (by decide) rfl ?_
  refine hk_goto (tgt := 4) dX0_leastNext_124 (by decide) ?_
  exact ih _ _ _ _
set_option maxRecDepth 20000 in
set_option maxHeartbeats 2000000 in
theorem lp_leastNext (hS : m 2 3 = nI nS) (hS6 : nS ≤ 60) (hg : GS m nC nS) (hC : nC ≤ 24) (hn : m 1 0 = nI nC) {u : Int32} {t c : Nat} (hX : CX m nS u t (fun c => DD (GG m nS u) t c) m1) (hc : c < nC) (s : Nat) (hs0 : s ≤ nS) (l4 l5 l6 l7 : Option Value) : hk_WP MX0_leastNext 2 0 0 0 0 4 [some (.ref 1), some (.int (nI c)), some (.int (mi (CS (GG m nS u) t c s))), some (.int (nI s)), l4, l5, l6, l7] [] (hk_h L m1) (fun r h' => r = some (.int (mi (fun n => ∃ s, EG (GG m nS u) s c n ∧ DD (GG m nS u) t n + cs (GG m nS u) s = DD (GG m nS u) t c))) ∧ h' = hk_h L m1) := by
  have e23 : m1 2 3 = nI nS := by rw [hX.1.1 2 (by decide) (by decide)]; exact hS
  refine hk_iload_n dX0_leastNext_4 rfl rfl ?_
  refine hk_aload_n dX0_leastNext_5 rfl rfl ?_
  refine gfX0_16 rfl dX0_leastNext_6 (hk_lt (by decide)) rfl rfl ?_
  refine gfX0_61 rfl dX0_leastNext_9 (hk_lt (by decide)) rfl rfl ?_
  refine hk_icmp_ge (tgt := 127) dX0_leastNext_12 (by decide) (fun c12 => ?_) (fun c12 => ?_)
  · rw [e23, nI_leI (by omega) (by omega)] at c12
    have hsn : s = nS := by omega
    subst hsn
    refine hk_iload_n dX0_leastNext_127 rfl rfl ?_
    exact hk_ireturn dX0_leastNext_128 rfl rfl (by decide) ⟨by rw [← CS_all]; rfl, rfl⟩
  · rw [e23, nI_leI (by omega) (by omega)] at c12
    have hs : s < nS := by omega
    have ih := lp_leastNext hS hS6 hg hC hn hX hc (s + 1) (by omega)
    obtain ⟨_, _, _, _, a, b, y, w, k, g1, g2, _, _, _, g6, g7, g8, _⟩ := hg.1 s hs
    have ea : gA (GG m nS u) s = a := by show (m 40 s).toNatClampNeg = a; rw [g1, nI_clamp (by omega)]
    have eb : gB (GG m nS u) s = b := by show (m 41 s).toNatClampNeg = b; rw [g2, nI_clamp (by omega)]
    by_cases hop : opn m s u
    · by_cases hac : gA (GG m nS u) s = c
      · exact lq_leastNextB hS hS6 hg hC hn hX hc hs ih hop hac (by rw [← hac, ea, eb]; exact g8) _ _ _ _
      · by_cases hbc : gB (GG m nS u) s = c
        · exact lq_leastNextC hS hS6 hg hC hn hX hc hs ih hop hac hbc (fun q => hac q.symm) _ _ _ _
        · exact lq_leastNextD hS hS6 hg hC hn hX hc hs ih hop hac hbc _ _ _ _
    · exact lq_leastNextA hS hS6 hg hC hn hX hc hs ih hop _ _ _ _
termination_by nS - s
decreasing_by all_goals omega
set_option maxRecDepth 20000 in
set_option maxHeartbeats 2000000 in
theorem ct_leastNext (hS : m 2 3 = nI nS) (hS6 : nS ≤ 60) (hg : GS m nC nS) (hC : nC ≤ 24) (hn : m 1 0 = nI nC) {u : Int32} {t c : Nat} (hX : CX m nS u t (fun c => DD (GG m nS u) t c) m1) (hc : c < nC) : hk_Cd MX0_leastNext 2 0 0 [.ref 1, .int (nI c)] (hk_h L m1) (some (.int (mi (fun n => ∃ s, EG (GG m nS u) s c n ∧ DD (GG m nS u) t n + cs (GG m nS u) s = DD (GG m nS u) t c)))) (hk_h L m1) := by
  refine hk_ofWP (by decide) (by simp [Value.category]) (Nat.le_of_ble_eq_true rfl) ?_
  show hk_WP _ _ _ _ _ _ _ [some (.ref 1), some (.int (nI c)), none, none, none, none, none, none] [] _ _
  refine hk_iconst (v := (-1)) dX0_leastNext_0 (by decide) ?_
  refine hk_istore_n dX0_leastNext_1 rfl (by decide) rfl ?_
  refine hk_iconst (v := 0) dX0_leastNext_2 (by decide) ?_
  refine hk_istore_n dX0_leastNext_3 rfl (by decide) rfl ?_
  have hs2 := lp_leastNext (L := L) hS hS6 hg hC hn hX hc 0 (Nat.zero_le _) none none none none
  rw [mi_n (fun j _ => fun ⟨s', h, _⟩ => absurd h (Nat.not_lt_zero _))] at hs2
  exact hs2
end STx
