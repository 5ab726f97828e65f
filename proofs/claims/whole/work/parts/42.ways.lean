/-! WAYS: walks over streets, the least of them -/
abbrev MP : Type := Nat × (Nat → Prop) × (Nat → Nat) × (Nat → Nat) × (Nat → Nat) × (Nat → Nat)
abbrev gN (G : MP) : Nat := G.1
abbrev gO (G : MP) : Nat → Prop := G.2.1
abbrev gA (G : MP) : Nat → Nat := G.2.2.1
abbrev gB (G : MP) : Nat → Nat := G.2.2.2.1
abbrev gY (G : MP) : Nat → Nat := G.2.2.2.2.1
abbrev gZ (G : MP) : Nat → Nat := G.2.2.2.2.2
/-- street s goes from c to n, and is open -/
def EG (G : MP) (s c n : Nat) : Prop := s < gN G ∧ gO G s ∧ ((gA G s = c ∧ gB G s = n) ∨ (gA G s = n ∧ gB G s = c))
theorem EG.sym {G : MP} {s c n : Nat} (h : EG G s c n) : EG G s n c := ⟨h.1, h.2.1, h.2.2.elim (fun q => Or.inr q) (fun q => Or.inl q)⟩
/-- a walk of k streets from c to t, its yards and its bad streets -/
def Wp (G : MP) (t : Nat) : Nat → Nat → Nat → Nat → Prop
  | 0, c, y, b => c = t ∧ y = 0 ∧ b = 0
  | k + 1, c, y, b => ∃ s n y' b', EG G s c n ∧ Wp G t k n y' b' ∧ y = y' + gY G s ∧ b = b' + gZ G s
def GM (G : MP) (nC : Nat) : Prop := nC ≤ 24 ∧ ∀ s, s < gN G → gA G s < nC ∧ gB G s < nC ∧ 1 ≤ gY G s ∧ gY G s ≤ 2000 ∧ gZ G s ≤ 1
def RC (G : MP) (t c : Nat) : Prop := ∃ k y b, Wp G t k c y b
abbrev cs (G : MP) (s : Nat) : Nat := 100 * gY G s + gZ G s
theorem least {P : Nat → Prop} (h : ∃ n, P n) : ∃ n, P n ∧ ∀ q, P q → n ≤ q := by
  obtain ⟨n, hn⟩ := h
  induction n using Nat.strongRecOn with
  | ind n ih =>
    by_cases h : ∃ q, q < n ∧ P q
    · obtain ⟨q, h1, h2⟩ := h
      exact ih q h1 h2
    · exact ⟨n, hn, fun q hq => Nat.le_of_not_lt (fun hl => h ⟨q, hl, hq⟩)⟩
noncomputable def DD (G : MP) (t c : Nat) : Nat := @dite _ (∃ v, ∃ k y b, Wp G t k c y b ∧ v = 100 * y + b) (Classical.propDecidable _) (fun h => Classical.choose (least h)) (fun _ => 1000000000)
section DDx
variable {G : MP} {t c n s k y b nC : Nat}
theorem DD_at (h : RC G t c) : ∃ k y b, Wp G t k c y b ∧ DD G t c = 100 * y + b := by
  obtain ⟨k, y, b, w⟩ := h
  have h2 : ∃ v, ∃ k y b, Wp G t k c y b ∧ v = 100 * y + b := ⟨_, k, y, b, w, rfl⟩
  unfold DD
  rw [dif_pos h2]
  exact (Classical.choose_spec (least h2)).1
theorem DD_le (w : Wp G t k c y b) : DD G t c ≤ 100 * y + b := by
  have h2 : ∃ v, ∃ k y b, Wp G t k c y b ∧ v = 100 * y + b := ⟨_, k, y, b, w, rfl⟩
  unfold DD
  rw [dif_pos h2]
  exact (Classical.choose_spec (least h2)).2 _ ⟨k, y, b, w, rfl⟩
theorem DD_inf (h : ¬ RC G t c) : DD G t c = 1000000000 := by
  unfold DD
  rw [dif_neg (fun ⟨_, k, y, b, w, _⟩ => h ⟨k, y, b, w⟩)]
theorem RC_t : RC G t t := ⟨0, 0, 0, rfl, rfl, rfl⟩
theorem DD_t : DD G t t = 0 := Nat.le_zero.mp (DD_le (k := 0) (y := 0) (b := 0) ⟨rfl, rfl, rfl⟩)
theorem RC_e (e : EG G s c n) (h : RC G t n) : RC G t c := by
  obtain ⟨k, y, b, w⟩ := h
  exact ⟨k + 1, _, _, s, n, y, b, e, w, rfl, rfl⟩
theorem DD_edge (e : EG G s c n) (h : RC G t n) : DD G t c ≤ DD G t n + cs G s := by
  obtain ⟨k, y, b, w, e2⟩ := DD_at h
  have := DD_le (G := G) (t := t) (k := k + 1) (c := c) ⟨s, n, y, b, e, w, rfl, rfl⟩
  unfold cs
  omega
theorem DD_par (h : RC G t c) (hc : c ≠ t) : ∃ s n, EG G s c n ∧ RC G t n ∧ DD G t c = DD G t n + cs G s := by
  obtain ⟨k, y, b, w, e2⟩ := DD_at h
  cases k with
  | zero => exact absurd w.1 hc
  | succ k =>
    obtain ⟨s, n, y', b', e, w', rfl, rfl⟩ := w
    have h1 := DD_le w'
    have h2 := DD_edge e ⟨k, y', b', w'⟩
    refine ⟨s, n, e, ⟨k, y', b', w'⟩, ?_⟩
    unfold cs at h2 ⊢
    omega
theorem cn_mono {p q : Nat → Prop} : ∀ n, (∀ i, i < n → p i → q i) → cn p n ≤ cn q n
  | 0, _ => Nat.le_refl _
  | n + 1, h => by
    have ih := cn_mono n (fun i hi => h i (by omega))
    by_cases h1 : p n
    · rw [cn_y h1, cn_y (h n (Nat.lt_succ_self n) h1)]; omega
    · rw [cn_n h1]
      by_cases h2 : q n
      · rw [cn_y h2]; omega
      · rw [cn_n h2]; exact ih
theorem cn_lt {p q : Nat → Prop} {j : Nat} : ∀ n, (∀ i, i < n → p i → q i) → j < n → ¬ p j → q j → cn p n + 1 ≤ cn q n
  | 0, _, h, _, _ => absurd h (Nat.not_lt_zero _)
  | n + 1, h, hj, h1, h2 => by
    by_cases e : j = n
    · subst e
      rw [cn_n h1, cn_y h2]
      have := cn_mono j (fun i hi => h i (by omega))
      omega
    · have ih := cn_lt n (fun i hi => h i (by omega)) (by omega : j < n) h1 h2
      by_cases h3 : p n
      · rw [cn_y h3, cn_y (h n (Nat.lt_succ_self n) h3)]; omega
      · rw [cn_n h3]
        by_cases h4 : q n
        · rw [cn_y h4]; omega
        · rw [cn_n h4]; exact ih
theorem cn_not {p : Nat → Prop} {j n : Nat} (hj : j < n) (h : ¬ p j) : cn p n + 1 ≤ n := by
  have h1 := cn_lt (p := p) (q := fun _ => True) n (fun _ _ _ => trivial) hj h trivial
  have h2 := cn_le (fun _ => True) n
  omega
noncomputable def rk (G : MP) (t nC c : Nat) : Nat := cn (fun v => RC G t v ∧ DD G t v < DD G t c) nC
theorem rk_lt (g : GM G nC) (e : EG G s c n) (h : RC G t n) (hd : DD G t n < DD G t c) : rk G t nC n + 1 ≤ rk G t nC c := by
  have hn : n < nC := by
    have := g.2 s e.1
    rcases e.2.2 with ⟨_, q⟩ | ⟨q, _⟩
    · omega
    · omega
  exact cn_lt nC (fun i _ q => ⟨q.1, by omega⟩) hn (fun q => by omega) ⟨h, hd⟩
theorem rk_le (g : GM G nC) (hc : c < nC) : rk G t nC c ≤ 23 := by
  have := cn_not (p := fun v => RC G t v ∧ DD G t v < DD G t c) hc (fun q => absurd q.2 (Nat.lt_irrefl _))
  have := g.1
  unfold rk
  omega
theorem cs_pos (g : GM G nC) (e : EG G s c n) : 100 ≤ cs G s := by
  have := g.2 s e.1
  unfold cs
  omega
theorem DD_short (g : GM G nC) : ∀ d c, DD G t c = d → RC G t c → ∃ k y b, k ≤ rk G t nC c ∧ Wp G t k c y b ∧ DD G t c = 100 * y + b := by
  intro d
  induction d using Nat.strongRecOn with
  | ind d ih =>
    intro c hd h
    by_cases hc : c = t
    · subst hc
      exact ⟨0, 0, 0, Nat.zero_le _, ⟨rfl, rfl, rfl⟩, DD_t⟩
    · obtain ⟨s, n, e, hn, e2⟩ := DD_par h hc
      have hp := cs_pos g e
      obtain ⟨k, y, b, h1, w, h2⟩ := ih (DD G t n) (by omega) n rfl hn
      have h3 := rk_lt g e hn (by omega)
      refine ⟨k + 1, _, _, by omega, ⟨s, n, y, b, e, w, rfl, rfl⟩, ?_⟩
      unfold cs at e2
      omega
theorem Wp_b (g : GM G nC) : ∀ k c y b, Wp G t k c y b → y ≤ 2000 * k ∧ b ≤ k ∧ b ≤ y ∧ (c < nC ∨ k = 0)
  | 0, c, y, b, w => by obtain ⟨_, h1, h2⟩ := w; omega
  | k + 1, c, y, b, w => by
    obtain ⟨s, n, y', b', e, w', rfl, rfl⟩ := w
    have := Wp_b g k n y' b' w'
    have h2 := g.2 s e.1
    refine ⟨by omega, by omega, by omega, Or.inl ?_⟩
    rcases e.2.2 with ⟨q, _⟩ | ⟨_, q⟩
    · omega
    · omega
/-- the least way, its walk short -/
theorem DD_s (g : GM G nC) (h : RC G t c) : ∃ k y b, k ≤ 23 ∧ Wp G t k c y b ∧ DD G t c = 100 * y + b ∧ b ≤ 23 ∧ y ≤ 46000 := by
  obtain ⟨k, y, b, h1, w, h2⟩ := DD_short g _ c rfl h
  have hb := Wp_b g k c y b w
  have hk : k ≤ 23 := by
    rcases hb.2.2.2 with q | q
    · have := rk_le (t := t) g q
      omega
    · omega
  exact ⟨k, y, b, hk, w, h2, by omega, by omega⟩
theorem DD_lt (g : GM G nC) (h : RC G t c) : DD G t c < 1000000000 := by
  obtain ⟨k, y, b, _, _, h1, h2, h3⟩ := DD_s g h
  omega
theorem DD_iff (g : GM G nC) : DD G t c < 1000000000 ↔ RC G t c := ⟨fun h => Classical.byContradiction (fun q => by rw [DD_inf q] at h; omega), DD_lt g⟩
theorem DD_max (g : GM G nC) : DD G t c ≤ 1000000000 := by
  by_cases h : RC G t c
  · have := DD_lt g h; omega
  · rw [DD_inf h]; exact Nat.le_refl _
/-- no street can lower: then x is at most what any walk costs -/
theorem ub_all {x : Nat → Nat} (h0 : x t = 0) (he : ∀ s c n, EG G s c n → x c ≤ x n + cs G s) : ∀ k c y b, Wp G t k c y b → x c ≤ 100 * y + b
  | 0, c, y, b, w => by obtain ⟨rfl, rfl, rfl⟩ := w; rw [h0]; exact Nat.zero_le _
  | k + 1, c, y, b, w => by
    obtain ⟨s, n, y', b', e, w', rfl, rfl⟩ := w
    have h1 := ub_all h0 he k n y' b' w'
    have h2 := he s c n e
    unfold cs at h2
    omega
/-- the class's costs are the least ones -/
theorem fixC {x : Nat → Nat} (g : GM G nC) (hat : x c = 1000000000 ∨ ∃ k y b, Wp G t k c y b ∧ x c = 100 * y + b) (hub : ∀ k y b, k ≤ 23 → Wp G t k c y b → x c ≤ 100 * y + b) : x c = DD G t c := by
  by_cases h : RC G t c
  · obtain ⟨k, y, b, h1, w, h2, h3, h4⟩ := DD_s g h
    have h5 := hub k y b h1 w
    rcases hat with q | ⟨k', y', b', w', q⟩
    · omega
    · have := DD_le w'
      omega
  · rw [DD_inf h]
    rcases hat with q | ⟨k', y', b', w', q⟩
    · exact q
    · exact absurd ⟨k', y', b', w'⟩ h
abbrev lx (y b y' b' : Nat) : Prop := y < y' ∨ (y = y' ∧ b ≤ b')
theorem lx_all {y b : Nat → Nat} (g : GM G nC) (h0 : y t = 0 ∧ b t = 0) (he : ∀ s c n, EG G s c n → y n < 1000000000 → lx (y c) (b c) (y n + gY G s) (b n + gZ G s)) : ∀ k c y' b', Wp G t k c y' b' → y' < 1000000000 → lx (y c) (b c) y' b'
  | 0, c, y', b', w, _ => by obtain ⟨rfl, rfl, rfl⟩ := w; right; exact ⟨h0.1, by rw [h0.2]; exact Nat.le_refl _⟩
  | k + 1, c, y', b', w, hl => by
    obtain ⟨s, n, y1, b1, e, w', rfl, rfl⟩ := w
    have h1 := lx_all g h0 he k n y1 b1 w' (by omega)
    have h3 : y n < 1000000000 := by unfold lx at h1; omega
    have h2 := he s c n e h3
    unfold lx at h1 h2 ⊢
    omega
/-- the reference's pairs are the least ones -/
theorem fixR {y b : Nat → Nat} (g : GM G nC) (h0 : y t = 0 ∧ b t = 0) (hat : ∀ c, y c = 1000000000 ∨ (y c < 1000000000 ∧ ∃ k, Wp G t k c (y c) (b c)))
    (he : ∀ s c n, EG G s c n → y n < 1000000000 → lx (y c) (b c) (y n + gY G s) (b n + gZ G s)) : ∀ c, (RC G t c → y c < 1000000000 ∧ DD G t c = 100 * y c + b c ∧ b c ≤ 23) ∧ (¬ RC G t c → y c = 1000000000) := by
  have hb : ∀ d c, y c = d → y c < 1000000000 → b c ≤ cn (fun v => y v < y c) nC ∧ (c < nC ∨ b c = 0) := by
    intro d
    induction d using Nat.strongRecOn with
    | ind d ih =>
      intro c hd hl
      rcases hat c with q | ⟨_, k, w⟩
      · omega
      · cases k with
        | zero => obtain ⟨_, _, h2⟩ := w; omega
        | succ k =>
          obtain ⟨s, n, y1, b1, e, w', e1, e2⟩ := w
          have h1 := lx_all g h0 he k n y1 b1 w' (by omega)
          have hg := g.2 s e.1
          have h3 : y n < 1000000000 := by unfold lx at h1; omega
          have h2 := he s c n e h3
          have h4 : y n = y1 ∧ b n = b1 := by unfold lx at h1 h2; omega
          have h5 := ih (y n) (by omega) n rfl h3
          have hnC : n < nC ∧ c < nC := by
            rcases e.2.2 with ⟨q1, q2⟩ | ⟨q1, q2⟩
            · omega
            · omega
          have h6 := cn_lt (p := fun v => y v < y n) (q := fun v => y v < y c) nC (fun i _ q => by omega) hnC.1 (fun q => by omega) (by omega)
          exact ⟨by omega, Or.inl hnC.2⟩
  intro c
  refine ⟨fun h => ?_, fun h => ?_⟩
  · obtain ⟨k, y', b', h1, w, h2, h3, h4⟩ := DD_s g h
    have h5 := lx_all g h0 he k c y' b' w (by omega)
    have h6 : y c < 1000000000 := by unfold lx at h5; omega
    have h7 := hb _ c rfl h6
    have h8 : b c ≤ 23 := by
      rcases h7.2 with q | q
      · have := cn_not (p := fun v => y v < y c) q (fun q => absurd q (Nat.lt_irrefl _))
        have := g.1
        omega
      · omega
    refine ⟨h6, ?_, h8⟩
    rcases hat c with q | ⟨_, k', w'⟩
    · omega
    · have := DD_le w'
      unfold lx at h5
      omega
  · rcases hat c with q | ⟨_, k', w'⟩
    · exact q
    · exact absurd ⟨k', _, _, w'⟩ h
/-- a walk, the other way about -/
theorem Wp_snoc {t' : Nat} (e : EG G s t t') : ∀ k c y b, Wp G t k c y b → Wp G t' (k + 1) c (y + gY G s) (b + gZ G s)
  | 0, c, y, b, w => by
    obtain ⟨rfl, rfl, rfl⟩ := w
    exact ⟨s, t', 0, 0, e, ⟨rfl, rfl, rfl⟩, rfl, rfl⟩
  | k + 1, c, y, b, w => by
    obtain ⟨s', n, y', b', e', w', rfl, rfl⟩ := w
    exact ⟨s', n, _, _, e', Wp_snoc e k n y' b' w', by omega, by omega⟩
theorem Wp_rev : ∀ k c y b, Wp G t k c y b → Wp G c k t y b
  | 0, c, y, b, w => by obtain ⟨rfl, rfl, rfl⟩ := w; exact ⟨rfl, rfl, rfl⟩
  | k + 1, c, y, b, w => by
    obtain ⟨s', n, y', b', e', w', rfl, rfl⟩ := w
    exact Wp_snoc e'.sym k t y' b' (Wp_rev k n y' b' w')
theorem RC_rev (h : RC G t c) : RC G c t := by
  obtain ⟨k, y, b, w⟩ := h
  exact ⟨k, y, b, Wp_rev k c y b w⟩
theorem DD_rev : DD G t c = DD G c t := by
  by_cases h : RC G t c
  · obtain ⟨k, y, b, w, e⟩ := DD_at h
    obtain ⟨k', y', b', w', e'⟩ := DD_at (RC_rev h)
    have h1 := DD_le (Wp_rev k c y b w)
    have h2 := DD_le (Wp_rev k' t y' b' w')
    omega
  · rw [DD_inf h, DD_inf (fun q => h (RC_rev q))]
/-- where the way goes on: the least corner -/
noncomputable def nx (G : MP) (t c : Nat) : Nat := fi (fun n => ∃ s, EG G s c n ∧ DD G t n + cs G s = DD G t c) 24
theorem nx_ok (g : GM G nC) (h : RC G t c) (hc : c ≠ t) : nx G t c < nC ∧ (∃ s, EG G s c (nx G t c) ∧ DD G t (nx G t c) + cs G s = DD G t c) ∧ RC G t (nx G t c) ∧ rk G t nC (nx G t c) + 1 ≤ rk G t nC c := by
  obtain ⟨s, n, e, hn, e2⟩ := DD_par h hc
  have hlt : fi (fun n => ∃ s, EG G s c n ∧ DD G t n + cs G s = DD G t c) 24 < 24 := by
    have hn24 : n < nC := by
      have := g.2 s e.1
      rcases e.2.2 with ⟨q1, q2⟩ | ⟨q1, q2⟩
      · omega
      · omega
    apply Nat.lt_of_not_le
    intro hle
    have hno := fi_no (fun n => ∃ s, EG G s c n ∧ DD G t n + cs G s = DD G t c) 24 n (by have := g.1; omega)
    exact hno ⟨s, e, e2.symm⟩
  obtain ⟨s', e', e3⟩ := fi_yes (fun n => ∃ s, EG G s c n ∧ DD G t n + cs G s = DD G t c) 24 hlt
  have hr : RC G t (nx G t c) := (DD_iff g).mp (by
    have := DD_lt g h
    show DD G t (fi _ 24) < _
    omega)
  have hp := cs_pos g e'
  refine ⟨?_, ⟨s', e', e3⟩, hr, rk_lt g e' hr (by show DD G t (fi _ 24) < _; omega)⟩
  have := g.2 s' e'.1
  show fi _ 24 < nC
  rcases e'.2.2 with ⟨q1, q2⟩ | ⟨q1, q2⟩
  · omega
  · omega
end DDx
