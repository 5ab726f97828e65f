/-! call: the reference's, its search and its rows -/
section CKy
variable {L nC nS nK nD : Nat} {m m0 m1 m2 ms : Nat → Nat → Int32} {z : Nat → Nat}
/-- measured from f, at the stands -/
def FDq (m : Nat → Nat → Int32) (z : Nat → Nat) (f : Nat) (m1 : Nat → Nat → Int32) : Prop := ∀ s, s < z 3 → ∃ y : Nat, m1 47 (pn m s) = nI y ∧ y ≤ 1000000000 ∧ (((RK m (z 1) (z 8) f) s ∧ (KK m (z 1) (z 8) f) s = y * 16 + s ∧ y < 1000000000) ∨ (¬ (RK m (z 1) (z 8) f) s ∧ y = 1000000000))
/-- the reference's state behind a drive -/
noncomputable def drv (LVr : (Nat → Nat → Int32) → Nat → Nat → Int32) (M : Nat → Nat → Int32) (q c f t n : Nat) (ah yd bd w : Int32) (s : Nat) : Nat → Nat → Int32 := hk_w (hk_w (hk_w (LVr (hk_w (tkr M q c f t n ah yd bd w (M 53 c) (bI (ngt (M 38) (M 39) n)) (nI s)) 37 60 (nI (q + 1)))) 55 c 3) 56 c (nI t)) 57 c (nI n + ah + (yd + 109) / 110 + rm w 1000)
/-- as ASK, of the first D alone -/
def AKD (D : Nat) (R : Nat → Prop) (K : Nat → Nat) (b : Nat) (x : Int32) : Prop := ∀ j, j < D → (x.toBitVec.getLsbD j = true ↔ R j ∧ K j < b)
theorem AKD_0 {D : Nat} {R : Nat → Prop} {K : Nat → Nat} (hD : D ≤ 12) : AKD D R K 0 0 := fun j hj => ASK_0 j (by omega)
theorem AKD_t {D : Nat} {R : Nat → Prop} {K : Nat → Nat} {b j : Nat} {x : Int32} (h : AKD D R K b x) (hD : D ≤ 12) (hj : j < D) : (x >>> (nI j &&& 31)) &&& 1 = 0 ↔ ¬ (R j ∧ K j < b) := by
  rw [bit_t (by omega), ← h j hj]; simp
theorem AKD_s {R : Nat → Prop} {K : Nat → Nat} {b s D : Nat} {x : Int32} (h : AKD D R K b x) (hD : D ≤ 12) (hm : mk R K b D = some s) (hK : ∀ i j, i < 12 → j < 12 → K i = K j → i = j) : AKD D R K (K s + 1) (x ||| ((1 : Int32) <<< (nI s &&& 31))) := by
  obtain ⟨k1, k2, k3⟩ := mk_lt hm
  intro j hj
  rw [bit_s (by omega) (by omega), Bool.or_eq_true, h j hj, decide_eq_true_iff]
  constructor
  · rintro (⟨q1, q2⟩ | rfl)
    · exact ⟨q1, by omega⟩
    · exact ⟨k2, by omega⟩
  · rintro ⟨q1, q2⟩
    by_cases hb : K j < b
    · exact Or.inl ⟨q1, hb⟩
    · have := mk_min hm j hj q1 (by omega)
      exact Or.inr (hK j s (by omega) (by omega) (by omega))
theorem drv_60 {LVr : (Nat → Nat → Int32) → Nat → Nat → Int32} {M : Nat → Nat → Int32} {q c f t n s : Nat} {ah yd bd w : Int32} (h : ∀ M a, a ≠ 64 → a ≠ 65 → LVr M a = M a) : drv LVr M q c f t n ah yd bd w s 37 60 = nI (q + 1) := by
  unfold drv
  rw [hk_wo (by decide), hk_wo (by decide), hk_wo (by decide), h _ 37 (by decide) (by decide), hk_w_eq]
set_option maxRecDepth 20000 in
set_option maxHeartbeats 2000000 in
theorem lq_scanN (hI : Inv L z m) {f i b : Nat} {x : Int32} {Q : Option Value → hk_H → Prop} (l1 l2 l3 l4 l5 : Option Value) (x7 : Int32) (l10 l11 l12 : Option Value) (hC : CR m m1) (hD : FDq m z f m1) (hA : AKD (z 3) (RK m (z 1) (z 8) f) (KK m (z 1) (z 8) f) b x) (hi : i < z 3) (hm : mk (RK m (z 1) (z 8) f) (KK m (z 1) (z 8) f) b i = none) (ih : ∀ (o : Option Nat), mk (RK m (z 1) (z 8) f) (KK m (z 1) (z 8) f) b (i + 1) = o → hk_WP MX10_call 70 0 0 0 0 83 [some (.ref 37), l1, l2, l3, l4, l5, some (.int x), some (.int x7), some (.int (fo (-1) o)), some (.int (nI (i + 1))), l10, l11, l12] [] (hk_h L m1) Q) : hk_WP MX10_call 70 0 0 0 0 83 [some (.ref 37), l1, l2, l3, l4, l5, some (.int x), some (.int x7), some (.int (-1)), some (.int (nI i)), l10, l11, l12] [] (hk_h L m1) Q := by
  obtain ⟨g0, ⟨⟨a0, a1, a2, a3, a4, a5, a6, a7, a8, a9, a10, a11, a12, a13⟩, ⟨b0, b1, b2, b3, b4, b5, b6, b7, b8, b9, b10, b11, b12⟩, ⟨c0, c1, c2, c3, c4, c5, c6, c7, c8, c9, c10, c11, c12⟩⟩, g2, g3, g4, g5, g6, g7, g8, g9, g10, g11, g12, g13, g14⟩ := id hI
  obtain ⟨p1, p2, p3⟩ := pn_ok hI hi
  obtain ⟨yi, ey, hy, hv⟩ := hD i hi
  have e35 : m1 37 35 = nI (z 3) := by rw [hC.2.2.2.2 35 (by decide)]; exact b3
  have e62 : m1 62 = m 62 := hC.1 62 (by decide)
  have hv1 : 1000000000 ≤ yi → ¬ (RK m (z 1) (z 8) f) i := fun h q => by rcases hv with ⟨_, _, h2⟩ | ⟨h2, _⟩; (omega); exact h2 q
  have hv2 : ¬ 1000000000 ≤ yi → (RK m (z 1) (z 8) f) i ∧ (KK m (z 1) (z 8) f) i = yi * 16 + i := fun h => by rcases hv with ⟨h1, h2, _⟩ | ⟨_, h2⟩; (exact ⟨h1, h2⟩); omega
  refine hk_iload dX10_call_83 rfl ?_
  refine hk_aload_n dX10_call_85 rfl rfl ?_
  refine gfX10_204 rfl dX10_call_86 (hk_lt (by decide)) rfl rfl ?_
  refine hk_icmp_ge (tgt := 161) dX10_call_89 (by decide) (fun c89 => absurd c89 (by rw [e35, nI_leI (by omega) (by omega)]; omega)) (fun _ => ?_)
  refine hk_iload dX10_call_92 rfl ?_
  refine hk_iload dX10_call_94 rfl ?_
  refine hk_ishr dX10_call_96 ?_
  refine hk_iconst (v := 1) dX10_call_97 (by decide) ?_
  refine hk_iand dX10_call_98 ?_
  refine hk_if_ne (tgt := 155) dX10_call_99 (by decide) (fun c99 => ?_) (fun c99 => ?_)
  · rw [AKD_t hA c3 hi] at c99
    refine hk_iinc (v := nI (i + 1)) dX10_call_155 rfl (nI_1 i) (by decide) rfl ?_
    refine hk_goto (tgt := 83) dX10_call_158 (by decide) ?_
    first
    | (exact ih none ((mk_n (R := (RK m (z 1) (z 8) f)) (K := (KK m (z 1) (z 8) f)) (n := i) (fun q => c99 (fun p => Nat.not_le_of_lt p.2 q.2.1))).trans hm))
    | (exact ih none ((mk_n (R := (RK m (z 1) (z 8) f)) (K := (KK m (z 1) (z 8) f)) (n := i) (fun q => hv1 c116 q.1)).trans hm))
    | (exact ih (some i) (mk_y (R := (RK m (z 1) (z 8) f)) (K := (KK m (z 1) (z 8) f)) (n := i) ⟨(hv2 c116).1, Nat.le_of_not_lt (fun p => c99 ⟨(hv2 c116).1, p⟩), fun x hx => absurd (hm.symm.trans hx) (fun h => by cases h)⟩))
  · rw [AKD_t hA c3 hi] at c99
    refine hk_aload_n dX10_call_102 rfl rfl ?_
    refine gfX10_37 rfl dX10_call_103 (hk_lt (by decide)) rfl rfl ?_
    refine hk_aload_n dX10_call_106 rfl rfl ?_
    refine gfX10_82 rfl dX10_call_107 (hk_lt (by decide)) rfl rfl ?_
    refine hk_iload dX10_call_110 rfl ?_
    refine hk_ian dX10_call_112 (by decide) (fun _ => rfl) rfl (by omega) (by decide) ?_
    rw [e62, p3]
    refine hk_ian dX10_call_113 (by decide) (fun _ => rfl) rfl (by omega) (by decide) ?_
    rw [ey]
    refine hk_ldc dX10_call_114 hk_k10_226 ?_
    refine hk_icmp_ge (tgt := 155) dX10_call_116 (by decide) (fun c116 => ?_) (fun c116 => ?_)
    · rw [show (1000000000 : Int32) = nI 1000000000 from rfl, nI_leI (by omega) (by omega)] at c116
      refine hk_iinc (v := nI (i + 1)) dX10_call_155 rfl (nI_1 i) (by decide) rfl ?_
      refine hk_goto (tgt := 83) dX10_call_158 (by decide) ?_
      first
      | (exact ih none ((mk_n (R := (RK m (z 1) (z 8) f)) (K := (KK m (z 1) (z 8) f)) (n := i) (fun q => c99 (fun p => Nat.not_le_of_lt p.2 q.2.1))).trans hm))
      | (exact ih none ((mk_n (R := (RK m (z 1) (z 8) f)) (K := (KK m (z 1) (z 8) f)) (n := i) (fun q => hv1 c116 q.1)).trans hm))
      | (exact ih (some i) (mk_y (R := (RK m (z 1) (z 8) f)) (K := (KK m (z 1) (z 8) f)) (n := i) ⟨(hv2 c116).1, Nat.le_of_not_lt (fun p => c99 ⟨(hv2 c116).1, p⟩), fun x hx => absurd (hm.symm.trans hx) (fun h => by cases h)⟩))
    · rw [show (1000000000 : Int32) = nI 1000000000 from rfl, nI_leI (by omega) (by omega)] at c116
      refine hk_iload dX10_call_119 rfl ?_
      refine hk_if_lt (tgt := 151) dX10_call_121 (by decide) (fun _ => ?_) (fun c121 => absurd (by decide) c121)
      refine hk_iload dX10_call_151 rfl ?_
      refine hk_istore dX10_call_153 (by decide) rfl ?_
      refine hk_iinc (v := nI (i + 1)) dX10_call_155 rfl (nI_1 i) (by decide) rfl ?_
      refine hk_goto (tgt := 83) dX10_call_158 (by decide) ?_
      first
      | (exact ih none ((mk_n (R := (RK m (z 1) (z 8) f)) (K := (KK m (z 1) (z 8) f)) (n := i) (fun q => c99 (fun p => Nat.not_le_of_lt p.2 q.2.1))).trans hm))
      | (exact ih none ((mk_n (R := (RK m (z 1) (z 8) f)) (K := (KK m (z 1) (z 8) f)) (n := i) (fun q => hv1 c116 q.1)).trans hm))
      | (exact ih (some i) (mk_y (R := (RK m (z 1) (z 8) f)) (K := (KK m (z 1) (z 8) f)) (n := i) ⟨(hv2 c116).1, Nat.le_of_not_lt (fun p => c99 ⟨(hv2 c116).1, p⟩), fun x hx => absurd (hm.symm.trans hx) (fun h => by cases h)⟩))
set_option maxRecDepth 20000 in
set_option maxHeartbeats 2000000 in
theorem lq_scanS (hI : Inv L z m) {f i b s : Nat} {x : Int32} {Q : Option Value → hk_H → Prop} (l1 l2 l3 l4 l5 : Option Value) (x7 : Int32) (l10 l11 l12 : Option Value) (hC : CR m m1) (hD : FDq m z f m1) (hA : AKD (z 3) (RK m (z 1) (z 8) f) (KK m (z 1) (z 8) f) b x) (hi : i < z 3) (hm : mk (RK m (z 1) (z 8) f) (KK m (z 1) (z 8) f) b i = (some s)) (ih : ∀ (o : Option Nat), mk (RK m (z 1) (z 8) f) (KK m (z 1) (z 8) f) b (i + 1) = o → hk_WP MX10_call 70 0 0 0 0 83 [some (.ref 37), l1, l2, l3, l4, l5, some (.int x), some (.int x7), some (.int (fo (-1) o)), some (.int (nI (i + 1))), l10, l11, l12] [] (hk_h L m1) Q) : hk_WP MX10_call 70 0 0 0 0 83 [some (.ref 37), l1, l2, l3, l4, l5, some (.int x), some (.int x7), some (.int (nI s)), some (.int (nI i)), l10, l11, l12] [] (hk_h L m1) Q := by
  obtain ⟨g0, ⟨⟨a0, a1, a2, a3, a4, a5, a6, a7, a8, a9, a10, a11, a12, a13⟩, ⟨b0, b1, b2, b3, b4, b5, b6, b7, b8, b9, b10, b11, b12⟩, ⟨c0, c1, c2, c3, c4, c5, c6, c7, c8, c9, c10, c11, c12⟩⟩, g2, g3, g4, g5, g6, g7, g8, g9, g10, g11, g12, g13, g14⟩ := id hI
  obtain ⟨p1, p2, p3⟩ := pn_ok hI hi
  obtain ⟨yi, ey, hy, hv⟩ := hD i hi
  have e35 : m1 37 35 = nI (z 3) := by rw [hC.2.2.2.2 35 (by decide)]; exact b3
  have e62 : m1 62 = m 62 := hC.1 62 (by decide)
  have hv1 : 1000000000 ≤ yi → ¬ (RK m (z 1) (z 8) f) i := fun h q => by rcases hv with ⟨_, _, h2⟩ | ⟨h2, _⟩; (omega); exact h2 q
  have hv2 : ¬ 1000000000 ≤ yi → (RK m (z 1) (z 8) f) i ∧ (KK m (z 1) (z 8) f) i = yi * 16 + i := fun h => by rcases hv with ⟨h1, h2, _⟩ | ⟨_, h2⟩; (exact ⟨h1, h2⟩); omega
  obtain ⟨k1, k2, k3⟩ := mk_lt hm
  obtain ⟨ys, fy, hys, hvs⟩ := hD s (by omega)
  obtain ⟨s1, s2, s3⟩ := pn_ok hI (s := s) (by omega)
  have hks : (KK m (z 1) (z 8) f) s = ys * 16 + s := by rcases hvs with ⟨_, h2, _⟩ | ⟨h2, _⟩; (exact h2); exact absurd k2 h2
  have hw : ¬ 1000000000 ≤ yi → ¬ ys ≤ yi → ∀ x, mk (RK m (z 1) (z 8) f) (KK m (z 1) (z 8) f) b i = some x → (KK m (z 1) (z 8) f) i < (KK m (z 1) (z 8) f) x := fun h h2 x hx => by
    have e : s = x := Option.some.inj (hm.symm.trans hx)
    have := (hv2 h).2
    subst e; omega
  have hu : ¬ 1000000000 ≤ yi → ys ≤ yi → ¬ ((RK m (z 1) (z 8) f) i ∧ b ≤ (KK m (z 1) (z 8) f) i ∧ ∀ x, mk (RK m (z 1) (z 8) f) (KK m (z 1) (z 8) f) b i = some x → (KK m (z 1) (z 8) f) i < (KK m (z 1) (z 8) f) x) := fun h h2 q => by
    have := (hv2 h).2
    have := q.2.2 s hm
    omega
  refine hk_iload dX10_call_83 rfl ?_
  refine hk_aload_n dX10_call_85 rfl rfl ?_
  refine gfX10_204 rfl dX10_call_86 (hk_lt (by decide)) rfl rfl ?_
  refine hk_icmp_ge (tgt := 161) dX10_call_89 (by decide) (fun c89 => absurd c89 (by rw [e35, nI_leI (by omega) (by omega)]; omega)) (fun _ => ?_)
  refine hk_iload dX10_call_92 rfl ?_
  refine hk_iload dX10_call_94 rfl ?_
  refine hk_ishr dX10_call_96 ?_
  refine hk_iconst (v := 1) dX10_call_97 (by decide) ?_
  refine hk_iand dX10_call_98 ?_
  refine hk_if_ne (tgt := 155) dX10_call_99 (by decide) (fun c99 => ?_) (fun c99 => ?_)
  · rw [AKD_t hA c3 hi] at c99
    refine hk_iinc (v := nI (i + 1)) dX10_call_155 rfl (nI_1 i) (by decide) rfl ?_
    refine hk_goto (tgt := 83) dX10_call_158 (by decide) ?_
    first
    | (exact ih (some s) ((mk_n (R := (RK m (z 1) (z 8) f)) (K := (KK m (z 1) (z 8) f)) (n := i) (fun q => c99 (fun p => Nat.not_le_of_lt p.2 q.2.1))).trans hm))
    | (exact ih (some s) ((mk_n (R := (RK m (z 1) (z 8) f)) (K := (KK m (z 1) (z 8) f)) (n := i) (fun q => hv1 c116 q.1)).trans hm))
    | (exact ih (some s) ((mk_n (R := (RK m (z 1) (z 8) f)) (K := (KK m (z 1) (z 8) f)) (n := i) (hu c116 c148)).trans hm))
    | (exact ih (some i) (mk_y (R := (RK m (z 1) (z 8) f)) (K := (KK m (z 1) (z 8) f)) (n := i) ⟨(hv2 c116).1, Nat.le_of_not_lt (fun p => c99 ⟨(hv2 c116).1, p⟩), hw c116 c148⟩))
  · rw [AKD_t hA c3 hi] at c99
    refine hk_aload_n dX10_call_102 rfl rfl ?_
    refine gfX10_37 rfl dX10_call_103 (hk_lt (by decide)) rfl rfl ?_
    refine hk_aload_n dX10_call_106 rfl rfl ?_
    refine gfX10_82 rfl dX10_call_107 (hk_lt (by decide)) rfl rfl ?_
    refine hk_iload dX10_call_110 rfl ?_
    refine hk_ian dX10_call_112 (by decide) (fun _ => rfl) rfl (by omega) (by decide) ?_
    rw [e62, p3]
    refine hk_ian dX10_call_113 (by decide) (fun _ => rfl) rfl (by omega) (by decide) ?_
    rw [ey]
    refine hk_ldc dX10_call_114 hk_k10_226 ?_
    refine hk_icmp_ge (tgt := 155) dX10_call_116 (by decide) (fun c116 => ?_) (fun c116 => ?_)
    · rw [show (1000000000 : Int32) = nI 1000000000 from rfl, nI_leI (by omega) (by omega)] at c116
      refine hk_iinc (v := nI (i + 1)) dX10_call_155 rfl (nI_1 i) (by decide) rfl ?_
      refine hk_goto (tgt := 83) dX10_call_158 (by decide) ?_
      first
      | (exact ih (some s) ((mk_n (R := (RK m (z 1) (z 8) f)) (K := (KK m (z 1) (z 8) f)) (n := i) (fun q => c99 (fun p => Nat.not_le_of_lt p.2 q.2.1))).trans hm))
      | (exact ih (some s) ((mk_n (R := (RK m (z 1) (z 8) f)) (K := (KK m (z 1) (z 8) f)) (n := i) (fun q => hv1 c116 q.1)).trans hm))
      | (exact ih (some s) ((mk_n (R := (RK m (z 1) (z 8) f)) (K := (KK m (z 1) (z 8) f)) (n := i) (hu c116 c148)).trans hm))
      | (exact ih (some i) (mk_y (R := (RK m (z 1) (z 8) f)) (K := (KK m (z 1) (z 8) f)) (n := i) ⟨(hv2 c116).1, Nat.le_of_not_lt (fun p => c99 ⟨(hv2 c116).1, p⟩), hw c116 c148⟩))
    · rw [show (1000000000 : Int32) = nI 1000000000 from rfl, nI_leI (by omega) (by omega)] at c116
      refine hk_iload dX10_call_119 rfl ?_
      refine hk_if_lt (tgt := 151) dX10_call_121 (by decide) (fun c121 => absurd c121 (nI_pos (by omega))) (fun _ => ?_)
      refine hk_aload_n dX10_call_124 rfl rfl ?_
      refine gfX10_37 rfl dX10_call_125 (hk_lt (by decide)) rfl rfl ?_
      refine hk_aload_n dX10_call_128 rfl rfl ?_
      refine gfX10_82 rfl dX10_call_129 (hk_lt (by decide)) rfl rfl ?_
      refine hk_iload dX10_call_132 rfl ?_
      refine hk_ian dX10_call_134 (by decide) (fun _ => rfl) rfl (by omega) (by decide) ?_
      rw [e62, p3]
      refine hk_ian dX10_call_135 (by decide) (fun _ => rfl) rfl (by omega) (by decide) ?_
      rw [ey]
      refine hk_aload_n dX10_call_136 rfl rfl ?_
      refine gfX10_37 rfl dX10_call_137 (hk_lt (by decide)) rfl rfl ?_
      refine hk_aload_n dX10_call_140 rfl rfl ?_
      refine gfX10_82 rfl dX10_call_141 (hk_lt (by decide)) rfl rfl ?_
      refine hk_iload dX10_call_144 rfl ?_
      refine hk_ian dX10_call_146 (by decide) (fun _ => rfl) rfl (by omega) (by decide) ?_
      rw [e62, s3]
      refine hk_ian dX10_call_147 (by decide) (fun _ => rfl) rfl (by omega) (by decide) ?_
      rw [fy]
      refine hk_icmp_ge (tgt := 155) dX10_call_148 (by decide) (fun c148 => ?_) (fun c148 => ?_)
      · rw [nI_leI (by omega) (by omega)] at c148
        refine hk_iinc (v := nI (i + 1)) dX10_call_155 rfl (nI_1 i) (by decide) rfl ?_
        refine hk_goto (tgt := 83) dX10_call_158 (by decide) ?_
        first
        | (exact ih (some s) ((mk_n (R := (RK m (z 1) (z 8) f)) (K := (KK m (z 1) (z 8) f)) (n := i) (fun q => c99 (fun p => Nat.not_le_of_lt p.2 q.2.1))).trans hm))
        | (exact ih (some s) ((mk_n (R := (RK m (z 1) (z 8) f)) (K := (KK m (z 1) (z 8) f)) (n := i) (fun q => hv1 c116 q.1)).trans hm))
        | (exact ih (some s) ((mk_n (R := (RK m (z 1) (z 8) f)) (K := (KK m (z 1) (z 8) f)) (n := i) (hu c116 c148)).trans hm))
        | (exact ih (some i) (mk_y (R := (RK m (z 1) (z 8) f)) (K := (KK m (z 1) (z 8) f)) (n := i) ⟨(hv2 c116).1, Nat.le_of_not_lt (fun p => c99 ⟨(hv2 c116).1, p⟩), hw c116 c148⟩))
      · rw [nI_leI (by omega) (by omega)] at c148
        refine hk_iload dX10_call_151 rfl ?_
        refine hk_istore dX10_call_153 (by decide) rfl ?_
        refine hk_iinc (v := nI (i + 1)) dX10_call_155 rfl (nI_1 i) (by decide) rfl ?_
        refine hk_goto (tgt := 83) dX10_call_158 (by decide) ?_
        first
        | (exact ih (some s) ((mk_n (R := (RK m (z 1) (z 8) f)) (K := (KK m (z 1) (z 8) f)) (n := i) (fun q => c99 (fun p => Nat.not_le_of_lt p.2 q.2.1))).trans hm))
        | (exact ih (some s) ((mk_n (R := (RK m (z 1) (z 8) f)) (K := (KK m (z 1) (z 8) f)) (n := i) (fun q => hv1 c116 q.1)).trans hm))
        | (exact ih (some s) ((mk_n (R := (RK m (z 1) (z 8) f)) (K := (KK m (z 1) (z 8) f)) (n := i) (hu c116 c148)).trans hm))
        | (exact ih (some i) (mk_y (R := (RK m (z 1) (z 8) f)) (K := (KK m (z 1) (z 8) f)) (n := i) ⟨(hv2 c116).1, Nat.le_of_not_lt (fun p => c99 ⟨(hv2 c116).1, p⟩), hw c116 c148⟩))
set_option maxRecDepth 20000 in
set_option maxHeartbeats 2000000 in
theorem lp_scan (hI : Inv L z m) {f b : Nat} {x : Int32} {Q : Option Value → hk_H → Prop} (l1 l2 l3 l4 l5 : Option Value) (x7 : Int32) (l10 l11 l12 : Option Value) (hC : CR m m1) (hD : FDq m z f m1) (hA : AKD (z 3) (RK m (z 1) (z 8) f) (KK m (z 1) (z 8) f) b x) (hk : hk_WP MX10_call 70 0 0 0 0 161 [some (.ref 37), l1, l2, l3, l4, l5, some (.int x), some (.int x7), some (.int (fo (-1) (mk (RK m (z 1) (z 8) f) (KK m (z 1) (z 8) f) b (z 3)))), some (.int (nI (z 3))), l10, l11, l12] [] (hk_h L m1) Q) (i : Nat) (hi : i ≤ z 3) : ∀ (o : Option Nat), mk (RK m (z 1) (z 8) f) (KK m (z 1) (z 8) f) b i = o → hk_WP MX10_call 70 0 0 0 0 83 [some (.ref 37), l1, l2, l3, l4, l5, some (.int x), some (.int x7), some (.int (fo (-1) o)), some (.int (nI i)), l10, l11, l12] [] (hk_h L m1) Q := by
  obtain ⟨g0, ⟨⟨a0, a1, a2, a3, a4, a5, a6, a7, a8, a9, a10, a11, a12, a13⟩, ⟨b0, b1, b2, b3, b4, b5, b6, b7, b8, b9, b10, b11, b12⟩, ⟨c0, c1, c2, c3, c4, c5, c6, c7, c8, c9, c10, c11, c12⟩⟩, g2, g3, g4, g5, g6, g7, g8, g9, g10, g11, g12, g13, g14⟩ := id hI
  have e35 : m1 37 35 = nI (z 3) := by rw [hC.2.2.2.2 35 (by decide)]; exact b3
  intro o hm
  by_cases hlt : i < z 3
  · have ih := lp_scan hI l1 l2 l3 l4 l5 x7 l10 l11 l12 hC hD hA hk (i + 1) (by omega)
    cases o with
    | none => exact lq_scanN hI l1 l2 l3 l4 l5 x7 l10 l11 l12 hC hD hA hlt hm ih
    | some s => exact lq_scanS hI l1 l2 l3 l4 l5 x7 l10 l11 l12 hC hD hA hlt hm ih
  have hiD : i = z 3 := by omega
  subst hiD
  refine hk_iload dX10_call_83 rfl ?_
  refine hk_aload_n dX10_call_85 rfl rfl ?_
  refine gfX10_204 rfl dX10_call_86 (hk_lt (by decide)) rfl rfl ?_
  refine hk_icmp_ge (tgt := 161) dX10_call_89 (by decide) (fun _ => ?_) (fun c89 => absurd (by rw [e35]; exact Int32.le_refl _) c89)
  rw [← hm]; exact hk
termination_by z 3 - i
decreasing_by all_goals omega
set_option maxRecDepth 20000 in
set_option maxHeartbeats 2000000 in
theorem lp_rowr (hI : Inv L z m) {f t s : Nat} {w : Int32} {Q : Option Value → hk_H → Prop} {T : List Nat} {o : Option Nat} (l6 l7 : Option Value) (hC : CR m ms) (hT3 : z 5 < 300) (LVc LVr : Nat → (Nat → Nat → Int32) → Nat → Nat → Int32) (hLV : ∀ c, c < z 2 → LVP L (z 0) (z 2) (z 3) m c (LVc c) (LVr c)) (hs : s < z 3) (hk : ∀ (M : Nat → Nat → Int32) (i : Nat) (l11 l12 : Option Value), RW ms M → RFr m (z 6) (z 8) f t T M → o = none → hk_WP MX10_call 70 0 0 0 0 288 [some (.ref 37), some (.int (nI f)), some (.int (nI t)), some (.int w), some (.int (nI (DD (GG m (z 1) (nI (z 8))) f t / 100))), some (.int (nI (DD (GG m (z 1) (nI (z 8))) f t % 100))), l6, l7, some (.int (nI s)), some (.int ((nI (DD (GG m (z 1) (nI (z 8))) f (pn m s) / 100) + 109) / 110)), some (.int (nI i)), l11, l12] [] (hk_h L M) Q) (hd : ∀ (M : Nat → Nat → Int32) (c : Nat), RW ms M → RFr m (z 6) (z 8) f t T M → o = some c → c < z 2 → Q (some (.int (nI (z 5)))) (hk_h L (drv (LVr c) M (z 5) c f t (z 8) ((nI (DD (GG m (z 1) (nI (z 8))) f (pn m s) / 100) + 109) / 110) (nI (DD (GG m (z 1) (nI (z 8))) f t / 100)) (nI (DD (GG m (z 1) (nI (z 8))) f t % 100)) w s))) (i : Nat) (hi : i ≤ rq m s) : ∀ (rl : List Nat) (m1 : Nat → Nat → Int32) (l11 l12 : Option Value), RW ms m1 → RFr m (z 6) (z 8) f t rl m1 → (gor (WS2 m L z f t w s) (rwn m s) (rq m s - i) i).1 = o → rl ++ (gor (WS2 m L z f t w s) (rwn m s) (rq m s - i) i).2 = T → hk_WP MX10_call 70 0 0 0 0 195 [some (.ref 37), some (.int (nI f)), some (.int (nI t)), some (.int w), some (.int (nI (DD (GG m (z 1) (nI (z 8))) f t / 100))), some (.int (nI (DD (GG m (z 1) (nI (z 8))) f t % 100))), l6, l7, some (.int (nI s)), some (.int ((nI (DD (GG m (z 1) (nI (z 8))) f (pn m s) / 100) + 109) / 110)), some (.int (nI i)), l11, l12] [] (hk_h L m1) Q := by
  intro rl m1 l11 l12 hR hRF h1 h2
  obtain ⟨g0, ⟨⟨a0, a1, a2, a3, a4, a5, a6, a7, a8, a9, a10, a11, a12, a13⟩, ⟨b0, b1, b2, b3, b4, b5, b6, b7, b8, b9, b10, b11, b12⟩, ⟨c0, c1, c2, c3, c4, c5, c6, c7, c8, c9, c10, c11, c12⟩⟩, g2, g3, g4, g5, g6, g7, g8, g9, g10, g11, g12, g13, g14⟩ := id hI
  obtain ⟨r1, r2, r3, r4⟩ := rw_ok hI hs
  have hC1 := hC.rw hR
  have e65 : m1 65 = m 65 := hC1.1 65 (by decide)
  have e64 : m1 64 = m 64 := hC1.1 64 (by decide)
  refine hk_iload dX10_call_195 rfl ?_
  refine hk_aload_n dX10_call_197 rfl rfl ?_
  refine gfX10_91 rfl dX10_call_198 (hk_lt (by decide)) rfl rfl ?_
  refine hk_iload dX10_call_201 rfl ?_
  refine hk_ian dX10_call_203 (by decide) (fun _ => rfl) rfl (by omega) (by decide) ?_
  rw [e65, r2]
  refine hk_icmp_ge (tgt := 288) dX10_call_204 (by decide) (fun c204 => ?_) (fun c204 => ?_)
  · rw [nI_leI (by omega) (by omega)] at c204
    have h0 : rq m s - i = 0 := by omega
    rw [h0] at h1 h2
    have h2' : rl ++ [] = T := h2
    rw [List.append_nil] at h2'
    subst h2'
    exact hk m1 i l11 l12 hR hRF h1.symm
  · rw [nI_leI (by omega) (by omega)] at c204
    have hlt : i < rq m s := by omega
    have hcz := (r4 i hlt).2.2.1
    refine hk_aload_n dX10_call_207 rfl rfl ?_
    refine gfX10_88 rfl dX10_call_208 (hk_lt (by decide)) rfl rfl ?_
    refine hk_bipush (v := 10) dX10_call_211 (by decide) ?_
    refine hk_iload dX10_call_213 rfl ?_
    refine hk_imul dX10_call_215 ?_
    refine hk_iload dX10_call_216 rfl ?_
    refine hk_iadd dX10_call_218 ?_
    refine hk_ian dX10_call_219 (by decide) (fun _ => rfl) (by rw [show (10 : Int32) = nI 10 from rfl, nI_mul, nI_add]) (by omega) (by decide) ?_
    rw [e64, (r4 i hlt).2.1]
    refine hk_istore dX10_call_220 (by decide) rfl ?_
    refine hk_aload_n dX10_call_222 rfl rfl ?_
    refine hk_iload dX10_call_223 rfl ?_
    refine hk_iload_n dX10_call_225 rfl rfl ?_
    refine hk_iload_n dX10_call_226 rfl rfl ?_
    refine hk_iload_n dX10_call_227 rfl rfl ?_
    refine hk_iload dX10_call_228 rfl ?_
    refine hk_iload dX10_call_230 rfl ?_
    refine hk_iload dX10_call_232 rfl ?_
    refine ivX10_376 rfl (md_whyNotC hI hC1 hcz) dX10_call_234 (hk_lt (by decide)) rfl rfl rfl (by decide) ⟨by decide, by decide⟩ (Nat.le_of_ble_eq_true rfl) (fun r h1 hq => ?_)
    obtain ⟨m2, rfl, rfl, hS⟩ := hq
    have hR2 := hR.t hS.rw
    have hC2 := hC.rw hR2
    have hRF2 := hRF.k hS
    obtain ⟨kk, hkk⟩ : ∃ kk, rq m s - i = kk + 1 := ⟨rq m s - i - 1, by omega⟩
    have hkk2 : rq m s - (i + 1) = kk := by omega
    have ih := lp_rowr hI (T := T) (o := o) (w := w) l6 l7 hC hT3 LVc LVr hLV hs hk hd (i + 1) (by omega)
    rw [hkk2] at ih
    rw [hkk] at h1 h2
    rw [show WV m L (z 12) (rwn m s i) (z 8) ((nI (DD (GG m (z 1) (nI (z 8))) f (pn m s) / 100) + 109) / 110) (nI (DD (GG m (z 1) (nI (z 8))) f t / 100)) (nI (DD (GG m (z 1) (nI (z 8))) f t % 100)) (rm w 1000) (w / 1000) (bI (ngt (m 4) (m 5) (z 8))) = WS2 m L z f t w s (rwn m s i) from rfl]
    have h60 : m2 37 60 = nI (z 5) := by rw [hC2.2.2.2.2 60 (by decide)]; exact b5
    have h00 : m2 37 0 = nI (z 8) := by rw [hC2.2.2.2.2 0 (by decide)]; exact b8
    refine hk_istore dX10_call_237 (by decide) rfl ?_
    refine hk_iload dX10_call_239 rfl ?_
    refine hk_if_ne (tgt := 268) dX10_call_241 (by decide) (fun c241 => ?_) (fun c241 => ?_)
    · refine hk_iload dX10_call_268 rfl ?_
      refine hk_iconst (v := 4) dX10_call_270 (by decide) ?_
      refine hk_icmp_ne (tgt := 282) dX10_call_271 (by decide) (fun c271 => ?_) (fun c271 => ?_)
      · refine hk_iinc (v := nI (i + 1)) dX10_call_282 rfl (nI_1 i) (by decide) rfl ?_
        refine hk_goto (tgt := 195) dX10_call_285 (by decide) ?_
        first
        | (rw [gor_n c241 c271] at h1 h2
           exact ih rl m2 _ _ hR2 hRF2 h1 h2)
        | (rw [gor_4 c241 c271] at h1 h2
           have h2' : (rl ++ [rwn m s i]) ++ (gor (WS2 m L z f t w s) (rwn m s) kk (i + 1)).2 = T := by rw [List.append_assoc]; exact h2
           exact ih (rl ++ [rwn m s i]) m3 _ _ hR3 hRF3 h1 h2')
      · refine hk_aload_n dX10_call_274 rfl rfl ?_
        refine hk_iload dX10_call_275 rfl ?_
        refine hk_iload_n dX10_call_277 rfl rfl ?_
        refine hk_iload_n dX10_call_278 rfl rfl ?_
        refine ivX10_383 rfl (md_note c6 h00 hRF2) dX10_call_279 (hk_lt (by decide)) rfl rfl rfl (by decide) ⟨by decide, by decide⟩ (Nat.le_of_ble_eq_true rfl) (fun r h1 hq => ?_)
        obtain ⟨m3, rfl, rfl, hN, hRF3⟩ := hq
        have hR3 := hR2.t hN.rw
        refine hk_iinc (v := nI (i + 1)) dX10_call_282 rfl (nI_1 i) (by decide) rfl ?_
        refine hk_goto (tgt := 195) dX10_call_285 (by decide) ?_
        first
        | (rw [gor_n c241 c271] at h1 h2
           exact ih rl m2 _ _ hR2 hRF2 h1 h2)
        | (rw [gor_4 c241 c271] at h1 h2
           have h2' : (rl ++ [rwn m s i]) ++ (gor (WS2 m L z f t w s) (rwn m s) kk (i + 1)).2 = T := by rw [List.append_assoc]; exact h2
           exact ih (rl ++ [rwn m s i]) m3 _ _ hR3 hRF3 h1 h2')
    · refine hk_aload_n dX10_call_244 rfl rfl ?_
      refine hk_iload dX10_call_245 rfl ?_
      refine hk_iload dX10_call_247 rfl ?_
      refine hk_iload_n dX10_call_249 rfl rfl ?_
      refine hk_iload_n dX10_call_250 rfl rfl ?_
      refine hk_iload_n dX10_call_251 rfl rfl ?_
      refine hk_iload dX10_call_252 rfl ?_
      refine hk_iload dX10_call_254 rfl ?_
      refine hk_iload dX10_call_256 rfl ?_
      refine ivX10_380 rfl (md_drive (by omega) h60 hT3 h00 c8 (LVr (rwn m s i)) (hLV _ hcz).2.1 (fun M k1 k2 k3 => (hLV _ hcz).2.2.2.2.2.2.2 M (k1.trans (hC2.2.2.2.2 35 (by decide))) (k2.trans (hC2.1 64 (by decide))) (k3.trans (hC2.1 65 (by decide))))) dX10_call_258 (hk_lt (by decide)) rfl rfl rfl (by decide) ⟨by decide, by decide⟩ (Nat.le_of_ble_eq_true rfl) (hk_kv ?_)
      rw [gor_0 c241] at h1 h2
      have h2' : rl ++ [] = T := h2
      rw [List.append_nil] at h2'
      subst h2'
      show hk_WP _ _ _ _ _ _ 261 _ _ (hk_h L (drv (LVr (rwn m s i)) m2 (z 5) (rwn m s i) f t (z 8) ((nI (DD (GG m (z 1) (nI (z 8))) f (pn m s) / 100) + 109) / 110) (nI (DD (GG m (z 1) (nI (z 8))) f t / 100)) (nI (DD (GG m (z 1) (nI (z 8))) f t % 100)) w s)) _
      refine hk_aload_n dX10_call_261 rfl rfl ?_
      refine gfX10_287 rfl dX10_call_262 (hk_lt (by decide)) rfl rfl ?_
      rw [drv_60 (hLV _ hcz).2.1]
      refine hk_iconst (v := 1) dX10_call_265 (by decide) ?_
      refine hk_isub dX10_call_266 ?_
      rw [nI_pred]
      exact hk_ireturn dX10_call_267 rfl rfl (by decide) (hd m2 _ hR2 hRF2 h1.symm hcz)
termination_by rq m s - i
decreasing_by all_goals omega
end CKy
