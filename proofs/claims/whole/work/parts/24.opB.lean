theorem exS {P : Nat → Prop} {i : Nat} : (∃ u, u < i + 1 ∧ P u) ↔ ((∃ u, u < i ∧ P u) ∨ P i) := by
  constructor
  · rintro ⟨u, h1, h2⟩
    by_cases h : u = i
    · exact Or.inr (h ▸ h2)
    · exact Or.inl ⟨u, by omega, h2⟩
  · rintro (⟨u, h1, h2⟩ | h)
    · exact ⟨u, by omega, h2⟩
    · exact ⟨i, by omega, h⟩
theorem cn_zero {p : Nat → Prop} : ∀ {n : Nat}, cn p n = 0 ↔ ∀ j, j < n → ¬ p j
  | 0 => ⟨fun _ j h => absurd h (Nat.not_lt_zero _), fun _ => rfl⟩
  | n + 1 => by
    by_cases h : p n
    · rw [cn_y h]; exact ⟨fun q => by omega, fun q => absurd h (q n (Nat.lt_succ_self n))⟩
    · rw [cn_n h, cn_zero]
      exact ⟨fun q j hj => by rcases Nat.lt_succ_iff_lt_or_eq.mp hj with r | r; exact q j r; rw [r]; exact h, fun q j hj => q j (Nat.lt_succ_of_lt hj)⟩
theorem cn_one {p : Nat → Prop} : ∀ {n : Nat}, cn p n = 1 ↔ ∃ q, q < n ∧ p q ∧ ∀ j, j < n → p j → j = q
  | 0 => ⟨fun h => (by cases h), fun ⟨q, h, _⟩ => absurd h (Nat.not_lt_zero _)⟩
  | n + 1 => by
    by_cases h : p n
    · rw [cn_y h]
      constructor
      · intro q
        have h0 : cn p n = 0 := by omega
        rw [cn_zero] at h0
        exact ⟨n, Nat.lt_succ_self n, h, fun j hj hp => by rcases Nat.lt_succ_iff_lt_or_eq.mp hj with r | r; exact absurd hp (h0 j r); exact r⟩
      · rintro ⟨q, h1, h2, h3⟩
        have hq := h3 n (Nat.lt_succ_self n) h
        have : cn p n = 0 := cn_zero.mpr (fun j hj hp => by have := h3 j (Nat.lt_succ_of_lt hj) hp; omega)
        omega
    · rw [cn_n h, cn_one]
      constructor
      · rintro ⟨q, h1, h2, h3⟩
        exact ⟨q, Nat.lt_succ_of_lt h1, h2, fun j hj hp => by rcases Nat.lt_succ_iff_lt_or_eq.mp hj with r | r; exact h3 j r hp; exact absurd (r ▸ hp) h⟩
      · rintro ⟨q, h1, h2, h3⟩
        have hq : q ≠ n := fun e => h (e ▸ h2)
        exact ⟨q, by omega, h2, fun j hj hp => h3 j (Nat.lt_succ_of_lt hj) hp⟩
section OB
variable {L : Nat} {m : Nat → Nat → Int32} {z : Nat → Nat}
theorem ct_isFit {K : Nat} (hK : m 9 3 = nI K) (hK30 : K ≤ 30) {nT : Nat} (hT : m 23 3 = nI nT) (hT3 : nT ≤ 300) {nL : Nat} (hL : m 33 3 = nI nL) (hL2 : nL ≤ 60) {nF : Nat} (hF : m 35 3 = nI nF) (hF2 : nF ≤ 60) (hG : GFo nF K (m 36) (m 96) (m 97) (m 98)) {l f : Nat} (hl : l < nL) (hf : f < nF) : hk_Cd MX9_isFitting 2 0 0 [.ref 0, .int (nI l), .int (nI f)] (hk_h L m) (some (.int (bI (FitC m nT l f)))) (hk_h L m) := by
  obtain ⟨-, h2, -, k, hk, hk2⟩ := hG f hf
  exact ct_isFitting hK hK30 hT hT3 hL hL2 hF hF2 hl hf hk2 (h2.trans hk)
set_option maxRecDepth 20000 in
set_option maxHeartbeats 2000000 in
theorem lp_fits {K : Nat} (hK : m 9 3 = nI K) (hK30 : K ≤ 30) {nT : Nat} (hT : m 23 3 = nI nT) (hT3 : nT ≤ 300) {nL : Nat} (hL : m 33 3 = nI nL) (hL2 : nL ≤ 60) {nF : Nat} (hF : m 35 3 = nI nF) (hF2 : nF ≤ 60) (hG : GFo nF K (m 36) (m 96) (m 97) (m 98)) {l : Nat} (hl : l < nL) (i : Nat) (hi : i ≤ nF) : hk_WP MX9_fits 3 0 0 0 0 20 [some (.ref 0), some (.int (nI l)), some (.int (nI (cn (fun f => FitC m nT l f) i))), some (.int (nI i))] [] (hk_h L m) (fun r h' => r = some (.int (nI (cn (fun f => FitC m nT l f) nF))) ∧ h' = hk_h L m) := by
  refine hk_iload_n dX9_fits_20 rfl rfl ?_
  refine hk_aload_n dX9_fits_21 rfl rfl ?_
  refine gfX9_51 rfl dX9_fits_22 (hk_lt (by decide)) rfl rfl ?_
  refine gfX9_293 rfl dX9_fits_25 (hk_lt (by decide)) rfl rfl ?_
  refine gfX9_136 rfl dX9_fits_28 (hk_lt (by decide)) rfl rfl ?_
  refine hk_icmp_ge (tgt := 57) dX9_fits_31 (by decide) (fun c31 => ?_) (fun c31 => ?_)
  · rw [hF, nI_leI (by omega) (by omega)] at c31
    refine hk_iload_n dX9_fits_57 rfl rfl ?_
    exact hk_ireturn dX9_fits_58 rfl rfl (by decide) ⟨by rw [show i = nF by omega], rfl⟩
  · rw [hF, nI_leI (by omega) (by omega)] at c31
    refine hk_iload_n dX9_fits_34 rfl rfl ?_
    refine hk_aload_n dX9_fits_35 rfl rfl ?_
    refine hk_iload_n dX9_fits_36 rfl rfl ?_
    refine hk_iload_n dX9_fits_37 rfl rfl ?_
    refine ivX9_296 rfl (ct_isFit hK hK30 hT hT3 hL hL2 hF hF2 hG hl (by omega)) dX9_fits_38 (hk_lt (by decide)) rfl rfl rfl (by decide) ⟨by decide, by decide⟩ (Nat.le_of_ble_eq_true rfl) (hk_kd ?_)
    refine hk_if_eq (tgt := 48) dX9_fits_41 (by decide) (fun c41 => ?_) (fun c41 => ?_)
    · rw [bI_0] at c41
      refine hk_iconst (v := 0) dX9_fits_48 (by decide) ?_
      refine hk_iadd dX9_fits_49 ?_
      refine hk_istore_n dX9_fits_50 rfl (by decide) rfl ?_
      refine hk_iinc (v := nI (i + 1)) dX9_fits_51 rfl (nI_1 i) (by decide) rfl ?_
      refine hk_goto (tgt := 20) dX9_fits_54 (by decide) ?_
      have hlt : i < nF := by omega
      have cF := c41
      have hs := lp_fits hK hK30 hT hT3 hL hL2 hF hF2 hG hl (i + 1) (by omega)
      first | (rw [cn_y (p := fun f => FitC m nT l f) (n := i) (by first | exact Classical.not_not.mp cF | exact Classical.byContradiction cF), ← nI_1] at hs; exact hs) | (rw [cn_n (p := fun f => FitC m nT l f) (n := i) cF] at hs; simp only [Int32.add_zero]; exact hs)
    · rw [bI_0] at c41
      refine hk_iconst (v := 1) dX9_fits_44 (by decide) ?_
      refine hk_goto (tgt := 49) dX9_fits_45 (by decide) ?_
      refine hk_iadd dX9_fits_49 ?_
      refine hk_istore_n dX9_fits_50 rfl (by decide) rfl ?_
      refine hk_iinc (v := nI (i + 1)) dX9_fits_51 rfl (nI_1 i) (by decide) rfl ?_
      refine hk_goto (tgt := 20) dX9_fits_54 (by decide) ?_
      have hlt : i < nF := by omega
      have cF := c41
      have hs := lp_fits hK hK30 hT hT3 hL hL2 hF hF2 hG hl (i + 1) (by omega)
      first | (rw [cn_y (p := fun f => FitC m nT l f) (n := i) (by first | exact Classical.not_not.mp cF | exact Classical.byContradiction cF), ← nI_1] at hs; exact hs) | (rw [cn_n (p := fun f => FitC m nT l f) (n := i) cF] at hs; simp only [Int32.add_zero]; exact hs)
termination_by nF - i
decreasing_by all_goals omega
set_option maxRecDepth 20000 in
set_option maxHeartbeats 2000000 in
theorem ct_fits {K : Nat} (hK : m 9 3 = nI K) (hK30 : K ≤ 30) {nT : Nat} (hT : m 23 3 = nI nT) (hT3 : nT ≤ 300) {nL : Nat} (hL : m 33 3 = nI nL) (hL2 : nL ≤ 60) {nF : Nat} (hF : m 35 3 = nI nF) (hF2 : nF ≤ 60) (hG : GFo nF K (m 36) (m 96) (m 97) (m 98)) {l : Nat} (hl : l < nL) : hk_Cd MX9_fits 3 0 0 [.ref 0, .int (nI l)] (hk_h L m) (some (.int (nI (cn (fun f => FitC m nT l f) nF)))) (hk_h L m) := by
  refine hk_ofWP (by decide) (by simp [Value.category]) (Nat.le_of_ble_eq_true rfl) ?_
  show hk_WP _ _ _ _ _ _ _ [some (.ref 0), some (.int (nI l)), none, none] [] _ _
  refine hk_aload_n dX9_fits_0 rfl rfl ?_
  refine gfX9_51 rfl dX9_fits_1 (hk_lt (by decide)) rfl rfl ?_
  refine gfX9_284 rfl dX9_fits_4 (hk_lt (by decide)) rfl rfl ?_
  refine hk_iload_n dX9_fits_7 rfl rfl ?_
  refine ivX9_71 rfl (ct_has tb33 hL2 hL _) dX9_fits_8 (hk_lt (by decide)) rfl rfl rfl (by decide) ⟨by decide, by decide⟩ (Nat.le_of_ble_eq_true rfl) (hk_kd ?_)
  refine hk_if_ne (tgt := 16) dX9_fits_11 (by decide) (fun _ => ?_) (fun c11 => absurd c11 (fun q => bI_0.mp q (inR_nI hl (by omega))))
  refine hk_iconst (v := 0) dX9_fits_16 (by decide) ?_
  refine hk_istore_n dX9_fits_17 rfl (by decide) rfl ?_
  refine hk_iconst (v := 0) dX9_fits_18 (by decide) ?_
  refine hk_istore_n dX9_fits_19 rfl (by decide) rfl ?_
  exact lp_fits hK hK30 hT hT3 hL hL2 hF hF2 hG hl 0 (Nat.zero_le _)
set_option maxRecDepth 20000 in
set_option maxHeartbeats 2000000 in
theorem ct_fits_no {nL : Nat} (hL : m 33 3 = nI nL) (hL2 : nL ≤ 60) (l : Int32) (h : ¬ inR l nL) : hk_Cd MX9_fits 3 0 0 [.ref 0, .int l] (hk_h L m) (some (.int (-1))) (hk_h L m) := by
  refine hk_ofWP (by decide) (by simp [Value.category]) (Nat.le_of_ble_eq_true rfl) ?_
  show hk_WP _ _ _ _ _ _ _ [some (.ref 0), some (.int l), none, none] [] _ _
  refine hk_aload_n dX9_fits_0 rfl rfl ?_
  refine gfX9_51 rfl dX9_fits_1 (hk_lt (by decide)) rfl rfl ?_
  refine gfX9_284 rfl dX9_fits_4 (hk_lt (by decide)) rfl rfl ?_
  refine hk_iload_n dX9_fits_7 rfl rfl ?_
  refine ivX9_71 rfl (ct_has tb33 hL2 hL l) dX9_fits_8 (hk_lt (by decide)) rfl rfl rfl (by decide) ⟨by decide, by decide⟩ (Nat.le_of_ble_eq_true rfl) (hk_kd ?_)
  refine hk_if_ne (tgt := 16) dX9_fits_11 (by decide) (fun c11 => absurd (bI_0.mpr h) c11) (fun _ => ?_)
  refine hk_iconst (v := (-1)) dX9_fits_14 (by decide) ?_
  exact hk_ireturn dX9_fits_15 rfl rfl (by decide) ⟨rfl, rfl⟩
set_option maxRecDepth 20000 in
set_option maxHeartbeats 2000000 in
theorem lp_lossesFitting {K : Nat} (hK : m 9 3 = nI K) (hK30 : K ≤ 30) {nT : Nat} (hT : m 23 3 = nI nT) (hT3 : nT ≤ 300) {nL : Nat} (hL : m 33 3 = nI nL) (hL2 : nL ≤ 60) {nF : Nat} (hF : m 35 3 = nI nF) (hF2 : nF ≤ 60) (hG : GFo nF K (m 36) (m 96) (m 97) (m 98)) {f : Nat} (hf : f < nF) (i : Nat) (hi : i ≤ nL) : hk_WP MX9_lossesFitting 3 0 0 0 0 4 [some (.ref 0), some (.int (nI f)), some (.int (nI (cn (fun l => FitC m nT l f) i))), some (.int (nI i))] [] (hk_h L m) (fun r h' => r = some (.int (nI (cn (fun l => FitC m nT l f) nL))) ∧ h' = hk_h L m) := by
  refine hk_iload_n dX9_lossesFitting_4 rfl rfl ?_
  refine hk_aload_n dX9_lossesFitting_5 rfl rfl ?_
  refine gfX9_51 rfl dX9_lossesFitting_6 (hk_lt (by decide)) rfl rfl ?_
  refine gfX9_284 rfl dX9_lossesFitting_9 (hk_lt (by decide)) rfl rfl ?_
  refine gfX9_136 rfl dX9_lossesFitting_12 (hk_lt (by decide)) rfl rfl ?_
  refine hk_icmp_ge (tgt := 41) dX9_lossesFitting_15 (by decide) (fun c15 => ?_) (fun c15 => ?_)
  · rw [hL, nI_leI (by omega) (by omega)] at c15
    refine hk_iload_n dX9_lossesFitting_41 rfl rfl ?_
    exact hk_ireturn dX9_lossesFitting_42 rfl rfl (by decide) ⟨by rw [show i = nL by omega], rfl⟩
  · rw [hL, nI_leI (by omega) (by omega)] at c15
    refine hk_iload_n dX9_lossesFitting_18 rfl rfl ?_
    refine hk_aload_n dX9_lossesFitting_19 rfl rfl ?_
    refine hk_iload_n dX9_lossesFitting_20 rfl rfl ?_
    refine hk_iload_n dX9_lossesFitting_21 rfl rfl ?_
    refine ivX9_296 rfl (ct_isFit hK hK30 hT hT3 hL hL2 hF hF2 hG (by omega) hf) dX9_lossesFitting_22 (hk_lt (by decide)) rfl rfl rfl (by decide) ⟨by decide, by decide⟩ (Nat.le_of_ble_eq_true rfl) (hk_kd ?_)
    refine hk_if_eq (tgt := 32) dX9_lossesFitting_25 (by decide) (fun c25 => ?_) (fun c25 => ?_)
    · rw [bI_0] at c25
      refine hk_iconst (v := 0) dX9_lossesFitting_32 (by decide) ?_
      refine hk_iadd dX9_lossesFitting_33 ?_
      refine hk_istore_n dX9_lossesFitting_34 rfl (by decide) rfl ?_
      refine hk_iinc (v := nI (i + 1)) dX9_lossesFitting_35 rfl (nI_1 i) (by decide) rfl ?_
      refine hk_goto (tgt := 4) dX9_lossesFitting_38 (by decide) ?_
      have hlt : i < nL := by omega
      have cF := c25
      have hs := lp_lossesFitting hK hK30 hT hT3 hL hL2 hF hF2 hG hf (i + 1) (by omega)
      first | (rw [cn_y (p := fun l => FitC m nT l f) (n := i) (by first | exact Classical.not_not.mp cF | exact Classical.byContradiction cF), ← nI_1] at hs; exact hs) | (rw [cn_n (p := fun l => FitC m nT l f) (n := i) cF] at hs; simp only [Int32.add_zero]; exact hs)
    · rw [bI_0] at c25
      refine hk_iconst (v := 1) dX9_lossesFitting_28 (by decide) ?_
      refine hk_goto (tgt := 33) dX9_lossesFitting_29 (by decide) ?_
      refine hk_iadd dX9_lossesFitting_33 ?_
      refine hk_istore_n dX9_lossesFitting_34 rfl (by decide) rfl ?_
      refine hk_iinc (v := nI (i + 1)) dX9_lossesFitting_35 rfl (nI_1 i) (by decide) rfl ?_
      refine hk_goto (tgt := 4) dX9_lossesFitting_38 (by decide) ?_
      have hlt : i < nL := by omega
      have cF := c25
      have hs := lp_lossesFitting hK hK30 hT hT3 hL hL2 hF hF2 hG hf (i + 1) (by omega)
      first | (rw [cn_y (p := fun l => FitC m nT l f) (n := i) (by first | exact Classical.not_not.mp cF | exact Classical.byContradiction cF), ← nI_1] at hs; exact hs) | (rw [cn_n (p := fun l => FitC m nT l f) (n := i) cF] at hs; simp only [Int32.add_zero]; exact hs)
termination_by nL - i
decreasing_by all_goals omega
set_option maxRecDepth 20000 in
set_option maxHeartbeats 2000000 in
theorem ct_lossesFitting {K : Nat} (hK : m 9 3 = nI K) (hK30 : K ≤ 30) {nT : Nat} (hT : m 23 3 = nI nT) (hT3 : nT ≤ 300) {nL : Nat} (hL : m 33 3 = nI nL) (hL2 : nL ≤ 60) {nF : Nat} (hF : m 35 3 = nI nF) (hF2 : nF ≤ 60) (hG : GFo nF K (m 36) (m 96) (m 97) (m 98)) {f : Nat} (hf : f < nF) : hk_Cd MX9_lossesFitting 3 0 0 [.ref 0, .int (nI f)] (hk_h L m) (some (.int (nI (cn (fun l => FitC m nT l f) nL)))) (hk_h L m) := by
  refine hk_ofWP (by decide) (by simp [Value.category]) (Nat.le_of_ble_eq_true rfl) ?_
  show hk_WP _ _ _ _ _ _ _ [some (.ref 0), some (.int (nI f)), none, none] [] _ _
  refine hk_iconst (v := 0) dX9_lossesFitting_0 (by decide) ?_
  refine hk_istore_n dX9_lossesFitting_1 rfl (by decide) rfl ?_
  refine hk_iconst (v := 0) dX9_lossesFitting_2 (by decide) ?_
  refine hk_istore_n dX9_lossesFitting_3 rfl (by decide) rfl ?_
  exact lp_lossesFitting hK hK30 hT hT3 hL hL2 hF hF2 hG hf 0 (Nat.zero_le _)
set_option maxRecDepth 20000 in
set_option maxHeartbeats 2000000 in
theorem lp_onlyB {K : Nat} (hK : m 9 3 = nI K) (hK30 : K ≤ 30) {nT : Nat} (hT : m 23 3 = nI nT) (hT3 : nT ≤ 300) {nL : Nat} (hL : m 33 3 = nI nL) (hL2 : nL ≤ 60) {nF : Nat} (hF : m 35 3 = nI nF) (hF2 : nF ≤ 60) (hG : GFo nF K (m 36) (m 96) (m 97) (m 98)) {l q : Nat} (hl : l < nL) (hq : q < nF) (hP : FitC m nT l q) (i : Nat) (hi : i ≤ nF) (hqi : q < i) (hno : ∀ j, j < i → FitC m nT l j → j = q) : hk_WP MX9_onlyFoundFor 3 0 0 0 0 4 [some (.ref 0), some (.int (nI l)), some (.int (nI q)), some (.int (nI i))] [] (hk_h L m) (fun r h' => r = some (.int (cI (cn (fun f => FitC m nT l f) nF = 1) (nI (fi (fun f => FitC m nT l f) nF)) (-1))) ∧ h' = hk_h L m) := by
  refine hk_iload_n dX9_onlyFoundFor_4 rfl rfl ?_
  refine hk_aload_n dX9_onlyFoundFor_5 rfl rfl ?_
  refine gfX9_51 rfl dX9_onlyFoundFor_6 (hk_lt (by decide)) rfl rfl ?_
  refine gfX9_293 rfl dX9_onlyFoundFor_9 (hk_lt (by decide)) rfl rfl ?_
  refine gfX9_136 rfl dX9_onlyFoundFor_12 (hk_lt (by decide)) rfl rfl ?_
  refine hk_icmp_ge (tgt := 41) dX9_onlyFoundFor_15 (by decide) (fun c15 => ?_) (fun c15 => ?_)
  · rw [hF, nI_leI (by omega) (by omega)] at c15
    refine hk_iload_n dX9_onlyFoundFor_41 rfl rfl ?_
    exact hk_ireturn dX9_onlyFoundFor_42 rfl rfl (by decide) ⟨by rw [cI_t (cn_one.mpr ⟨q, hq, hP, fun j hj hp => hno j (by omega) hp⟩), fi_is hq hP (fun j hj hp => by have := hno j (by omega) hp; omega)], rfl⟩
  · rw [hF, nI_leI (by omega) (by omega)] at c15
    refine hk_aload_n dX9_onlyFoundFor_18 rfl rfl ?_
    refine hk_iload_n dX9_onlyFoundFor_19 rfl rfl ?_
    refine hk_iload_n dX9_onlyFoundFor_20 rfl rfl ?_
    refine ivX9_296 rfl (ct_isFit hK hK30 hT hT3 hL hL2 hF hF2 hG hl (by omega)) dX9_onlyFoundFor_21 (hk_lt (by decide)) rfl rfl rfl (by decide) ⟨by decide, by decide⟩ (Nat.le_of_ble_eq_true rfl) (hk_kd ?_)
    refine hk_if_eq (tgt := 35) dX9_onlyFoundFor_24 (by decide) (fun c24 => ?_) (fun c24 => ?_)
    · rw [bI_0] at c24
      refine hk_iinc (v := nI (i + 1)) dX9_onlyFoundFor_35 rfl (nI_1 i) (by decide) rfl ?_
      refine hk_goto (tgt := 4) dX9_onlyFoundFor_38 (by decide) ?_
      have hlt : i < nF := by omega
      exact lp_onlyB hK hK30 hT hT3 hL hL2 hF hF2 hG hl hq hP (i + 1) (by omega) (by omega) (fun j hj hp => by rcases Nat.lt_succ_iff_lt_or_eq.mp hj with r | r; exact hno j r hp; exact absurd (r ▸ hp) c24)
    · rw [bI_0] at c24
      refine hk_iload_n dX9_onlyFoundFor_27 rfl rfl ?_
      refine hk_if_lt (tgt := 33) dX9_onlyFoundFor_28 (by decide) (fun c28 => absurd c28 (nI_pos (by omega))) (fun _ => ?_)
      refine hk_iconst (v := (-1)) dX9_onlyFoundFor_31 (by decide) ?_
      exact hk_ireturn dX9_onlyFoundFor_32 rfl rfl (by decide) ⟨by rw [cI_f (fun e => by obtain ⟨u, h1, h2, h3⟩ := cn_one.mp e; have e1 := h3 q hq hP; have e2 := h3 i (by omega) (Classical.not_not.mp c24); omega)], rfl⟩
termination_by nF - i
decreasing_by all_goals omega
set_option maxRecDepth 20000 in
set_option maxHeartbeats 2000000 in
theorem lp_onlyA {K : Nat} (hK : m 9 3 = nI K) (hK30 : K ≤ 30) {nT : Nat} (hT : m 23 3 = nI nT) (hT3 : nT ≤ 300) {nL : Nat} (hL : m 33 3 = nI nL) (hL2 : nL ≤ 60) {nF : Nat} (hF : m 35 3 = nI nF) (hF2 : nF ≤ 60) (hG : GFo nF K (m 36) (m 96) (m 97) (m 98)) {l : Nat} (hl : l < nL) (i : Nat) (hi : i ≤ nF) (hno : ∀ j, j < i → ¬ FitC m nT l j) : hk_WP MX9_onlyFoundFor 3 0 0 0 0 4 [some (.ref 0), some (.int (nI l)), some (.int (-1)), some (.int (nI i))] [] (hk_h L m) (fun r h' => r = some (.int (cI (cn (fun f => FitC m nT l f) nF = 1) (nI (fi (fun f => FitC m nT l f) nF)) (-1))) ∧ h' = hk_h L m) := by
  refine hk_iload_n dX9_onlyFoundFor_4 rfl rfl ?_
  refine hk_aload_n dX9_onlyFoundFor_5 rfl rfl ?_
  refine gfX9_51 rfl dX9_onlyFoundFor_6 (hk_lt (by decide)) rfl rfl ?_
  refine gfX9_293 rfl dX9_onlyFoundFor_9 (hk_lt (by decide)) rfl rfl ?_
  refine gfX9_136 rfl dX9_onlyFoundFor_12 (hk_lt (by decide)) rfl rfl ?_
  refine hk_icmp_ge (tgt := 41) dX9_onlyFoundFor_15 (by decide) (fun c15 => ?_) (fun c15 => ?_)
  · rw [hF, nI_leI (by omega) (by omega)] at c15
    refine hk_iload_n dX9_onlyFoundFor_41 rfl rfl ?_
    exact hk_ireturn dX9_onlyFoundFor_42 rfl rfl (by decide) ⟨by rw [cI_f (fun e => by obtain ⟨u, h1, h2, h3⟩ := cn_one.mp e; exact hno u (by omega) h2)], rfl⟩
  · rw [hF, nI_leI (by omega) (by omega)] at c15
    refine hk_aload_n dX9_onlyFoundFor_18 rfl rfl ?_
    refine hk_iload_n dX9_onlyFoundFor_19 rfl rfl ?_
    refine hk_iload_n dX9_onlyFoundFor_20 rfl rfl ?_
    refine ivX9_296 rfl (ct_isFit hK hK30 hT hT3 hL hL2 hF hF2 hG hl (by omega)) dX9_onlyFoundFor_21 (hk_lt (by decide)) rfl rfl rfl (by decide) ⟨by decide, by decide⟩ (Nat.le_of_ble_eq_true rfl) (hk_kd ?_)
    refine hk_if_eq (tgt := 35) dX9_onlyFoundFor_24 (by decide) (fun c24 => ?_) (fun c24 => ?_)
    · rw [bI_0] at c24
      refine hk_iinc (v := nI (i + 1)) dX9_onlyFoundFor_35 rfl (nI_1 i) (by decide) rfl ?_
      refine hk_goto (tgt := 4) dX9_onlyFoundFor_38 (by decide) ?_
      have hlt : i < nF := by omega
      first | exact lp_onlyA hK hK30 hT hT3 hL hL2 hF hF2 hG hl (i + 1) (by omega) (fun j hj hp => by rcases Nat.lt_succ_iff_lt_or_eq.mp hj with r | r; exact hno j r hp; exact absurd (r ▸ hp) c24) | exact lp_onlyB hK hK30 hT hT3 hL hL2 hF hF2 hG hl hlt (Classical.not_not.mp c24) (i + 1) (by omega) (by omega) (fun j hj hp => by rcases Nat.lt_succ_iff_lt_or_eq.mp hj with r | r; exact absurd hp (hno j r); exact r)
    · rw [bI_0] at c24
      refine hk_iload_n dX9_onlyFoundFor_27 rfl rfl ?_
      refine hk_if_lt (tgt := 33) dX9_onlyFoundFor_28 (by decide) (fun _ => ?_) (fun c28 => absurd (by decide) c28)
      refine hk_iload_n dX9_onlyFoundFor_33 rfl rfl ?_
      refine hk_istore_n dX9_onlyFoundFor_34 rfl (by decide) rfl ?_
      refine hk_iinc (v := nI (i + 1)) dX9_onlyFoundFor_35 rfl (nI_1 i) (by decide) rfl ?_
      refine hk_goto (tgt := 4) dX9_onlyFoundFor_38 (by decide) ?_
      have hlt : i < nF := by omega
      first | exact lp_onlyA hK hK30 hT hT3 hL hL2 hF hF2 hG hl (i + 1) (by omega) (fun j hj hp => by rcases Nat.lt_succ_iff_lt_or_eq.mp hj with r | r; exact hno j r hp; exact absurd (r ▸ hp) c24) | exact lp_onlyB hK hK30 hT hT3 hL hL2 hF hF2 hG hl hlt (Classical.not_not.mp c24) (i + 1) (by omega) (by omega) (fun j hj hp => by rcases Nat.lt_succ_iff_lt_or_eq.mp hj with r | r; exact absurd hp (hno j r); exact r)
termination_by nF - i
decreasing_by all_goals omega
set_option maxRecDepth 20000 in
set_option maxHeartbeats 2000000 in
theorem ct_onlyFoundFor {K : Nat} (hK : m 9 3 = nI K) (hK30 : K ≤ 30) {nT : Nat} (hT : m 23 3 = nI nT) (hT3 : nT ≤ 300) {nL : Nat} (hL : m 33 3 = nI nL) (hL2 : nL ≤ 60) {nF : Nat} (hF : m 35 3 = nI nF) (hF2 : nF ≤ 60) (hG : GFo nF K (m 36) (m 96) (m 97) (m 98)) {l : Nat} (hl : l < nL) : hk_Cd MX9_onlyFoundFor 3 0 0 [.ref 0, .int (nI l)] (hk_h L m) (some (.int (cI (cn (fun f => FitC m nT l f) nF = 1) (nI (fi (fun f => FitC m nT l f) nF)) (-1)))) (hk_h L m) := by
  refine hk_ofWP (by decide) (by simp [Value.category]) (Nat.le_of_ble_eq_true rfl) ?_
  show hk_WP _ _ _ _ _ _ _ [some (.ref 0), some (.int (nI l)), none, none] [] _ _
  refine hk_iconst (v := (-1)) dX9_onlyFoundFor_0 (by decide) ?_
  refine hk_istore_n dX9_onlyFoundFor_1 rfl (by decide) rfl ?_
  refine hk_iconst (v := 0) dX9_onlyFoundFor_2 (by decide) ?_
  refine hk_istore_n dX9_onlyFoundFor_3 rfl (by decide) rfl ?_
  exact lp_onlyA hK hK30 hT hT3 hL hL2 hF hF2 hG hl 0 (Nat.zero_le _) (fun j hj => absurd hj (Nat.not_lt_zero _))
set_option maxHeartbeats 2000000 in
theorem ct_joined {K : Nat} (hK : m 9 3 = nI K) (hK30 : K ≤ 30) {nT : Nat} (hT : m 23 3 = nI nT) (hT3 : nT ≤ 300) {nL : Nat} (hL : m 33 3 = nI nL) (hL2 : nL ≤ 60) {nF : Nat} (hF : m 35 3 = nI nF) (hF2 : nF ≤ 60) (hG : GFo nF K (m 36) (m 96) (m 97) (m 98)) {l : Nat} (hl : l < nL) : hk_Cd MX9_joined 4 0 0 [.ref 0, .int (nI l)] (hk_h L m) (some (.int (cI (cn (fun f => FitC m nT l f) nF = 1 ∧ cn (fun l' => FitC m nT l' (fi (fun f => FitC m nT l f) nF)) nL = 1) (nI (fi (fun f => FitC m nT l f) nF)) (-9)))) (hk_h L m) := by
  by_cases h1 : cn (fun f => FitC m nT l f) nF = 1
  · have hff : fi (fun f => FitC m nT l f) nF < nF := by
      obtain ⟨q, e1, e2, e3⟩ := cn_one.mp h1
      rw [fi_is e1 e2 (fun j hj hp => by have := e3 j (by omega) hp; omega)]; exact e1
    have ho := ct_onlyFoundFor (L := L) hK hK30 hT hT3 hL hL2 hF hF2 hG hl
    rw [cI_t h1] at ho
    have hc := ct_lossesFitting (L := L) hK hK30 hT hT3 hL hL2 hF hF2 hG hff
    have hle := cn_le (fun l' => FitC m nT l' (fi (fun f => FitC m nT l f) nF)) nL
    refine hk_ofWP (by decide) (by simp [Value.category]) (Nat.le_of_ble_eq_true rfl) ?_
    show hk_WP _ _ _ _ _ _ _ [some (.ref 0), some (.int (nI l)), none] [] _ _
    refine hk_aload_n dX9_joined_0 rfl rfl ?_
    refine gfX9_51 rfl dX9_joined_1 (hk_lt (by decide)) rfl rfl ?_
    refine gfX9_284 rfl dX9_joined_4 (hk_lt (by decide)) rfl rfl ?_
    refine hk_iload_n dX9_joined_7 rfl rfl ?_
    refine ivX9_71 rfl (ct_has tb33 hL2 hL _) dX9_joined_8 (hk_lt (by decide)) rfl rfl rfl (by decide) ⟨by decide, by decide⟩ (Nat.le_of_ble_eq_true rfl) (hk_kd ?_)
    refine hk_if_ne (tgt := 16) dX9_joined_11 (by decide) (fun _ => ?_) (fun c11 => absurd c11 (fun q => bI_0.mp q (inR_nI hl (by omega))))
    refine hk_aload_n dX9_joined_16 rfl rfl ?_
    refine hk_iload_n dX9_joined_17 rfl rfl ?_
    refine ivX9_287 rfl ho dX9_joined_18 (hk_lt (by decide)) rfl rfl rfl (by decide) ⟨by decide, by decide⟩ (Nat.le_of_ble_eq_true rfl) (hk_kd ?_)
    refine hk_istore_n dX9_joined_21 rfl (by decide) rfl ?_
    refine hk_iload_n dX9_joined_22 rfl rfl ?_
    refine hk_if_lt (tgt := 39) dX9_joined_23 (by decide) (fun c23 => absurd c23 (nI_pos (by omega))) (fun _ => ?_)
    refine hk_aload_n dX9_joined_26 rfl rfl ?_
    refine hk_iload_n dX9_joined_27 rfl rfl ?_
    refine ivX9_290 rfl hc dX9_joined_28 (hk_lt (by decide)) rfl rfl rfl (by decide) ⟨by decide, by decide⟩ (Nat.le_of_ble_eq_true rfl) (hk_kd ?_)
    refine hk_iconst (v := 1) dX9_joined_31 (by decide) ?_
    refine hk_icmp_ne (tgt := 39) dX9_joined_32 (by decide) (fun c32 => ?_) (fun c32 => ?_)
    · rw [show (1 : Int32) = nI 1 from rfl, nI_eq (by omega) (by decide)] at c32
      refine hk_bipush (v := (-9)) dX9_joined_39 (by decide) ?_
      exact hk_ireturn dX9_joined_41 rfl rfl (by decide) ⟨by first | exact cI_r1 ⟨h1, c32⟩ | exact cI_r0 (fun q => c32 q.2), rfl⟩
    · rw [show (1 : Int32) = nI 1 from rfl, nI_eq (by omega) (by decide)] at c32
      refine hk_iload_n dX9_joined_35 rfl rfl ?_
      refine hk_goto (tgt := 41) dX9_joined_36 (by decide) ?_
      exact hk_ireturn dX9_joined_41 rfl rfl (by decide) ⟨by first | exact cI_r1 ⟨h1, c32⟩ | exact cI_r0 (fun q => c32 q.2), rfl⟩
  · have ho := ct_onlyFoundFor (L := L) hK hK30 hT hT3 hL hL2 hF hF2 hG hl
    rw [cI_f h1] at ho
    refine hk_ofWP (by decide) (by simp [Value.category]) (Nat.le_of_ble_eq_true rfl) ?_
    show hk_WP _ _ _ _ _ _ _ [some (.ref 0), some (.int (nI l)), none] [] _ _
    refine hk_aload_n dX9_joined_0 rfl rfl ?_
    refine gfX9_51 rfl dX9_joined_1 (hk_lt (by decide)) rfl rfl ?_
    refine gfX9_284 rfl dX9_joined_4 (hk_lt (by decide)) rfl rfl ?_
    refine hk_iload_n dX9_joined_7 rfl rfl ?_
    refine ivX9_71 rfl (ct_has tb33 hL2 hL _) dX9_joined_8 (hk_lt (by decide)) rfl rfl rfl (by decide) ⟨by decide, by decide⟩ (Nat.le_of_ble_eq_true rfl) (hk_kd ?_)
    refine hk_if_ne (tgt := 16) dX9_joined_11 (by decide) (fun _ => ?_) (fun c11 => absurd c11 (fun q => bI_0.mp q (inR_nI hl (by omega))))
    refine hk_aload_n dX9_joined_16 rfl rfl ?_
    refine hk_iload_n dX9_joined_17 rfl rfl ?_
    refine ivX9_287 rfl ho dX9_joined_18 (hk_lt (by decide)) rfl rfl rfl (by decide) ⟨by decide, by decide⟩ (Nat.le_of_ble_eq_true rfl) (hk_kd ?_)
    refine hk_istore_n dX9_joined_21 rfl (by decide) rfl ?_
    refine hk_iload_n dX9_joined_22 rfl rfl ?_
    refine hk_if_lt (tgt := 39) dX9_joined_23 (by decide) (fun _ => ?_) (fun c23 => absurd (by decide) c23)
    refine hk_bipush (v := (-9)) dX9_joined_39 (by decide) ?_
    exact hk_ireturn dX9_joined_41 rfl rfl (by decide) ⟨cI_r0 (fun q => h1 q.1), rfl⟩
set_option maxRecDepth 20000 in
set_option maxHeartbeats 2000000 in
theorem ct_joined_no {nL : Nat} (hL : m 33 3 = nI nL) (hL2 : nL ≤ 60) (l : Int32) (h : ¬ inR l nL) : hk_Cd MX9_joined 4 0 0 [.ref 0, .int l] (hk_h L m) (some (.int (-1))) (hk_h L m) := by
  refine hk_ofWP (by decide) (by simp [Value.category]) (Nat.le_of_ble_eq_true rfl) ?_
  show hk_WP _ _ _ _ _ _ _ [some (.ref 0), some (.int l), none] [] _ _
  refine hk_aload_n dX9_joined_0 rfl rfl ?_
  refine gfX9_51 rfl dX9_joined_1 (hk_lt (by decide)) rfl rfl ?_
  refine gfX9_284 rfl dX9_joined_4 (hk_lt (by decide)) rfl rfl ?_
  refine hk_iload_n dX9_joined_7 rfl rfl ?_
  refine ivX9_71 rfl (ct_has tb33 hL2 hL l) dX9_joined_8 (hk_lt (by decide)) rfl rfl rfl (by decide) ⟨by decide, by decide⟩ (Nat.le_of_ble_eq_true rfl) (hk_kd ?_)
  refine hk_if_ne (tgt := 16) dX9_joined_11 (by decide) (fun c11 => absurd (bI_0.mpr h) c11) (fun _ => ?_)
  refine hk_iconst (v := (-1)) dX9_joined_14 (by decide) ?_
  exact hk_ireturn dX9_joined_15 rfl rfl (by decide) ⟨rfl, rfl⟩
end OB
