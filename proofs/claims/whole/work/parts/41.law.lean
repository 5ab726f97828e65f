/-! law -/
section OJx
variable {L nL : Nat} {m m0 m1 m2 m3 : Nat → Nat → Int32} {z : Nat → Nat}
abbrev okLw (k d : Int32) : Prop := (¬ k < 0 ∧ ¬ 2 < k) ∧ inR d 10000
set_option maxRecDepth 20000 in
set_option maxHeartbeats 2000000 in
theorem ct_law_no (k d : Int32) (h : ¬ okLw k d) : hk_Cd MX9_law 87 0 0 [.ref 0, .int k, .int d] (hk_h L m) (some (.int (-1))) (hk_h L m) := by
  refine hk_ofWP (by decide) (by simp [Value.category]) (Nat.le_of_ble_eq_true rfl) ?_
  show hk_WP _ _ _ _ _ _ _ [some (.ref 0), some (.int k), some (.int d)] [] _ _
  refine hk_iload_n dX9_law_0 rfl rfl ?_
  refine hk_if_lt (tgt := 20) dX9_law_1 (by decide) (fun c1 => ?_) (fun c1 => ?_)
  · refine hk_iconst (v := (-1)) dX9_law_20 (by decide) ?_
    exact hk_ireturn dX9_law_21 rfl rfl (by decide) ⟨rfl, rfl⟩
  · refine hk_iload_n dX9_law_4 rfl rfl ?_
    refine hk_iconst (v := 2) dX9_law_5 (by decide) ?_
    refine hk_icmp_gt (tgt := 20) dX9_law_6 (by decide) (fun c6 => ?_) (fun c6 => ?_)
    · refine hk_iconst (v := (-1)) dX9_law_20 (by decide) ?_
      exact hk_ireturn dX9_law_21 rfl rfl (by decide) ⟨rfl, rfl⟩
    · refine hk_iload_n dX9_law_9 rfl rfl ?_
      refine hk_if_lt (tgt := 20) dX9_law_10 (by decide) (fun c10 => ?_) (fun c10 => ?_)
      · refine hk_iconst (v := (-1)) dX9_law_20 (by decide) ?_
        exact hk_ireturn dX9_law_21 rfl rfl (by decide) ⟨rfl, rfl⟩
      · refine hk_iload_n dX9_law_13 rfl rfl ?_
        refine hk_sipush (v := 10000) dX9_law_14 (by decide) ?_
        refine hk_icmp_lt (tgt := 22) dX9_law_17 (by decide) (fun c17 => ?_) (fun c17 => ?_)
        · exact absurd ⟨⟨c1, c6⟩, c10, Int32.not_le.mpr c17⟩ h
        · refine hk_iconst (v := (-1)) dX9_law_20 (by decide) ?_
          exact hk_ireturn dX9_law_21 rfl rfl (by decide) ⟨rfl, rfl⟩
set_option maxRecDepth 20000 in
set_option maxHeartbeats 2000000 in
theorem ct_law_full (hL : m 15 2 = nI 40) (k d : Int32) (h : okLw k d) : hk_Cd MX9_law 87 0 0 [.ref 0, .int k, .int d] (hk_h L m) (some (.int (-2))) (hk_h L m) := by
  refine hk_ofWP (by decide) (by simp [Value.category]) (Nat.le_of_ble_eq_true rfl) ?_
  show hk_WP _ _ _ _ _ _ _ [some (.ref 0), some (.int k), some (.int d)] [] _ _
  refine hk_iload_n dX9_law_0 rfl rfl ?_
  refine hk_if_lt (tgt := 20) dX9_law_1 (by decide) (fun c1 => absurd c1 h.1.1) (fun _ => ?_)
  refine hk_iload_n dX9_law_4 rfl rfl ?_
  refine hk_iconst (v := 2) dX9_law_5 (by decide) ?_
  refine hk_icmp_gt (tgt := 20) dX9_law_6 (by decide) (fun c6 => absurd c6 h.1.2) (fun _ => ?_)
  refine hk_iload_n dX9_law_9 rfl rfl ?_
  refine hk_if_lt (tgt := 20) dX9_law_10 (by decide) (fun c10 => absurd c10 h.2.1) (fun _ => ?_)
  refine hk_iload_n dX9_law_13 rfl rfl ?_
  refine hk_sipush (v := 10000) dX9_law_14 (by decide) ?_
  refine hk_icmp_lt (tgt := 22) dX9_law_17 (by decide) (fun _ => ?_) (fun c17 => absurd (Int32.not_le.mp h.2.2) c17)
  refine hk_aload_n dX9_law_22 rfl rfl ?_
  refine gfX9_30 rfl dX9_law_23 (hk_lt (by decide)) rfl rfl ?_
  refine hk_iload_n dX9_law_26 rfl rfl ?_
  refine hk_iload_n dX9_law_27 rfl rfl ?_
  refine hk_aload_n dX9_law_28 rfl rfl ?_
  refine ivX9_121 rfl ct_today dX9_law_29 (hk_lt (by decide)) rfl rfl rfl (by decide) ⟨by decide, by decide⟩ (Nat.le_of_ble_eq_true rfl) (hk_kd ?_)
  refine ivX9_181 rfl (ct_makeLaw_full hL _ _ _) dX9_law_32 (hk_lt (by decide)) rfl rfl rfl (by decide) ⟨by decide, by decide⟩ (Nat.le_of_ble_eq_true rfl) (hk_kd ?_)
  exact hk_ireturn dX9_law_35 rfl rfl (by decide) ⟨rfl, rfl⟩
set_option maxRecDepth 20000 in
set_option maxHeartbeats 2000000 in
theorem ct_law (hN : NameOf L) (hL : m 15 2 = nI L) (hL4 : L < 40) {n : Nat} (hn : m 16 2 = nI n) (hn2 : n ≤ 160) (k d : Int32) (h : okLw k d) : hk_Ct MX9_law 87 2 164 [.ref 0, .int k, .int d] (hk_h L m) (ML L m k d (m 0 0 / 1440) (PT (m 17) n)) := by
  refine hk_ofWP (by decide) (by simp [Value.category]) (Nat.le_of_ble_eq_true rfl) ?_
  show hk_WP _ _ _ _ _ _ _ [some (.ref 0), some (.int k), some (.int d)] [] _ _
  refine hk_iload_n dX9_law_0 rfl rfl ?_
  refine hk_if_lt (tgt := 20) dX9_law_1 (by decide) (fun c1 => absurd c1 h.1.1) (fun _ => ?_)
  refine hk_iload_n dX9_law_4 rfl rfl ?_
  refine hk_iconst (v := 2) dX9_law_5 (by decide) ?_
  refine hk_icmp_gt (tgt := 20) dX9_law_6 (by decide) (fun c6 => absurd c6 h.1.2) (fun _ => ?_)
  refine hk_iload_n dX9_law_9 rfl rfl ?_
  refine hk_if_lt (tgt := 20) dX9_law_10 (by decide) (fun c10 => absurd c10 h.2.1) (fun _ => ?_)
  refine hk_iload_n dX9_law_13 rfl rfl ?_
  refine hk_sipush (v := 10000) dX9_law_14 (by decide) ?_
  refine hk_icmp_lt (tgt := 22) dX9_law_17 (by decide) (fun _ => ?_) (fun c17 => absurd (Int32.not_le.mp h.2.2) c17)
  refine hk_aload_n dX9_law_22 rfl rfl ?_
  refine gfX9_30 rfl dX9_law_23 (hk_lt (by decide)) rfl rfl ?_
  refine hk_iload_n dX9_law_26 rfl rfl ?_
  refine hk_iload_n dX9_law_27 rfl rfl ?_
  refine hk_aload_n dX9_law_28 rfl rfl ?_
  refine ivX9_121 rfl ct_today dX9_law_29 (hk_lt (by decide)) rfl rfl rfl (by decide) ⟨by decide, by decide⟩ (Nat.le_of_ble_eq_true rfl) (hk_kd ?_)
  refine ivX9_181 rfl (ct_makeLaw hN hL hL4 hn hn2 _ _ _) dX9_law_32 (hk_lt (by decide)) rfl rfl rfl (by decide) ⟨by decide, by decide⟩ (Nat.le_of_ble_eq_true rfl) (fun r h1 hq => ?_)
  rcases hr : PT (m 17) n with q | ⟨p, c, v⟩
  · rw [hr] at hq
    obtain ⟨m4, rfl, rfl, q1, q2⟩ := hq
    exact hk_ireturn dX9_law_35 rfl rfl (by decide) ⟨m4, rfl, rfl, q1, q2⟩
  · rw [hr] at hq
    obtain ⟨m4, rfl, rfl, q1, q2⟩ := hq
    exact hk_ireturn dX9_law_35 rfl rfl (by decide) ⟨m4, rfl, rfl, q1, q2⟩
set_option maxRecDepth 20000 in
set_option maxHeartbeats 2000000 in
theorem md_law_no (k d : Int32) (h : ¬ okLw k d) : hk_Cd MX10_law 69 0 0 [.ref 37, .int k, .int d] (hk_h L m) (some (.int (-1))) (hk_h L m) := by
  refine hk_ofWP (by decide) (by simp [Value.category]) (Nat.le_of_ble_eq_true rfl) ?_
  show hk_WP _ _ _ _ _ _ _ [some (.ref 37), some (.int k), some (.int d), none, none, none] [] _ _
  refine hk_iload_n dX10_law_0 rfl rfl ?_
  refine hk_iconst (v := 0) dX10_law_1 (by decide) ?_
  refine hk_iconst (v := 2) dX10_law_2 (by decide) ?_
  refine ivX10_208 rfl (ct_within k 0 2) dX10_law_3 rfl rfl (by decide) ⟨by decide, by decide⟩ (Nat.le_of_ble_eq_true rfl) (hk_kd ?_)
  refine hk_if_eq (tgt := 16) dX10_law_6 (by decide) (fun c6 => ?_) (fun c6 => ?_)
  · rw [bI_0] at c6
    refine hk_iconst (v := (-1)) dX10_law_16 (by decide) ?_
    exact hk_ireturn dX10_law_17 rfl rfl (by decide) ⟨rfl, rfl⟩
  · rw [bI_0] at c6
    refine hk_iload_n dX10_law_9 rfl rfl ?_
    refine ivX10_336 rfl (md_isDay d) dX10_law_10 rfl rfl (by decide) ⟨by decide, by decide⟩ (Nat.le_of_ble_eq_true rfl) (hk_kd ?_)
    refine hk_if_ne (tgt := 18) dX10_law_13 (by decide) (fun c13 => ?_) (fun c13 => ?_)
    · rw [bI_0] at c13
      exact absurd ⟨Classical.not_not.mp c6, Classical.not_not.mp c13⟩ h
    · rw [bI_0] at c13
      refine hk_iconst (v := (-1)) dX10_law_16 (by decide) ?_
      exact hk_ireturn dX10_law_17 rfl rfl (by decide) ⟨rfl, rfl⟩
set_option maxRecDepth 20000 in
set_option maxHeartbeats 2000000 in
theorem md_law_full (hL : m 37 43 = nI 40) (k d : Int32) (h : okLw k d) : hk_Cd MX10_law 69 0 0 [.ref 37, .int k, .int d] (hk_h L m) (some (.int (-2))) (hk_h L m) := by
  refine hk_ofWP (by decide) (by simp [Value.category]) (Nat.le_of_ble_eq_true rfl) ?_
  show hk_WP _ _ _ _ _ _ _ [some (.ref 37), some (.int k), some (.int d), none, none, none] [] _ _
  refine hk_iload_n dX10_law_0 rfl rfl ?_
  refine hk_iconst (v := 0) dX10_law_1 (by decide) ?_
  refine hk_iconst (v := 2) dX10_law_2 (by decide) ?_
  refine ivX10_208 rfl (ct_within k 0 2) dX10_law_3 rfl rfl (by decide) ⟨by decide, by decide⟩ (Nat.le_of_ble_eq_true rfl) (hk_kd ?_)
  refine hk_if_eq (tgt := 16) dX10_law_6 (by decide) (fun c6 => absurd c6 (fun e => bI_0.mp e h.1)) (fun _ => ?_)
  refine hk_iload_n dX10_law_9 rfl rfl ?_
  refine ivX10_336 rfl (md_isDay d) dX10_law_10 rfl rfl (by decide) ⟨by decide, by decide⟩ (Nat.le_of_ble_eq_true rfl) (hk_kd ?_)
  refine hk_if_ne (tgt := 18) dX10_law_13 (by decide) (fun _ => ?_) (fun c13 => absurd c13 (fun e => bI_0.mp e h.2))
  refine hk_aload_n dX10_law_18 rfl rfl ?_
  refine gfX10_339 rfl dX10_law_19 (hk_lt (by decide)) rfl rfl ?_
  refine hk_bipush (v := 40) dX10_law_22 (by decide) ?_
  refine hk_icmp_ne (tgt := 30) dX10_law_24 (by decide) (fun c24 => absurd (by rw [hL]; rfl) c24) (fun _ => ?_)
  refine hk_bipush (v := (-2)) dX10_law_27 (by decide) ?_
  exact hk_ireturn dX10_law_29 rfl rfl (by decide) ⟨rfl, rfl⟩
/-- what the reference's law leaves behind the text's copy -/
def MQ3 (L nL n : Nat) (m3 : Nat → Nat → Int32) (k d : Int32) (r : Option Value) (h : hk_H) : Prop := ∃ m4, r = some (.int (nI nL)) ∧ h = hk_h L m4 ∧ (∀ a, a ≠ 37 → a ≠ 67 → a ≠ 68 → a ≠ 69 → a ≠ 70 → a ≠ 71 → m4 a = m3 a) ∧ (∀ j, j ≠ 43 → m4 37 j = m3 37 j) ∧ m4 37 43 = nI (nL + 1) ∧
  m4 68 = upd (m3 68) nL (nI n) ∧ m4 69 = upd (m3 69) nL k ∧ m4 70 = upd (m3 70) nL d ∧ m4 71 = upd (m3 71) nL (m3 37 0 / 1440) ∧ (∀ j, j < 160 * nL → m4 67 j = m3 67 j) ∧ ∀ j, j < n → m4 67 (160 * nL + j) = m3 66 j
set_option maxRecDepth 20000 in
set_option maxHeartbeats 2000000 in
theorem lp_mlaw {n : Nat} (hL : m3 37 43 = nI nL) (hL4 : nL < 40) (hn2 : n ≤ 160) (k d v : Int32) (i : Nat) (hi : i ≤ n) (m1 : Nat → Nat → Int32) (s1 : ∀ a, a ≠ 67 → m1 a = m3 a) (s2 : ∀ j, j < 160 * nL → m1 67 j = m3 67 j) (s3 : ∀ j, j < i → m1 67 (160 * nL + j) = m3 66 j) : hk_WP MX10_law 69 0 0 0 0 69 [some (.ref 37), some (.int k), some (.int d), some (.int v), some (.int (nI n)), some (.int (nI i))] [] (hk_h L m1) (MQ3 L nL n m3 k d) := by
  have e43 : m1 37 43 = nI nL := by rw [s1 37 (by decide)]; exact hL
  have e66 : m1 66 = m3 66 := s1 66 (by decide)
  refine hk_iload dX10_law_69 rfl ?_
  refine hk_iload dX10_law_71 rfl ?_
  refine hk_icmp_ge (tgt := 105) dX10_law_73 (by decide) (fun c73 => ?_) (fun c73 => ?_)
  · rw [nI_leI (by omega) (by omega)] at c73
    have ein : i = n := by omega
    subst ein
    refine hk_aload_n dX10_law_105 rfl rfl ?_
    refine gfX10_100 rfl dX10_law_106 (hk_lt (by decide)) rfl rfl ?_
    refine hk_aload_n dX10_law_109 rfl rfl ?_
    refine gfX10_339 rfl dX10_law_110 (hk_lt (by decide)) rfl rfl ?_
    refine hk_iload dX10_law_113 rfl ?_
    refine hk_isn dX10_law_115 (by decide) (fun _ => rfl) e43 (by omega) (by decide) ?_
    refine hk_aload_n dX10_law_116 rfl rfl ?_
    refine gfX10_103 rfl dX10_law_117 (hk_lt (by decide)) rfl rfl ?_
    refine hk_aload_n dX10_law_120 rfl rfl ?_
    refine gfX10_339 rfl dX10_law_121 (hk_lt (by decide)) rfl rfl ?_
    refine hk_iload_n dX10_law_124 rfl rfl ?_
    refine hk_isn dX10_law_125 (by decide) (fun _ => rfl) (by simp only [hk_w_ne (show (37 : Nat) ≠ 67 by decide), hk_w_ne (show (37 : Nat) ≠ 68 by decide), hk_w_ne (show (37 : Nat) ≠ 69 by decide), hk_w_ne (show (37 : Nat) ≠ 70 by decide), hk_w_ne (show (37 : Nat) ≠ 71 by decide)]; exact e43) (by omega) (by decide) ?_
    refine hk_aload_n dX10_law_126 rfl rfl ?_
    refine gfX10_106 rfl dX10_law_127 (hk_lt (by decide)) rfl rfl ?_
    refine hk_aload_n dX10_law_130 rfl rfl ?_
    refine gfX10_339 rfl dX10_law_131 (hk_lt (by decide)) rfl rfl ?_
    refine hk_iload_n dX10_law_134 rfl rfl ?_
    refine hk_isn dX10_law_135 (by decide) (fun _ => rfl) (by simp only [hk_w_ne (show (37 : Nat) ≠ 67 by decide), hk_w_ne (show (37 : Nat) ≠ 68 by decide), hk_w_ne (show (37 : Nat) ≠ 69 by decide), hk_w_ne (show (37 : Nat) ≠ 70 by decide), hk_w_ne (show (37 : Nat) ≠ 71 by decide)]; exact e43) (by omega) (by decide) ?_
    refine hk_aload_n dX10_law_136 rfl rfl ?_
    refine gfX10_109 rfl dX10_law_137 (hk_lt (by decide)) rfl rfl ?_
    refine hk_aload_n dX10_law_140 rfl rfl ?_
    refine gfX10_339 rfl dX10_law_141 (hk_lt (by decide)) rfl rfl ?_
    refine hk_aload_n dX10_law_144 rfl rfl ?_
    refine ivX10_262 rfl md_today dX10_law_145 (hk_lt (by decide)) rfl rfl rfl (by decide) ⟨by decide, by decide⟩ (Nat.le_of_ble_eq_true rfl) (hk_kd ?_)
    refine hk_isn dX10_law_148 (by decide) (fun _ => rfl) (by simp only [hk_w_ne (show (37 : Nat) ≠ 67 by decide), hk_w_ne (show (37 : Nat) ≠ 68 by decide), hk_w_ne (show (37 : Nat) ≠ 69 by decide), hk_w_ne (show (37 : Nat) ≠ 70 by decide), hk_w_ne (show (37 : Nat) ≠ 71 by decide)]; exact e43) (by omega) (by decide) ?_
    refine hk_aload_n dX10_law_149 rfl rfl ?_
    refine hk_dup dX10_law_150 rfl ?_
    refine gfX10_339 rfl dX10_law_151 (hk_lt (by decide)) rfl rfl ?_
    refine hk_iconst (v := 1) dX10_law_154 (by decide) ?_
    refine hk_iadd dX10_law_155 ?_
    refine pfX10_339 rfl dX10_law_156 (hk_lt (by decide)) rfl (Nat.le_of_ble_eq_true rfl) (hk_st (j := 43) rfl ?_)
    rw [show hk_w (hk_w (hk_w (hk_w m1 68 nL (nI i)) 69 nL k) 70 nL d) 71 nL (hk_w (hk_w (hk_w m1 68 nL (nI i)) 69 nL k) 70 nL d 37 0 / 1440) 37 43 + 1 = nI (nL + 1) by rw [show hk_w (hk_w (hk_w (hk_w m1 68 nL (nI i)) 69 nL k) 70 nL d) 71 nL (hk_w (hk_w (hk_w m1 68 nL (nI i)) 69 nL k) 70 nL d 37 0 / 1440) 37 43 = nI nL from (by simp only [hk_w_ne (show (37 : Nat) ≠ 67 by decide), hk_w_ne (show (37 : Nat) ≠ 68 by decide), hk_w_ne (show (37 : Nat) ≠ 69 by decide), hk_w_ne (show (37 : Nat) ≠ 70 by decide), hk_w_ne (show (37 : Nat) ≠ 71 by decide)]; exact e43), nI_1]]
    refine hk_aload_n dX10_law_159 rfl rfl ?_
    refine gfX10_339 rfl dX10_law_160 (hk_lt (by decide)) rfl rfl ?_
    refine hk_iconst (v := 1) dX10_law_163 (by decide) ?_
    refine hk_isub dX10_law_164 ?_
    exact hk_ireturn dX10_law_165 rfl rfl (by decide) ⟨_, by rw [hk_w_eq]; exact congrArg (fun x => some (Value.int x)) (nI_pred nL), rfl, fun a h1 h2 h3 h4 h5 h6 => by
      rw [hk_wo h1, hk_wo h6, hk_wo h5, hk_wo h4, hk_wo h3]; exact s1 a h2, fun j hj => by
      rw [hk_w_off hj, hk_w_ne (by decide), hk_w_ne (by decide), hk_w_ne (by decide), hk_w_ne (by decide), s1 37 (by decide)], hk_w_eq, by
      rw [hk_wo (by decide), hk_wo (by decide), hk_wo (by decide), hk_wo (by decide), hk_wt, s1 68 (by decide)], by
      rw [hk_wo (by decide), hk_wo (by decide), hk_wo (by decide), hk_wt, hk_wo (by decide), s1 69 (by decide)], by
      rw [hk_wo (by decide), hk_wo (by decide), hk_wt, hk_wo (by decide), hk_wo (by decide), s1 70 (by decide)], by
      rw [hk_wo (by decide), hk_wt, hk_wo (by decide), hk_wo (by decide), hk_wo (by decide), s1 71 (by decide), hk_w_ne (by decide), hk_w_ne (by decide), hk_w_ne (by decide), s1 37 (by decide)], fun j hj => by
      rw [hk_w_ne (by decide), hk_w_ne (by decide), hk_w_ne (by decide), hk_w_ne (by decide), hk_w_ne (by decide)]; exact s2 j hj, fun j hj => by
      rw [hk_w_ne (by decide), hk_w_ne (by decide), hk_w_ne (by decide), hk_w_ne (by decide), hk_w_ne (by decide)]; exact s3 j (by omega)⟩
  · rw [nI_leI (by omega) (by omega)] at c73
    refine hk_aload_n dX10_law_76 rfl rfl ?_
    refine gfX10_97 rfl dX10_law_77 (hk_lt (by decide)) rfl rfl ?_
    refine hk_sipush (v := 160) dX10_law_80 (by decide) ?_
    refine hk_aload_n dX10_law_83 rfl rfl ?_
    refine gfX10_339 rfl dX10_law_84 (hk_lt (by decide)) rfl rfl ?_
    refine hk_imul dX10_law_87 ?_
    refine hk_iload dX10_law_88 rfl ?_
    refine hk_iadd dX10_law_90 ?_
    refine hk_aload_n dX10_law_91 rfl rfl ?_
    refine gfX10_94 rfl dX10_law_92 (hk_lt (by decide)) rfl rfl ?_
    refine hk_iload dX10_law_95 rfl ?_
    refine hk_ian dX10_law_97 (by decide) (fun _ => rfl) rfl (by omega) (by decide) ?_
    refine hk_isn dX10_law_98 (by decide) (fun _ => rfl) (by rw [e43, show (160 : Int32) = nI 160 from rfl, nI_mul, nI_add]) (by omega) (by decide) ?_
    refine hk_iinc (v := nI (i + 1)) dX10_law_99 rfl (nI_1 i) (by decide) rfl ?_
    refine hk_goto (tgt := 69) dX10_law_102 (by decide) ?_
    have hlt : i < n := by omega
    exact lp_mlaw hL hL4 hn2 k d v (i + 1) (by omega) _ (fun a ha => by rw [hk_wo ha]; exact s1 a ha) (fun j hj => by rw [hk_w_off (by omega)]; exact s2 j hj) (fun j hj => by
      by_cases e : j = i
      · subst e; rw [hk_w_eq, e66]
      · rw [hk_w_off (by omega)]; exact s3 j (by omega))
termination_by n - i
decreasing_by all_goals omega
/-- what the reference's law leaves and answers -/
def MLR (L nL n : Nat) (m : Nat → Nat → Int32) (k d : Int32) (T : LRes) (r : Option Value) (h : hk_H) : Prop := match T with
  | .inl q => ∃ m4, r = some (.int (-100 - nI q)) ∧ h = hk_h L m4 ∧ (∀ a, a ≠ 37 → m4 a = m a) ∧ m4 37 37 = nI 0 ∧ ∀ j, j ≠ 37 → j ≠ 44 → j ≠ 45 → j ≠ 78 → j ≠ 79 → m4 37 j = m 37 j
  | .inr _ => ∃ m3, MQ3 L nL n m3 k d r h ∧ (∀ a, a ≠ 37 → m3 a = m a) ∧ m3 37 37 = nI 0 ∧ ∀ j, j ≠ 37 → j ≠ 44 → j ≠ 45 → j ≠ 78 → j ≠ 79 → m3 37 j = m 37 j
set_option maxRecDepth 20000 in
set_option maxHeartbeats 2000000 in
theorem md_law {n : Nat} (hL : m 37 43 = nI nL) (hL4 : nL < 40) (hn : m 37 37 = nI n) (hn2 : n ≤ 160) (k d : Int32) (h : okLw k d) : hk_Ct MX10_law 69 0 0 [.ref 37, .int k, .int d] (hk_h L m) (MLR L nL n m k d (PT (m 66) n)) := by
  refine hk_ofWP (by decide) (by simp [Value.category]) (Nat.le_of_ble_eq_true rfl) ?_
  show hk_WP _ _ _ _ _ _ _ [some (.ref 37), some (.int k), some (.int d), none, none, none] [] _ _
  refine hk_iload_n dX10_law_0 rfl rfl ?_
  refine hk_iconst (v := 0) dX10_law_1 (by decide) ?_
  refine hk_iconst (v := 2) dX10_law_2 (by decide) ?_
  refine ivX10_208 rfl (ct_within k 0 2) dX10_law_3 rfl rfl (by decide) ⟨by decide, by decide⟩ (Nat.le_of_ble_eq_true rfl) (hk_kd ?_)
  refine hk_if_eq (tgt := 16) dX10_law_6 (by decide) (fun c6 => absurd c6 (fun e => bI_0.mp e h.1)) (fun _ => ?_)
  refine hk_iload_n dX10_law_9 rfl rfl ?_
  refine ivX10_336 rfl (md_isDay d) dX10_law_10 rfl rfl (by decide) ⟨by decide, by decide⟩ (Nat.le_of_ble_eq_true rfl) (hk_kd ?_)
  refine hk_if_ne (tgt := 18) dX10_law_13 (by decide) (fun _ => ?_) (fun c13 => absurd c13 (fun e => bI_0.mp e h.2))
  refine hk_aload_n dX10_law_18 rfl rfl ?_
  refine gfX10_339 rfl dX10_law_19 (hk_lt (by decide)) rfl rfl ?_
  refine hk_bipush (v := 40) dX10_law_22 (by decide) ?_
  refine hk_icmp_ne (tgt := 30) dX10_law_24 (by decide) (fun _ => ?_) (fun c24 => absurd c24 (by rw [hL, show (40 : Int32) = nI 40 from rfl, nI_eq (by omega) (by decide)]; omega))
  refine hk_aload_n dX10_law_30 rfl rfl ?_
  refine hk_iconst (v := (-1)) dX10_law_31 (by decide) ?_
  refine hk_aload_n dX10_law_32 rfl rfl ?_
  refine gfX10_293 rfl dX10_law_33 (hk_lt (by decide)) rfl rfl ?_
  rw [hn]
  refine ivX10_342 rfl (md_workOut (Or.inl ⟨rfl, rfl⟩) hn2) dX10_law_36 (hk_lt (by decide)) rfl rfl rfl (by decide) ⟨by decide, by decide⟩ (Nat.le_of_ble_eq_true rfl) (fun r h1 hq => ?_)
  rcases hr : PT (m 66) n with q | ⟨p, c, v⟩
  · obtain ⟨m3, w, rfl, rfl, s3, s4, s5⟩ := WOi hq hr
    refine hk_istore_n dX10_law_39 rfl (by decide) rfl ?_
    refine hk_aload_n dX10_law_40 rfl rfl ?_
    refine gfX10_293 rfl dX10_law_41 (hk_lt (by decide)) rfl rfl ?_
    rw [show m3 37 37 = nI n by rw [s3.2 37 (by decide) (by decide) (by decide) (by decide)]; exact hn]
    refine hk_istore dX10_law_44 (by decide) rfl ?_
    refine hk_aload_n dX10_law_46 rfl rfl ?_
    refine hk_iconst (v := 0) dX10_law_47 (by decide) ?_
    refine pfX10_293 rfl dX10_law_48 (hk_lt (by decide)) rfl (Nat.le_of_ble_eq_true rfl) (hk_st (j := 37) rfl ?_)
    refine hk_aload_n dX10_law_51 rfl rfl ?_
    refine gfX10_302 rfl dX10_law_52 (hk_lt (by decide)) rfl rfl ?_
    refine hk_if_lt (tgt := 66) dX10_law_55 (by decide) (fun c55 => absurd c55 (by rw [hk_w_off (by decide), s4]; exact nI_pos (by omega))) (fun _ => ?_)
    refine hk_bipush (v := (-100)) dX10_law_58 (by decide) ?_
    refine hk_aload_n dX10_law_60 rfl rfl ?_
    refine gfX10_302 rfl dX10_law_61 (hk_lt (by decide)) rfl rfl ?_
    refine hk_isub dX10_law_64 ?_
    exact hk_ireturn dX10_law_65 rfl rfl (by decide) ⟨_, by rw [hk_w_off (by decide), s4], rfl, fun a ha => by rw [hk_wo ha]; exact s3.1 a ha, by rw [hk_w_eq]; rfl, fun j h1 h2 h3 h4 h5 => by rw [hk_w_off h1]; exact s3.2 j h2 h3 h4 h5⟩
  · obtain ⟨m3, rfl, rfl, s3, s4⟩ := WOj hq hr
    refine hk_istore_n dX10_law_39 rfl (by decide) rfl ?_
    refine hk_aload_n dX10_law_40 rfl rfl ?_
    refine gfX10_293 rfl dX10_law_41 (hk_lt (by decide)) rfl rfl ?_
    rw [show m3 37 37 = nI n by rw [s3.2 37 (by decide) (by decide) (by decide) (by decide)]; exact hn]
    refine hk_istore dX10_law_44 (by decide) rfl ?_
    refine hk_aload_n dX10_law_46 rfl rfl ?_
    refine hk_iconst (v := 0) dX10_law_47 (by decide) ?_
    refine pfX10_293 rfl dX10_law_48 (hk_lt (by decide)) rfl (Nat.le_of_ble_eq_true rfl) (hk_st (j := 37) rfl ?_)
    refine hk_aload_n dX10_law_51 rfl rfl ?_
    refine gfX10_302 rfl dX10_law_52 (hk_lt (by decide)) rfl rfl ?_
    refine hk_if_lt (tgt := 66) dX10_law_55 (by decide) (fun _ => ?_) (fun c55 => absurd (by rw [hk_w_off (by decide), s4]; decide) c55)
    refine hk_iconst (v := 0) dX10_law_66 (by decide) ?_
    refine hk_istore dX10_law_67 (by decide) rfl ?_
    refine hk_conseq (fun r h q => ⟨_, q, fun a ha => by rw [hk_wo ha]; exact s3.1 a ha, by rw [hk_w_eq]; rfl, fun j h1 h2 h3 h4 h5 => by rw [hk_w_off h1]; exact s3.2 j h2 h3 h4 h5⟩) (lp_mlaw (L := L) (nL := nL) (m3 := hk_w m3 37 37 0) (by rw [hk_w_off (by decide), s3.2 43 (by decide) (by decide) (by decide) (by decide)]; exact hL) hL4 hn2 k d _ 0 (Nat.zero_le _) _ (fun _ _ => rfl) (fun _ _ => rfl) (fun j hj => absurd hj (Nat.not_lt_zero _)))
theorem PT_pn {b : Nat → Int32} {n p : Nat} {c : List Int32} {v : (Nat → Int32) → Int32} (h : PT b n = .inr (p, c, v)) : PE b n 12 0 0 = .inr (n, c, v) ∧ c.length ≤ 160 ∨ 160 < n := by
  by_cases hn : n ≤ 160
  · left
    have hB := PB_PE b n 12 0 0 (Nat.zero_le _)
    unfold PT at h
    cases hp : PE b n 12 0 0 with
    | inl q => rw [hp] at h; cases h
    | inr t =>
      obtain ⟨p1, c1, v1⟩ := t
      rw [hp] at h hB
      simp only at h hB
      by_cases hl : p1 < n
      · rw [cI_t hl] at h; cases h
      · rw [cI_f hl] at h
        cases h
        have : p = n := by omega
        subst this
        exact ⟨rfl, by omega⟩
  · right; omega
/-- a law more -/
theorem Inv_law {n : Nat} {c : List Int32} {v : (Nat → Int32) → Int32} {k d : Int32} (hI : Inv L z m) (hL4 : L < 40) (hn2 : n ≤ 160)
    (h1 : ∀ a, a ≠ 15 → a ≠ 16 → a ≠ 18 → a ≠ 37 → a ≠ 67 → a ≠ 68 → a ≠ 69 → a ≠ 70 → a ≠ 71 → a ≠ 99 + 2 * L → a ≠ 99 + 2 * L + 1 → m1 a = m a)
    (h2 : ∀ j, j ≠ 37 → j ≠ 43 → j ≠ 44 → j ≠ 45 → j ≠ 78 → j ≠ 79 → m1 37 j = m 37 j) (h3 : m1 15 2 = nI (L + 1)) (h4 : m1 16 2 = nI 0) (h5 : m1 37 37 = nI 0) (h6 : m1 37 43 = nI (L + 1))
    (q0 : m1 (99 + 2 * L) 0 = k) (q1 : m1 (99 + 2 * L) 1 = d) (q2 : m1 (99 + 2 * L) 2 = m 0 0 / 1440) (q3 : m1 (99 + 2 * L + 1) 1000 = nI c.length) (q4 : ∀ j, j < c.length → m1 (99 + 2 * L + 1) j = c.getD j 0)
    (r1 : m1 68 = upd (m 68) L (nI n)) (r2 : m1 69 = upd (m 69) L k) (r3 : m1 70 = upd (m 70) L d) (r4 : m1 71 = upd (m 71) L (m 0 0 / 1440)) (r5 : ∀ j, j < 160 * L → m1 67 j = m 67 j) (r6 : PE (fun j => m1 67 (160 * L + j)) n 12 0 0 = .inr (n, c, v)) : Inv (L + 1) (up (up z 9 0) 4 (L + 1)) m1 := by
  obtain ⟨g0, ⟨a, b, c'⟩, g2, g3, g4, g5, g6, g7, g8, g9, g10, g11, g12, g13, g14⟩ := hI
  have e : ∀ a, a < 99 → a ≠ 15 → a ≠ 16 → a ≠ 18 → a ≠ 37 → a ≠ 67 → a ≠ 68 → a ≠ 69 → a ≠ 70 → a ≠ 71 → m1 a = m a := fun a h hh1 hh2 hh3 hh4 hh5 hh6 hh7 hh8 hh9 => h1 a hh1 hh2 hh3 hh4 hh5 hh6 hh7 hh8 hh9 (by omega) (by omega)
  have u : ∀ j, j ≠ 9 → j ≠ 4 → up (up z 9 0) 4 (L + 1) j = z j := fun j hj h => by unfold up; rw [if_neg h, if_neg hj]
  have u9 : up (up z 9 0) 4 (L + 1) 9 = 0 := rfl
  have u4 : up (up z 9 0) 4 (L + 1) 4 = L + 1 := rfl
  subst g0
  refine ⟨u4.symm, ⟨?_, ?_, ?_⟩, ?_, ?_, ?_, ?_, ?_, ?_, ?_, ?_, ?_, ?_, ?_, ?_, ?_⟩
  · rw [h3, h4, u9, u4]
    rw [e 1 (by decide) (by decide) (by decide) (by decide) (by decide) (by decide) (by decide) (by decide) (by decide) (by decide), e 2 (by decide) (by decide) (by decide) (by decide) (by decide) (by decide) (by decide) (by decide) (by decide) (by decide), e 9 (by decide) (by decide) (by decide) (by decide) (by decide) (by decide) (by decide) (by decide) (by decide) (by decide), e 13 (by decide) (by decide) (by decide) (by decide) (by decide) (by decide) (by decide) (by decide) (by decide) (by decide), e 23 (by decide) (by decide) (by decide) (by decide) (by decide) (by decide) (by decide) (by decide) (by decide) (by decide), e 27 (by decide) (by decide) (by decide) (by decide) (by decide) (by decide) (by decide) (by decide) (by decide) (by decide), e 30 (by decide) (by decide) (by decide) (by decide) (by decide) (by decide) (by decide) (by decide) (by decide) (by decide), e 0 (by decide) (by decide) (by decide) (by decide) (by decide) (by decide) (by decide) (by decide) (by decide) (by decide), e 33 (by decide) (by decide) (by decide) (by decide) (by decide) (by decide) (by decide) (by decide) (by decide) (by decide), e 35 (by decide) (by decide) (by decide) (by decide) (by decide) (by decide) (by decide) (by decide) (by decide) (by decide), e 11 (by decide) (by decide) (by decide) (by decide) (by decide) (by decide) (by decide) (by decide) (by decide) (by decide), e 25 (by decide) (by decide) (by decide) (by decide) (by decide) (by decide) (by decide) (by decide) (by decide) (by decide)]
    rw [u 0 (by decide) (by decide), u 1 (by decide) (by decide), u 2 (by decide) (by decide), u 3 (by decide) (by decide), u 5 (by decide) (by decide), u 6 (by decide) (by decide), u 7 (by decide) (by decide), u 8 (by decide) (by decide), u 10 (by decide) (by decide), u 11 (by decide) (by decide), u 12 (by decide) (by decide)]
    exact ⟨a.1, a.2.1, a.2.2.1, a.2.2.2.1, rfl, a.2.2.2.2.2.1, a.2.2.2.2.2.2.1, a.2.2.2.2.2.2.2.1, a.2.2.2.2.2.2.2.2.1, rfl, a.2.2.2.2.2.2.2.2.2.2⟩
  · rw [h5, h6, u9, u4, h2 3 (by decide) (by decide) (by decide) (by decide) (by decide) (by decide), h2 11 (by decide) (by decide) (by decide) (by decide) (by decide) (by decide), h2 26 (by decide) (by decide) (by decide) (by decide) (by decide) (by decide), h2 35 (by decide) (by decide) (by decide) (by decide) (by decide) (by decide), h2 60 (by decide) (by decide) (by decide) (by decide) (by decide) (by decide), h2 65 (by decide) (by decide) (by decide) (by decide) (by decide) (by decide), h2 68 (by decide) (by decide) (by decide) (by decide) (by decide) (by decide), h2 0 (by decide) (by decide) (by decide) (by decide) (by decide) (by decide), h2 73 (by decide) (by decide) (by decide) (by decide) (by decide) (by decide), h2 77 (by decide) (by decide) (by decide) (by decide) (by decide) (by decide), h2 30 (by decide) (by decide) (by decide) (by decide) (by decide) (by decide)]
    rw [u 0 (by decide) (by decide), u 1 (by decide) (by decide), u 2 (by decide) (by decide), u 3 (by decide) (by decide), u 5 (by decide) (by decide), u 6 (by decide) (by decide), u 7 (by decide) (by decide), u 8 (by decide) (by decide), u 10 (by decide) (by decide), u 11 (by decide) (by decide), u 12 (by decide) (by decide)]
    exact ⟨b.1, b.2.1, b.2.2.1, b.2.2.2.1, rfl, b.2.2.2.2.2.1, b.2.2.2.2.2.2.1, b.2.2.2.2.2.2.2.1, b.2.2.2.2.2.2.2.2.1, rfl, b.2.2.2.2.2.2.2.2.2.2⟩
  · rw [u9, u4]
    rw [u 0 (by decide) (by decide), u 1 (by decide) (by decide), u 2 (by decide) (by decide), u 3 (by decide) (by decide), u 5 (by decide) (by decide), u 6 (by decide) (by decide), u 7 (by decide) (by decide), u 8 (by decide) (by decide), u 10 (by decide) (by decide), u 11 (by decide) (by decide), u 12 (by decide) (by decide)]
    exact ⟨c'.1, c'.2.1, c'.2.2.1, c'.2.2.2.1, by omega, c'.2.2.2.2.2.1, c'.2.2.2.2.2.2.1, c'.2.2.2.2.2.2.2.1, c'.2.2.2.2.2.2.2.2.1, Nat.zero_le _, c'.2.2.2.2.2.2.2.2.2.2⟩
  · rw [e 3 (by decide) (by decide) (by decide) (by decide) (by decide) (by decide) (by decide) (by decide) (by decide) (by decide), e 40 (by decide) (by decide) (by decide) (by decide) (by decide) (by decide) (by decide) (by decide) (by decide) (by decide), e 41 (by decide) (by decide) (by decide) (by decide) (by decide) (by decide) (by decide) (by decide) (by decide) (by decide), e 42 (by decide) (by decide) (by decide) (by decide) (by decide) (by decide) (by decide) (by decide) (by decide) (by decide), e 43 (by decide) (by decide) (by decide) (by decide) (by decide) (by decide) (by decide) (by decide) (by decide) (by decide), e 44 (by decide) (by decide) (by decide) (by decide) (by decide) (by decide) (by decide) (by decide) (by decide) (by decide), e 45 (by decide) (by decide) (by decide) (by decide) (by decide) (by decide) (by decide) (by decide) (by decide) (by decide), e 46 (by decide) (by decide) (by decide) (by decide) (by decide) (by decide) (by decide) (by decide) (by decide) (by decide)]
    rw [u 0 (by decide) (by decide), u 1 (by decide) (by decide)]
    exact g2
  · rw [e 4 (by decide) (by decide) (by decide) (by decide) (by decide) (by decide) (by decide) (by decide) (by decide) (by decide), e 5 (by decide) (by decide) (by decide) (by decide) (by decide) (by decide) (by decide) (by decide) (by decide) (by decide), e 38 (by decide) (by decide) (by decide) (by decide) (by decide) (by decide) (by decide) (by decide) (by decide) (by decide), e 39 (by decide) (by decide) (by decide) (by decide) (by decide) (by decide) (by decide) (by decide) (by decide) (by decide)]
    exact g3
  · rw [e 1 (by decide) (by decide) (by decide) (by decide) (by decide) (by decide) (by decide) (by decide) (by decide) (by decide), e 7 (by decide) (by decide) (by decide) (by decide) (by decide) (by decide) (by decide) (by decide) (by decide) (by decide), e 50 (by decide) (by decide) (by decide) (by decide) (by decide) (by decide) (by decide) (by decide) (by decide) (by decide)]
    rw [h2 17 (by decide) (by decide) (by decide) (by decide) (by decide) (by decide)]
    exact g4
  · rw [e 10 (by decide) (by decide) (by decide) (by decide) (by decide) (by decide) (by decide) (by decide) (by decide) (by decide), e 51 (by decide) (by decide) (by decide) (by decide) (by decide) (by decide) (by decide) (by decide) (by decide) (by decide), e 52 (by decide) (by decide) (by decide) (by decide) (by decide) (by decide) (by decide) (by decide) (by decide) (by decide), e 53 (by decide) (by decide) (by decide) (by decide) (by decide) (by decide) (by decide) (by decide) (by decide) (by decide), e 54 (by decide) (by decide) (by decide) (by decide) (by decide) (by decide) (by decide) (by decide) (by decide) (by decide), e 55 (by decide) (by decide) (by decide) (by decide) (by decide) (by decide) (by decide) (by decide) (by decide) (by decide), e 56 (by decide) (by decide) (by decide) (by decide) (by decide) (by decide) (by decide) (by decide) (by decide) (by decide), e 57 (by decide) (by decide) (by decide) (by decide) (by decide) (by decide) (by decide) (by decide) (by decide) (by decide), e 58 (by decide) (by decide) (by decide) (by decide) (by decide) (by decide) (by decide) (by decide) (by decide) (by decide), e 14 (by decide) (by decide) (by decide) (by decide) (by decide) (by decide) (by decide) (by decide) (by decide) (by decide)]
    rw [u 0 (by decide) (by decide), u 2 (by decide) (by decide), u 3 (by decide) (by decide), u 8 (by decide) (by decide)]
    exact g5
  · rw [e 12 (by decide) (by decide) (by decide) (by decide) (by decide) (by decide) (by decide) (by decide) (by decide) (by decide), e 59 (by decide) (by decide) (by decide) (by decide) (by decide) (by decide) (by decide) (by decide) (by decide) (by decide), e 60 (by decide) (by decide) (by decide) (by decide) (by decide) (by decide) (by decide) (by decide) (by decide) (by decide), e 61 (by decide) (by decide) (by decide) (by decide) (by decide) (by decide) (by decide) (by decide) (by decide) (by decide)]
    rw [u 12 (by decide) (by decide)]
    exact g6
  · rw [e 14 (by decide) (by decide) (by decide) (by decide) (by decide) (by decide) (by decide) (by decide) (by decide) (by decide), e 62 (by decide) (by decide) (by decide) (by decide) (by decide) (by decide) (by decide) (by decide) (by decide) (by decide), e 63 (by decide) (by decide) (by decide) (by decide) (by decide) (by decide) (by decide) (by decide) (by decide) (by decide), e 64 (by decide) (by decide) (by decide) (by decide) (by decide) (by decide) (by decide) (by decide) (by decide) (by decide), e 65 (by decide) (by decide) (by decide) (by decide) (by decide) (by decide) (by decide) (by decide) (by decide) (by decide), e 10 (by decide) (by decide) (by decide) (by decide) (by decide) (by decide) (by decide) (by decide) (by decide) (by decide)]
    rw [u 0 (by decide) (by decide), u 2 (by decide) (by decide), u 3 (by decide) (by decide)]
    exact g7
  · exact fun j hj => absurd hj (Nat.not_lt_zero _)
  · intro i hi
    by_cases hiL : i = z 4
    · subst hiL
      refine ⟨?_, ?_, ?_, n, c, v, ?_, hn2, r6, q3, q4⟩
      · rw [r2, upd_e]; exact q0.symm
      · rw [r3, upd_e]; exact q1.symm
      · rw [r4, upd_e]; exact q2.symm
      · rw [r1, upd_e]
    · obtain ⟨w1, w2, w3, n', c2, v2, w4, w5, w6, w7, w8⟩ := g9 i (by omega)
      have eo : m1 (99 + 2 * i) = m (99 + 2 * i) := h1 _ (by omega) (by omega) (by omega) (by omega) (by omega) (by omega) (by omega) (by omega) (by omega) (by omega) (by omega)
      have ea : m1 (99 + (2 * i + 1)) = m (99 + (2 * i + 1)) := h1 _ (by omega) (by omega) (by omega) (by omega) (by omega) (by omega) (by omega) (by omega) (by omega) (by omega) (by omega)
      refine ⟨?_, ?_, ?_, n', c2, v2, ?_, w5, ?_, ?_, fun j hj => ?_⟩
      · rw [r2, upd_n hiL]; show _ = m1 (99 + 2 * i) 0; rw [eo]; exact w1
      · rw [r3, upd_n hiL]; show _ = m1 (99 + 2 * i) 1; rw [eo]; exact w2
      · rw [r4, upd_n hiL]; show _ = m1 (99 + 2 * i) 2; rw [eo]; exact w3
      · rw [r1, upd_n hiL]; exact w4
      · rw [PE_cg (b' := fun j => m 67 (160 * i + j)) (fun j hj => r5 _ (by omega))]; exact w6
      · show m1 (99 + (2 * i + 1)) 1000 = _; rw [ea]; exact w7
      · show m1 (99 + (2 * i + 1)) j = _; rw [ea]; exact w8 j hj
  · rw [e 24 (by decide) (by decide) (by decide) (by decide) (by decide) (by decide) (by decide) (by decide) (by decide) (by decide), e 73 (by decide) (by decide) (by decide) (by decide) (by decide) (by decide) (by decide) (by decide) (by decide) (by decide), e 74 (by decide) (by decide) (by decide) (by decide) (by decide) (by decide) (by decide) (by decide) (by decide) (by decide), e 75 (by decide) (by decide) (by decide) (by decide) (by decide) (by decide) (by decide) (by decide) (by decide) (by decide), e 76 (by decide) (by decide) (by decide) (by decide) (by decide) (by decide) (by decide) (by decide) (by decide) (by decide), e 77 (by decide) (by decide) (by decide) (by decide) (by decide) (by decide) (by decide) (by decide) (by decide) (by decide), e 78 (by decide) (by decide) (by decide) (by decide) (by decide) (by decide) (by decide) (by decide) (by decide) (by decide), e 79 (by decide) (by decide) (by decide) (by decide) (by decide) (by decide) (by decide) (by decide) (by decide) (by decide), e 80 (by decide) (by decide) (by decide) (by decide) (by decide) (by decide) (by decide) (by decide) (by decide) (by decide), e 81 (by decide) (by decide) (by decide) (by decide) (by decide) (by decide) (by decide) (by decide) (by decide) (by decide), e 82 (by decide) (by decide) (by decide) (by decide) (by decide) (by decide) (by decide) (by decide) (by decide) (by decide), e 84 (by decide) (by decide) (by decide) (by decide) (by decide) (by decide) (by decide) (by decide) (by decide) (by decide), e 83 (by decide) (by decide) (by decide) (by decide) (by decide) (by decide) (by decide) (by decide) (by decide) (by decide), e 85 (by decide) (by decide) (by decide) (by decide) (by decide) (by decide) (by decide) (by decide) (by decide) (by decide)]
    rw [u 5 (by decide) (by decide)]
    exact g10
  · rw [e 28 (by decide) (by decide) (by decide) (by decide) (by decide) (by decide) (by decide) (by decide) (by decide) (by decide), e 86 (by decide) (by decide) (by decide) (by decide) (by decide) (by decide) (by decide) (by decide) (by decide) (by decide), e 87 (by decide) (by decide) (by decide) (by decide) (by decide) (by decide) (by decide) (by decide) (by decide) (by decide), e 88 (by decide) (by decide) (by decide) (by decide) (by decide) (by decide) (by decide) (by decide) (by decide) (by decide), e 89 (by decide) (by decide) (by decide) (by decide) (by decide) (by decide) (by decide) (by decide) (by decide) (by decide)]
    rw [u 6 (by decide) (by decide)]
    exact g11
  · rw [e 31 (by decide) (by decide) (by decide) (by decide) (by decide) (by decide) (by decide) (by decide) (by decide) (by decide), e 90 (by decide) (by decide) (by decide) (by decide) (by decide) (by decide) (by decide) (by decide) (by decide) (by decide), e 91 (by decide) (by decide) (by decide) (by decide) (by decide) (by decide) (by decide) (by decide) (by decide) (by decide)]
    rw [u 7 (by decide) (by decide), u 5 (by decide) (by decide)]
    exact g12
  · rw [e 34 (by decide) (by decide) (by decide) (by decide) (by decide) (by decide) (by decide) (by decide) (by decide) (by decide), e 92 (by decide) (by decide) (by decide) (by decide) (by decide) (by decide) (by decide) (by decide) (by decide) (by decide), e 93 (by decide) (by decide) (by decide) (by decide) (by decide) (by decide) (by decide) (by decide) (by decide) (by decide), e 94 (by decide) (by decide) (by decide) (by decide) (by decide) (by decide) (by decide) (by decide) (by decide) (by decide), e 95 (by decide) (by decide) (by decide) (by decide) (by decide) (by decide) (by decide) (by decide) (by decide) (by decide)]
    rw [u 10 (by decide) (by decide)]
    exact g13
  · rw [e 36 (by decide) (by decide) (by decide) (by decide) (by decide) (by decide) (by decide) (by decide) (by decide) (by decide), e 96 (by decide) (by decide) (by decide) (by decide) (by decide) (by decide) (by decide) (by decide) (by decide) (by decide), e 97 (by decide) (by decide) (by decide) (by decide) (by decide) (by decide) (by decide) (by decide) (by decide) (by decide), e 98 (by decide) (by decide) (by decide) (by decide) (by decide) (by decide) (by decide) (by decide) (by decide) (by decide)]
    rw [u 11 (by decide) (by decide), u 2 (by decide) (by decide)]
    exact g14
theorem op_law (hN : NameOf L) (hI : Inv L z m) (k d : Int32) : OpE L m MX9_law MX10_law [.int k, .int d] := by
  have hT : GTape (z 9) (m 17) (m 66) := hI.2.2.2.2.2.2.2.2.1
  have a9 : m 16 2 = nI (z 9) := hI.2.1.1.2.2.2.2.2.2.2.2.2.1
  have b9 : m 37 37 = nI (z 9) := hI.2.1.2.1.2.2.2.2.2.2.2.2.2.1
  have c9 : z 9 ≤ 160 := hI.2.1.2.2.2.2.2.2.2.2.2.2.2.1
  have a8 : m 0 0 = nI (z 8) := hI.2.1.1.2.2.2.2.2.2.2.2.1
  have b8 : m 37 0 = nI (z 8) := hI.2.1.2.1.2.2.2.2.2.2.2.2.1
  obtain ⟨g1, g2, g3, g4, g5⟩ := Inv_gl hI
  by_cases ho : okLw k d
  · by_cases hL : L = 40
    · subst hL
      exact OpOK.e ⟨87, 0, 0, 69, -2, 40, m, m, z, by decide, by decide, by decide, by decide, ct_law_full g2 k d ho, md_law_full g4 k d ho, hI⟩
    · have hL4 : L < 40 := by omega
      have ePT : PT (m 66) (z 9) = PT (m 17) (z 9) := PT_cg (fun j hj => (hT j hj).1.symm)
      refine ⟨87, 2, 164, 69, by decide, by decide, by decide, by decide, hk_imp ?_ (ct_law hN g2 hL4 a9 c9 k d ho)⟩
      intro r h hq
      cases hr : PT (m 17) (z 9) with
      | inl q =>
        rw [hr] at hq
        obtain ⟨m1, rfl, rfl, s1, s2⟩ := hq
        refine ⟨_, L, m1, rfl, rfl, hk_imp ?_ (md_law (m := m1) (nL := L) (n := z 9) (by rw [s1 37 (by decide) (by decide)]; exact g4) hL4 (by rw [s1 37 (by decide) (by decide)]; exact b9) c9 k d ho)⟩
        intro r h hq
        rw [show m1 66 = m 66 from s1 66 (by decide) (by decide), ePT, hr] at hq
        obtain ⟨m2, rfl, rfl, t1, t2, t3⟩ := hq
        have hIt := Inv_tape (k := 0) (m1 := hk_w (hk_w m 16 2 (nI 0)) 37 37 (nI 0)) hI (fun a h1 h2 h3 h4 => by rw [hk_wo h3, hk_wo h1]) (fun j hj => by rw [hk_w_off hj, hk_w_ne (by decide)]) (by rw [hk_w_ne (by decide), hk_w_eq]) hk_w_eq (by decide) (fun j hj => absurd hj (Nat.not_lt_zero _))
        refine ⟨m2, _, rfl, rfl, Inv_scr hIt ⟨fun a n3 n6 n16 n18 n20 n21 n26 n37 n47 n48 n49 n72 => ?_, fun j hj => ?_, ?_, fun j n15 n44 n45 n78 n79 n80 => ?_⟩⟩
        · rw [t1 a n37, s1 a n16 n18, hk_wo n37, hk_wo n16]
        · rw [t1 3 (by decide), s1 3 (by decide) (by decide), hk_w_ne (by decide), hk_w_ne (by decide)]
        · rw [t1 16 (by decide), s2, hk_w_ne (by decide), hk_w_eq]
        · by_cases h37 : j = 37
          · subst h37; rw [t2, hk_w_eq]
          · rw [t3 j h37 n44 n45 n78 n79, s1 37 (by decide) (by decide), hk_w_off h37, hk_w_ne (by decide)]
      | inr t =>
        obtain ⟨p, c, v⟩ := t
        rw [hr] at hq
        obtain ⟨m1, rfl, rfl, s1, s2, s3, s4, s5, s6, s7, s8⟩ := hq
        have s1' : ∀ a, a < 99 → a ≠ 15 → a ≠ 16 → a ≠ 18 → m1 a = m a := fun a h h1 h2 h3 => s1 a h1 h2 h3 (by omega) (by omega)
        refine ⟨_, L + 1, m1, rfl, rfl, hk_imp ?_ (md_law (L := L + 1) (m := m1) (nL := L) (n := z 9) (by rw [s1' 37 (by decide) (by decide) (by decide) (by decide)]; exact g4) hL4 (by rw [s1' 37 (by decide) (by decide) (by decide) (by decide)]; exact b9) c9 k d ho)⟩
        intro r h hq
        rw [show m1 66 = m 66 from s1' 66 (by decide) (by decide) (by decide) (by decide), ePT, hr] at hq
        obtain ⟨m3, ⟨m2, rfl, rfl, t1, t2, t3, t4, t5, t6, t7, t8, t9⟩, w1, w2, w3⟩ := hq
        have hPE := (PT_pn hr).resolve_right (by omega)
        have e1 : ∀ a, a ≠ 15 → a ≠ 16 → a ≠ 18 → a ≠ 37 → a ≠ 67 → a ≠ 68 → a ≠ 69 → a ≠ 70 → a ≠ 71 → a ≠ 99 + 2 * L → a ≠ 99 + 2 * L + 1 → m2 a = m a := fun a n15 n16 n18 n37 n67 n68 n69 n70 n71 n1 n2 => by rw [t1 a n37 n67 n68 n69 n70 n71, w1 a n37, s1 a n15 n16 n18 n1 n2]
        have e2 : ∀ a, a ≠ 37 → a ≠ 67 → a ≠ 68 → a ≠ 69 → a ≠ 70 → a ≠ 71 → m2 a = m1 a := fun a n37 n67 n68 n69 n70 n71 => by rw [t1 a n37 n67 n68 n69 n70 n71, w1 a n37]
        have e0 : m3 37 0 / 1440 = m 0 0 / 1440 := by rw [w3 0 (by decide) (by decide) (by decide) (by decide) (by decide), s1' 37 (by decide) (by decide) (by decide) (by decide), b8, a8]
        refine ⟨m2, _, rfl, rfl, Inv_law (n := z 9) (c := c) (v := v) (k := k) (d := d) hI hL4 c9 e1 (fun j n37 n43 n44 n45 n78 n79 => ?_) ?_ ?_ ?_ t3 ?_ ?_ ?_ ?_ (fun j hj => ?_) ?_ ?_ ?_ ?_ (fun j hj => ?_) ?_⟩
        · rw [t2 j n43, w3 j n37 n44 n45 n78 n79, s1' 37 (by decide) (by decide) (by decide) (by decide)]
        · rw [e2 15 (by decide) (by decide) (by decide) (by decide) (by decide) (by decide)]; exact s2
        · rw [e2 16 (by decide) (by decide) (by decide) (by decide) (by decide) (by decide)]; exact s3
        · rw [t2 37 (by decide), w2]
        · rw [e2 _ (by omega) (by omega) (by omega) (by omega) (by omega) (by omega)]; exact s4
        · rw [e2 _ (by omega) (by omega) (by omega) (by omega) (by omega) (by omega)]; exact s5
        · rw [e2 _ (by omega) (by omega) (by omega) (by omega) (by omega) (by omega)]; exact s6
        · rw [e2 _ (by omega) (by omega) (by omega) (by omega) (by omega) (by omega)]; exact s7
        · rw [e2 _ (by omega) (by omega) (by omega) (by omega) (by omega) (by omega)]; exact s8 j hj
        · rw [t4, w1 68 (by decide), s1' 68 (by decide) (by decide) (by decide) (by decide)]
        · rw [t5, w1 69 (by decide), s1' 69 (by decide) (by decide) (by decide) (by decide)]
        · rw [t6, w1 70 (by decide), s1' 70 (by decide) (by decide) (by decide) (by decide)]
        · rw [t7, w1 71 (by decide), s1' 71 (by decide) (by decide) (by decide) (by decide), e0]
        · rw [t8 j hj, w1 67 (by decide), s1' 67 (by decide) (by decide) (by decide) (by decide)]
        · rw [PE_cg (b' := m 17) (fun j hj => by
            show m2 67 (160 * L + j) = m 17 j
            rw [t9 j hj, w1 66 (by decide), s1' 66 (by decide) (by decide) (by decide) (by decide), (hT j hj).1])]
          exact hPE.1
  · exact OpOK.e ⟨87, 0, 0, 69, -1, L, m, m, z, by decide, by decide, by decide, by decide, ct_law_no k d ho, md_law_no k d ho, hI⟩
end OJx
