/-! where a coach stands; about -/
section OHx
variable {L nT nK nD : Nat} {m m0 m1 m2 : Nat → Nat → Int32} {z : Nat → Nat}
def inRow (m : Nat → Nat → Int32) (s : Nat) (c : Int32) : Prop := ∃ k, k < (m 65 s).toNatClampNeg ∧ m 64 (10 * s + k) = c
/-- the stand in whose row c is: the first -/
noncomputable def so (m : Nat → Nat → Int32) (nD : Nat) (c : Int32) : Int32 := (fun s => @ite _ (s < nD) (Nat.decLt _ _) (nI s) (-1)) (fi (fun s => inRow m s c) nD)
theorem so_y {c : Int32} {s : Nat} (hs : s < nD) (h : inRow m s c) (hno : ∀ j, j < s → ¬ inRow m j c) : so m nD c = nI s := by
  unfold so
  rw [fi_is hs h hno]
  exact if_pos hs
theorem so_n {c : Int32} (hno : ∀ j, j < nD → ¬ inRow m j c) : so m nD c = -1 := by
  unfold so
  rw [fi_none hno]
  exact if_neg (Nat.lt_irrefl nD)
set_option maxRecDepth 20000 in
set_option maxHeartbeats 2000000 in
theorem lp_standIn (hD : m 37 35 = nI nD) (hD12 : nD ≤ 12) (hq : ∀ s, s < nD → ∃ q, m 65 s = nI q ∧ q ≤ 10) (c : Int32) (s : Nat) (hs : s < nD) (hno : ∀ j, j < s → ¬ inRow m j c) (kk : ¬ inRow m s c → ∀ l3 : Option Value, hk_WP MX10_standOf 0 0 0 0 0 2 [some (.ref 37), some (.int c), some (.int (nI (s + 1))), l3] [] (hk_h L m) (fun r h' => r = some (.int (so m nD c)) ∧ h' = hk_h L m)) (k : Nat) (hk : ∀ j, j < k → ¬ m 64 (10 * s + j) = c) (hk2 : k ≤ (m 65 s).toNatClampNeg) : hk_WP MX10_standOf 0 0 0 0 0 12 [some (.ref 37), some (.int c), some (.int (nI s)), some (.int (nI k))] [] (hk_h L m) (fun r h' => r = some (.int (so m nD c)) ∧ h' = hk_h L m) := by
  obtain ⟨q, eq, hq10⟩ := hq s hs
  have eq2 : (m 65 s).toNatClampNeg = q := by rw [eq, nI_clamp (by omega)]
  rw [eq2] at hk2
  refine hk_iload_n dX10_standOf_12 rfl rfl ?_
  refine hk_aload_n dX10_standOf_13 rfl rfl ?_
  refine gfX10_91 rfl dX10_standOf_14 (hk_lt (by decide)) rfl rfl ?_
  refine hk_iload_n dX10_standOf_17 rfl rfl ?_
  refine hk_ian dX10_standOf_18 (by decide) (fun _ => rfl) rfl (by omega) (by decide) ?_
  refine hk_icmp_ge (tgt := 45) dX10_standOf_19 (by decide) (fun c19 => ?_) (fun c19 => ?_)
  · rw [eq, nI_leI (by omega) (by omega)] at c19
    refine hk_iinc (v := nI (s + 1)) dX10_standOf_45 rfl (nI_1 s) (by decide) rfl ?_
    refine hk_goto (tgt := 2) dX10_standOf_48 (by decide) ?_
    exact kk (fun ⟨j, hj, e⟩ => hk j (by omega) e) _
  · rw [eq, nI_leI (by omega) (by omega)] at c19
    refine hk_aload_n dX10_standOf_22 rfl rfl ?_
    refine gfX10_88 rfl dX10_standOf_23 (hk_lt (by decide)) rfl rfl ?_
    refine hk_bipush (v := 10) dX10_standOf_26 (by decide) ?_
    refine hk_iload_n dX10_standOf_28 rfl rfl ?_
    refine hk_imul dX10_standOf_29 ?_
    refine hk_iload_n dX10_standOf_30 rfl rfl ?_
    refine hk_iadd dX10_standOf_31 ?_
    refine hk_ian dX10_standOf_32 (by decide) (fun _ => rfl) (by rw [show (10 : Int32) = nI 10 from rfl, nI_mul, nI_add]) (by omega) (by decide) ?_
    refine hk_iload_n dX10_standOf_33 rfl rfl ?_
    refine hk_icmp_ne (tgt := 39) dX10_standOf_34 (by decide) (fun c34 => ?_) (fun c34 => ?_)
    · refine hk_iinc (v := nI (k + 1)) dX10_standOf_39 rfl (nI_1 k) (by decide) rfl ?_
      refine hk_goto (tgt := 12) dX10_standOf_42 (by decide) ?_
      have hlt : k < q := by omega
      exact lp_standIn hD hD12 hq c s hs hno kk (k + 1) (fun j hj => by rcases Nat.lt_succ_iff_lt_or_eq.mp hj with h | h; exact hk j h; rw [h]; exact c34) (by omega)
    · refine hk_iload_n dX10_standOf_37 rfl rfl ?_
      exact hk_ireturn dX10_standOf_38 rfl rfl (by decide) ⟨by rw [so_y hs ⟨k, by omega, c34⟩ hno], rfl⟩
termination_by (m 65 s).toNatClampNeg - k
decreasing_by all_goals omega
set_option maxRecDepth 20000 in
set_option maxHeartbeats 2000000 in
theorem lp_standOf (hD : m 37 35 = nI nD) (hD12 : nD ≤ 12) (hq : ∀ s, s < nD → ∃ q, m 65 s = nI q ∧ q ≤ 10) (c : Int32) (s : Nat) (hs : s ≤ nD) (hno : ∀ j, j < s → ¬ inRow m j c) (l3 : Option Value) : hk_WP MX10_standOf 0 0 0 0 0 2 [some (.ref 37), some (.int c), some (.int (nI s)), l3] [] (hk_h L m) (fun r h' => r = some (.int (so m nD c)) ∧ h' = hk_h L m) := by
  refine hk_iload_n dX10_standOf_2 rfl rfl ?_
  refine hk_aload_n dX10_standOf_3 rfl rfl ?_
  refine gfX10_204 rfl dX10_standOf_4 (hk_lt (by decide)) rfl rfl ?_
  refine hk_icmp_ge (tgt := 51) dX10_standOf_7 (by decide) (fun c7 => ?_) (fun c7 => ?_)
  · rw [hD, nI_leI (by omega) (by omega)] at c7
    refine hk_iconst (v := (-1)) dX10_standOf_51 (by decide) ?_
    exact hk_ireturn dX10_standOf_52 rfl rfl (by decide) ⟨by rw [so_n (fun j hj => hno j (by omega))], rfl⟩
  · rw [hD, nI_leI (by omega) (by omega)] at c7
    refine hk_iconst (v := 0) dX10_standOf_10 (by decide) ?_
    refine hk_istore_n dX10_standOf_11 rfl (by decide) rfl ?_
    have hlt : s < nD := by omega
    exact lp_standIn hD hD12 hq c s hlt hno (fun hn l3 => lp_standOf hD hD12 hq c (s + 1) hlt (fun j hj => by rcases Nat.lt_succ_iff_lt_or_eq.mp hj with h | h; exact hno j h; rw [h]; exact hn) l3) 0 (fun j hj => absurd hj (Nat.not_lt_zero _)) (Nat.zero_le _)
termination_by nD - s
decreasing_by all_goals omega
set_option maxRecDepth 20000 in
set_option maxHeartbeats 2000000 in
theorem md_standOf (hD : m 37 35 = nI nD) (hD12 : nD ≤ 12) (hq : ∀ s, s < nD → ∃ q, m 65 s = nI q ∧ q ≤ 10) (c : Int32) : hk_Cd MX10_standOf 0 0 0 [.ref 37, .int c] (hk_h L m) (some (.int (so m nD c))) (hk_h L m) := by
  refine hk_ofWP (by decide) (by simp [Value.category]) (Nat.le_of_ble_eq_true rfl) ?_
  show hk_WP _ _ _ _ _ _ _ [some (.ref 37), some (.int c), none, none] [] _ _
  refine hk_iconst (v := 0) dX10_standOf_0 (by decide) ?_
  refine hk_istore_n dX10_standOf_1 rfl (by decide) rfl ?_
  exact lp_standOf hD hD12 hq c 0 (Nat.zero_le _) (fun j hj => absurd hj (Nat.not_lt_zero _)) _
/-- rows and coaches: where a coach stands, by both -/
theorem so_in {nC now c : Nat} (g5 : GCo nC nK nD now (m 10) (m 51) (m 52) (m 53) (m 54) (m 55) (m 56) (m 57) (m 58) (m 14)) (g7 : GSt nC nK nD (m 14) (m 62) (m 63) (m 64) (m 65) (m 10)) (hK : nK ≤ 30) (hD : nD ≤ 12) (hc : c < nK) (h1 : m 10 (c * 8) = 1) : so m nD (nI c) = m 10 (c * 8 + 4) ∧ ∃ s, s < nD ∧ m 10 (c * 8 + 4) = nI s := by
  obtain ⟨e0, _, _, _, _, _, _, _, _, e9, _⟩ := g5.1 c hc
  obtain ⟨s, hs, es, _⟩ := e9 (e0.symm.trans h1)
  refine ⟨?_, s, hs, es⟩
  rw [es]
  obtain ⟨_, _, _, a, p, q, _, _, _, _, _, eq, hq, _, _, hin⟩ := g7.1 s hs
  obtain ⟨i, hi, ei⟩ := hin c hc h1 es
  refine so_y hs ⟨i, by rw [eq, nI_clamp (by omega)]; exact hi, ei⟩ (fun j hj hin2 => ?_)
  obtain ⟨k, hk, ek⟩ := hin2
  obtain ⟨_, _, _, a2, p2, q2, _, _, _, _, _, eq2, hq2, hr, _, _⟩ := g7.1 j (by omega)
  rw [eq2, nI_clamp (by omega)] at hk
  obtain ⟨_, c2, hc2, e3, _, e5⟩ := hr k hk
  rw [ek, nI_eq (by omega) (by omega)] at e3
  subst e3
  rw [es, nI_eq (by omega) (by omega)] at e5
  omega
theorem so_out {nC c : Nat} (g7 : GSt nC nK nD (m 14) (m 62) (m 63) (m 64) (m 65) (m 10)) (hK : nK ≤ 30) (hc : c < nK) (h1 : ¬ m 10 (c * 8) = 1) : so m nD (nI c) = -1 := by
  refine so_n (fun j hj hin2 => ?_)
  obtain ⟨k, hk, ek⟩ := hin2
  obtain ⟨_, _, _, a2, p2, q2, _, _, _, _, _, eq2, hq2, hr, _, _⟩ := g7.1 j hj
  rw [eq2, nI_clamp (by omega)] at hk
  obtain ⟨_, c2, hc2, e3, e4, _⟩ := hr k hk
  rw [ek, nI_eq (by omega) (by omega)] at e3
  subst e3
  exact h1 e4
theorem GSt.q {nC : Nat} (g7 : GSt nC nK nD (m 14) (m 62) (m 63) (m 64) (m 65) (m 10)) : ∀ s, s < nD → ∃ q, m 65 s = nI q ∧ q ≤ 10 := by
  intro s hs
  obtain ⟨_, _, _, a2, p2, q2, _, _, _, _, hp, eq2, hq2, _⟩ := g7.1 s hs
  exact ⟨q2, eq2, by omega⟩
noncomputable def abv (m : Nat → Nat → Int32) (L nT N c : Nat) (w : Int32) : Int32 := if w = 0 then m 10 (c * 8) else if w = 1 then m 10 (c * 8 + 1) else if w = 2 then m 10 (c * 8 + 2) else if w = 3 then m 10 (c * 8 + 3) else if w = 4 then m 10 (c * 8 + 4) else if w = 5 then hol m 12 N (nI c) (m 0 0 / 1440 / 360) else if w = 6 then m 10 (c * 8 + 5) else if w = 7 then nI (cn (fun t => m 24 (t * 13) = nI c) nT) else if w = 8 then nI (sN (eF m L (nI c) (m 0 0 / 1440)) nT) else -9
set_option maxRecDepth 20000 in
set_option maxHeartbeats 2000000 in
theorem ct_about (hI : Inv L z m) {c : Nat} (hc : c < z 2) (w : Int32) : hk_Ct MX9_about 5 0 0 [.ref 0, .int (nI c), .int w] (hk_h L m) (fun r h => ∃ m1, r = some (.int (abv m L (z 5) (z 12) c w)) ∧ h = hk_h L m1 ∧ SCR m m1) := by
  obtain ⟨g0, ⟨⟨a0, a1, a2, a3, a4, a5, a6, a7, a8, a9, a10, a11, a12, a13⟩, ⟨b0, b1, b2, b3, b4, b5, b6, b7, b8, b9, b10, b11, b12⟩, ⟨c0, c1, c2, c3, c4, c5, c6, c7, c8, c9, c10, c11, c12⟩⟩, g2, g3, g4, g5, g6, g7, g8, g9, g10, g11, g12, g13, g14⟩ := id hI
  refine hk_ofWP (by decide) (by simp [Value.category]) (Nat.le_of_ble_eq_true rfl) ?_
  show hk_WP _ _ _ _ _ _ _ [some (.ref 0), some (.int (nI c)), some (.int w)] [] _ _
  refine hk_aload_n dX9_about_0 rfl rfl ?_
  refine gfX9_23 rfl dX9_about_1 (hk_lt (by decide)) rfl rfl ?_
  refine gfX9_112 rfl dX9_about_4 (hk_lt (by decide)) rfl rfl ?_
  refine hk_iload_n dX9_about_7 rfl rfl ?_
  refine ivX9_71 rfl (ct_has tb9 c2 a2 _) dX9_about_8 (hk_lt (by decide)) rfl rfl rfl (by decide) ⟨by decide, by decide⟩ (Nat.le_of_ble_eq_true rfl) (hk_kd ?_)
  refine hk_if_ne (tgt := 17) dX9_about_11 (by decide) (fun _ => ?_) (fun c11 => absurd c11 (fun e => bI_0.mp e (inR_nI hc (by omega))))
  refine hk_iload_n dX9_about_17 rfl rfl ?_
  by_cases e0 : w = 0
  · subst e0
    refine hk_tableIn (tgt := 68) dX9_about_18 (by decide) (by decide) rfl (by decide) ?_
    refine hk_aload_n dX9_about_68 rfl rfl ?_
    refine gfX9_23 rfl dX9_about_69 (hk_lt (by decide)) rfl rfl ?_
    refine gfX9_112 rfl dX9_about_72 (hk_lt (by decide)) rfl rfl ?_
    refine hk_iload_n dX9_about_75 rfl rfl ?_
    refine hk_iconst (v := 0) dX9_about_76 (by decide) ?_
    refine ivX9_124 rfl (ct_geti tb9 c2 a2 rfl hc (by decide)) dX9_about_77 (hk_lt (by decide)) rfl rfl rfl (by decide) ⟨by decide, by decide⟩ (Nat.le_of_ble_eq_true rfl) (hk_kd ?_)
    exact hk_ireturn dX9_about_80 rfl rfl (by decide) ⟨m, rfl, rfl, SCR.refl⟩
  by_cases e1 : w = 1
  · subst e1
    refine hk_tableIn (tgt := 81) dX9_about_18 (by decide) (by decide) rfl (by decide) ?_
    refine hk_aload_n dX9_about_81 rfl rfl ?_
    refine gfX9_23 rfl dX9_about_82 (hk_lt (by decide)) rfl rfl ?_
    refine gfX9_112 rfl dX9_about_85 (hk_lt (by decide)) rfl rfl ?_
    refine hk_iload_n dX9_about_88 rfl rfl ?_
    refine hk_iconst (v := 1) dX9_about_89 (by decide) ?_
    refine ivX9_124 rfl (ct_geti tb9 c2 a2 rfl hc (by decide)) dX9_about_90 (hk_lt (by decide)) rfl rfl rfl (by decide) ⟨by decide, by decide⟩ (Nat.le_of_ble_eq_true rfl) (hk_kd ?_)
    exact hk_ireturn dX9_about_93 rfl rfl (by decide) ⟨m, rfl, rfl, SCR.refl⟩
  by_cases e2 : w = 2
  · subst e2
    refine hk_tableIn (tgt := 94) dX9_about_18 (by decide) (by decide) rfl (by decide) ?_
    refine hk_aload_n dX9_about_94 rfl rfl ?_
    refine gfX9_23 rfl dX9_about_95 (hk_lt (by decide)) rfl rfl ?_
    refine gfX9_112 rfl dX9_about_98 (hk_lt (by decide)) rfl rfl ?_
    refine hk_iload_n dX9_about_101 rfl rfl ?_
    refine hk_iconst (v := 2) dX9_about_102 (by decide) ?_
    refine ivX9_124 rfl (ct_geti tb9 c2 a2 rfl hc (by decide)) dX9_about_103 (hk_lt (by decide)) rfl rfl rfl (by decide) ⟨by decide, by decide⟩ (Nat.le_of_ble_eq_true rfl) (hk_kd ?_)
    exact hk_ireturn dX9_about_106 rfl rfl (by decide) ⟨m, rfl, rfl, SCR.refl⟩
  by_cases e3 : w = 3
  · subst e3
    refine hk_tableIn (tgt := 107) dX9_about_18 (by decide) (by decide) rfl (by decide) ?_
    refine hk_aload_n dX9_about_107 rfl rfl ?_
    refine gfX9_23 rfl dX9_about_108 (hk_lt (by decide)) rfl rfl ?_
    refine gfX9_112 rfl dX9_about_111 (hk_lt (by decide)) rfl rfl ?_
    refine hk_iload_n dX9_about_114 rfl rfl ?_
    refine hk_iconst (v := 3) dX9_about_115 (by decide) ?_
    refine ivX9_124 rfl (ct_geti tb9 c2 a2 rfl hc (by decide)) dX9_about_116 (hk_lt (by decide)) rfl rfl rfl (by decide) ⟨by decide, by decide⟩ (Nat.le_of_ble_eq_true rfl) (hk_kd ?_)
    exact hk_ireturn dX9_about_119 rfl rfl (by decide) ⟨m, rfl, rfl, SCR.refl⟩
  by_cases e4 : w = 4
  · subst e4
    refine hk_tableIn (tgt := 120) dX9_about_18 (by decide) (by decide) rfl (by decide) ?_
    refine hk_aload_n dX9_about_120 rfl rfl ?_
    refine gfX9_23 rfl dX9_about_121 (hk_lt (by decide)) rfl rfl ?_
    refine gfX9_112 rfl dX9_about_124 (hk_lt (by decide)) rfl rfl ?_
    refine hk_iload_n dX9_about_127 rfl rfl ?_
    refine hk_iconst (v := 4) dX9_about_128 (by decide) ?_
    refine ivX9_124 rfl (ct_geti tb9 c2 a2 rfl hc (by decide)) dX9_about_129 (hk_lt (by decide)) rfl rfl rfl (by decide) ⟨by decide, by decide⟩ (Nat.le_of_ble_eq_true rfl) (hk_kd ?_)
    exact hk_ireturn dX9_about_132 rfl rfl (by decide) ⟨m, rfl, rfl, SCR.refl⟩
  by_cases e5 : w = 5
  · subst e5
    refine hk_tableIn (tgt := 133) dX9_about_18 (by decide) (by decide) rfl (by decide) ?_
    refine hk_aload_n dX9_about_133 rfl rfl ?_
    refine gfX9_23 rfl dX9_about_134 (hk_lt (by decide)) rfl rfl ?_
    refine hk_iload_n dX9_about_137 rfl rfl ?_
    refine hk_aload_n dX9_about_138 rfl rfl ?_
    refine ivX9_160 rfl ct_thisYear dX9_about_139 (hk_lt (by decide)) rfl rfl rfl (by decide) ⟨by decide, by decide⟩ (Nat.le_of_ble_eq_true rfl) (hk_kd ?_)
    refine ivX9_115 rfl (ct_holderOf a12 c12 _ _) dX9_about_142 (hk_lt (by decide)) rfl rfl rfl (by decide) ⟨by decide, by decide⟩ (Nat.le_of_ble_eq_true rfl) (hk_kd ?_)
    exact hk_ireturn dX9_about_145 rfl rfl (by decide) ⟨m, rfl, rfl, SCR.refl⟩
  by_cases e6 : w = 6
  · subst e6
    refine hk_tableIn (tgt := 146) dX9_about_18 (by decide) (by decide) rfl (by decide) ?_
    refine hk_aload_n dX9_about_146 rfl rfl ?_
    refine gfX9_23 rfl dX9_about_147 (hk_lt (by decide)) rfl rfl ?_
    refine gfX9_112 rfl dX9_about_150 (hk_lt (by decide)) rfl rfl ?_
    refine hk_iload_n dX9_about_153 rfl rfl ?_
    refine hk_iconst (v := 5) dX9_about_154 (by decide) ?_
    refine ivX9_124 rfl (ct_geti tb9 c2 a2 rfl hc (by decide)) dX9_about_155 (hk_lt (by decide)) rfl rfl rfl (by decide) ⟨by decide, by decide⟩ (Nat.le_of_ble_eq_true rfl) (hk_kd ?_)
    exact hk_ireturn dX9_about_158 rfl rfl (by decide) ⟨m, rfl, rfl, SCR.refl⟩
  by_cases e7 : w = 7
  · subst e7
    refine hk_tableIn (tgt := 159) dX9_about_18 (by decide) (by decide) rfl (by decide) ?_
    refine hk_aload_n dX9_about_159 rfl rfl ?_
    refine gfX9_37 rfl dX9_about_160 (hk_lt (by decide)) rfl rfl ?_
    refine hk_iload_n dX9_about_163 rfl rfl ?_
    refine ivX9_163 rfl (ct_tripsOf a5 c5 _) dX9_about_164 (hk_lt (by decide)) rfl rfl rfl (by decide) ⟨by decide, by decide⟩ (Nat.le_of_ble_eq_true rfl) (hk_kd ?_)
    exact hk_ireturn dX9_about_167 rfl rfl (by decide) ⟨m, rfl, rfl, SCR.refl⟩
  by_cases e8 : w = 8
  · subst e8
    refine hk_tableIn (tgt := 168) dX9_about_18 (by decide) (by decide) rfl (by decide) ?_
    refine hk_aload_n dX9_about_168 rfl rfl ?_
    refine hk_iload_n dX9_about_169 rfl rfl ?_
    refine ivX9_166 rfl (ct_earned (Inv_li hI) _) dX9_about_170 (hk_lt (by decide)) rfl rfl rfl (by decide) ⟨by decide, by decide⟩ (Nat.le_of_ble_eq_true rfl) (fun r h1 hq => ?_)
    obtain ⟨m3, rfl, rfl, s3⟩ := hq
    exact hk_ireturn dX9_about_173 rfl rfl (by decide) ⟨m3, rfl, rfl, s3.scr⟩
  refine hk_tableOut (tgt := 174) dX9_about_18 (hk_out0_8 e0 e1 e2 e3 e4 e5 e6 e7 e8) (by decide) ?_
  refine hk_bipush (v := (-9)) dX9_about_174 (by decide) ?_
  exact hk_ireturn dX9_about_176 rfl rfl (by decide) ⟨m, by unfold abv; rw [if_neg e0, if_neg e1, if_neg e2, if_neg e3, if_neg e4, if_neg e5, if_neg e6, if_neg e7, if_neg e8], rfl, SCR.refl⟩
set_option maxRecDepth 20000 in
set_option maxHeartbeats 2000000 in
theorem ct_about_no (hI : Inv L z m) (c : Int32) (hc : ¬ inR c (z 2)) (w : Int32) : hk_Cd MX9_about 5 0 0 [.ref 0, .int c, .int w] (hk_h L m) (some (.int (-9))) (hk_h L m) := by
  obtain ⟨g0, ⟨⟨a0, a1, a2, a3, a4, a5, a6, a7, a8, a9, a10, a11, a12, a13⟩, ⟨b0, b1, b2, b3, b4, b5, b6, b7, b8, b9, b10, b11, b12⟩, ⟨c0, c1, c2, c3, c4, c5, c6, c7, c8, c9, c10, c11, c12⟩⟩, g2, g3, g4, g5, g6, g7, g8, g9, g10, g11, g12, g13, g14⟩ := id hI
  refine hk_ofWP (by decide) (by simp [Value.category]) (Nat.le_of_ble_eq_true rfl) ?_
  show hk_WP _ _ _ _ _ _ _ [some (.ref 0), some (.int c), some (.int w)] [] _ _
  refine hk_aload_n dX9_about_0 rfl rfl ?_
  refine gfX9_23 rfl dX9_about_1 (hk_lt (by decide)) rfl rfl ?_
  refine gfX9_112 rfl dX9_about_4 (hk_lt (by decide)) rfl rfl ?_
  refine hk_iload_n dX9_about_7 rfl rfl ?_
  refine ivX9_71 rfl (ct_has tb9 c2 a2 _) dX9_about_8 (hk_lt (by decide)) rfl rfl rfl (by decide) ⟨by decide, by decide⟩ (Nat.le_of_ble_eq_true rfl) (hk_kd ?_)
  refine hk_if_ne (tgt := 17) dX9_about_11 (by decide) (fun c11 => absurd (bI_0.mpr hc) c11) (fun _ => ?_)
  refine hk_bipush (v := (-9)) dX9_about_14 (by decide) ?_
  exact hk_ireturn dX9_about_16 rfl rfl (by decide) ⟨rfl, rfl⟩
/-- trips, or fares, of a coach, by the reference -/
theorem md_tripsAny (hI : Inv L z m) (c x : Int32) (hx : x = 0 ∨ x = 1) : hk_Ct MX10_tripsOf 71 0 0 [.ref 37, .int c, .int x] (hk_h L m) (fun r h => ∃ m1, r = some (.int (if x = 0 then nI (cn (fun t => m 24 (t * 13) = c) (z 5)) else nI (sN (eF m L c (m 0 0 / 1440)) (z 5)))) ∧ h = hk_h L m1 ∧ SCR m m1) := by
  have h2 := Inv_lm hI
  obtain ⟨g0, ⟨⟨a0, a1, a2, a3, a4, a5, a6, a7, a8, a9, a10, a11, a12, a13⟩, ⟨b0, b1, b2, b3, b4, b5, b6, b7, b8, b9, b10, b11, b12⟩, ⟨c0, c1, c2, c3, c4, c5, c6, c7, c8, c9, c10, c11, c12⟩⟩, g2, g3, g4, g5, g6, g7, g8, g9, g10, g11, g12, g13, g14⟩ := id hI
  rcases hx with rfl | rfl
  · refine hk_imp ?_ (md_tripsOf0 b5 c5 c)
    rintro r h ⟨q1, q2⟩
    refine ⟨m, ?_, q2, SCR.refl⟩
    rw [q1, if_pos rfl, cn_c (q := fun t => m 24 (t * 13) = c) (fun t ht => by rw [(g10 t ht).1])]
  · refine hk_imp ?_ (md_tripsOf1 h2 c)
    rintro r h ⟨m1, q1, q2, q3⟩
    refine ⟨m1, ?_, q2, q3.scr⟩
    rw [q1, if_neg (by decide), show m 37 0 = m 0 0 from b8.trans a8.symm]
set_option maxRecDepth 20000 in
set_option maxHeartbeats 2000000 in
theorem md_about (hI : Inv L z m) {c : Nat} (hc : c < z 2) (w : Int32) : hk_Ct MX10_about 72 0 0 [.ref 37, .int (nI c), .int w] (hk_h L m) (fun r h => ∃ m1, r = some (.int (abv m L (z 5) (z 12) c w)) ∧ h = hk_h L m1 ∧ SCR m m1) := by
  obtain ⟨g0, ⟨⟨a0, a1, a2, a3, a4, a5, a6, a7, a8, a9, a10, a11, a12, a13⟩, ⟨b0, b1, b2, b3, b4, b5, b6, b7, b8, b9, b10, b11, b12⟩, ⟨c0, c1, c2, c3, c4, c5, c6, c7, c8, c9, c10, c11, c12⟩⟩, g2, g3, g4, g5, g6, g7, g8, g9, g10, g11, g12, g13, g14⟩ := id hI
  have hrow := g5.1 c hc
  obtain ⟨f0, f1, f2, f3, _, _, _, f7, f8, f9, f10, f11⟩ := id hrow
  have eT : (fun t => m 24 (t * 13) = nI c) = fun t => m 24 (t * 13) = nI c := rfl
  have eN : m 37 0 = m 0 0 := b8.trans a8.symm
  refine hk_ofWP (by decide) (by simp [Value.category]) (Nat.le_of_ble_eq_true rfl) ?_
  show hk_WP _ _ _ _ _ _ _ [some (.ref 37), some (.int (nI c)), some (.int w), none] [] _ _
  refine hk_aload_n dX10_about_0 rfl rfl ?_
  refine hk_iload_n dX10_about_1 rfl rfl ?_
  refine ivX10_255 rfl (md_isCoach b2 _) dX10_about_2 (hk_lt (by decide)) rfl rfl rfl (by decide) ⟨by decide, by decide⟩ (Nat.le_of_ble_eq_true rfl) (hk_kd ?_)
  refine hk_if_ne (tgt := 11) dX10_about_5 (by decide) (fun _ => ?_) (fun c5 => absurd c5 (fun e => bI_0.mp e (inR_nI hc (by omega))))
  refine hk_aload_n dX10_about_11 rfl rfl ?_
  refine gfX10_61 rfl dX10_about_12 (hk_lt (by decide)) rfl rfl ?_
  refine hk_iload_n dX10_about_15 rfl rfl ?_
  refine hk_ian dX10_about_16 (by decide) (fun _ => rfl) rfl (by omega) (by decide) ?_
  refine hk_iconst (v := 2) dX10_about_17 (by decide) ?_
  refine hk_icmp_eq (tgt := 31) dX10_about_18 (by decide) (fun c18 => ?_) (fun c18 => ?_)
  · refine hk_iconst (v := 1) dX10_about_31 (by decide) ?_
    refine hk_goto (tgt := 36) dX10_about_32 (by decide) ?_
    refine hk_istore_n dX10_about_36 rfl (by decide) rfl ?_
    refine hk_iload_n dX10_about_37 rfl rfl ?_
    by_cases e0 : w = 0
    · subst e0
      refine hk_tableIn (tgt := 88) dX10_about_38 (by decide) (by decide) rfl (by decide) ?_
      refine hk_aload_n dX10_about_88 rfl rfl ?_
      refine gfX10_61 rfl dX10_about_89 (hk_lt (by decide)) rfl rfl ?_
      refine hk_iload_n dX10_about_92 rfl rfl ?_
      refine hk_ian dX10_about_93 (by decide) (fun _ => rfl) rfl (by omega) (by decide) ?_
      exact hk_ireturn dX10_about_94 rfl rfl (by decide) ⟨m, by rw [← f0]; rfl, rfl, SCR.refl⟩
    by_cases e1 : w = 1
    · subst e1
      refine hk_tableIn (tgt := 95) dX10_about_38 (by decide) (by decide) rfl (by decide) ?_
      refine hk_aload_n dX10_about_95 rfl rfl ?_
      refine gfX10_64 rfl dX10_about_96 (hk_lt (by decide)) rfl rfl ?_
      refine hk_iload_n dX10_about_99 rfl rfl ?_
      refine hk_ian dX10_about_100 (by decide) (fun _ => rfl) rfl (by omega) (by decide) ?_
      exact hk_ireturn dX10_about_101 rfl rfl (by decide) ⟨m, by rw [← f1]; rfl, rfl, SCR.refl⟩
    by_cases e2 : w = 2
    · subst e2
      refine hk_tableIn (tgt := 102) dX10_about_38 (by decide) (by decide) rfl (by decide) ?_
      refine hk_aload_n dX10_about_102 rfl rfl ?_
      refine gfX10_55 rfl dX10_about_103 (hk_lt (by decide)) rfl rfl ?_
      refine hk_iload_n dX10_about_106 rfl rfl ?_
      refine hk_ian dX10_about_107 (by decide) (fun _ => rfl) rfl (by omega) (by decide) ?_
      exact hk_ireturn dX10_about_108 rfl rfl (by decide) ⟨m, by rw [← f2]; rfl, rfl, SCR.refl⟩
    by_cases e3 : w = 3
    · subst e3
      refine hk_tableIn (tgt := 109) dX10_about_38 (by decide) (by decide) rfl (by decide) ?_
      refine hk_iload_n dX10_about_109 rfl rfl ?_
      refine hk_if_eq (tgt := 122) dX10_about_110 (by decide) (fun c110 => absurd c110 (by decide)) (fun _ => ?_)
      refine hk_aload_n dX10_about_113 rfl rfl ?_
      refine gfX10_67 rfl dX10_about_114 (hk_lt (by decide)) rfl rfl ?_
      refine hk_iload_n dX10_about_117 rfl rfl ?_
      refine hk_ian dX10_about_118 (by decide) (fun _ => rfl) rfl (by omega) (by decide) ?_
      refine hk_goto (tgt := 123) dX10_about_119 (by decide) ?_
      exact hk_ireturn dX10_about_123 rfl rfl (by decide) ⟨m, by first | exact congrArg (fun x => some (Value.int x)) (f7 (by first | exact Or.inl c18 | exact Or.inr c28)).1.symm | exact congrArg (fun x => some (Value.int x)) (f8 (fun q => q.elim c18 c28)).symm, rfl, SCR.refl⟩
    by_cases e4 : w = 4
    · subst e4
      refine hk_tableIn (tgt := 124) dX10_about_38 (by decide) (by decide) rfl (by decide) ?_
      refine hk_aload_n dX10_about_124 rfl rfl ?_
      refine gfX10_61 rfl dX10_about_125 (hk_lt (by decide)) rfl rfl ?_
      refine hk_iload_n dX10_about_128 rfl rfl ?_
      refine hk_ian dX10_about_129 (by decide) (fun _ => rfl) rfl (by omega) (by decide) ?_
      refine hk_iconst (v := 1) dX10_about_130 (by decide) ?_
      refine hk_icmp_ne (tgt := 142) dX10_about_131 (by decide) (fun c131 => ?_) (fun c131 => ?_)
      · refine hk_aload_n dX10_about_142 rfl rfl ?_
        refine gfX10_61 rfl dX10_about_143 (hk_lt (by decide)) rfl rfl ?_
        refine hk_iload_n dX10_about_146 rfl rfl ?_
        refine hk_ian dX10_about_147 (by decide) (fun _ => rfl) rfl (by omega) (by decide) ?_
        refine hk_iconst (v := 2) dX10_about_148 (by decide) ?_
        refine hk_icmp_ne (tgt := 161) dX10_about_149 (by decide) (fun c149 => ?_) (fun c149 => ?_)
        · refine hk_iconst (v := (-1)) dX10_about_161 (by decide) ?_
          exact hk_ireturn dX10_about_162 rfl rfl (by decide) ⟨m, by first | exact congrArg (fun x => some (Value.int x)) (so_in g5 g7 c2 c3 hc (f0.trans c131)).1 | exact congrArg (fun x => some (Value.int x)) (f10 c149).1.symm | exact congrArg (fun x => some (Value.int x)) (f11 (fun q => q.elim c131 c149)).symm, rfl, SCR.refl⟩
        · refine hk_aload_n dX10_about_152 rfl rfl ?_
          refine gfX10_70 rfl dX10_about_153 (hk_lt (by decide)) rfl rfl ?_
          refine hk_iload_n dX10_about_156 rfl rfl ?_
          refine hk_ian dX10_about_157 (by decide) (fun _ => rfl) rfl (by omega) (by decide) ?_
          refine hk_goto (tgt := 162) dX10_about_158 (by decide) ?_
          exact hk_ireturn dX10_about_162 rfl rfl (by decide) ⟨m, by first | exact congrArg (fun x => some (Value.int x)) (so_in g5 g7 c2 c3 hc (f0.trans c131)).1 | exact congrArg (fun x => some (Value.int x)) (f10 c149).1.symm | exact congrArg (fun x => some (Value.int x)) (f11 (fun q => q.elim c131 c149)).symm, rfl, SCR.refl⟩
      · refine hk_aload_n dX10_about_134 rfl rfl ?_
        refine hk_iload_n dX10_about_135 rfl rfl ?_
        refine ivX10_266 rfl (md_standOf b3 c3 (GSt.q g7) _) dX10_about_136 (hk_lt (by decide)) rfl rfl rfl (by decide) ⟨by decide, by decide⟩ (Nat.le_of_ble_eq_true rfl) (hk_kd ?_)
        refine hk_goto (tgt := 162) dX10_about_139 (by decide) ?_
        exact hk_ireturn dX10_about_162 rfl rfl (by decide) ⟨m, by first | exact congrArg (fun x => some (Value.int x)) (so_in g5 g7 c2 c3 hc (f0.trans c131)).1 | exact congrArg (fun x => some (Value.int x)) (f10 c149).1.symm | exact congrArg (fun x => some (Value.int x)) (f11 (fun q => q.elim c131 c149)).symm, rfl, SCR.refl⟩
    by_cases e5 : w = 5
    · subst e5
      refine hk_tableIn (tgt := 163) dX10_about_38 (by decide) (by decide) rfl (by decide) ?_
      refine hk_aload_n dX10_about_163 rfl rfl ?_
      refine hk_iload_n dX10_about_164 rfl rfl ?_
      refine hk_aload_n dX10_about_165 rfl rfl ?_
      refine ivX10_262 rfl md_today dX10_about_166 (hk_lt (by decide)) rfl rfl rfl (by decide) ⟨by decide, by decide⟩ (Nat.le_of_ble_eq_true rfl) (hk_kd ?_)
      refine hk_sipush (v := 360) dX10_about_169 (by decide) ?_
      refine hk_idiv dX10_about_172 (by decide) ?_
      refine ivX10_258 rfl (md_holder b12 c12 _ _) dX10_about_173 (hk_lt (by decide)) rfl rfl rfl (by decide) ⟨by decide, by decide⟩ (Nat.le_of_ble_eq_true rfl) (hk_kd ?_)
      exact hk_ireturn dX10_about_176 rfl rfl (by decide) ⟨m, by rw [eN, ← hol_c g6]; rfl, rfl, SCR.refl⟩
    by_cases e6 : w = 6
    · subst e6
      refine hk_tableIn (tgt := 177) dX10_about_38 (by decide) (by decide) rfl (by decide) ?_
      refine hk_aload_n dX10_about_177 rfl rfl ?_
      refine gfX10_58 rfl dX10_about_178 (hk_lt (by decide)) rfl rfl ?_
      refine hk_iload_n dX10_about_181 rfl rfl ?_
      refine hk_ian dX10_about_182 (by decide) (fun _ => rfl) rfl (by omega) (by decide) ?_
      exact hk_ireturn dX10_about_183 rfl rfl (by decide) ⟨m, by rw [← f3]; rfl, rfl, SCR.refl⟩
    by_cases e7 : w = 7
    · subst e7
      refine hk_tableIn (tgt := 184) dX10_about_38 (by decide) (by decide) rfl (by decide) ?_
      refine hk_aload_n dX10_about_184 rfl rfl ?_
      refine hk_iload_n dX10_about_185 rfl rfl ?_
      refine hk_iload_n dX10_about_186 rfl rfl ?_
      refine hk_bipush (v := 8) dX10_about_187 (by decide) ?_
      refine hk_icmp_ne (tgt := 196) dX10_about_189 (by decide) (fun _ => ?_) (fun c189 => absurd c189 (by decide))
      refine hk_iconst (v := 0) dX10_about_196 (by decide) ?_
      refine ivX10_283 rfl (md_tripsAny hI _ _ (by first | exact Or.inl rfl | exact Or.inr rfl)) dX10_about_197 (hk_lt (by decide)) rfl rfl rfl (by decide) ⟨by decide, by decide⟩ (Nat.le_of_ble_eq_true rfl) (fun r h1 hq => ?_)
      obtain ⟨m3, rfl, rfl, s3⟩ := hq
      exact hk_ireturn dX10_about_200 rfl rfl (by decide) ⟨m3, by first | rfl | (rw [if_neg (by decide)]; rfl) | (rw [if_pos rfl]; rfl), rfl, s3⟩
    by_cases e8 : w = 8
    · subst e8
      refine hk_tableIn (tgt := 184) dX10_about_38 (by decide) (by decide) rfl (by decide) ?_
      refine hk_aload_n dX10_about_184 rfl rfl ?_
      refine hk_iload_n dX10_about_185 rfl rfl ?_
      refine hk_iload_n dX10_about_186 rfl rfl ?_
      refine hk_bipush (v := 8) dX10_about_187 (by decide) ?_
      refine hk_icmp_ne (tgt := 196) dX10_about_189 (by decide) (fun c189 => absurd (by decide) c189) (fun _ => ?_)
      refine hk_iconst (v := 1) dX10_about_192 (by decide) ?_
      refine hk_goto (tgt := 197) dX10_about_193 (by decide) ?_
      refine ivX10_283 rfl (md_tripsAny hI _ _ (by first | exact Or.inl rfl | exact Or.inr rfl)) dX10_about_197 (hk_lt (by decide)) rfl rfl rfl (by decide) ⟨by decide, by decide⟩ (Nat.le_of_ble_eq_true rfl) (fun r h1 hq => ?_)
      obtain ⟨m3, rfl, rfl, s3⟩ := hq
      exact hk_ireturn dX10_about_200 rfl rfl (by decide) ⟨m3, by first | rfl | (rw [if_neg (by decide)]; rfl) | (rw [if_pos rfl]; rfl), rfl, s3⟩
    refine hk_tableOut (tgt := 201) dX10_about_38 (hk_out0_8 e0 e1 e2 e3 e4 e5 e6 e7 e8) (by decide) ?_
    refine hk_bipush (v := (-9)) dX10_about_201 (by decide) ?_
    exact hk_ireturn dX10_about_203 rfl rfl (by decide) ⟨m, by unfold abv; rw [if_neg e0, if_neg e1, if_neg e2, if_neg e3, if_neg e4, if_neg e5, if_neg e6, if_neg e7, if_neg e8], rfl, SCR.refl⟩
  · refine hk_aload_n dX10_about_21 rfl rfl ?_
    refine gfX10_61 rfl dX10_about_22 (hk_lt (by decide)) rfl rfl ?_
    refine hk_iload_n dX10_about_25 rfl rfl ?_
    refine hk_ian dX10_about_26 (by decide) (fun _ => rfl) rfl (by omega) (by decide) ?_
    refine hk_iconst (v := 3) dX10_about_27 (by decide) ?_
    refine hk_icmp_ne (tgt := 35) dX10_about_28 (by decide) (fun c28 => ?_) (fun c28 => ?_)
    · refine hk_iconst (v := 0) dX10_about_35 (by decide) ?_
      refine hk_istore_n dX10_about_36 rfl (by decide) rfl ?_
      refine hk_iload_n dX10_about_37 rfl rfl ?_
      by_cases e0 : w = 0
      · subst e0
        refine hk_tableIn (tgt := 88) dX10_about_38 (by decide) (by decide) rfl (by decide) ?_
        refine hk_aload_n dX10_about_88 rfl rfl ?_
        refine gfX10_61 rfl dX10_about_89 (hk_lt (by decide)) rfl rfl ?_
        refine hk_iload_n dX10_about_92 rfl rfl ?_
        refine hk_ian dX10_about_93 (by decide) (fun _ => rfl) rfl (by omega) (by decide) ?_
        exact hk_ireturn dX10_about_94 rfl rfl (by decide) ⟨m, by rw [← f0]; rfl, rfl, SCR.refl⟩
      by_cases e1 : w = 1
      · subst e1
        refine hk_tableIn (tgt := 95) dX10_about_38 (by decide) (by decide) rfl (by decide) ?_
        refine hk_aload_n dX10_about_95 rfl rfl ?_
        refine gfX10_64 rfl dX10_about_96 (hk_lt (by decide)) rfl rfl ?_
        refine hk_iload_n dX10_about_99 rfl rfl ?_
        refine hk_ian dX10_about_100 (by decide) (fun _ => rfl) rfl (by omega) (by decide) ?_
        exact hk_ireturn dX10_about_101 rfl rfl (by decide) ⟨m, by rw [← f1]; rfl, rfl, SCR.refl⟩
      by_cases e2 : w = 2
      · subst e2
        refine hk_tableIn (tgt := 102) dX10_about_38 (by decide) (by decide) rfl (by decide) ?_
        refine hk_aload_n dX10_about_102 rfl rfl ?_
        refine gfX10_55 rfl dX10_about_103 (hk_lt (by decide)) rfl rfl ?_
        refine hk_iload_n dX10_about_106 rfl rfl ?_
        refine hk_ian dX10_about_107 (by decide) (fun _ => rfl) rfl (by omega) (by decide) ?_
        exact hk_ireturn dX10_about_108 rfl rfl (by decide) ⟨m, by rw [← f2]; rfl, rfl, SCR.refl⟩
      by_cases e3 : w = 3
      · subst e3
        refine hk_tableIn (tgt := 109) dX10_about_38 (by decide) (by decide) rfl (by decide) ?_
        refine hk_iload_n dX10_about_109 rfl rfl ?_
        refine hk_if_eq (tgt := 122) dX10_about_110 (by decide) (fun _ => ?_) (fun c110 => absurd (by decide) c110)
        refine hk_iconst (v := (-1)) dX10_about_122 (by decide) ?_
        exact hk_ireturn dX10_about_123 rfl rfl (by decide) ⟨m, by first | exact congrArg (fun x => some (Value.int x)) (f7 (by first | exact Or.inl c18 | exact Or.inr c28)).1.symm | exact congrArg (fun x => some (Value.int x)) (f8 (fun q => q.elim c18 c28)).symm, rfl, SCR.refl⟩
      by_cases e4 : w = 4
      · subst e4
        refine hk_tableIn (tgt := 124) dX10_about_38 (by decide) (by decide) rfl (by decide) ?_
        refine hk_aload_n dX10_about_124 rfl rfl ?_
        refine gfX10_61 rfl dX10_about_125 (hk_lt (by decide)) rfl rfl ?_
        refine hk_iload_n dX10_about_128 rfl rfl ?_
        refine hk_ian dX10_about_129 (by decide) (fun _ => rfl) rfl (by omega) (by decide) ?_
        refine hk_iconst (v := 1) dX10_about_130 (by decide) ?_
        refine hk_icmp_ne (tgt := 142) dX10_about_131 (by decide) (fun c131 => ?_) (fun c131 => ?_)
        · refine hk_aload_n dX10_about_142 rfl rfl ?_
          refine gfX10_61 rfl dX10_about_143 (hk_lt (by decide)) rfl rfl ?_
          refine hk_iload_n dX10_about_146 rfl rfl ?_
          refine hk_ian dX10_about_147 (by decide) (fun _ => rfl) rfl (by omega) (by decide) ?_
          refine hk_iconst (v := 2) dX10_about_148 (by decide) ?_
          refine hk_icmp_ne (tgt := 161) dX10_about_149 (by decide) (fun c149 => ?_) (fun c149 => ?_)
          · refine hk_iconst (v := (-1)) dX10_about_161 (by decide) ?_
            exact hk_ireturn dX10_about_162 rfl rfl (by decide) ⟨m, by first | exact congrArg (fun x => some (Value.int x)) (so_in g5 g7 c2 c3 hc (f0.trans c131)).1 | exact congrArg (fun x => some (Value.int x)) (f10 c149).1.symm | exact congrArg (fun x => some (Value.int x)) (f11 (fun q => q.elim c131 c149)).symm, rfl, SCR.refl⟩
          · refine hk_aload_n dX10_about_152 rfl rfl ?_
            refine gfX10_70 rfl dX10_about_153 (hk_lt (by decide)) rfl rfl ?_
            refine hk_iload_n dX10_about_156 rfl rfl ?_
            refine hk_ian dX10_about_157 (by decide) (fun _ => rfl) rfl (by omega) (by decide) ?_
            refine hk_goto (tgt := 162) dX10_about_158 (by decide) ?_
            exact hk_ireturn dX10_about_162 rfl rfl (by decide) ⟨m, by first | exact congrArg (fun x => some (Value.int x)) (so_in g5 g7 c2 c3 hc (f0.trans c131)).1 | exact congrArg (fun x => some (Value.int x)) (f10 c149).1.symm | exact congrArg (fun x => some (Value.int x)) (f11 (fun q => q.elim c131 c149)).symm, rfl, SCR.refl⟩
        · refine hk_aload_n dX10_about_134 rfl rfl ?_
          refine hk_iload_n dX10_about_135 rfl rfl ?_
          refine ivX10_266 rfl (md_standOf b3 c3 (GSt.q g7) _) dX10_about_136 (hk_lt (by decide)) rfl rfl rfl (by decide) ⟨by decide, by decide⟩ (Nat.le_of_ble_eq_true rfl) (hk_kd ?_)
          refine hk_goto (tgt := 162) dX10_about_139 (by decide) ?_
          exact hk_ireturn dX10_about_162 rfl rfl (by decide) ⟨m, by first | exact congrArg (fun x => some (Value.int x)) (so_in g5 g7 c2 c3 hc (f0.trans c131)).1 | exact congrArg (fun x => some (Value.int x)) (f10 c149).1.symm | exact congrArg (fun x => some (Value.int x)) (f11 (fun q => q.elim c131 c149)).symm, rfl, SCR.refl⟩
      by_cases e5 : w = 5
      · subst e5
        refine hk_tableIn (tgt := 163) dX10_about_38 (by decide) (by decide) rfl (by decide) ?_
        refine hk_aload_n dX10_about_163 rfl rfl ?_
        refine hk_iload_n dX10_about_164 rfl rfl ?_
        refine hk_aload_n dX10_about_165 rfl rfl ?_
        refine ivX10_262 rfl md_today dX10_about_166 (hk_lt (by decide)) rfl rfl rfl (by decide) ⟨by decide, by decide⟩ (Nat.le_of_ble_eq_true rfl) (hk_kd ?_)
        refine hk_sipush (v := 360) dX10_about_169 (by decide) ?_
        refine hk_idiv dX10_about_172 (by decide) ?_
        refine ivX10_258 rfl (md_holder b12 c12 _ _) dX10_about_173 (hk_lt (by decide)) rfl rfl rfl (by decide) ⟨by decide, by decide⟩ (Nat.le_of_ble_eq_true rfl) (hk_kd ?_)
        exact hk_ireturn dX10_about_176 rfl rfl (by decide) ⟨m, by rw [eN, ← hol_c g6]; rfl, rfl, SCR.refl⟩
      by_cases e6 : w = 6
      · subst e6
        refine hk_tableIn (tgt := 177) dX10_about_38 (by decide) (by decide) rfl (by decide) ?_
        refine hk_aload_n dX10_about_177 rfl rfl ?_
        refine gfX10_58 rfl dX10_about_178 (hk_lt (by decide)) rfl rfl ?_
        refine hk_iload_n dX10_about_181 rfl rfl ?_
        refine hk_ian dX10_about_182 (by decide) (fun _ => rfl) rfl (by omega) (by decide) ?_
        exact hk_ireturn dX10_about_183 rfl rfl (by decide) ⟨m, by rw [← f3]; rfl, rfl, SCR.refl⟩
      by_cases e7 : w = 7
      · subst e7
        refine hk_tableIn (tgt := 184) dX10_about_38 (by decide) (by decide) rfl (by decide) ?_
        refine hk_aload_n dX10_about_184 rfl rfl ?_
        refine hk_iload_n dX10_about_185 rfl rfl ?_
        refine hk_iload_n dX10_about_186 rfl rfl ?_
        refine hk_bipush (v := 8) dX10_about_187 (by decide) ?_
        refine hk_icmp_ne (tgt := 196) dX10_about_189 (by decide) (fun _ => ?_) (fun c189 => absurd c189 (by decide))
        refine hk_iconst (v := 0) dX10_about_196 (by decide) ?_
        refine ivX10_283 rfl (md_tripsAny hI _ _ (by first | exact Or.inl rfl | exact Or.inr rfl)) dX10_about_197 (hk_lt (by decide)) rfl rfl rfl (by decide) ⟨by decide, by decide⟩ (Nat.le_of_ble_eq_true rfl) (fun r h1 hq => ?_)
        obtain ⟨m3, rfl, rfl, s3⟩ := hq
        exact hk_ireturn dX10_about_200 rfl rfl (by decide) ⟨m3, by first | rfl | (rw [if_neg (by decide)]; rfl) | (rw [if_pos rfl]; rfl), rfl, s3⟩
      by_cases e8 : w = 8
      · subst e8
        refine hk_tableIn (tgt := 184) dX10_about_38 (by decide) (by decide) rfl (by decide) ?_
        refine hk_aload_n dX10_about_184 rfl rfl ?_
        refine hk_iload_n dX10_about_185 rfl rfl ?_
        refine hk_iload_n dX10_about_186 rfl rfl ?_
        refine hk_bipush (v := 8) dX10_about_187 (by decide) ?_
        refine hk_icmp_ne (tgt := 196) dX10_about_189 (by decide) (fun c189 => absurd (by decide) c189) (fun _ => ?_)
        refine hk_iconst (v := 1) dX10_about_192 (by decide) ?_
        refine hk_goto (tgt := 197) dX10_about_193 (by decide) ?_
        refine ivX10_283 rfl (md_tripsAny hI _ _ (by first | exact Or.inl rfl | exact Or.inr rfl)) dX10_about_197 (hk_lt (by decide)) rfl rfl rfl (by decide) ⟨by decide, by decide⟩ (Nat.le_of_ble_eq_true rfl) (fun r h1 hq => ?_)
        obtain ⟨m3, rfl, rfl, s3⟩ := hq
        exact hk_ireturn dX10_about_200 rfl rfl (by decide) ⟨m3, by first | rfl | (rw [if_neg (by decide)]; rfl) | (rw [if_pos rfl]; rfl), rfl, s3⟩
      refine hk_tableOut (tgt := 201) dX10_about_38 (hk_out0_8 e0 e1 e2 e3 e4 e5 e6 e7 e8) (by decide) ?_
      refine hk_bipush (v := (-9)) dX10_about_201 (by decide) ?_
      exact hk_ireturn dX10_about_203 rfl rfl (by decide) ⟨m, by unfold abv; rw [if_neg e0, if_neg e1, if_neg e2, if_neg e3, if_neg e4, if_neg e5, if_neg e6, if_neg e7, if_neg e8], rfl, SCR.refl⟩
    · refine hk_iconst (v := 1) dX10_about_31 (by decide) ?_
      refine hk_goto (tgt := 36) dX10_about_32 (by decide) ?_
      refine hk_istore_n dX10_about_36 rfl (by decide) rfl ?_
      refine hk_iload_n dX10_about_37 rfl rfl ?_
      by_cases e0 : w = 0
      · subst e0
        refine hk_tableIn (tgt := 88) dX10_about_38 (by decide) (by decide) rfl (by decide) ?_
        refine hk_aload_n dX10_about_88 rfl rfl ?_
        refine gfX10_61 rfl dX10_about_89 (hk_lt (by decide)) rfl rfl ?_
        refine hk_iload_n dX10_about_92 rfl rfl ?_
        refine hk_ian dX10_about_93 (by decide) (fun _ => rfl) rfl (by omega) (by decide) ?_
        exact hk_ireturn dX10_about_94 rfl rfl (by decide) ⟨m, by rw [← f0]; rfl, rfl, SCR.refl⟩
      by_cases e1 : w = 1
      · subst e1
        refine hk_tableIn (tgt := 95) dX10_about_38 (by decide) (by decide) rfl (by decide) ?_
        refine hk_aload_n dX10_about_95 rfl rfl ?_
        refine gfX10_64 rfl dX10_about_96 (hk_lt (by decide)) rfl rfl ?_
        refine hk_iload_n dX10_about_99 rfl rfl ?_
        refine hk_ian dX10_about_100 (by decide) (fun _ => rfl) rfl (by omega) (by decide) ?_
        exact hk_ireturn dX10_about_101 rfl rfl (by decide) ⟨m, by rw [← f1]; rfl, rfl, SCR.refl⟩
      by_cases e2 : w = 2
      · subst e2
        refine hk_tableIn (tgt := 102) dX10_about_38 (by decide) (by decide) rfl (by decide) ?_
        refine hk_aload_n dX10_about_102 rfl rfl ?_
        refine gfX10_55 rfl dX10_about_103 (hk_lt (by decide)) rfl rfl ?_
        refine hk_iload_n dX10_about_106 rfl rfl ?_
        refine hk_ian dX10_about_107 (by decide) (fun _ => rfl) rfl (by omega) (by decide) ?_
        exact hk_ireturn dX10_about_108 rfl rfl (by decide) ⟨m, by rw [← f2]; rfl, rfl, SCR.refl⟩
      by_cases e3 : w = 3
      · subst e3
        refine hk_tableIn (tgt := 109) dX10_about_38 (by decide) (by decide) rfl (by decide) ?_
        refine hk_iload_n dX10_about_109 rfl rfl ?_
        refine hk_if_eq (tgt := 122) dX10_about_110 (by decide) (fun c110 => absurd c110 (by decide)) (fun _ => ?_)
        refine hk_aload_n dX10_about_113 rfl rfl ?_
        refine gfX10_67 rfl dX10_about_114 (hk_lt (by decide)) rfl rfl ?_
        refine hk_iload_n dX10_about_117 rfl rfl ?_
        refine hk_ian dX10_about_118 (by decide) (fun _ => rfl) rfl (by omega) (by decide) ?_
        refine hk_goto (tgt := 123) dX10_about_119 (by decide) ?_
        exact hk_ireturn dX10_about_123 rfl rfl (by decide) ⟨m, by first | exact congrArg (fun x => some (Value.int x)) (f7 (by first | exact Or.inl c18 | exact Or.inr c28)).1.symm | exact congrArg (fun x => some (Value.int x)) (f8 (fun q => q.elim c18 c28)).symm, rfl, SCR.refl⟩
      by_cases e4 : w = 4
      · subst e4
        refine hk_tableIn (tgt := 124) dX10_about_38 (by decide) (by decide) rfl (by decide) ?_
        refine hk_aload_n dX10_about_124 rfl rfl ?_
        refine gfX10_61 rfl dX10_about_125 (hk_lt (by decide)) rfl rfl ?_
        refine hk_iload_n dX10_about_128 rfl rfl ?_
        refine hk_ian dX10_about_129 (by decide) (fun _ => rfl) rfl (by omega) (by decide) ?_
        refine hk_iconst (v := 1) dX10_about_130 (by decide) ?_
        refine hk_icmp_ne (tgt := 142) dX10_about_131 (by decide) (fun c131 => ?_) (fun c131 => ?_)
        · refine hk_aload_n dX10_about_142 rfl rfl ?_
          refine gfX10_61 rfl dX10_about_143 (hk_lt (by decide)) rfl rfl ?_
          refine hk_iload_n dX10_about_146 rfl rfl ?_
          refine hk_ian dX10_about_147 (by decide) (fun _ => rfl) rfl (by omega) (by decide) ?_
          refine hk_iconst (v := 2) dX10_about_148 (by decide) ?_
          refine hk_icmp_ne (tgt := 161) dX10_about_149 (by decide) (fun c149 => ?_) (fun c149 => ?_)
          · refine hk_iconst (v := (-1)) dX10_about_161 (by decide) ?_
            exact hk_ireturn dX10_about_162 rfl rfl (by decide) ⟨m, by first | exact congrArg (fun x => some (Value.int x)) (so_in g5 g7 c2 c3 hc (f0.trans c131)).1 | exact congrArg (fun x => some (Value.int x)) (f10 c149).1.symm | exact congrArg (fun x => some (Value.int x)) (f11 (fun q => q.elim c131 c149)).symm, rfl, SCR.refl⟩
          · refine hk_aload_n dX10_about_152 rfl rfl ?_
            refine gfX10_70 rfl dX10_about_153 (hk_lt (by decide)) rfl rfl ?_
            refine hk_iload_n dX10_about_156 rfl rfl ?_
            refine hk_ian dX10_about_157 (by decide) (fun _ => rfl) rfl (by omega) (by decide) ?_
            refine hk_goto (tgt := 162) dX10_about_158 (by decide) ?_
            exact hk_ireturn dX10_about_162 rfl rfl (by decide) ⟨m, by first | exact congrArg (fun x => some (Value.int x)) (so_in g5 g7 c2 c3 hc (f0.trans c131)).1 | exact congrArg (fun x => some (Value.int x)) (f10 c149).1.symm | exact congrArg (fun x => some (Value.int x)) (f11 (fun q => q.elim c131 c149)).symm, rfl, SCR.refl⟩
        · refine hk_aload_n dX10_about_134 rfl rfl ?_
          refine hk_iload_n dX10_about_135 rfl rfl ?_
          refine ivX10_266 rfl (md_standOf b3 c3 (GSt.q g7) _) dX10_about_136 (hk_lt (by decide)) rfl rfl rfl (by decide) ⟨by decide, by decide⟩ (Nat.le_of_ble_eq_true rfl) (hk_kd ?_)
          refine hk_goto (tgt := 162) dX10_about_139 (by decide) ?_
          exact hk_ireturn dX10_about_162 rfl rfl (by decide) ⟨m, by first | exact congrArg (fun x => some (Value.int x)) (so_in g5 g7 c2 c3 hc (f0.trans c131)).1 | exact congrArg (fun x => some (Value.int x)) (f10 c149).1.symm | exact congrArg (fun x => some (Value.int x)) (f11 (fun q => q.elim c131 c149)).symm, rfl, SCR.refl⟩
      by_cases e5 : w = 5
      · subst e5
        refine hk_tableIn (tgt := 163) dX10_about_38 (by decide) (by decide) rfl (by decide) ?_
        refine hk_aload_n dX10_about_163 rfl rfl ?_
        refine hk_iload_n dX10_about_164 rfl rfl ?_
        refine hk_aload_n dX10_about_165 rfl rfl ?_
        refine ivX10_262 rfl md_today dX10_about_166 (hk_lt (by decide)) rfl rfl rfl (by decide) ⟨by decide, by decide⟩ (Nat.le_of_ble_eq_true rfl) (hk_kd ?_)
        refine hk_sipush (v := 360) dX10_about_169 (by decide) ?_
        refine hk_idiv dX10_about_172 (by decide) ?_
        refine ivX10_258 rfl (md_holder b12 c12 _ _) dX10_about_173 (hk_lt (by decide)) rfl rfl rfl (by decide) ⟨by decide, by decide⟩ (Nat.le_of_ble_eq_true rfl) (hk_kd ?_)
        exact hk_ireturn dX10_about_176 rfl rfl (by decide) ⟨m, by rw [eN, ← hol_c g6]; rfl, rfl, SCR.refl⟩
      by_cases e6 : w = 6
      · subst e6
        refine hk_tableIn (tgt := 177) dX10_about_38 (by decide) (by decide) rfl (by decide) ?_
        refine hk_aload_n dX10_about_177 rfl rfl ?_
        refine gfX10_58 rfl dX10_about_178 (hk_lt (by decide)) rfl rfl ?_
        refine hk_iload_n dX10_about_181 rfl rfl ?_
        refine hk_ian dX10_about_182 (by decide) (fun _ => rfl) rfl (by omega) (by decide) ?_
        exact hk_ireturn dX10_about_183 rfl rfl (by decide) ⟨m, by rw [← f3]; rfl, rfl, SCR.refl⟩
      by_cases e7 : w = 7
      · subst e7
        refine hk_tableIn (tgt := 184) dX10_about_38 (by decide) (by decide) rfl (by decide) ?_
        refine hk_aload_n dX10_about_184 rfl rfl ?_
        refine hk_iload_n dX10_about_185 rfl rfl ?_
        refine hk_iload_n dX10_about_186 rfl rfl ?_
        refine hk_bipush (v := 8) dX10_about_187 (by decide) ?_
        refine hk_icmp_ne (tgt := 196) dX10_about_189 (by decide) (fun _ => ?_) (fun c189 => absurd c189 (by decide))
        refine hk_iconst (v := 0) dX10_about_196 (by decide) ?_
        refine ivX10_283 rfl (md_tripsAny hI _ _ (by first | exact Or.inl rfl | exact Or.inr rfl)) dX10_about_197 (hk_lt (by decide)) rfl rfl rfl (by decide) ⟨by decide, by decide⟩ (Nat.le_of_ble_eq_true rfl) (fun r h1 hq => ?_)
        obtain ⟨m3, rfl, rfl, s3⟩ := hq
        exact hk_ireturn dX10_about_200 rfl rfl (by decide) ⟨m3, by first | rfl | (rw [if_neg (by decide)]; rfl) | (rw [if_pos rfl]; rfl), rfl, s3⟩
      by_cases e8 : w = 8
      · subst e8
        refine hk_tableIn (tgt := 184) dX10_about_38 (by decide) (by decide) rfl (by decide) ?_
        refine hk_aload_n dX10_about_184 rfl rfl ?_
        refine hk_iload_n dX10_about_185 rfl rfl ?_
        refine hk_iload_n dX10_about_186 rfl rfl ?_
        refine hk_bipush (v := 8) dX10_about_187 (by decide) ?_
        refine hk_icmp_ne (tgt := 196) dX10_about_189 (by decide) (fun c189 => absurd (by decide) c189) (fun _ => ?_)
        refine hk_iconst (v := 1) dX10_about_192 (by decide) ?_
        refine hk_goto (tgt := 197) dX10_about_193 (by decide) ?_
        refine ivX10_283 rfl (md_tripsAny hI _ _ (by first | exact Or.inl rfl | exact Or.inr rfl)) dX10_about_197 (hk_lt (by decide)) rfl rfl rfl (by decide) ⟨by decide, by decide⟩ (Nat.le_of_ble_eq_true rfl) (fun r h1 hq => ?_)
        obtain ⟨m3, rfl, rfl, s3⟩ := hq
        exact hk_ireturn dX10_about_200 rfl rfl (by decide) ⟨m3, by first | rfl | (rw [if_neg (by decide)]; rfl) | (rw [if_pos rfl]; rfl), rfl, s3⟩
      refine hk_tableOut (tgt := 201) dX10_about_38 (hk_out0_8 e0 e1 e2 e3 e4 e5 e6 e7 e8) (by decide) ?_
      refine hk_bipush (v := (-9)) dX10_about_201 (by decide) ?_
      exact hk_ireturn dX10_about_203 rfl rfl (by decide) ⟨m, by unfold abv; rw [if_neg e0, if_neg e1, if_neg e2, if_neg e3, if_neg e4, if_neg e5, if_neg e6, if_neg e7, if_neg e8], rfl, SCR.refl⟩
set_option maxRecDepth 20000 in
set_option maxHeartbeats 2000000 in
theorem md_about_no (hI : Inv L z m) (c : Int32) (hc : ¬ inR c (z 2)) (w : Int32) : hk_Cd MX10_about 72 0 0 [.ref 37, .int c, .int w] (hk_h L m) (some (.int (-9))) (hk_h L m) := by
  obtain ⟨g0, ⟨⟨a0, a1, a2, a3, a4, a5, a6, a7, a8, a9, a10, a11, a12, a13⟩, ⟨b0, b1, b2, b3, b4, b5, b6, b7, b8, b9, b10, b11, b12⟩, ⟨c0, c1, c2, c3, c4, c5, c6, c7, c8, c9, c10, c11, c12⟩⟩, g2, g3, g4, g5, g6, g7, g8, g9, g10, g11, g12, g13, g14⟩ := id hI
  refine hk_ofWP (by decide) (by simp [Value.category]) (Nat.le_of_ble_eq_true rfl) ?_
  show hk_WP _ _ _ _ _ _ _ [some (.ref 37), some (.int c), some (.int w), none] [] _ _
  refine hk_aload_n dX10_about_0 rfl rfl ?_
  refine hk_iload_n dX10_about_1 rfl rfl ?_
  refine ivX10_255 rfl (md_isCoach b2 _) dX10_about_2 (hk_lt (by decide)) rfl rfl rfl (by decide) ⟨by decide, by decide⟩ (Nat.le_of_ble_eq_true rfl) (hk_kd ?_)
  refine hk_if_ne (tgt := 11) dX10_about_5 (by decide) (fun c5 => absurd (bI_0.mpr hc) c5) (fun _ => ?_)
  refine hk_bipush (v := (-9)) dX10_about_8 (by decide) ?_
  exact hk_ireturn dX10_about_10 rfl rfl (by decide) ⟨rfl, rfl⟩
theorem SCR.abk (s : SCR m m1) {N c : Nat} {w : Int32} : abv m1 L nT N c w = abv m L nT N c w := by
  have e : eF m1 L (nI c) (m1 0 0 / 1440) = eF m L (nI c) (m 0 0 / 1440) := by
    unfold eF
    funext t
    rw [s.dzk, s.a (a := 73) (by decide), s.a (a := 0) (by decide)]
  unfold abv hol
  rw [e, s.a (a := 10) (by decide), s.a (a := 12) (by decide), s.a (a := 24) (by decide), s.a (a := 0) (by decide)]
theorem op_about (hI : Inv L z m) (c w : Int32) : OpE L m MX9_about MX10_about [.int c, .int w] := by
  by_cases ho : inR c (z 2)
  · obtain ⟨i, hi, rfl⟩ := inR_of ho (by have := hI.2.1.2.2.2.2.1; omega)
    refine OpE.of (d1 := 5) (d2 := 72) hI (by decide) (by decide) (ct_about hI hi w) (fun m1 hI1 s1 => ?_)
    have := md_about hI1 hi w
    rwa [s1.abk] at this
  · exact OpOK.e ⟨5, 0, 0, 72, -9, L, m, m, z, by decide, by decide, by decide, by decide, ct_about_no hI c ho w, md_about_no hI c ho w, hI⟩
end OHx
