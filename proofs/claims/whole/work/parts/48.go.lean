/-! a coach leaves its row; a coach arrives -/
section GOx
variable {L nC nK nD : Nat} {m m0 m1 m2 : Nat → Nat → Int32} {z : Nat → Nat}
/-- of a row at b, the member p left out, as far as i members have been gone over -/
def cm (f : Nat → Int32) (b p i j : Nat) : Int32 := if b + p ≤ j ∧ j + 1 < b + i then f (j + 1) else f j
def mK (m : Nat → Nat → Int32) (A b p i : Nat) : Nat → Nat → Int32 := fun a => if a = A then cm (m A) b p i else m a
def kp (p i : Nat) : Nat := if i ≤ p then i else i - 1
theorem mK_ne {A b p i a : Nat} (h : a ≠ A) : mK m A b p i a = m a := if_neg h
theorem mK_at {A b p i : Nat} : mK m A b p i A = cm (m A) b p i := if_pos rfl
theorem cm_0 {f : Nat → Int32} {b p i : Nat} (h : i ≤ p + 1) : cm f b p i = f := by
  funext j; exact if_neg (by omega)
theorem mK_0 {A b p i : Nat} (h : i ≤ p + 1) : mK m A b p i = m := by
  funext a
  by_cases e : a = A
  · subst e; rw [mK_at, cm_0 h]
  · exact if_neg e
theorem mK_r {A b p i k : Nat} (h : i ≤ k) : mK m A b p i A (b + k) = m A (b + k) := by
  rw [mK_at]; exact if_neg (by omega)
theorem mK_lo {A b p i k : Nat} (h : k < b) : mK m A b p i A k = m A k := by
  rw [mK_at]; exact if_neg (by omega)
theorem mK_s {A b p i : Nat} (h : i ≠ p) : hk_w (mK m A b p i) A (b + kp p i) (m A (b + i)) = mK m A b p (i + 1) := by
  funext a j
  by_cases e : a = A
  · subst e
    by_cases ej : j = b + kp p i
    · subst ej
      rw [hk_w_eq, mK_at]
      unfold kp cm
      by_cases hp : i ≤ p
      · rw [if_pos hp, if_neg (by omega)]
      · rw [if_neg hp, if_pos (by omega), show b + (i - 1) + 1 = b + i by omega]
    · rw [hk_w_off ej, mK_at, mK_at]
      unfold kp at ej
      unfold cm
      by_cases hp : i ≤ p
      · rw [if_neg (by omega), if_neg (by omega)]
      · rw [if_neg hp] at ej
        by_cases h1 : b + p ≤ j ∧ j + 1 < b + i
        · rw [if_pos h1, if_pos (by omega)]
        · rw [if_neg h1, if_neg (by omega)]
  · rw [hk_wo e, mK_ne e, mK_ne e]
theorem kp_s {p i : Nat} (h : i ≠ p) : kp p (i + 1) = kp p i + 1 := by
  unfold kp
  by_cases hp : i ≤ p
  · rw [if_pos hp, if_pos (by omega)]
  · rw [if_neg hp, if_neg (by omega)]; omega
theorem kp_p {p : Nat} : kp p (p + 1) = kp p p := by
  unfold kp; rw [if_neg (by omega), if_pos (Nat.le_refl _)]; rfl
theorem kp_le {p i : Nat} : kp p i ≤ i := by
  unfold kp; by_cases h : i ≤ p
  · rw [if_pos h]; omega
  · rw [if_neg h]; omega
theorem kp_q {p q : Nat} (h : p < q) : kp p q = q - 1 := if_neg (by omega)
/-- c stands at place p of the row of s, which is q long -/
def FND (m : Nat → Nat → Int32) (nD c s p q : Nat) : Prop := s < nD ∧ m 10 (c * 8) = 1 ∧ m 10 (c * 8 + 4) = nI s ∧ m 14 (s * 13 + 2) = nI q ∧ m 65 s = nI q ∧ q ≤ 10 ∧ p < q ∧ (∀ i, i < q → m 14 (s * 13 + (3 + i)) = m 64 (10 * s + i)) ∧ m 64 (10 * s + p) = nI c ∧ ∀ i, i < q → i ≠ p → m 64 (10 * s + i) ≠ nI c
def FNR (m : Nat → Nat → Int32) (nD c s p q : Nat) : Prop := s < nD ∧ m 65 s = nI q ∧ q ≤ 10 ∧ p < q ∧ m 64 (10 * s + p) = nI c ∧ ∀ i, i < q → i ≠ p → m 64 (10 * s + i) ≠ nI c
theorem FND.r {c s p q : Nat} (h : FND m nD c s p q) : FNR m nD c s p q := by
  obtain ⟨f1, f2, f3, f4, f5, f6, f7, f8, f9, f10⟩ := h
  exact ⟨f1, f5, f6, f7, f9, f10⟩
theorem FND.of {now c : Nat} (g5 : GCo nC nK nD now (m 10) (m 51) (m 52) (m 53) (m 54) (m 55) (m 56) (m 57) (m 58) (m 14)) (g7 : GSt nC nK nD (m 14) (m 62) (m 63) (m 64) (m 65) (m 10)) (hc : c < nK) (h1 : m 10 (c * 8) = 1) : ∃ s p q, FND m nD c s p q := by
  obtain ⟨e0, _, _, _, _, _, _, _, _, e9, _⟩ := g5.1 c hc
  obtain ⟨s, hs, es, _⟩ := e9 (e0.symm.trans h1)
  obtain ⟨_, _, er, a, p, q, _, _, _, _, hp, eq, hq, hrow, hne, hin⟩ := g7.1 s hs
  obtain ⟨i, hi, ei⟩ := hin c hc h1 es
  refine ⟨s, i, q, hs, h1, es, er.trans eq, eq, by omega, hi, fun j hj => (hrow j hj).1, ei, fun j hj hn => ?_⟩
  rcases Nat.lt_or_gt_of_ne hn with h | h
  · rw [← ei]; exact hne j i h hi
  · rw [← ei]; exact (hne i j h hj).symm
theorem tg_in2 {T W R i : Nat} {c : Int32} {j : Nat} (e : c = nI j) (hR : R < 2 ^ 31) (hW : W < 2 ^ 31) (hi : i < R) (hj : j < W) : tg m T W R (nI i) c = m (T + 1) (i * W + j) := by rw [e]; exact tg_in hR hW hi hj
theorem cir {s i q : Nat} (hD12 : nD ≤ 12) (hs : s < nD) (e : m 14 (s * 13 + 2) = nI q) (hq : q ≤ 10) (hi : i < q) : (if ¬ nI i < 0 ∧ ¬ tg m 13 13 nD (nI s) 2 ≤ nI i then tg m 13 13 nD (nI s) (3 + nI i) else -1) = m 14 (s * 13 + (3 + i)) := by
  rw [tg_in2 (c := 2) (j := 2) rfl (by omega) (by decide) hs (by decide), tg_in2 (c := 3 + nI i) (j := 3 + i) (nI_add 3 i) (by omega) (by decide) hs (by omega), if_pos ⟨nI_pos (by omega), by show ¬ m 14 (s * 13 + 2) ≤ nI i; rw [e, nI_leI (by omega) (by omega)]; omega⟩]
set_option maxRecDepth 20000 in
set_option maxHeartbeats 2000000 in
theorem lp_leaveRow (hD : m 13 3 = nI nD) (hD12 : nD ≤ 12) {c s p q : Nat} (hc : c < 30) (hF : FND m nD c s p q) (i : Nat) (hi : i ≤ q) (l6 : Option Value) : hk_WP MX2_leaveRow 3 0 0 0 0 31 [some (.ref 8), some (.int (nI c)), some (.int (nI s)), some (.int (nI q)), some (.int (nI (kp p i))), some (.int (nI i)), l6] [] (hk_h L (mK m 14 (s * 13 + 3) p i)) (fun r h => r = none ∧ h = hk_h L (hk_w (mK m 14 (s * 13 + 3) p q) 14 (s * 13 + 2) (nI (q - 1)))) := by
  obtain ⟨f1, f2, f3, f4, f5, f6, f7, f8, f9, f10⟩ := id hF
  have hk1 := @kp_le p i
  refine hk_iload dX2_leaveRow_31 rfl ?_
  refine hk_iload_n dX2_leaveRow_33 rfl rfl ?_
  refine hk_icmp_ge (tgt := 75) dX2_leaveRow_34 (by decide) (fun c34 => ?_) (fun c34 => ?_)
  · rw [nI_leI (by omega) (by omega)] at c34
    have hqi : i = q := by omega
    subst hqi
    rw [kp_q f7]
    refine hk_aload_n dX2_leaveRow_75 rfl rfl ?_
    refine gfX2_23 rfl dX2_leaveRow_76 (hk_lt (by decide)) rfl rfl ?_
    refine hk_iload_n dX2_leaveRow_79 rfl rfl ?_
    refine hk_iconst (v := 2) dX2_leaveRow_80 (by decide) ?_
    refine hk_iload dX2_leaveRow_81 rfl ?_
    refine ivX2_38 rfl (ct_seti (m := mK m 14 (s * 13 + 3) p i) tb13 hD12 (by rw [mK_ne (by decide)]; exact hD) rfl f1 (j := 2) (by decide) _) dX2_leaveRow_83 (hk_lt (by decide)) rfl rfl rfl (by decide) ⟨by decide, by decide⟩ (Nat.le_of_ble_eq_true rfl) (hk_kv ?_)
    exact hk_return dX2_leaveRow_86 rfl (by decide) ⟨rfl, rfl⟩
  · rw [nI_leI (by omega) (by omega)] at c34
    refine hk_aload_n dX2_leaveRow_37 rfl rfl ?_
    refine hk_iload_n dX2_leaveRow_38 rfl rfl ?_
    refine hk_iload dX2_leaveRow_39 rfl ?_
    refine ivX2_53 rfl (ct_coachInRow (m := mK m 14 (s * 13 + 3) p i) (by rw [mK_ne (by decide)]; exact hD) hD12 _ _) dX2_leaveRow_41 (hk_lt (by decide)) rfl rfl rfl (by decide) ⟨by decide, by decide⟩ (Nat.le_of_ble_eq_true rfl) (hk_kd ?_)
    rw [cir hD12 f1 (by rw [mK_lo (by omega)]; exact f4) f6 (by omega), show s * 13 + (3 + i) = s * 13 + 3 + i by omega, mK_r (Nat.le_refl _)]
    refine hk_istore dX2_leaveRow_44 (by decide) rfl ?_
    refine hk_iload dX2_leaveRow_46 rfl ?_
    refine hk_iload_n dX2_leaveRow_48 rfl rfl ?_
    refine hk_icmp_eq (tgt := 69) dX2_leaveRow_49 (by decide) (fun c49 => ?_) (fun c49 => ?_)
    · rw [show s * 13 + 3 + i = s * 13 + (3 + i) by omega, f8 i (by omega)] at c49
      refine hk_iinc (v := nI (i + 1)) dX2_leaveRow_69 rfl (nI_1 i) (by decide) rfl ?_
      refine hk_goto (tgt := 31) dX2_leaveRow_72 (by decide) ?_
      have hlt : i < q := by omega
      first
      | (have hip : i = p := Classical.byContradiction (fun hn => f10 i hlt hn c49)
         have hr := lp_leaveRow hD hD12 hc hF (i + 1) hlt (some (.int (m 14 (s * 13 + 3 + i))))
         rw [hip] at hr ⊢
         rw [kp_p, mK_0 (Nat.le_refl _)] at hr
         rw [mK_0 (Nat.le_succ _)]
         exact hr)
      | (have hip : i ≠ p := fun e => c49 (by rw [e]; exact f9)
         rw [mK_s hip, ← kp_s hip]
         exact lp_leaveRow hD hD12 hc hF (i + 1) hlt _)
    · rw [show s * 13 + 3 + i = s * 13 + (3 + i) by omega, f8 i (by omega)] at c49
      refine hk_aload_n dX2_leaveRow_52 rfl rfl ?_
      refine gfX2_23 rfl dX2_leaveRow_53 (hk_lt (by decide)) rfl rfl ?_
      refine hk_iload_n dX2_leaveRow_56 rfl rfl ?_
      refine hk_iconst (v := 3) dX2_leaveRow_57 (by decide) ?_
      refine hk_iload dX2_leaveRow_58 rfl ?_
      refine hk_iadd dX2_leaveRow_60 ?_
      rw [show (3 : Int32) + nI (kp p i) = nI (3 + kp p i) from nI_add 3 _]
      refine hk_iload dX2_leaveRow_61 rfl ?_
      refine ivX2_38 rfl (ct_seti (m := mK m 14 (s * 13 + 3) p i) tb13 hD12 (by rw [mK_ne (by decide)]; exact hD) rfl f1 (j := 3 + kp p i) (by omega) _) dX2_leaveRow_63 (hk_lt (by decide)) rfl rfl rfl (by decide) ⟨by decide, by decide⟩ (Nat.le_of_ble_eq_true rfl) (hk_kv ?_)
      rw [show s * 13 + (3 + kp p i) = s * 13 + 3 + kp p i by omega]
      refine hk_iinc (v := nI (kp p i + 1)) dX2_leaveRow_66 rfl (nI_1 (kp p i)) (by decide) rfl ?_
      refine hk_iinc (v := nI (i + 1)) dX2_leaveRow_69 rfl (nI_1 i) (by decide) rfl ?_
      refine hk_goto (tgt := 31) dX2_leaveRow_72 (by decide) ?_
      have hlt : i < q := by omega
      first
      | (have hip : i = p := Classical.byContradiction (fun hn => f10 i hlt hn c49)
         have hr := lp_leaveRow hD hD12 hc hF (i + 1) hlt (some (.int (m 14 (s * 13 + 3 + i))))
         rw [hip] at hr ⊢
         rw [kp_p, mK_0 (Nat.le_refl _)] at hr
         rw [mK_0 (Nat.le_succ _)]
         exact hr)
      | (have hip : i ≠ p := fun e => c49 (by rw [e]; exact f9)
         rw [mK_s hip, ← kp_s hip]
         exact lp_leaveRow hD hD12 hc hF (i + 1) hlt _)
termination_by q - i
decreasing_by all_goals omega
set_option maxRecDepth 20000 in
set_option maxHeartbeats 2000000 in
theorem ct_leaveRow_in (hK : m 9 3 = nI nK) (hK30 : nK ≤ 30) (hD : m 13 3 = nI nD) (hD12 : nD ≤ 12) {c s p q : Nat} (hc : c < nK) (hF : FND m nD c s p q) : hk_Cd MX2_leaveRow 3 0 0 [.ref 8, .int (nI c)] (hk_h L m) none (hk_h L (hk_w (mK m 14 (s * 13 + 3) p q) 14 (s * 13 + 2) (nI (q - 1)))) := by
  obtain ⟨f1, f2, f3, f4, f5, f6, f7, f8, f9, f10⟩ := id hF
  have hk0 : kp p 0 = 0 := if_pos (Nat.zero_le _)
  refine hk_ofWP (by decide) (by simp [Value.category]) (Nat.le_of_ble_eq_true rfl) ?_
  show hk_WP _ _ _ _ _ _ _ [some (.ref 8), some (.int (nI c)), none, none, none, none, none] [] _ _
  refine hk_aload_n dX2_leaveRow_0 rfl rfl ?_
  refine hk_iload_n dX2_leaveRow_1 rfl rfl ?_
  refine ivX2_45 rfl (ct_isStanding hK hK30 _) dX2_leaveRow_2 (hk_lt (by decide)) rfl rfl rfl (by decide) ⟨by decide, by decide⟩ (Nat.le_of_ble_eq_true rfl) (hk_kd ?_)
  refine hk_if_ne (tgt := 9) dX2_leaveRow_5 (by decide) (fun c5 => ?_) (fun c5 => ?_)
  · rw [bI_0, tg_in2 (c := 0) (j := 0) rfl (by omega) (by decide) hc (by decide)] at c5
    refine hk_aload_n dX2_leaveRow_9 rfl rfl ?_
    refine gfX2_16 rfl dX2_leaveRow_10 (hk_lt (by decide)) rfl rfl ?_
    refine hk_iload_n dX2_leaveRow_13 rfl rfl ?_
    refine hk_iconst (v := 4) dX2_leaveRow_14 (by decide) ?_
    refine ivX2_30 rfl (ct_geti tb9 hK30 hK rfl hc (j := 4) (by decide)) dX2_leaveRow_15 (hk_lt (by decide)) rfl rfl rfl (by decide) ⟨by decide, by decide⟩ (Nat.le_of_ble_eq_true rfl) (hk_kd ?_)
    rw [f3]
    refine hk_istore_n dX2_leaveRow_18 rfl (by decide) rfl ?_
    refine hk_aload_n dX2_leaveRow_19 rfl rfl ?_
    refine hk_iload_n dX2_leaveRow_20 rfl rfl ?_
    refine ivX2_49 rfl (ct_rowLength hD hD12 _) dX2_leaveRow_21 (hk_lt (by decide)) rfl rfl rfl (by decide) ⟨by decide, by decide⟩ (Nat.le_of_ble_eq_true rfl) (hk_kd ?_)
    rw [tg_in2 (c := 2) (j := 2) rfl (by omega) (by decide) f1 (by decide)]
    rw [f4]
    refine hk_istore_n dX2_leaveRow_24 rfl (by decide) rfl ?_
    refine hk_iconst (v := 0) dX2_leaveRow_25 (by decide) ?_
    refine hk_istore dX2_leaveRow_26 (by decide) rfl ?_
    refine hk_iconst (v := 0) dX2_leaveRow_28 (by decide) ?_
    refine hk_istore dX2_leaveRow_29 (by decide) rfl ?_
    have hr := lp_leaveRow (L := L) hD hD12 (by omega) hF 0 (Nat.zero_le _) none
    rw [hk0, mK_0 (Nat.zero_le _)] at hr
    exact hr
  · rw [bI_0, tg_in2 (c := 0) (j := 0) rfl (by omega) (by decide) hc (by decide)] at c5
    exact absurd f2 c5
set_option maxRecDepth 20000 in
set_option maxHeartbeats 2000000 in
theorem ct_leaveRow_no (hK : m 9 3 = nI nK) (hK30 : nK ≤ 30) {c : Nat} (hc : c < nK) (h1 : ¬ m 10 (c * 8) = 1) : hk_Cd MX2_leaveRow 3 0 0 [.ref 8, .int (nI c)] (hk_h L m) none (hk_h L m) := by
  refine hk_ofWP (by decide) (by simp [Value.category]) (Nat.le_of_ble_eq_true rfl) ?_
  show hk_WP _ _ _ _ _ _ _ [some (.ref 8), some (.int (nI c)), none, none, none, none, none] [] _ _
  refine hk_aload_n dX2_leaveRow_0 rfl rfl ?_
  refine hk_iload_n dX2_leaveRow_1 rfl rfl ?_
  refine ivX2_45 rfl (ct_isStanding hK hK30 _) dX2_leaveRow_2 (hk_lt (by decide)) rfl rfl rfl (by decide) ⟨by decide, by decide⟩ (Nat.le_of_ble_eq_true rfl) (hk_kd ?_)
  refine hk_if_ne (tgt := 9) dX2_leaveRow_5 (by decide) (fun c5 => ?_) (fun c5 => ?_)
  · rw [bI_0, tg_in2 (c := 0) (j := 0) rfl (by omega) (by decide) hc (by decide)] at c5
    exact absurd h1 c5
  · rw [bI_0, tg_in2 (c := 0) (j := 0) rfl (by omega) (by decide) hc (by decide)] at c5
    exact hk_return dX2_leaveRow_8 rfl (by decide) ⟨rfl, rfl⟩
set_option maxRecDepth 20000 in
set_option maxHeartbeats 2000000 in
theorem lp_leaveRow2 (hD12 : nD ≤ 12) {c s p q : Nat} (hc : c < 30) (hF : FNR m nD c s p q) (i : Nat) (hi : i ≤ q) : hk_WP MX10_leaveRow 1 0 0 0 0 15 [some (.ref 37), some (.int (nI c)), some (.int (nI s)), some (.int (nI (kp p i))), some (.int (nI i))] [] (hk_h L (mK m 64 (10 * s) p i)) (fun r h => r = none ∧ h = hk_h L (hk_w (mK m 64 (10 * s) p q) 65 s (nI (q - 1)))) := by
  obtain ⟨f1, f5, f6, f7, f9, f10⟩ := id hF
  have hk1 := @kp_le p i
  have e65 : mK m 64 (10 * s) p i 65 s = nI q := by rw [mK_ne (by decide)]; exact f5
  refine hk_iload dX10_leaveRow_15 rfl ?_
  refine hk_aload_n dX10_leaveRow_17 rfl rfl ?_
  refine gfX10_91 rfl dX10_leaveRow_18 (hk_lt (by decide)) rfl rfl ?_
  refine hk_iload_n dX10_leaveRow_21 rfl rfl ?_
  refine hk_ian dX10_leaveRow_22 (by decide) (fun _ => rfl) rfl (by omega) (by decide) ?_
  refine hk_icmp_ge (tgt := 74) dX10_leaveRow_23 (by decide) (fun c23 => ?_) (fun c23 => ?_)
  · rw [e65, nI_leI (by omega) (by omega)] at c23
    have hqi : i = q := by omega
    subst hqi
    rw [kp_q f7]
    refine hk_aload_n dX10_leaveRow_74 rfl rfl ?_
    refine gfX10_91 rfl dX10_leaveRow_75 (hk_lt (by decide)) rfl rfl ?_
    refine hk_iload_n dX10_leaveRow_78 rfl rfl ?_
    refine hk_iload_n dX10_leaveRow_79 rfl rfl ?_
    refine hk_isn dX10_leaveRow_80 (by decide) (fun _ => rfl) rfl (by omega) (by decide) ?_
    exact hk_return dX10_leaveRow_81 rfl (by decide) ⟨rfl, rfl⟩
  · rw [e65, nI_leI (by omega) (by omega)] at c23
    refine hk_aload_n dX10_leaveRow_26 rfl rfl ?_
    refine gfX10_88 rfl dX10_leaveRow_27 (hk_lt (by decide)) rfl rfl ?_
    refine hk_bipush (v := 10) dX10_leaveRow_30 (by decide) ?_
    refine hk_iload_n dX10_leaveRow_32 rfl rfl ?_
    refine hk_imul dX10_leaveRow_33 ?_
    refine hk_iload dX10_leaveRow_34 rfl ?_
    refine hk_iadd dX10_leaveRow_36 ?_
    refine hk_ian dX10_leaveRow_37 (by decide) (fun _ => rfl) (by rw [show (10 : Int32) = nI 10 from rfl, nI_mul, nI_add]) (by omega) (by decide) ?_
    rw [mK_r (Nat.le_refl _)]
    refine hk_iload_n dX10_leaveRow_38 rfl rfl ?_
    refine hk_icmp_eq (tgt := 68) dX10_leaveRow_39 (by decide) (fun c39 => ?_) (fun c39 => ?_)
    · refine hk_iinc (v := nI (i + 1)) dX10_leaveRow_68 rfl (nI_1 i) (by decide) rfl ?_
      refine hk_goto (tgt := 15) dX10_leaveRow_71 (by decide) ?_
      have hlt : i < q := by omega
      have hr := lp_leaveRow2 hD12 hc hF (i + 1) hlt
      by_cases hip : i = p
      · rw [hip] at hr ⊢
        rw [kp_p, mK_0 (Nat.le_refl _)] at hr
        first
        | exact absurd (by rw [hip]; exact f9) c39
        | (rw [mK_0 (Nat.le_succ _)]
           exact hr)
      · first
        | exact absurd c39 (f10 i hlt hip)
        | (rw [mK_s hip, ← kp_s hip]
           exact hr)
    · refine hk_aload_n dX10_leaveRow_42 rfl rfl ?_
      refine gfX10_88 rfl dX10_leaveRow_43 (hk_lt (by decide)) rfl rfl ?_
      refine hk_bipush (v := 10) dX10_leaveRow_46 (by decide) ?_
      refine hk_iload_n dX10_leaveRow_48 rfl rfl ?_
      refine hk_imul dX10_leaveRow_49 ?_
      refine hk_iload_n dX10_leaveRow_50 rfl rfl ?_
      refine hk_iadd dX10_leaveRow_51 ?_
      refine hk_aload_n dX10_leaveRow_52 rfl rfl ?_
      refine gfX10_88 rfl dX10_leaveRow_53 (hk_lt (by decide)) rfl rfl ?_
      refine hk_bipush (v := 10) dX10_leaveRow_56 (by decide) ?_
      refine hk_iload_n dX10_leaveRow_58 rfl rfl ?_
      refine hk_imul dX10_leaveRow_59 ?_
      refine hk_iload dX10_leaveRow_60 rfl ?_
      refine hk_iadd dX10_leaveRow_62 ?_
      refine hk_ian dX10_leaveRow_63 (by decide) (fun _ => rfl) (by rw [show (10 : Int32) = nI 10 from rfl, nI_mul, nI_add]) (by omega) (by decide) ?_
      rw [mK_r (Nat.le_refl _)]
      refine hk_isn dX10_leaveRow_64 (by decide) (fun _ => rfl) (by rw [show (10 : Int32) = nI 10 from rfl, nI_mul, nI_add]) (by omega) (by decide) ?_
      refine hk_iinc (v := nI (kp p i + 1)) dX10_leaveRow_65 rfl (nI_1 (kp p i)) (by decide) rfl ?_
      refine hk_iinc (v := nI (i + 1)) dX10_leaveRow_68 rfl (nI_1 i) (by decide) rfl ?_
      refine hk_goto (tgt := 15) dX10_leaveRow_71 (by decide) ?_
      have hlt : i < q := by omega
      have hr := lp_leaveRow2 hD12 hc hF (i + 1) hlt
      by_cases hip : i = p
      · rw [hip] at hr ⊢
        rw [kp_p, mK_0 (Nat.le_refl _)] at hr
        first
        | exact absurd (by rw [hip]; exact f9) c39
        | (rw [mK_0 (Nat.le_succ _)]
           exact hr)
      · first
        | exact absurd c39 (f10 i hlt hip)
        | (rw [mK_s hip, ← kp_s hip]
           exact hr)
termination_by q - i
decreasing_by all_goals omega
set_option maxRecDepth 20000 in
set_option maxHeartbeats 2000000 in
theorem md_leaveRow_in (hD : m 37 35 = nI nD) (hD12 : nD ≤ 12) (hq : ∀ s, s < nD → ∃ q, m 65 s = nI q ∧ q ≤ 10) {c s p q : Nat} (hc : c < 30) (hF : FNR m nD c s p q) (hs : so m nD (nI c) = nI s) : hk_Cd MX10_leaveRow 1 0 0 [.ref 37, .int (nI c)] (hk_h L m) none (hk_h L (hk_w (mK m 64 (10 * s) p q) 65 s (nI (q - 1)))) := by
  obtain ⟨f1, f5, f6, f7, f9, f10⟩ := id hF
  have hk0 : kp p 0 = 0 := if_pos (Nat.zero_le _)
  refine hk_ofWP (by decide) (by simp [Value.category]) (Nat.le_of_ble_eq_true rfl) ?_
  show hk_WP _ _ _ _ _ _ _ [some (.ref 37), some (.int (nI c)), none, none, none] [] _ _
  refine hk_aload_n dX10_leaveRow_0 rfl rfl ?_
  refine hk_iload_n dX10_leaveRow_1 rfl rfl ?_
  refine ivX10_266 rfl (md_standOf hD hD12 hq _) dX10_leaveRow_2 (hk_lt (by decide)) rfl rfl rfl (by decide) ⟨by decide, by decide⟩ (Nat.le_of_ble_eq_true rfl) (hk_kd ?_)
  rw [hs]
  refine hk_istore_n dX10_leaveRow_5 rfl (by decide) rfl ?_
  refine hk_iload_n dX10_leaveRow_6 rfl rfl ?_
  refine hk_if_lt (tgt := 81) dX10_leaveRow_7 (by decide) (fun c7 => absurd c7 (nI_pos (by omega))) (fun _ => ?_)
  refine hk_iconst (v := 0) dX10_leaveRow_10 (by decide) ?_
  refine hk_istore_n dX10_leaveRow_11 rfl (by decide) rfl ?_
  refine hk_iconst (v := 0) dX10_leaveRow_12 (by decide) ?_
  refine hk_istore dX10_leaveRow_13 (by decide) rfl ?_
  have hr := lp_leaveRow2 (L := L) hD12 hc hF 0 (Nat.zero_le _)
  rw [hk0, mK_0 (Nat.zero_le _)] at hr
  exact hr
set_option maxRecDepth 20000 in
set_option maxHeartbeats 2000000 in
theorem md_leaveRow_no (hD : m 37 35 = nI nD) (hD12 : nD ≤ 12) (hq : ∀ s, s < nD → ∃ q, m 65 s = nI q ∧ q ≤ 10) {c : Nat} (hs : so m nD (nI c) = -1) : hk_Cd MX10_leaveRow 1 0 0 [.ref 37, .int (nI c)] (hk_h L m) none (hk_h L m) := by
  refine hk_ofWP (by decide) (by simp [Value.category]) (Nat.le_of_ble_eq_true rfl) ?_
  show hk_WP _ _ _ _ _ _ _ [some (.ref 37), some (.int (nI c)), none, none, none] [] _ _
  refine hk_aload_n dX10_leaveRow_0 rfl rfl ?_
  refine hk_iload_n dX10_leaveRow_1 rfl rfl ?_
  refine ivX10_266 rfl (md_standOf hD hD12 hq _) dX10_leaveRow_2 (hk_lt (by decide)) rfl rfl rfl (by decide) ⟨by decide, by decide⟩ (Nat.le_of_ble_eq_true rfl) (hk_kd ?_)
  rw [hs]
  refine hk_istore_n dX10_leaveRow_5 rfl (by decide) rfl ?_
  refine hk_iload_n dX10_leaveRow_6 rfl rfl ?_
  refine hk_if_lt (tgt := 81) dX10_leaveRow_7 (by decide) (fun _ => ?_) (fun c7 => absurd (by decide) c7)
  exact hk_return dX10_leaveRow_81 rfl (by decide) ⟨rfl, rfl⟩
/-- a coach's row settled -/
def stl (m : Nat → Nat → Int32) (c : Nat) (d s : Int32) : Nat → Nat → Int32 := hk_w (hk_w (hk_w m 10 (c * 8 + 0) d) 10 (c * 8 + 4) s) 10 (c * 8 + 3) (-1)
def rin (m : Nat → Nat → Int32) (A b k B e : Nat) (c : Int32) (q : Nat) : Nat → Nat → Int32 := hk_w (hk_w m A (b + k) c) B e (nI (q + 1))
set_option maxRecDepth 20000 in
set_option maxHeartbeats 2000000 in
theorem ct_arrive_3 (hK : m 9 3 = nI nK) (hK30 : nK ≤ 30) (hD : m 13 3 = nI nD) (hD12 : nD ≤ 12) {c : Nat} (hc : c < nK) (h3 : m 10 (c * 8 + 0) = 3) : hk_Cd MX2_arrive 4 0 0 [.ref 8, .int (nI c)] (hk_h L m) none (hk_h L (stl m c 4 (-1))) := by
  refine hk_ofWP (by decide) (by simp [Value.category]) (Nat.le_of_ble_eq_true rfl) ?_
  show hk_WP _ _ _ _ _ _ _ [some (.ref 8), some (.int (nI c)), none, none] [] _ _
  refine hk_aload_n dX2_arrive_0 rfl rfl ?_
  refine gfX2_16 rfl dX2_arrive_1 (hk_lt (by decide)) rfl rfl ?_
  refine hk_iload_n dX2_arrive_4 rfl rfl ?_
  refine hk_iconst (v := 4) dX2_arrive_5 (by decide) ?_
  refine ivX2_30 rfl (ct_geti tb9 hK30 hK rfl hc (j := 4) (by decide)) dX2_arrive_6 (hk_lt (by decide)) rfl rfl rfl (by decide) ⟨by decide, by decide⟩ (Nat.le_of_ble_eq_true rfl) (hk_kd ?_)
  refine hk_istore_n dX2_arrive_9 rfl (by decide) rfl ?_
  refine hk_aload_n dX2_arrive_10 rfl rfl ?_
  refine hk_iload_n dX2_arrive_11 rfl rfl ?_
  refine ivX2_49 rfl (ct_rowLength hD hD12 _) dX2_arrive_12 (hk_lt (by decide)) rfl rfl rfl (by decide) ⟨by decide, by decide⟩ (Nat.le_of_ble_eq_true rfl) (hk_kd ?_)
  refine hk_istore_n dX2_arrive_15 rfl (by decide) rfl ?_
  refine hk_aload_n dX2_arrive_16 rfl rfl ?_
  refine gfX2_16 rfl dX2_arrive_17 (hk_lt (by decide)) rfl rfl ?_
  refine hk_iload_n dX2_arrive_20 rfl rfl ?_
  refine hk_iconst (v := 0) dX2_arrive_21 (by decide) ?_
  refine ivX2_30 rfl (ct_geti tb9 hK30 hK rfl hc (j := 0) (by decide)) dX2_arrive_22 (hk_lt (by decide)) rfl rfl rfl (by decide) ⟨by decide, by decide⟩ (Nat.le_of_ble_eq_true rfl) (hk_kd ?_)
  refine hk_iconst (v := 3) dX2_arrive_25 (by decide) ?_
  refine hk_icmp_ne (tgt := 39) dX2_arrive_26 (by decide) (fun c26 => ?_) (fun c26 => ?_)
  · exact absurd h3 c26
  · refine hk_aload_n dX2_arrive_29 rfl rfl ?_
    refine hk_iload_n dX2_arrive_30 rfl rfl ?_
    refine hk_iconst (v := 4) dX2_arrive_31 (by decide) ?_
    refine hk_iconst (v := (-1)) dX2_arrive_32 (by decide) ?_
    refine ivX2_42 rfl (ct_settle hK hK30 hc _ _) dX2_arrive_33 (hk_lt (by decide)) rfl rfl rfl (by decide) ⟨by decide, by decide⟩ (Nat.le_of_ble_eq_true rfl) (hk_kv ?_)
    refine hk_goto (tgt := 107) dX2_arrive_36 (by decide) ?_
    exact hk_return dX2_arrive_107 rfl (by decide) ⟨rfl, rfl⟩
set_option maxRecDepth 20000 in
set_option maxHeartbeats 2000000 in
theorem ct_arrive_0 (hK : m 9 3 = nI nK) (hK30 : nK ≤ 30) (hD : m 13 3 = nI nD) (hD12 : nD ≤ 12) {c : Nat} (hc : c < nK) (h3 : ¬ m 10 (c * 8 + 0) = 3) (h4 : m 10 (c * 8 + 4) < 0) : hk_Cd MX2_arrive 4 0 0 [.ref 8, .int (nI c)] (hk_h L m) none (hk_h L (stl m c 0 (-1))) := by
  refine hk_ofWP (by decide) (by simp [Value.category]) (Nat.le_of_ble_eq_true rfl) ?_
  show hk_WP _ _ _ _ _ _ _ [some (.ref 8), some (.int (nI c)), none, none] [] _ _
  refine hk_aload_n dX2_arrive_0 rfl rfl ?_
  refine gfX2_16 rfl dX2_arrive_1 (hk_lt (by decide)) rfl rfl ?_
  refine hk_iload_n dX2_arrive_4 rfl rfl ?_
  refine hk_iconst (v := 4) dX2_arrive_5 (by decide) ?_
  refine ivX2_30 rfl (ct_geti tb9 hK30 hK rfl hc (j := 4) (by decide)) dX2_arrive_6 (hk_lt (by decide)) rfl rfl rfl (by decide) ⟨by decide, by decide⟩ (Nat.le_of_ble_eq_true rfl) (hk_kd ?_)
  refine hk_istore_n dX2_arrive_9 rfl (by decide) rfl ?_
  refine hk_aload_n dX2_arrive_10 rfl rfl ?_
  refine hk_iload_n dX2_arrive_11 rfl rfl ?_
  refine ivX2_49 rfl (ct_rowLength hD hD12 _) dX2_arrive_12 (hk_lt (by decide)) rfl rfl rfl (by decide) ⟨by decide, by decide⟩ (Nat.le_of_ble_eq_true rfl) (hk_kd ?_)
  refine hk_istore_n dX2_arrive_15 rfl (by decide) rfl ?_
  refine hk_aload_n dX2_arrive_16 rfl rfl ?_
  refine gfX2_16 rfl dX2_arrive_17 (hk_lt (by decide)) rfl rfl ?_
  refine hk_iload_n dX2_arrive_20 rfl rfl ?_
  refine hk_iconst (v := 0) dX2_arrive_21 (by decide) ?_
  refine ivX2_30 rfl (ct_geti tb9 hK30 hK rfl hc (j := 0) (by decide)) dX2_arrive_22 (hk_lt (by decide)) rfl rfl rfl (by decide) ⟨by decide, by decide⟩ (Nat.le_of_ble_eq_true rfl) (hk_kd ?_)
  refine hk_iconst (v := 3) dX2_arrive_25 (by decide) ?_
  refine hk_icmp_ne (tgt := 39) dX2_arrive_26 (by decide) (fun c26 => ?_) (fun c26 => ?_)
  · refine hk_iload_n dX2_arrive_39 rfl rfl ?_
    refine hk_if_ge (tgt := 53) dX2_arrive_40 (by decide) (fun c40 => ?_) (fun c40 => ?_)
    · exact absurd h4 (Int32.not_lt.mpr c40)
    · refine hk_aload_n dX2_arrive_43 rfl rfl ?_
      refine hk_iload_n dX2_arrive_44 rfl rfl ?_
      refine hk_iconst (v := 0) dX2_arrive_45 (by decide) ?_
      refine hk_iconst (v := (-1)) dX2_arrive_46 (by decide) ?_
      refine ivX2_42 rfl (ct_settle hK hK30 hc _ _) dX2_arrive_47 (hk_lt (by decide)) rfl rfl rfl (by decide) ⟨by decide, by decide⟩ (Nat.le_of_ble_eq_true rfl) (hk_kv ?_)
      refine hk_goto (tgt := 107) dX2_arrive_50 (by decide) ?_
      exact hk_return dX2_arrive_107 rfl (by decide) ⟨rfl, rfl⟩
  · exact absurd c26 h3
set_option maxRecDepth 20000 in
set_option maxHeartbeats 2000000 in
theorem ct_arrive_4 (hK : m 9 3 = nI nK) (hK30 : nK ≤ 30) (hD : m 13 3 = nI nD) (hD12 : nD ≤ 12) {c : Nat} (hc : c < nK) (h3 : ¬ m 10 (c * 8 + 0) = 3) {s p q : Nat} (hs : s < nD) (h4 : m 10 (c * 8 + 4) = nI s) (hp : m 14 (s * 13 + 1) = nI p) (hq : m 14 (s * 13 + 2) = nI q) (hp10 : p ≤ 10) (hqp : q = p) : hk_Cd MX2_arrive 4 0 0 [.ref 8, .int (nI c)] (hk_h L m) none (hk_h L (stl m c 4 (-1))) := by
  refine hk_ofWP (by decide) (by simp [Value.category]) (Nat.le_of_ble_eq_true rfl) ?_
  show hk_WP _ _ _ _ _ _ _ [some (.ref 8), some (.int (nI c)), none, none] [] _ _
  refine hk_aload_n dX2_arrive_0 rfl rfl ?_
  refine gfX2_16 rfl dX2_arrive_1 (hk_lt (by decide)) rfl rfl ?_
  refine hk_iload_n dX2_arrive_4 rfl rfl ?_
  refine hk_iconst (v := 4) dX2_arrive_5 (by decide) ?_
  refine ivX2_30 rfl (ct_geti tb9 hK30 hK rfl hc (j := 4) (by decide)) dX2_arrive_6 (hk_lt (by decide)) rfl rfl rfl (by decide) ⟨by decide, by decide⟩ (Nat.le_of_ble_eq_true rfl) (hk_kd ?_)
  rw [h4]
  refine hk_istore_n dX2_arrive_9 rfl (by decide) rfl ?_
  refine hk_aload_n dX2_arrive_10 rfl rfl ?_
  refine hk_iload_n dX2_arrive_11 rfl rfl ?_
  refine ivX2_49 rfl (ct_rowLength hD hD12 _) dX2_arrive_12 (hk_lt (by decide)) rfl rfl rfl (by decide) ⟨by decide, by decide⟩ (Nat.le_of_ble_eq_true rfl) (hk_kd ?_)
  rw [tg_in2 (c := 2) (j := 2) rfl (by omega) (by decide) hs (by decide)]
  rw [hq]
  refine hk_istore_n dX2_arrive_15 rfl (by decide) rfl ?_
  refine hk_aload_n dX2_arrive_16 rfl rfl ?_
  refine gfX2_16 rfl dX2_arrive_17 (hk_lt (by decide)) rfl rfl ?_
  refine hk_iload_n dX2_arrive_20 rfl rfl ?_
  refine hk_iconst (v := 0) dX2_arrive_21 (by decide) ?_
  refine ivX2_30 rfl (ct_geti tb9 hK30 hK rfl hc (j := 0) (by decide)) dX2_arrive_22 (hk_lt (by decide)) rfl rfl rfl (by decide) ⟨by decide, by decide⟩ (Nat.le_of_ble_eq_true rfl) (hk_kd ?_)
  refine hk_iconst (v := 3) dX2_arrive_25 (by decide) ?_
  refine hk_icmp_ne (tgt := 39) dX2_arrive_26 (by decide) (fun c26 => ?_) (fun c26 => ?_)
  · refine hk_iload_n dX2_arrive_39 rfl rfl ?_
    refine hk_if_ge (tgt := 53) dX2_arrive_40 (by decide) (fun _ => ?_) (fun c40 => absurd (Int32.not_lt.mp (nI_pos (by omega))) c40)
    refine hk_iload_n dX2_arrive_53 rfl rfl ?_
    refine hk_aload_n dX2_arrive_54 rfl rfl ?_
    refine gfX2_23 rfl dX2_arrive_55 (hk_lt (by decide)) rfl rfl ?_
    refine hk_iload_n dX2_arrive_58 rfl rfl ?_
    refine hk_iconst (v := 1) dX2_arrive_59 (by decide) ?_
    refine ivX2_30 rfl (ct_geti tb13 hD12 hD rfl hs (j := 1) (by decide)) dX2_arrive_60 (hk_lt (by decide)) rfl rfl rfl (by decide) ⟨by decide, by decide⟩ (Nat.le_of_ble_eq_true rfl) (hk_kd ?_)
    rw [hp]
    refine hk_icmp_lt (tgt := 76) dX2_arrive_63 (by decide) (fun c63 => ?_) (fun c63 => ?_)
    · rw [nI_ltI (by omega) (by omega)] at c63
      exact absurd c63 (by omega)
    · rw [nI_ltI (by omega) (by omega)] at c63
      refine hk_aload_n dX2_arrive_66 rfl rfl ?_
      refine hk_iload_n dX2_arrive_67 rfl rfl ?_
      refine hk_iconst (v := 4) dX2_arrive_68 (by decide) ?_
      refine hk_iconst (v := (-1)) dX2_arrive_69 (by decide) ?_
      refine ivX2_42 rfl (ct_settle hK hK30 hc _ _) dX2_arrive_70 (hk_lt (by decide)) rfl rfl rfl (by decide) ⟨by decide, by decide⟩ (Nat.le_of_ble_eq_true rfl) (hk_kv ?_)
      refine hk_goto (tgt := 107) dX2_arrive_73 (by decide) ?_
      exact hk_return dX2_arrive_107 rfl (by decide) ⟨rfl, rfl⟩
  · exact absurd c26 h3
set_option maxRecDepth 20000 in
set_option maxHeartbeats 2000000 in
theorem ct_arrive_1 (hK : m 9 3 = nI nK) (hK30 : nK ≤ 30) (hD : m 13 3 = nI nD) (hD12 : nD ≤ 12) {c : Nat} (hc : c < nK) (h3 : ¬ m 10 (c * 8 + 0) = 3) {s p q : Nat} (hs : s < nD) (h4 : m 10 (c * 8 + 4) = nI s) (hp : m 14 (s * 13 + 1) = nI p) (hq : m 14 (s * 13 + 2) = nI q) (hp10 : p ≤ 10) (hqp : q < p) : hk_Cd MX2_arrive 4 0 0 [.ref 8, .int (nI c)] (hk_h L m) none (hk_h L (stl (rin m 14 (s * 13) (3 + q) 14 (s * 13 + 2) (nI c) q) c 1 (nI s))) := by
  refine hk_ofWP (by decide) (by simp [Value.category]) (Nat.le_of_ble_eq_true rfl) ?_
  show hk_WP _ _ _ _ _ _ _ [some (.ref 8), some (.int (nI c)), none, none] [] _ _
  refine hk_aload_n dX2_arrive_0 rfl rfl ?_
  refine gfX2_16 rfl dX2_arrive_1 (hk_lt (by decide)) rfl rfl ?_
  refine hk_iload_n dX2_arrive_4 rfl rfl ?_
  refine hk_iconst (v := 4) dX2_arrive_5 (by decide) ?_
  refine ivX2_30 rfl (ct_geti tb9 hK30 hK rfl hc (j := 4) (by decide)) dX2_arrive_6 (hk_lt (by decide)) rfl rfl rfl (by decide) ⟨by decide, by decide⟩ (Nat.le_of_ble_eq_true rfl) (hk_kd ?_)
  rw [h4]
  refine hk_istore_n dX2_arrive_9 rfl (by decide) rfl ?_
  refine hk_aload_n dX2_arrive_10 rfl rfl ?_
  refine hk_iload_n dX2_arrive_11 rfl rfl ?_
  refine ivX2_49 rfl (ct_rowLength hD hD12 _) dX2_arrive_12 (hk_lt (by decide)) rfl rfl rfl (by decide) ⟨by decide, by decide⟩ (Nat.le_of_ble_eq_true rfl) (hk_kd ?_)
  rw [tg_in2 (c := 2) (j := 2) rfl (by omega) (by decide) hs (by decide)]
  rw [hq]
  refine hk_istore_n dX2_arrive_15 rfl (by decide) rfl ?_
  refine hk_aload_n dX2_arrive_16 rfl rfl ?_
  refine gfX2_16 rfl dX2_arrive_17 (hk_lt (by decide)) rfl rfl ?_
  refine hk_iload_n dX2_arrive_20 rfl rfl ?_
  refine hk_iconst (v := 0) dX2_arrive_21 (by decide) ?_
  refine ivX2_30 rfl (ct_geti tb9 hK30 hK rfl hc (j := 0) (by decide)) dX2_arrive_22 (hk_lt (by decide)) rfl rfl rfl (by decide) ⟨by decide, by decide⟩ (Nat.le_of_ble_eq_true rfl) (hk_kd ?_)
  refine hk_iconst (v := 3) dX2_arrive_25 (by decide) ?_
  refine hk_icmp_ne (tgt := 39) dX2_arrive_26 (by decide) (fun c26 => ?_) (fun c26 => ?_)
  · refine hk_iload_n dX2_arrive_39 rfl rfl ?_
    refine hk_if_ge (tgt := 53) dX2_arrive_40 (by decide) (fun _ => ?_) (fun c40 => absurd (Int32.not_lt.mp (nI_pos (by omega))) c40)
    refine hk_iload_n dX2_arrive_53 rfl rfl ?_
    refine hk_aload_n dX2_arrive_54 rfl rfl ?_
    refine gfX2_23 rfl dX2_arrive_55 (hk_lt (by decide)) rfl rfl ?_
    refine hk_iload_n dX2_arrive_58 rfl rfl ?_
    refine hk_iconst (v := 1) dX2_arrive_59 (by decide) ?_
    refine ivX2_30 rfl (ct_geti tb13 hD12 hD rfl hs (j := 1) (by decide)) dX2_arrive_60 (hk_lt (by decide)) rfl rfl rfl (by decide) ⟨by decide, by decide⟩ (Nat.le_of_ble_eq_true rfl) (hk_kd ?_)
    rw [hp]
    refine hk_icmp_lt (tgt := 76) dX2_arrive_63 (by decide) (fun c63 => ?_) (fun c63 => ?_)
    · rw [nI_ltI (by omega) (by omega)] at c63
      refine hk_aload_n dX2_arrive_76 rfl rfl ?_
      refine gfX2_23 rfl dX2_arrive_77 (hk_lt (by decide)) rfl rfl ?_
      refine hk_iload_n dX2_arrive_80 rfl rfl ?_
      refine hk_iconst (v := 3) dX2_arrive_81 (by decide) ?_
      refine hk_iload_n dX2_arrive_82 rfl rfl ?_
      refine hk_iadd dX2_arrive_83 ?_
      rw [show (3 : Int32) + nI q = nI (3 + q) from nI_add 3 _]
      refine hk_iload_n dX2_arrive_84 rfl rfl ?_
      refine ivX2_38 rfl (ct_seti (m := m) tb13 hD12 (by simp [hk_w, hD]) rfl hs (j := 3 + q) (by omega) _) dX2_arrive_85 (hk_lt (by decide)) rfl rfl rfl (by decide) ⟨by decide, by decide⟩ (Nat.le_of_ble_eq_true rfl) (hk_kv ?_)
      refine hk_aload_n dX2_arrive_88 rfl rfl ?_
      refine gfX2_23 rfl dX2_arrive_89 (hk_lt (by decide)) rfl rfl ?_
      refine hk_iload_n dX2_arrive_92 rfl rfl ?_
      refine hk_iconst (v := 2) dX2_arrive_93 (by decide) ?_
      refine hk_iload_n dX2_arrive_94 rfl rfl ?_
      refine hk_iconst (v := 1) dX2_arrive_95 (by decide) ?_
      refine hk_iadd dX2_arrive_96 ?_
      rw [nI_1]
      refine ivX2_38 rfl (ct_seti (m := hk_w m 14 (s * 13 + (3 + q)) (nI c)) tb13 hD12 (by simp [hk_w, hD]) rfl hs (j := 2) (by omega) _) dX2_arrive_97 (hk_lt (by decide)) rfl rfl rfl (by decide) ⟨by decide, by decide⟩ (Nat.le_of_ble_eq_true rfl) (hk_kv ?_)
      refine hk_aload_n dX2_arrive_100 rfl rfl ?_
      refine hk_iload_n dX2_arrive_101 rfl rfl ?_
      refine hk_iconst (v := 1) dX2_arrive_102 (by decide) ?_
      refine hk_iload_n dX2_arrive_103 rfl rfl ?_
      refine ivX2_42 rfl (ct_settle (m := rin m 14 (s * 13) (3 + q) 14 (s * 13 + 2) (nI c) q) (by simp [rin, hk_w, hK]) hK30 hc _ _) dX2_arrive_104 (hk_lt (by decide)) rfl rfl rfl (by decide) ⟨by decide, by decide⟩ (Nat.le_of_ble_eq_true rfl) (hk_kv ?_)
      exact hk_return dX2_arrive_107 rfl (by decide) ⟨rfl, rfl⟩
    · rw [nI_ltI (by omega) (by omega)] at c63
      exact absurd hqp c63
  · exact absurd c26 h3
set_option maxRecDepth 20000 in
set_option maxHeartbeats 2000000 in
theorem md_arrive_0 {c : Nat} (hc : c < 30) (h4 : m 58 c < 0) : hk_Cd MX10_arrive 0 0 0 [.ref 37, .int (nI c)] (hk_h L m) none (hk_h L (hk_w m 55 c 0)) := by
  refine hk_ofWP (by decide) (by simp [Value.category]) (Nat.le_of_ble_eq_true rfl) ?_
  show hk_WP _ _ _ _ _ _ _ [some (.ref 37), some (.int (nI c)), none] [] _ _
  refine hk_aload_n dX10_arrive_0 rfl rfl ?_
  refine gfX10_70 rfl dX10_arrive_1 (hk_lt (by decide)) rfl rfl ?_
  refine hk_iload_n dX10_arrive_4 rfl rfl ?_
  refine hk_ian dX10_arrive_5 (by decide) (fun _ => rfl) rfl (by omega) (by decide) ?_
  refine hk_istore_n dX10_arrive_6 rfl (by decide) rfl ?_
  refine hk_iload_n dX10_arrive_7 rfl rfl ?_
  refine hk_if_ge (tgt := 19) dX10_arrive_8 (by decide) (fun c8 => ?_) (fun c8 => ?_)
  · exact absurd h4 (Int32.not_lt.mpr c8)
  · refine hk_aload_n dX10_arrive_11 rfl rfl ?_
    refine gfX10_61 rfl dX10_arrive_12 (hk_lt (by decide)) rfl rfl ?_
    refine hk_iload_n dX10_arrive_15 rfl rfl ?_
    refine hk_iconst (v := 0) dX10_arrive_16 (by decide) ?_
    refine hk_isn dX10_arrive_17 (by decide) (fun _ => rfl) rfl (by omega) (by decide) ?_
    exact hk_return dX10_arrive_18 rfl (by decide) ⟨rfl, rfl⟩
set_option maxRecDepth 20000 in
set_option maxHeartbeats 2000000 in
theorem md_arrive_4 {c : Nat} (hc : c < 30) {s p q : Nat} (hs : s < 12) (h4 : m 58 c = nI s) (hp : m 63 s = nI p) (hq : m 65 s = nI q) (hp10 : p ≤ 10) (hqp : q = p) : hk_Cd MX10_arrive 0 0 0 [.ref 37, .int (nI c)] (hk_h L m) none (hk_h L (hk_w m 55 c 4)) := by
  refine hk_ofWP (by decide) (by simp [Value.category]) (Nat.le_of_ble_eq_true rfl) ?_
  show hk_WP _ _ _ _ _ _ _ [some (.ref 37), some (.int (nI c)), none] [] _ _
  refine hk_aload_n dX10_arrive_0 rfl rfl ?_
  refine gfX10_70 rfl dX10_arrive_1 (hk_lt (by decide)) rfl rfl ?_
  refine hk_iload_n dX10_arrive_4 rfl rfl ?_
  refine hk_ian dX10_arrive_5 (by decide) (fun _ => rfl) rfl (by omega) (by decide) ?_
  rw [h4]
  refine hk_istore_n dX10_arrive_6 rfl (by decide) rfl ?_
  refine hk_iload_n dX10_arrive_7 rfl rfl ?_
  refine hk_if_ge (tgt := 19) dX10_arrive_8 (by decide) (fun _ => ?_) (fun c8 => absurd (Int32.not_lt.mp (nI_pos (by omega))) c8)
  refine hk_aload_n dX10_arrive_19 rfl rfl ?_
  refine gfX10_91 rfl dX10_arrive_20 (hk_lt (by decide)) rfl rfl ?_
  refine hk_iload_n dX10_arrive_23 rfl rfl ?_
  refine hk_ian dX10_arrive_24 (by decide) (fun _ => rfl) rfl (by omega) (by decide) ?_
  rw [hq]
  refine hk_aload_n dX10_arrive_25 rfl rfl ?_
  refine gfX10_85 rfl dX10_arrive_26 (hk_lt (by decide)) rfl rfl ?_
  refine hk_iload_n dX10_arrive_29 rfl rfl ?_
  refine hk_ian dX10_arrive_30 (by decide) (fun _ => rfl) rfl (by omega) (by decide) ?_
  rw [hp]
  refine hk_icmp_ne (tgt := 44) dX10_arrive_31 (by decide) (fun c31 => ?_) (fun c31 => ?_)
  · rw [nI_eq (by omega) (by omega)] at c31
    exact absurd hqp c31
  · rw [nI_eq (by omega) (by omega)] at c31
    refine hk_aload_n dX10_arrive_34 rfl rfl ?_
    refine gfX10_61 rfl dX10_arrive_35 (hk_lt (by decide)) rfl rfl ?_
    refine hk_iload_n dX10_arrive_38 rfl rfl ?_
    refine hk_iconst (v := 4) dX10_arrive_39 (by decide) ?_
    refine hk_isn dX10_arrive_40 (by decide) (fun _ => rfl) rfl (by omega) (by decide) ?_
    refine hk_goto (tgt := 78) dX10_arrive_41 (by decide) ?_
    exact hk_return dX10_arrive_78 rfl (by decide) ⟨rfl, rfl⟩
set_option maxRecDepth 20000 in
set_option maxHeartbeats 2000000 in
theorem md_arrive_1 {c : Nat} (hc : c < 30) {s p q : Nat} (hs : s < 12) (h4 : m 58 c = nI s) (hp : m 63 s = nI p) (hq : m 65 s = nI q) (hp10 : p ≤ 10) (hqp : q < p) : hk_Cd MX10_arrive 0 0 0 [.ref 37, .int (nI c)] (hk_h L m) none (hk_h L (rin (hk_w m 55 c 1) 64 (10 * s) q 65 s (nI c) q)) := by
  refine hk_ofWP (by decide) (by simp [Value.category]) (Nat.le_of_ble_eq_true rfl) ?_
  show hk_WP _ _ _ _ _ _ _ [some (.ref 37), some (.int (nI c)), none] [] _ _
  refine hk_aload_n dX10_arrive_0 rfl rfl ?_
  refine gfX10_70 rfl dX10_arrive_1 (hk_lt (by decide)) rfl rfl ?_
  refine hk_iload_n dX10_arrive_4 rfl rfl ?_
  refine hk_ian dX10_arrive_5 (by decide) (fun _ => rfl) rfl (by omega) (by decide) ?_
  rw [h4]
  refine hk_istore_n dX10_arrive_6 rfl (by decide) rfl ?_
  refine hk_iload_n dX10_arrive_7 rfl rfl ?_
  refine hk_if_ge (tgt := 19) dX10_arrive_8 (by decide) (fun _ => ?_) (fun c8 => absurd (Int32.not_lt.mp (nI_pos (by omega))) c8)
  refine hk_aload_n dX10_arrive_19 rfl rfl ?_
  refine gfX10_91 rfl dX10_arrive_20 (hk_lt (by decide)) rfl rfl ?_
  refine hk_iload_n dX10_arrive_23 rfl rfl ?_
  refine hk_ian dX10_arrive_24 (by decide) (fun _ => rfl) rfl (by omega) (by decide) ?_
  rw [hq]
  refine hk_aload_n dX10_arrive_25 rfl rfl ?_
  refine gfX10_85 rfl dX10_arrive_26 (hk_lt (by decide)) rfl rfl ?_
  refine hk_iload_n dX10_arrive_29 rfl rfl ?_
  refine hk_ian dX10_arrive_30 (by decide) (fun _ => rfl) rfl (by omega) (by decide) ?_
  rw [hp]
  refine hk_icmp_ne (tgt := 44) dX10_arrive_31 (by decide) (fun c31 => ?_) (fun c31 => ?_)
  · rw [nI_eq (by omega) (by omega)] at c31
    refine hk_aload_n dX10_arrive_44 rfl rfl ?_
    refine gfX10_61 rfl dX10_arrive_45 (hk_lt (by decide)) rfl rfl ?_
    refine hk_iload_n dX10_arrive_48 rfl rfl ?_
    refine hk_iconst (v := 1) dX10_arrive_49 (by decide) ?_
    refine hk_isn dX10_arrive_50 (by decide) (fun _ => rfl) rfl (by omega) (by decide) ?_
    refine hk_aload_n dX10_arrive_51 rfl rfl ?_
    refine gfX10_88 rfl dX10_arrive_52 (hk_lt (by decide)) rfl rfl ?_
    refine hk_bipush (v := 10) dX10_arrive_55 (by decide) ?_
    refine hk_iload_n dX10_arrive_57 rfl rfl ?_
    refine hk_imul dX10_arrive_58 ?_
    refine hk_aload_n dX10_arrive_59 rfl rfl ?_
    refine gfX10_91 rfl dX10_arrive_60 (hk_lt (by decide)) rfl rfl ?_
    refine hk_iload_n dX10_arrive_63 rfl rfl ?_
    refine hk_ian dX10_arrive_64 (by decide) (fun _ => rfl) rfl (by omega) (by decide) ?_
    rw [show hk_w m 55 c 1 65 s = nI q by rw [hk_wo (by decide)]; exact hq]
    refine hk_iadd dX10_arrive_65 ?_
    refine hk_iload_n dX10_arrive_66 rfl rfl ?_
    refine hk_isn dX10_arrive_67 (by decide) (fun _ => rfl) (by rw [show (10 : Int32) = nI 10 from rfl, nI_mul, nI_add]) (by omega) (by decide) ?_
    refine hk_aload_n dX10_arrive_68 rfl rfl ?_
    refine gfX10_91 rfl dX10_arrive_69 (hk_lt (by decide)) rfl rfl ?_
    refine hk_iload_n dX10_arrive_72 rfl rfl ?_
    refine hk_dup2 dX10_arrive_73 rfl rfl ?_
    refine hk_ian dX10_arrive_74 (by decide) (fun _ => rfl) rfl (by omega) (by decide) ?_
    rw [show hk_w (hk_w m 55 c 1) 64 (10 * s + q) (nI c) 65 s = nI q by rw [hk_wo (by decide), hk_wo (by decide)]; exact hq]
    refine hk_iconst (v := 1) dX10_arrive_75 (by decide) ?_
    refine hk_iadd dX10_arrive_76 ?_
    rw [nI_1]
    refine hk_isn dX10_arrive_77 (by decide) (fun _ => rfl) rfl (by omega) (by decide) ?_
    exact hk_return dX10_arrive_78 rfl (by decide) ⟨rfl, rfl⟩
  · rw [nI_eq (by omega) (by omega)] at c31
    exact absurd c31 (by omega)
end GOx
