/-! sums of fares; complaints judged; laws tried -/
section OFx
variable {L nT nP : Nat} {m m0 m1 m2 : Nat → Nat → Int32} {z : Nat → Nat}
def sN (f : Nat → Nat) : Nat → Nat
  | 0 => 0
  | n + 1 => sN f n + f n
theorem nnI (v : Int32) : nI v.toNatClampNeg = if v < 0 then 0 else v := by
  have h1 := Int32.toInt_lt v
  have e : v.toNatClampNeg = v.toInt.toNat := rfl
  apply Int32.toInt_inj.mp
  rw [e, nI_toInt (by omega)]
  by_cases h : v < 0
  · rw [if_pos h]
    rw [i32_lt, i32_0] at h
    rw [i32_0]; omega
  · rw [if_neg h]
    rw [i32_lt, i32_0] at h
    omega
theorem nnI2 (v : Int32) : (if 0 < v then v else 0) = nI v.toNatClampNeg := by
  rw [nnI]
  by_cases h : v < 0
  · rw [if_pos h, if_neg (fun z => by rw [i32_lt] at h z; omega)]
  · rw [if_neg h]
    by_cases h2 : 0 < v
    · rw [if_pos h2]
    · rw [if_neg h2]
      rw [i32_lt, i32_0] at h h2
      exact (Int32.toInt_inj.mp (by rw [i32_0]; omega)).symm
noncomputable def dz (m : Nat → Nat → Int32) (L t : Nat) (w : Int32) : Nat := (dv m L t w).toNatClampNeg
theorem dc_z {t : Nat} {w : Int32} : (if 0 < dc m L t w then dc m L t w else 0) = nI (dz m L t w) := by
  unfold dz
  by_cases h : dc m L t w < 0
  · rw [(dc_n h).1, if_neg (fun z => by rw [i32_lt] at h z; omega)]; rfl
  · rw [dc_y h]; exact nnI2 _
theorem CF.dck (s : CF m m1) {t : Nat} {w : Int32} : dc m1 L t w = dc m L t w := by unfold dc; rw [s.dxk, s.dxk]
theorem CF.dzk (s : CF m m1) {t : Nat} {w : Int32} : dz m1 L t w = dz m L t w := by unfold dz dv; rw [s.dxk, s.dxk]
theorem SF.dvk (s : SF m m1) {t : Nat} {w : Int32} : dv m1 L t w = dv m L t w := by unfold dv; rw [s.dxk, s.dxk]
theorem SCR.dzk (s : SCR m m1) {t : Nat} {w : Int32} : dz m1 L t w = dz m L t w := by unfold dz dv; rw [s.dxk, s.dxk]
/-- fares of a coach's trips, as known on day w -/
noncomputable def eF (m : Nat → Nat → Int32) (L : Nat) (c w : Int32) : Nat → Nat := fun t => cI (m 73 t = c) (dz m L t w) 0
theorem eF_y {c w : Int32} {i : Nat} (h : m 73 i = c) : nI (sN (eF m L c w) i) + nI (dz m L i w) = nI (sN (eF m L c w) (i + 1)) := by
  rw [nI_add]
  show _ = nI (sN (eF m L c w) i + eF m L c w i)
  rw [show eF m L c w i = dz m L i w from cI_t h]
theorem eF_n {c w : Int32} {i : Nat} (h : ¬ m 73 i = c) : nI (sN (eF m L c w) i) = nI (sN (eF m L c w) (i + 1)) := by
  show _ = nI (sN (eF m L c w) i + eF m L c w i)
  rw [show eF m L c w i = 0 from cI_f h]; rfl
set_option maxRecDepth 20000 in
set_option maxHeartbeats 2000000 in
theorem lp_earned (hi : LI m L nT) (c : Int32) (i : Nat) (hi2 : i ≤ nT) (m1 : Nat → Nat → Int32) (s : CF m m1) : hk_WP MX9_earned 4 0 0 0 0 4 [some (.ref 0), some (.int c), some (.int (nI (sN (eF m L c (m 0 0 / 1440)) i))), some (.int (nI i))] [] (hk_h L m1) (fun r h => ∃ m2, r = some (.int (nI (sN (eF m L c (m 0 0 / 1440)) nT))) ∧ h = hk_h L m2 ∧ CF m m2) := by
  have hl := hi.k s
  obtain ⟨h1, h2, h3, h4, h5, h6⟩ := hl
  have e0 : m1 0 = m 0 := s 0 (by decide) (by decide)
  refine hk_iload_n dX9_earned_4 rfl rfl ?_
  refine hk_aload_n dX9_earned_5 rfl rfl ?_
  refine gfX9_37 rfl dX9_earned_6 (hk_lt (by decide)) rfl rfl ?_
  refine gfX9_215 rfl dX9_earned_9 (hk_lt (by decide)) rfl rfl ?_
  refine gfX9_136 rfl dX9_earned_12 (hk_lt (by decide)) rfl rfl ?_
  refine hk_icmp_ge (tgt := 56) dX9_earned_15 (by decide) (fun c15 => ?_) (fun c15 => ?_)
  · rw [h4, nI_leI (by omega) (by omega)] at c15
    refine hk_iload_n dX9_earned_56 rfl rfl ?_
    exact hk_ireturn dX9_earned_57 rfl rfl (by decide) ⟨m1, by rw [show i = nT by omega], rfl, s⟩
  · rw [h4, nI_leI (by omega) (by omega)] at c15
    have hlt : i < nT := by omega
    have g0 := (hi.2.2.2.2.2 i hlt).1
    refine hk_aload_n dX9_earned_18 rfl rfl ?_
    refine gfX9_37 rfl dX9_earned_19 (hk_lt (by decide)) rfl rfl ?_
    refine gfX9_215 rfl dX9_earned_22 (hk_lt (by decide)) rfl rfl ?_
    refine hk_iload_n dX9_earned_25 rfl rfl ?_
    refine hk_iconst (v := 0) dX9_earned_26 (by decide) ?_
    refine ivX9_124 rfl (ct_geti tb23 h5 h4 rfl (by omega) (by decide)) dX9_earned_27 (hk_lt (by decide)) rfl rfl rfl (by decide) ⟨by decide, by decide⟩ (Nat.le_of_ble_eq_true rfl) (hk_kd ?_)
    refine hk_iload_n dX9_earned_30 rfl rfl ?_
    refine hk_icmp_ne (tgt := 50) dX9_earned_31 (by decide) (fun c31 => ?_) (fun c31 => ?_)
    · refine hk_iinc (v := nI (i + 1)) dX9_earned_50 rfl (nI_1 i) (by decide) rfl ?_
      refine hk_goto (tgt := 4) dX9_earned_53 (by decide) ?_
      first
      | (rw [eF_y (by rw [← g0, ← s 24 (by decide) (by decide)]; exact Classical.not_not.mp c31)]; exact lp_earned hi c (i + 1) (by omega) _ (s.t s3))
      | (rw [eF_y (by rw [← g0, ← s 24 (by decide) (by decide)]; exact c31)]; exact lp_earned hi c (i + 1) (by omega) _ (s.t s3))
      | (rw [eF_n (by rw [← g0, ← s 24 (by decide) (by decide)]; exact c31)]; exact lp_earned hi c (i + 1) (by omega) _ s)
    · refine hk_iload_n dX9_earned_34 rfl rfl ?_
      refine hk_iconst (v := 0) dX9_earned_35 (by decide) ?_
      refine hk_aload_n dX9_earned_36 rfl rfl ?_
      refine hk_iload_n dX9_earned_37 rfl rfl ?_
      refine hk_aload_n dX9_earned_38 rfl rfl ?_
      refine ivX9_121 rfl ct_today dX9_earned_39 (hk_lt (by decide)) rfl rfl rfl (by decide) ⟨by decide, by decide⟩ (Nat.le_of_ble_eq_true rfl) (hk_kd ?_)
      refine ivX9_249 rfl (ct_due1 (hi.k s) (show i < nT by omega) _) dX9_earned_42 (hk_lt (by decide)) rfl rfl rfl (by decide) ⟨by decide, by decide⟩ (Nat.le_of_ble_eq_true rfl) (fun r h1 hq => ?_)
      obtain ⟨m3, rfl, rfl, s3⟩ := hq
      rw [s.dck, e0]
      refine hk_mmax ⟨hk_t 515 (by decide +kernel) rfl, hk_t 503 (by decide +kernel) rfl, hk_t 11 (by decide +kernel) rfl, hk_t 504 (by decide +kernel) rfl⟩ dX9_earned_45 (by decide) (Nat.le_of_ble_eq_true rfl) ⟨by decide, by decide⟩ ?_
      rw [dc_z]
      refine hk_iadd dX9_earned_48 ?_
      refine hk_istore_n dX9_earned_49 rfl (by decide) rfl ?_
      refine hk_iinc (v := nI (i + 1)) dX9_earned_50 rfl (nI_1 i) (by decide) rfl ?_
      refine hk_goto (tgt := 4) dX9_earned_53 (by decide) ?_
      first
      | (rw [eF_y (by rw [← g0, ← s 24 (by decide) (by decide)]; exact Classical.not_not.mp c31)]; exact lp_earned hi c (i + 1) (by omega) _ (s.t s3))
      | (rw [eF_y (by rw [← g0, ← s 24 (by decide) (by decide)]; exact c31)]; exact lp_earned hi c (i + 1) (by omega) _ (s.t s3))
      | (rw [eF_n (by rw [← g0, ← s 24 (by decide) (by decide)]; exact c31)]; exact lp_earned hi c (i + 1) (by omega) _ s)
termination_by nT - i
decreasing_by all_goals omega
set_option maxRecDepth 20000 in
set_option maxHeartbeats 2000000 in
theorem ct_earned (hi : LI m L nT) (c : Int32) : hk_Ct MX9_earned 4 0 0 [.ref 0, .int c] (hk_h L m) (fun r h => ∃ m2, r = some (.int (nI (sN (eF m L c (m 0 0 / 1440)) nT))) ∧ h = hk_h L m2 ∧ CF m m2) := by
  refine hk_ofWP (by decide) (by simp [Value.category]) (Nat.le_of_ble_eq_true rfl) ?_
  show hk_WP _ _ _ _ _ _ _ [some (.ref 0), some (.int c), none, none] [] _ _
  refine hk_iconst (v := 0) dX9_earned_0 (by decide) ?_
  refine hk_istore_n dX9_earned_1 rfl (by decide) rfl ?_
  refine hk_iconst (v := 0) dX9_earned_2 (by decide) ?_
  refine hk_istore_n dX9_earned_3 rfl (by decide) rfl ?_
  exact lp_earned hi c 0 (Nat.zero_le _) m CF.refl
set_option maxRecDepth 20000 in
set_option maxHeartbeats 2000000 in
theorem lp_tripsOf1 (hi : LM m L nT) (c : Int32) (i : Nat) (hi2 : i ≤ nT) (m1 : Nat → Nat → Int32) (s : SF m m1) (l5 : Option Value) : hk_WP MX10_tripsOf 71 0 0 0 0 5 [some (.ref 37), some (.int c), some (.int 1), some (.int (nI (sN (eF m L c (m 37 0 / 1440)) i))), some (.int (nI i)), l5] [] (hk_h L m1) (fun r h => ∃ m2, r = some (.int (nI (sN (eF m L c (m 37 0 / 1440)) nT))) ∧ h = hk_h L m2 ∧ SF m m2) := by
  have hl := hi.k s
  obtain ⟨h1, h2, h3, h4, h5, h6⟩ := hl
  have e0 : m1 37 0 = m 37 0 := s.2 0 (by decide) (by decide) (by decide) (by decide) (by decide)
  refine hk_iload dX10_tripsOf_5 rfl ?_
  refine hk_aload_n dX10_tripsOf_7 rfl rfl ?_
  refine gfX10_287 rfl dX10_tripsOf_8 (hk_lt (by decide)) rfl rfl ?_
  refine hk_icmp_ge (tgt := 65) dX10_tripsOf_11 (by decide) (fun c11 => ?_) (fun c11 => ?_)
  · rw [h4, nI_leI (by omega) (by omega)] at c11
    refine hk_iload_n dX10_tripsOf_65 rfl rfl ?_
    exact hk_ireturn dX10_tripsOf_66 rfl rfl (by decide) ⟨m1, by rw [show i = nT by omega], rfl, s⟩
  · rw [h4, nI_leI (by omega) (by omega)] at c11
    have hlt : i < nT := by omega
    have e7 : m1 73 i = m 73 i := by rw [s.1 73 (by decide) (by decide)]
    refine hk_aload_n dX10_tripsOf_14 rfl rfl ?_
    refine gfX10_115 rfl dX10_tripsOf_15 (hk_lt (by decide)) rfl rfl ?_
    refine hk_iload dX10_tripsOf_18 rfl ?_
    refine hk_ian dX10_tripsOf_20 (by decide) (fun _ => rfl) rfl (by omega) (by decide) ?_
    refine hk_iload_n dX10_tripsOf_21 rfl rfl ?_
    refine hk_icmp_ne (tgt := 59) dX10_tripsOf_22 (by decide) (fun c22 => ?_) (fun c22 => ?_)
    · refine hk_iinc (v := nI (i + 1)) dX10_tripsOf_59 rfl (nI_1 i) (by decide) rfl ?_
      refine hk_goto (tgt := 5) dX10_tripsOf_62 (by decide) ?_
      have ez := nnI (dv m L i (m 37 0 / 1440))
      first
      | (rw [if_neg (Int32.not_lt.mpr c48)] at ez; rw [← ez]; rw [show nI (sN (eF m L c (m 37 0 / 1440)) i) + nI (dv m L i (m 37 0 / 1440)).toNatClampNeg = nI (sN (eF m L c (m 37 0 / 1440)) (i + 1)) from eF_y (e7.symm.trans c22)]; exact lp_tripsOf1 hi c (i + 1) (by omega) _ (s.t s3) _)
      | (rw [if_pos (Int32.not_le.mp c48)] at ez; rw [← ez]; rw [show nI (sN (eF m L c (m 37 0 / 1440)) i) + nI (dv m L i (m 37 0 / 1440)).toNatClampNeg = nI (sN (eF m L c (m 37 0 / 1440)) (i + 1)) from eF_y (e7.symm.trans c22)]; exact lp_tripsOf1 hi c (i + 1) (by omega) _ (s.t s3) _)
      | (rw [eF_n (fun e => c22 (e7.trans e))]; exact lp_tripsOf1 hi c (i + 1) (by omega) _ s _)
    · refine hk_iload_n dX10_tripsOf_25 rfl rfl ?_
      refine hk_if_eq (tgt := 42) dX10_tripsOf_26 (by decide) (fun c26 => absurd c26 (by decide)) (fun _ => ?_)
      refine hk_aload_n dX10_tripsOf_29 rfl rfl ?_
      refine hk_iload dX10_tripsOf_30 rfl ?_
      refine hk_aload_n dX10_tripsOf_32 rfl rfl ?_
      refine ivX10_262 rfl md_today dX10_tripsOf_33 (hk_lt (by decide)) rfl rfl rfl (by decide) ⟨by decide, by decide⟩ (Nat.le_of_ble_eq_true rfl) (hk_kd ?_)
      refine ivX10_290 rfl (md_due1 (hi.k s) (show i < nT by omega) _) dX10_tripsOf_36 (hk_lt (by decide)) rfl rfl rfl (by decide) ⟨by decide, by decide⟩ (Nat.le_of_ble_eq_true rfl) (fun r h1 hq => ?_)
      obtain ⟨m3, rfl, rfl, s3, s4⟩ := hq
      rw [s.dvk, e0]
      refine hk_goto (tgt := 43) dX10_tripsOf_39 (by decide) ?_
      refine hk_istore dX10_tripsOf_43 (by decide) rfl ?_
      refine hk_iload_n dX10_tripsOf_45 rfl rfl ?_
      refine hk_iload dX10_tripsOf_46 rfl ?_
      refine hk_if_ge (tgt := 55) dX10_tripsOf_48 (by decide) (fun c48 => ?_) (fun c48 => ?_)
      · refine hk_iload dX10_tripsOf_55 rfl ?_
        refine hk_iadd dX10_tripsOf_57 ?_
        refine hk_istore_n dX10_tripsOf_58 rfl (by decide) rfl ?_
        refine hk_iinc (v := nI (i + 1)) dX10_tripsOf_59 rfl (nI_1 i) (by decide) rfl ?_
        refine hk_goto (tgt := 5) dX10_tripsOf_62 (by decide) ?_
        have ez := nnI (dv m L i (m 37 0 / 1440))
        first
        | (rw [if_neg (Int32.not_lt.mpr c48)] at ez; rw [← ez]; rw [show nI (sN (eF m L c (m 37 0 / 1440)) i) + nI (dv m L i (m 37 0 / 1440)).toNatClampNeg = nI (sN (eF m L c (m 37 0 / 1440)) (i + 1)) from eF_y (e7.symm.trans c22)]; exact lp_tripsOf1 hi c (i + 1) (by omega) _ (s.t s3) _)
        | (rw [if_pos (Int32.not_le.mp c48)] at ez; rw [← ez]; rw [show nI (sN (eF m L c (m 37 0 / 1440)) i) + nI (dv m L i (m 37 0 / 1440)).toNatClampNeg = nI (sN (eF m L c (m 37 0 / 1440)) (i + 1)) from eF_y (e7.symm.trans c22)]; exact lp_tripsOf1 hi c (i + 1) (by omega) _ (s.t s3) _)
        | (rw [eF_n (fun e => c22 (e7.trans e))]; exact lp_tripsOf1 hi c (i + 1) (by omega) _ s _)
      · refine hk_iconst (v := 0) dX10_tripsOf_51 (by decide) ?_
        refine hk_goto (tgt := 57) dX10_tripsOf_52 (by decide) ?_
        refine hk_iadd dX10_tripsOf_57 ?_
        refine hk_istore_n dX10_tripsOf_58 rfl (by decide) rfl ?_
        refine hk_iinc (v := nI (i + 1)) dX10_tripsOf_59 rfl (nI_1 i) (by decide) rfl ?_
        refine hk_goto (tgt := 5) dX10_tripsOf_62 (by decide) ?_
        have ez := nnI (dv m L i (m 37 0 / 1440))
        first
        | (rw [if_neg (Int32.not_lt.mpr c48)] at ez; rw [← ez]; rw [show nI (sN (eF m L c (m 37 0 / 1440)) i) + nI (dv m L i (m 37 0 / 1440)).toNatClampNeg = nI (sN (eF m L c (m 37 0 / 1440)) (i + 1)) from eF_y (e7.symm.trans c22)]; exact lp_tripsOf1 hi c (i + 1) (by omega) _ (s.t s3) _)
        | (rw [if_pos (Int32.not_le.mp c48)] at ez; rw [← ez]; rw [show nI (sN (eF m L c (m 37 0 / 1440)) i) + nI (dv m L i (m 37 0 / 1440)).toNatClampNeg = nI (sN (eF m L c (m 37 0 / 1440)) (i + 1)) from eF_y (e7.symm.trans c22)]; exact lp_tripsOf1 hi c (i + 1) (by omega) _ (s.t s3) _)
        | (rw [eF_n (fun e => c22 (e7.trans e))]; exact lp_tripsOf1 hi c (i + 1) (by omega) _ s _)
termination_by nT - i
decreasing_by all_goals omega
set_option maxRecDepth 20000 in
set_option maxHeartbeats 2000000 in
theorem md_tripsOf1 (hi : LM m L nT) (c : Int32) : hk_Ct MX10_tripsOf 71 0 0 [.ref 37, .int c, .int 1] (hk_h L m) (fun r h => ∃ m2, r = some (.int (nI (sN (eF m L c (m 37 0 / 1440)) nT))) ∧ h = hk_h L m2 ∧ SF m m2) := by
  refine hk_ofWP (by decide) (by simp [Value.category]) (Nat.le_of_ble_eq_true rfl) ?_
  show hk_WP _ _ _ _ _ _ _ [some (.ref 37), some (.int c), some (.int 1), none, none, none] [] _ _
  refine hk_iconst (v := 0) dX10_tripsOf_0 (by decide) ?_
  refine hk_istore_n dX10_tripsOf_1 rfl (by decide) rfl ?_
  refine hk_iconst (v := 0) dX10_tripsOf_2 (by decide) ?_
  refine hk_istore dX10_tripsOf_3 (by decide) rfl ?_
  exact lp_tripsOf1 hi c 0 (Nat.zero_le _) m SF.refl _
set_option maxRecDepth 20000 in
set_option maxHeartbeats 2000000 in
theorem lp_tripsOf0 (hT : m 37 60 = nI nT) (hT3 : nT ≤ 300) (c : Int32) (i : Nat) (hi2 : i ≤ nT) (l5 : Option Value) : hk_WP MX10_tripsOf 71 0 0 0 0 5 [some (.ref 37), some (.int c), some (.int 0), some (.int (nI (cn (fun t => m 73 t = c) i))), some (.int (nI i)), l5] [] (hk_h L m) (fun r h' => r = some (.int (nI (cn (fun t => m 73 t = c) nT))) ∧ h' = hk_h L m) := by
  refine hk_iload dX10_tripsOf_5 rfl ?_
  refine hk_aload_n dX10_tripsOf_7 rfl rfl ?_
  refine gfX10_287 rfl dX10_tripsOf_8 (hk_lt (by decide)) rfl rfl ?_
  refine hk_icmp_ge (tgt := 65) dX10_tripsOf_11 (by decide) (fun c11 => ?_) (fun c11 => ?_)
  · rw [hT, nI_leI (by omega) (by omega)] at c11
    refine hk_iload_n dX10_tripsOf_65 rfl rfl ?_
    exact hk_ireturn dX10_tripsOf_66 rfl rfl (by decide) ⟨by rw [show i = nT by omega], rfl⟩
  · rw [hT, nI_leI (by omega) (by omega)] at c11
    refine hk_aload_n dX10_tripsOf_14 rfl rfl ?_
    refine gfX10_115 rfl dX10_tripsOf_15 (hk_lt (by decide)) rfl rfl ?_
    refine hk_iload dX10_tripsOf_18 rfl ?_
    refine hk_ian dX10_tripsOf_20 (by decide) (fun _ => rfl) rfl (by omega) (by decide) ?_
    refine hk_iload_n dX10_tripsOf_21 rfl rfl ?_
    refine hk_icmp_ne (tgt := 59) dX10_tripsOf_22 (by decide) (fun c22 => ?_) (fun c22 => ?_)
    · refine hk_iinc (v := nI (i + 1)) dX10_tripsOf_59 rfl (nI_1 i) (by decide) rfl ?_
      refine hk_goto (tgt := 5) dX10_tripsOf_62 (by decide) ?_
      have hlt : i < nT := by omega
      first
      | (rw [show nI (cn (fun t => m 73 t = c) i) + 1 = nI (cn (fun t => m 73 t = c) (i + 1)) by rw [nI_1, cn_y (p := fun t => m 73 t = c) c22]]; exact lp_tripsOf0 hT hT3 c (i + 1) (by omega) _)
      | (rw [show nI (cn (fun t => m 73 t = c) i) = nI (cn (fun t => m 73 t = c) (i + 1)) by rw [cn_n (p := fun t => m 73 t = c) c22]]; exact lp_tripsOf0 hT hT3 c (i + 1) (by omega) _)
    · refine hk_iload_n dX10_tripsOf_25 rfl rfl ?_
      refine hk_if_eq (tgt := 42) dX10_tripsOf_26 (by decide) (fun _ => ?_) (fun c26 => absurd rfl c26)
      refine hk_iconst (v := 1) dX10_tripsOf_42 (by decide) ?_
      refine hk_istore dX10_tripsOf_43 (by decide) rfl ?_
      refine hk_iload_n dX10_tripsOf_45 rfl rfl ?_
      refine hk_iload dX10_tripsOf_46 rfl ?_
      refine hk_if_ge (tgt := 55) dX10_tripsOf_48 (by decide) (fun _ => ?_) (fun c48 => absurd (by decide) c48)
      refine hk_iload dX10_tripsOf_55 rfl ?_
      refine hk_iadd dX10_tripsOf_57 ?_
      refine hk_istore_n dX10_tripsOf_58 rfl (by decide) rfl ?_
      refine hk_iinc (v := nI (i + 1)) dX10_tripsOf_59 rfl (nI_1 i) (by decide) rfl ?_
      refine hk_goto (tgt := 5) dX10_tripsOf_62 (by decide) ?_
      have hlt : i < nT := by omega
      first
      | (rw [show nI (cn (fun t => m 73 t = c) i) + 1 = nI (cn (fun t => m 73 t = c) (i + 1)) by rw [nI_1, cn_y (p := fun t => m 73 t = c) c22]]; exact lp_tripsOf0 hT hT3 c (i + 1) (by omega) _)
      | (rw [show nI (cn (fun t => m 73 t = c) i) = nI (cn (fun t => m 73 t = c) (i + 1)) by rw [cn_n (p := fun t => m 73 t = c) c22]]; exact lp_tripsOf0 hT hT3 c (i + 1) (by omega) _)
termination_by nT - i
decreasing_by all_goals omega
set_option maxRecDepth 20000 in
set_option maxHeartbeats 2000000 in
theorem md_tripsOf0 (hT : m 37 60 = nI nT) (hT3 : nT ≤ 300) (c : Int32) : hk_Cd MX10_tripsOf 71 0 0 [.ref 37, .int c, .int 0] (hk_h L m) (some (.int (nI (cn (fun t => m 73 t = c) nT)))) (hk_h L m) := by
  refine hk_ofWP (by decide) (by simp [Value.category]) (Nat.le_of_ble_eq_true rfl) ?_
  show hk_WP _ _ _ _ _ _ _ [some (.ref 37), some (.int c), some (.int 0), none, none, none] [] _ _
  refine hk_iconst (v := 0) dX10_tripsOf_0 (by decide) ?_
  refine hk_istore_n dX10_tripsOf_1 rfl (by decide) rfl ?_
  refine hk_iconst (v := 0) dX10_tripsOf_2 (by decide) ?_
  refine hk_istore dX10_tripsOf_3 (by decide) rfl ?_
  exact lp_tripsOf0 hT hT3 c 0 (Nat.zero_le _) _
def tr (m : Nat → Nat → Int32) (i : Nat) : Nat := (m 90 i).toNatClampNeg
noncomputable def ov (m : Nat → Nat → Int32) (L i : Nat) : Int32 := nI (m 91 i - nI (dz m L (tr m i) (m 76 (tr m i) / 1440))).toNatClampNeg
def LK (m : Nat → Nat → Int32) (i j : Nat) : Prop := m 84 (tr m i) = m 84 (tr m j) ∧ m 81 (tr m i) = m 81 (tr m j) ∧ m 79 (tr m i) / 1000 = m 79 (tr m j) / 1000 ∧ rm (m 76 (tr m i) / 1440) 7 = rm (m 76 (tr m j) / 1440) 7
/-- complaints, as the class holds them and as the reference does -/
def LC (m : Nat → Nat → Int32) (nP nT : Nat) : Prop := m 30 3 = nI nP ∧ nP ≤ 300 ∧ GCom nP nT (m 31) (m 90) (m 91)
theorem LC.k (h : LC m nP nT) (s : CF m m1) : LC m1 nP nT := by
  unfold LC
  rw [s 30 (by decide) (by decide), s 31 (by decide) (by decide), s 90 (by decide) (by decide), s 91 (by decide) (by decide)]
  exact h
theorem LC.g (h : LC m nP nT) (hT : nT ≤ 300) {i : Nat} (hi : i < nP) : m 31 (i * 2 + 0) = nI (tr m i) ∧ m 31 (i * 2 + 1) = m 91 i ∧ tr m i < nT ∧ m 90 i = nI (tr m i) := by
  obtain ⟨h1, h2, k, h3, h4⟩ := h.2.2.1 i hi
  have e : tr m i = k := by unfold tr; rw [h3, nI_clamp (by omega)]
  rw [Nat.add_zero, h1, h2, e]
  exact ⟨h3, rfl, h4, h3⟩
theorem SCR.ovk (s : SCR m m1) {i : Nat} : ov m1 L i = ov m L i ∧ tr m1 i = tr m i := by
  have e : tr m1 i = tr m i := by unfold tr; rw [s.a (a := 90) (by decide)]
  refine ⟨?_, e⟩
  unfold ov
  rw [e, s.dzk, s.a (a := 91) (by decide), s.a (a := 76) (by decide)]
theorem SCR.lk (s : SCR m m1) : LK m1 = LK m := by
  unfold LK tr
  rw [s.a (a := 90) (by decide), s.a (a := 84) (by decide), s.a (a := 81) (by decide), s.a (a := 79) (by decide), s.a (a := 76) (by decide)]
set_option maxRecDepth 20000 in
set_option maxHeartbeats 2000000 in
theorem ct_overpaid (hi : LI m L nT) (hc : LC m nP nT) {i : Nat} (hn : i < nP) : hk_Ct MX9_overpaid 4 0 0 [.ref 0, .int (nI i)] (hk_h L m) (fun r h => ∃ m1, r = some (.int (ov m L i)) ∧ h = hk_h L m1 ∧ CF m m1) := by
  obtain ⟨e1, e2, e3, e4⟩ := hc.g hi.2.2.2.2.1 hn
  obtain ⟨h1, h2, h3, h4, h5, h6⟩ := id hi
  have g3 := (NTC_R h6 e3).2
  refine hk_ofWP (by decide) (by simp [Value.category]) (Nat.le_of_ble_eq_true rfl) ?_
  show hk_WP _ _ _ _ _ _ _ [some (.ref 0), some (.int (nI i)), none, none] [] _ _
  refine hk_aload_n dX9_overpaid_0 rfl rfl ?_
  refine gfX9_44 rfl dX9_overpaid_1 (hk_lt (by decide)) rfl rfl ?_
  refine gfX9_265 rfl dX9_overpaid_4 (hk_lt (by decide)) rfl rfl ?_
  refine hk_iload_n dX9_overpaid_7 rfl rfl ?_
  refine hk_iconst (v := 0) dX9_overpaid_8 (by decide) ?_
  refine ivX9_124 rfl (ct_geti tb30 hc.2.1 hc.1 rfl hn (by decide)) dX9_overpaid_9 (hk_lt (by decide)) rfl rfl rfl (by decide) ⟨by decide, by decide⟩ (Nat.le_of_ble_eq_true rfl) (hk_kd ?_)
  rw [e1]
  refine hk_istore_n dX9_overpaid_12 rfl (by decide) rfl ?_
  refine hk_aload_n dX9_overpaid_13 rfl rfl ?_
  refine hk_iload_n dX9_overpaid_14 rfl rfl ?_
  refine hk_aload_n dX9_overpaid_15 rfl rfl ?_
  refine hk_iload_n dX9_overpaid_16 rfl rfl ?_
  refine ivX9_302 rfl (ct_dayOf h4 h5 e3) dX9_overpaid_17 (hk_lt (by decide)) rfl rfl rfl (by decide) ⟨by decide, by decide⟩ (Nat.le_of_ble_eq_true rfl) (hk_kd ?_)
  refine ivX9_249 rfl (ct_due1 hi e3 _) dX9_overpaid_20 (hk_lt (by decide)) rfl rfl rfl (by decide) ⟨by decide, by decide⟩ (Nat.le_of_ble_eq_true rfl) (fun r h1 hq => ?_)
  obtain ⟨m3, rfl, rfl, s3⟩ := hq
  have hc3 := hc.k s3
  refine hk_istore_n dX9_overpaid_23 rfl (by decide) rfl ?_
  refine hk_iconst (v := 0) dX9_overpaid_24 (by decide) ?_
  refine hk_aload_n dX9_overpaid_25 rfl rfl ?_
  refine gfX9_44 rfl dX9_overpaid_26 (hk_lt (by decide)) rfl rfl ?_
  refine gfX9_265 rfl dX9_overpaid_29 (hk_lt (by decide)) rfl rfl ?_
  refine hk_iload_n dX9_overpaid_32 rfl rfl ?_
  refine hk_iconst (v := 1) dX9_overpaid_33 (by decide) ?_
  refine ivX9_124 rfl (ct_geti tb30 hc3.2.1 hc3.1 rfl hn (by decide)) dX9_overpaid_34 (hk_lt (by decide)) rfl rfl rfl (by decide) ⟨by decide, by decide⟩ (Nat.le_of_ble_eq_true rfl) (hk_kd ?_)
  rw [s3 31 (by decide) (by decide), e2]
  refine hk_iconst (v := 0) dX9_overpaid_37 (by decide) ?_
  refine hk_iload_n dX9_overpaid_38 rfl rfl ?_
  refine hk_mmax ⟨hk_t 515 (by decide +kernel) rfl, hk_t 503 (by decide +kernel) rfl, hk_t 11 (by decide +kernel) rfl, hk_t 504 (by decide +kernel) rfl⟩ dX9_overpaid_39 (by decide) (Nat.le_of_ble_eq_true rfl) ⟨by decide, by decide⟩ ?_
  rw [dc_z, g3]
  refine hk_isub dX9_overpaid_42 ?_
  refine hk_mmax ⟨hk_t 515 (by decide +kernel) rfl, hk_t 503 (by decide +kernel) rfl, hk_t 11 (by decide +kernel) rfl, hk_t 504 (by decide +kernel) rfl⟩ dX9_overpaid_43 (by decide) (Nat.le_of_ble_eq_true rfl) ⟨by decide, by decide⟩ ?_
  rw [nnI2]
  exact hk_ireturn dX9_overpaid_46 rfl rfl (by decide) ⟨m3, rfl, rfl, s3⟩
set_option maxRecDepth 20000 in
set_option maxHeartbeats 2000000 in
theorem ct_isLike (hi : LI m L nT) (hc : LC m nP nT) {i j : Nat} (hn : i < nP) (hn2 : j < nP) : hk_Cd MX9_isLike 2 0 0 [.ref 0, .int (nI i), .int (nI j)] (hk_h L m) (some (.int (bI (LK m i j)))) (hk_h L m) := by
  obtain ⟨e1, e2, e3, e4⟩ := hc.g hi.2.2.2.2.1 hn
  obtain ⟨d1, d2, d3, d4⟩ := hc.g hi.2.2.2.2.1 hn2
  obtain ⟨h1, h2, h3, h4, h5, h6⟩ := id hi
  obtain ⟨_, _, _, a3, _, _, a6, _, a8, _, a10, _⟩ := h6 _ e3
  obtain ⟨_, _, _, b3, _, _, b6, _, b8, _, b10, _⟩ := h6 _ d3
  refine hk_ofWP (by decide) (by simp [Value.category]) (Nat.le_of_ble_eq_true rfl) ?_
  show hk_WP _ _ _ _ _ _ _ [some (.ref 0), some (.int (nI i)), some (.int (nI j)), none, none] [] _ _
  refine hk_aload_n dX9_isLike_0 rfl rfl ?_
  refine gfX9_44 rfl dX9_isLike_1 (hk_lt (by decide)) rfl rfl ?_
  refine gfX9_265 rfl dX9_isLike_4 (hk_lt (by decide)) rfl rfl ?_
  refine hk_iload_n dX9_isLike_7 rfl rfl ?_
  refine hk_iconst (v := 0) dX9_isLike_8 (by decide) ?_
  refine ivX9_124 rfl (ct_geti tb30 hc.2.1 hc.1 rfl hn (by decide)) dX9_isLike_9 (hk_lt (by decide)) rfl rfl rfl (by decide) ⟨by decide, by decide⟩ (Nat.le_of_ble_eq_true rfl) (hk_kd ?_)
  rw [e1]
  refine hk_istore_n dX9_isLike_12 rfl (by decide) rfl ?_
  refine hk_aload_n dX9_isLike_13 rfl rfl ?_
  refine gfX9_44 rfl dX9_isLike_14 (hk_lt (by decide)) rfl rfl ?_
  refine gfX9_265 rfl dX9_isLike_17 (hk_lt (by decide)) rfl rfl ?_
  refine hk_iload_n dX9_isLike_20 rfl rfl ?_
  refine hk_iconst (v := 0) dX9_isLike_21 (by decide) ?_
  refine ivX9_124 rfl (ct_geti tb30 hc.2.1 hc.1 rfl hn2 (by decide)) dX9_isLike_22 (hk_lt (by decide)) rfl rfl rfl (by decide) ⟨by decide, by decide⟩ (Nat.le_of_ble_eq_true rfl) (hk_kd ?_)
  rw [d1]
  refine hk_istore dX9_isLike_25 (by decide) rfl ?_
  refine hk_aload_n dX9_isLike_27 rfl rfl ?_
  refine gfX9_37 rfl dX9_isLike_28 (hk_lt (by decide)) rfl rfl ?_
  refine hk_iload_n dX9_isLike_31 rfl rfl ?_
  refine hk_iload dX9_isLike_32 rfl ?_
  refine hk_bipush (v := 10) dX9_isLike_34 (by decide) ?_
  refine ivX9_368 rfl (ct_isSame h4 h5 e3 d3 (show 10 < 13 by decide)) dX9_isLike_36 (hk_lt (by decide)) rfl rfl rfl (by decide) ⟨by decide, by decide⟩ (Nat.le_of_ble_eq_true rfl) (hk_kd ?_)
  rw [a10, b10]
  refine hk_if_eq (tgt := 119) dX9_isLike_39 (by decide) (fun c39 => ?_) (fun c39 => ?_)
  · rw [bI_0] at c39
    refine hk_iconst (v := 0) dX9_isLike_119 (by decide) ?_
    exact hk_ireturn dX9_isLike_120 rfl rfl (by decide) ⟨by first | exact bI_r1 ⟨Classical.not_not.mp c39, Classical.not_not.mp c54, c92, c112⟩ | exact bI_r0 (fun q => c39 q.1) | exact bI_r0 (fun q => c54 q.2.1) | exact bI_r0 (fun q => c92 q.2.2.1) | exact bI_r0 (fun q => c112 q.2.2.2), rfl⟩
  · rw [bI_0] at c39
    refine hk_aload_n dX9_isLike_42 rfl rfl ?_
    refine gfX9_37 rfl dX9_isLike_43 (hk_lt (by decide)) rfl rfl ?_
    refine hk_iload_n dX9_isLike_46 rfl rfl ?_
    refine hk_iload dX9_isLike_47 rfl ?_
    refine hk_bipush (v := 8) dX9_isLike_49 (by decide) ?_
    refine ivX9_368 rfl (ct_isSame h4 h5 e3 d3 (show 8 < 13 by decide)) dX9_isLike_51 (hk_lt (by decide)) rfl rfl rfl (by decide) ⟨by decide, by decide⟩ (Nat.le_of_ble_eq_true rfl) (hk_kd ?_)
    rw [a8, b8]
    refine hk_if_eq (tgt := 119) dX9_isLike_54 (by decide) (fun c54 => ?_) (fun c54 => ?_)
    · rw [bI_0] at c54
      refine hk_iconst (v := 0) dX9_isLike_119 (by decide) ?_
      exact hk_ireturn dX9_isLike_120 rfl rfl (by decide) ⟨by first | exact bI_r1 ⟨Classical.not_not.mp c39, Classical.not_not.mp c54, c92, c112⟩ | exact bI_r0 (fun q => c39 q.1) | exact bI_r0 (fun q => c54 q.2.1) | exact bI_r0 (fun q => c92 q.2.2.1) | exact bI_r0 (fun q => c112 q.2.2.2), rfl⟩
    · rw [bI_0] at c54
      refine hk_aload_n dX9_isLike_57 rfl rfl ?_
      refine gfX9_37 rfl dX9_isLike_58 (hk_lt (by decide)) rfl rfl ?_
      refine gfX9_215 rfl dX9_isLike_61 (hk_lt (by decide)) rfl rfl ?_
      refine hk_iload_n dX9_isLike_64 rfl rfl ?_
      refine hk_bipush (v := 6) dX9_isLike_65 (by decide) ?_
      refine ivX9_124 rfl (ct_geti tb23 h5 h4 rfl e3 (by decide)) dX9_isLike_67 (hk_lt (by decide)) rfl rfl rfl (by decide) ⟨by decide, by decide⟩ (Nat.le_of_ble_eq_true rfl) (hk_kd ?_)
      rw [a6]
      refine hk_sipush (v := 1000) dX9_isLike_70 (by decide) ?_
      refine hk_idiv dX9_isLike_73 (by decide) ?_
      refine hk_aload_n dX9_isLike_74 rfl rfl ?_
      refine gfX9_37 rfl dX9_isLike_75 (hk_lt (by decide)) rfl rfl ?_
      refine gfX9_215 rfl dX9_isLike_78 (hk_lt (by decide)) rfl rfl ?_
      refine hk_iload dX9_isLike_81 rfl ?_
      refine hk_bipush (v := 6) dX9_isLike_83 (by decide) ?_
      refine ivX9_124 rfl (ct_geti tb23 h5 h4 rfl d3 (by decide)) dX9_isLike_85 (hk_lt (by decide)) rfl rfl rfl (by decide) ⟨by decide, by decide⟩ (Nat.le_of_ble_eq_true rfl) (hk_kd ?_)
      rw [b6]
      refine hk_sipush (v := 1000) dX9_isLike_88 (by decide) ?_
      refine hk_idiv dX9_isLike_91 (by decide) ?_
      refine hk_icmp_ne (tgt := 119) dX9_isLike_92 (by decide) (fun c92 => ?_) (fun c92 => ?_)
      · refine hk_iconst (v := 0) dX9_isLike_119 (by decide) ?_
        exact hk_ireturn dX9_isLike_120 rfl rfl (by decide) ⟨by first | exact bI_r1 ⟨Classical.not_not.mp c39, Classical.not_not.mp c54, c92, c112⟩ | exact bI_r0 (fun q => c39 q.1) | exact bI_r0 (fun q => c54 q.2.1) | exact bI_r0 (fun q => c92 q.2.2.1) | exact bI_r0 (fun q => c112 q.2.2.2), rfl⟩
      · refine hk_aload_n dX9_isLike_95 rfl rfl ?_
        refine hk_iload_n dX9_isLike_96 rfl rfl ?_
        refine ivX9_302 rfl (ct_dayOf h4 h5 e3) dX9_isLike_97 (hk_lt (by decide)) rfl rfl rfl (by decide) ⟨by decide, by decide⟩ (Nat.le_of_ble_eq_true rfl) (hk_kd ?_)
        rw [a3]
        refine hk_bipush (v := 7) dX9_isLike_100 (by decide) ?_
        refine hk_irem dX9_isLike_102 (by decide) ?_
        refine hk_aload_n dX9_isLike_103 rfl rfl ?_
        refine hk_iload dX9_isLike_104 rfl ?_
        refine ivX9_302 rfl (ct_dayOf h4 h5 d3) dX9_isLike_106 (hk_lt (by decide)) rfl rfl rfl (by decide) ⟨by decide, by decide⟩ (Nat.le_of_ble_eq_true rfl) (hk_kd ?_)
        rw [b3]
        refine hk_bipush (v := 7) dX9_isLike_109 (by decide) ?_
        refine hk_irem dX9_isLike_111 (by decide) ?_
        refine hk_icmp_ne (tgt := 119) dX9_isLike_112 (by decide) (fun c112 => ?_) (fun c112 => ?_)
        · refine hk_iconst (v := 0) dX9_isLike_119 (by decide) ?_
          exact hk_ireturn dX9_isLike_120 rfl rfl (by decide) ⟨by first | exact bI_r1 ⟨Classical.not_not.mp c39, Classical.not_not.mp c54, c92, c112⟩ | exact bI_r0 (fun q => c39 q.1) | exact bI_r0 (fun q => c54 q.2.1) | exact bI_r0 (fun q => c92 q.2.2.1) | exact bI_r0 (fun q => c112 q.2.2.2), rfl⟩
        · refine hk_iconst (v := 1) dX9_isLike_115 (by decide) ?_
          refine hk_goto (tgt := 120) dX9_isLike_116 (by decide) ?_
          exact hk_ireturn dX9_isLike_120 rfl rfl (by decide) ⟨by first | exact bI_r1 ⟨Classical.not_not.mp c39, Classical.not_not.mp c54, c92, c112⟩ | exact bI_r0 (fun q => c39 q.1) | exact bI_r0 (fun q => c54 q.2.1) | exact bI_r0 (fun q => c92 q.2.2.1) | exact bI_r0 (fun q => c112 q.2.2.2), rfl⟩
set_option maxRecDepth 20000 in
set_option maxHeartbeats 2000000 in
theorem lp_likeCases0 (hi : LI m L nT) (hc : LC m nP nT) {i : Nat} (hn : i < nP) (j : Nat) (hj : j ≤ i) : hk_WP MX9_likeCases 5 0 0 0 0 5 [some (.ref 0), some (.int (nI i)), some (.int 0), some (.int (nI (cn (LK m i) j))), some (.int (nI j))] [] (hk_h L m) (fun r h' => r = some (.int (nI (cn (LK m i) i))) ∧ h' = hk_h L m) := by
  have hP := hc.2.1
  refine hk_iload dX9_likeCases_5 rfl ?_
  refine hk_iload_n dX9_likeCases_7 rfl rfl ?_
  refine hk_icmp_ge (tgt := 43) dX9_likeCases_8 (by decide) (fun c8 => ?_) (fun c8 => ?_)
  · rw [nI_leI (by omega) (by omega)] at c8
    refine hk_iload_n dX9_likeCases_43 rfl rfl ?_
    exact hk_ireturn dX9_likeCases_44 rfl rfl (by decide) ⟨by rw [show j = i by omega], rfl⟩
  · rw [nI_leI (by omega) (by omega)] at c8
    refine hk_aload_n dX9_likeCases_11 rfl rfl ?_
    refine hk_iload_n dX9_likeCases_12 rfl rfl ?_
    refine hk_iload dX9_likeCases_13 rfl ?_
    refine ivX9_371 rfl (ct_isLike hi hc hn (by omega)) dX9_likeCases_15 (hk_lt (by decide)) rfl rfl rfl (by decide) ⟨by decide, by decide⟩ (Nat.le_of_ble_eq_true rfl) (hk_kd ?_)
    refine hk_if_eq (tgt := 37) dX9_likeCases_18 (by decide) (fun c18 => ?_) (fun c18 => ?_)
    · rw [bI_0] at c18
      refine hk_iinc (v := nI (j + 1)) dX9_likeCases_37 rfl (nI_1 j) (by decide) rfl ?_
      refine hk_goto (tgt := 5) dX9_likeCases_40 (by decide) ?_
      have hlt : j < i := by omega
      have hs := lp_likeCases0 hi hc hn (j + 1) (by omega)
      first
      | (rw [cn_y (p := LK m i) (Classical.not_not.mp c18)] at hs; exact hs)
      | (rw [cn_n (p := LK m i) c18] at hs; exact hs)
    · rw [bI_0] at c18
      refine hk_iload_n dX9_likeCases_21 rfl rfl ?_
      refine hk_if_eq (tgt := 34) dX9_likeCases_22 (by decide) (fun _ => ?_) (fun c22 => absurd rfl c22)
      refine hk_iinc (v := nI (cn (LK m i) j + 1)) dX9_likeCases_34 rfl (nI_1 _) (by decide) rfl ?_
      refine hk_iinc (v := nI (j + 1)) dX9_likeCases_37 rfl (nI_1 j) (by decide) rfl ?_
      refine hk_goto (tgt := 5) dX9_likeCases_40 (by decide) ?_
      have hlt : j < i := by omega
      have hs := lp_likeCases0 hi hc hn (j + 1) (by omega)
      first
      | (rw [cn_y (p := LK m i) (Classical.not_not.mp c18)] at hs; exact hs)
      | (rw [cn_n (p := LK m i) c18] at hs; exact hs)
termination_by i - j
decreasing_by all_goals omega
set_option maxRecDepth 20000 in
set_option maxHeartbeats 2000000 in
theorem ct_likeCases0 (hi : LI m L nT) (hc : LC m nP nT) {i : Nat} (hn : i < nP) : hk_Cd MX9_likeCases 5 0 0 [.ref 0, .int (nI i), .int 0] (hk_h L m) (some (.int (nI (cn (LK m i) i)))) (hk_h L m) := by
  refine hk_ofWP (by decide) (by simp [Value.category]) (Nat.le_of_ble_eq_true rfl) ?_
  show hk_WP _ _ _ _ _ _ _ [some (.ref 0), some (.int (nI i)), some (.int 0), none, none] [] _ _
  refine hk_iconst (v := 0) dX9_likeCases_0 (by decide) ?_
  refine hk_istore_n dX9_likeCases_1 rfl (by decide) rfl ?_
  refine hk_iconst (v := 0) dX9_likeCases_2 (by decide) ?_
  refine hk_istore dX9_likeCases_3 (by decide) rfl ?_
  exact lp_likeCases0 hi hc hn 0 (Nat.zero_le _)
theorem CF.ovk (s : CF m m1) {i : Nat} : ov m1 L i = ov m L i := s.scr.ovk.1
theorem CF.lk (s : CF m m1) : LK m1 = LK m := s.scr.lk
set_option maxRecDepth 20000 in
set_option maxHeartbeats 2000000 in
theorem lp_likeCases1 (hi : LI m L nT) (hc : LC m nP nT) {i : Nat} (hn : i < nP) (j : Nat) (hj : j ≤ i) (m1 : Nat → Nat → Int32) (s : CF m m1) : hk_WP MX9_likeCases 5 0 0 0 0 5 [some (.ref 0), some (.int (nI i)), some (.int 1), some (.int (nI (cn (fun j => LK m i j ∧ 0 < ov m L j) j))), some (.int (nI j))] [] (hk_h L m1) (fun r h => ∃ m2, r = some (.int (nI (cn (fun j => LK m i j ∧ 0 < ov m L j) i))) ∧ h = hk_h L m2 ∧ CF m m2) := by
  have hP := hc.2.1
  refine hk_iload dX9_likeCases_5 rfl ?_
  refine hk_iload_n dX9_likeCases_7 rfl rfl ?_
  refine hk_icmp_ge (tgt := 43) dX9_likeCases_8 (by decide) (fun c8 => ?_) (fun c8 => ?_)
  · rw [nI_leI (by omega) (by omega)] at c8
    refine hk_iload_n dX9_likeCases_43 rfl rfl ?_
    exact hk_ireturn dX9_likeCases_44 rfl rfl (by decide) ⟨m1, by rw [show j = i by omega], rfl, s⟩
  · rw [nI_leI (by omega) (by omega)] at c8
    refine hk_aload_n dX9_likeCases_11 rfl rfl ?_
    refine hk_iload_n dX9_likeCases_12 rfl rfl ?_
    refine hk_iload dX9_likeCases_13 rfl ?_
    refine ivX9_371 rfl (ct_isLike (hi.k s) (hc.k s) hn (show j < nP by omega)) dX9_likeCases_15 (hk_lt (by decide)) rfl rfl rfl (by decide) ⟨by decide, by decide⟩ (Nat.le_of_ble_eq_true rfl) (hk_kd ?_)
    rw [s.lk]
    refine hk_if_eq (tgt := 37) dX9_likeCases_18 (by decide) (fun c18 => ?_) (fun c18 => ?_)
    · rw [bI_0] at c18
      refine hk_iinc (v := nI (j + 1)) dX9_likeCases_37 rfl (nI_1 j) (by decide) rfl ?_
      refine hk_goto (tgt := 5) dX9_likeCases_40 (by decide) ?_
      have hlt : j < i := by omega
      first
      | (have hs := lp_likeCases1 hi hc hn (j + 1) (by omega) _ (s.t s3); rw [cn_y (p := fun j => LK m i j ∧ 0 < ov m L j) ⟨Classical.not_not.mp c18, Int32.not_le.mp c31⟩] at hs; exact hs)
      | (have hs := lp_likeCases1 hi hc hn (j + 1) (by omega) _ (s.t s3); rw [cn_n (p := fun j => LK m i j ∧ 0 < ov m L j) (fun q => absurd c31 (Int32.not_le.mpr q.2))] at hs; exact hs)
      | (have hs := lp_likeCases1 hi hc hn (j + 1) (by omega) _ s; rw [cn_n (p := fun j => LK m i j ∧ 0 < ov m L j) (fun q => c18 q.1)] at hs; exact hs)
    · rw [bI_0] at c18
      refine hk_iload_n dX9_likeCases_21 rfl rfl ?_
      refine hk_if_eq (tgt := 34) dX9_likeCases_22 (by decide) (fun c22 => absurd c22 (by decide)) (fun _ => ?_)
      refine hk_aload_n dX9_likeCases_25 rfl rfl ?_
      refine hk_iload dX9_likeCases_26 rfl ?_
      refine ivX9_268 rfl (ct_overpaid (hi.k s) (hc.k s) (show j < nP by omega)) dX9_likeCases_28 (hk_lt (by decide)) rfl rfl rfl (by decide) ⟨by decide, by decide⟩ (Nat.le_of_ble_eq_true rfl) (fun r h1 hq => ?_)
      obtain ⟨m3, rfl, rfl, s3⟩ := hq
      rw [s.ovk]
      refine hk_if_le (tgt := 37) dX9_likeCases_31 (by decide) (fun c31 => ?_) (fun c31 => ?_)
      · refine hk_iinc (v := nI (j + 1)) dX9_likeCases_37 rfl (nI_1 j) (by decide) rfl ?_
        refine hk_goto (tgt := 5) dX9_likeCases_40 (by decide) ?_
        have hlt : j < i := by omega
        first
        | (have hs := lp_likeCases1 hi hc hn (j + 1) (by omega) _ (s.t s3); rw [cn_y (p := fun j => LK m i j ∧ 0 < ov m L j) ⟨Classical.not_not.mp c18, Int32.not_le.mp c31⟩] at hs; exact hs)
        | (have hs := lp_likeCases1 hi hc hn (j + 1) (by omega) _ (s.t s3); rw [cn_n (p := fun j => LK m i j ∧ 0 < ov m L j) (fun q => absurd c31 (Int32.not_le.mpr q.2))] at hs; exact hs)
        | (have hs := lp_likeCases1 hi hc hn (j + 1) (by omega) _ s; rw [cn_n (p := fun j => LK m i j ∧ 0 < ov m L j) (fun q => c18 q.1)] at hs; exact hs)
      · refine hk_iinc (v := nI (cn (fun j => LK m i j ∧ 0 < ov m L j) j + 1)) dX9_likeCases_34 rfl (nI_1 _) (by decide) rfl ?_
        refine hk_iinc (v := nI (j + 1)) dX9_likeCases_37 rfl (nI_1 j) (by decide) rfl ?_
        refine hk_goto (tgt := 5) dX9_likeCases_40 (by decide) ?_
        have hlt : j < i := by omega
        first
        | (have hs := lp_likeCases1 hi hc hn (j + 1) (by omega) _ (s.t s3); rw [cn_y (p := fun j => LK m i j ∧ 0 < ov m L j) ⟨Classical.not_not.mp c18, Int32.not_le.mp c31⟩] at hs; exact hs)
        | (have hs := lp_likeCases1 hi hc hn (j + 1) (by omega) _ (s.t s3); rw [cn_n (p := fun j => LK m i j ∧ 0 < ov m L j) (fun q => absurd c31 (Int32.not_le.mpr q.2))] at hs; exact hs)
        | (have hs := lp_likeCases1 hi hc hn (j + 1) (by omega) _ s; rw [cn_n (p := fun j => LK m i j ∧ 0 < ov m L j) (fun q => c18 q.1)] at hs; exact hs)
termination_by i - j
decreasing_by all_goals omega
set_option maxRecDepth 20000 in
set_option maxHeartbeats 2000000 in
theorem ct_likeCases1 (hi : LI m L nT) (hc : LC m nP nT) {i : Nat} (hn : i < nP) : hk_Ct MX9_likeCases 5 0 0 [.ref 0, .int (nI i), .int 1] (hk_h L m) (fun r h => ∃ m2, r = some (.int (nI (cn (fun j => LK m i j ∧ 0 < ov m L j) i))) ∧ h = hk_h L m2 ∧ CF m m2) := by
  refine hk_ofWP (by decide) (by simp [Value.category]) (Nat.le_of_ble_eq_true rfl) ?_
  show hk_WP _ _ _ _ _ _ _ [some (.ref 0), some (.int (nI i)), some (.int 1), none, none] [] _ _
  refine hk_iconst (v := 0) dX9_likeCases_0 (by decide) ?_
  refine hk_istore_n dX9_likeCases_1 rfl (by decide) rfl ?_
  refine hk_iconst (v := 0) dX9_likeCases_2 (by decide) ?_
  refine hk_istore dX9_likeCases_3 (by decide) rfl ?_
  exact lp_likeCases1 hi hc hn 0 (Nat.zero_le _) m CF.refl
set_option maxRecDepth 20000 in
set_option maxHeartbeats 2000000 in
theorem lp_latest (hi : LI m L nT) (hc : LC m nP nT) {i : Nat} (hn : i < nP) (j : Nat) (hj : j ≤ i) (hno : la (LK m i) i = la (LK m i) j) : hk_WP MX9_latestLikeCase 5 0 0 0 0 4 [some (.ref 0), some (.int (nI i)), some (.int (nI j - 1))] [] (hk_h L m) (fun r h' => r = some (.int (fo (-1) (la (LK m i) i))) ∧ h' = hk_h L m) := by
  have hP := hc.2.1
  refine hk_iload_n dX9_latestLikeCase_4 rfl rfl ?_
  refine hk_if_lt (tgt := 25) dX9_latestLikeCase_5 (by decide) (fun c5 => ?_) (fun c5 => ?_)
  · rw [nIm (by omega)] at c5
    refine hk_iconst (v := (-1)) dX9_latestLikeCase_25 (by decide) ?_
    exact hk_ireturn dX9_latestLikeCase_26 rfl rfl (by decide) ⟨by rw [hno, c5]; rfl, rfl⟩
  · rw [nIm (by omega)] at c5
    obtain ⟨q, rfl⟩ : ∃ q, j = q + 1 := ⟨j - 1, by omega⟩
    rw [nI_pred]
    refine hk_aload_n dX9_latestLikeCase_8 rfl rfl ?_
    refine hk_iload_n dX9_latestLikeCase_9 rfl rfl ?_
    refine hk_iload_n dX9_latestLikeCase_10 rfl rfl ?_
    refine ivX9_371 rfl (ct_isLike hi hc hn (show q < nP by omega)) dX9_latestLikeCase_11 (hk_lt (by decide)) rfl rfl rfl (by decide) ⟨by decide, by decide⟩ (Nat.le_of_ble_eq_true rfl) (hk_kd ?_)
    refine hk_if_eq (tgt := 19) dX9_latestLikeCase_14 (by decide) (fun c14 => ?_) (fun c14 => ?_)
    · rw [bI_0] at c14
      refine hk_iinc (v := nI q - 1) dX9_latestLikeCase_19 rfl (by rw [show Int32.ofInt (-1) = -1 from rfl, ← Int32.sub_eq_add_neg]) (by decide) rfl ?_
      refine hk_goto (tgt := 4) dX9_latestLikeCase_22 (by decide) ?_
      exact lp_latest hi hc hn q (by omega) (by rw [hno]; exact la_n c14)
    · rw [bI_0] at c14
      refine hk_iload_n dX9_latestLikeCase_17 rfl rfl ?_
      exact hk_ireturn dX9_latestLikeCase_18 rfl rfl (by decide) ⟨by rw [hno, la_y (p := LK m i) (Classical.not_not.mp c14)]; rfl, rfl⟩
termination_by j
decreasing_by all_goals omega
set_option maxRecDepth 20000 in
set_option maxHeartbeats 2000000 in
theorem ct_latest (hi : LI m L nT) (hc : LC m nP nT) {i : Nat} (hn : i < nP) : hk_Cd MX9_latestLikeCase 5 0 0 [.ref 0, .int (nI i)] (hk_h L m) (some (.int (fo (-1) (la (LK m i) i)))) (hk_h L m) := by
  refine hk_ofWP (by decide) (by simp [Value.category]) (Nat.le_of_ble_eq_true rfl) ?_
  show hk_WP _ _ _ _ _ _ _ [some (.ref 0), some (.int (nI i)), none] [] _ _
  refine hk_iload_n dX9_latestLikeCase_0 rfl rfl ?_
  refine hk_iconst (v := 1) dX9_latestLikeCase_1 (by decide) ?_
  refine hk_isub dX9_latestLikeCase_2 ?_
  refine hk_istore_n dX9_latestLikeCase_3 rfl (by decide) rfl ?_
  exact lp_latest hi hc hn i (Nat.le_refl _) rfl
noncomputable def jv (m : Nat → Nat → Int32) (L i : Nat) (w : Int32) : Int32 := if w = 0 then m 90 i else if w = 1 then m 91 i else if w = 2 then ov m L i else if w = 3 then nI (cn (LK m i) i) else if w = 4 then fo (-1) (la (LK m i) i) else if w = 5 then nI (cn (fun j => LK m i j ∧ 0 < ov m L j) i) else -9
set_option maxRecDepth 20000 in
set_option maxHeartbeats 2000000 in
theorem ct_judged (hi : LI m L nT) (hc : LC m nP nT) {i : Nat} (hn : i < nP) (w : Int32) : hk_Ct MX9_judged 6 0 0 [.ref 0, .int (nI i), .int w] (hk_h L m) (fun r h => ∃ m1, r = some (.int (jv m L i w)) ∧ h = hk_h L m1 ∧ SCR m m1) := by
  obtain ⟨e1, e2, e3, e4⟩ := hc.g hi.2.2.2.2.1 hn
  obtain ⟨h1, h2, h3, h4, h5, h6⟩ := id hi
  have g3 := (NTC_R h6 e3).2
  refine hk_ofWP (by decide) (by simp [Value.category]) (Nat.le_of_ble_eq_true rfl) ?_
  show hk_WP _ _ _ _ _ _ _ [some (.ref 0), some (.int (nI i)), some (.int w)] [] _ _
  refine hk_aload_n dX9_judged_0 rfl rfl ?_
  refine gfX9_44 rfl dX9_judged_1 (hk_lt (by decide)) rfl rfl ?_
  refine gfX9_265 rfl dX9_judged_4 (hk_lt (by decide)) rfl rfl ?_
  refine hk_iload_n dX9_judged_7 rfl rfl ?_
  refine ivX9_71 rfl (ct_has tb30 hc.2.1 hc.1 _) dX9_judged_8 (hk_lt (by decide)) rfl rfl rfl (by decide) ⟨by decide, by decide⟩ (Nat.le_of_ble_eq_true rfl) (hk_kd ?_)
  refine hk_if_ne (tgt := 17) dX9_judged_11 (by decide) (fun _ => ?_) (fun c11 => absurd c11 (fun e => bI_0.mp e (inR_nI hn (by have := hc.2.1; omega))))
  refine hk_iload_n dX9_judged_17 rfl rfl ?_
  by_cases e0 : w = 0
  · subst e0
    refine hk_tableIn (tgt := 56) dX9_judged_18 (by decide) (by decide) rfl (by decide) ?_
    refine hk_aload_n dX9_judged_56 rfl rfl ?_
    refine gfX9_44 rfl dX9_judged_57 (hk_lt (by decide)) rfl rfl ?_
    refine gfX9_265 rfl dX9_judged_60 (hk_lt (by decide)) rfl rfl ?_
    refine hk_iload_n dX9_judged_63 rfl rfl ?_
    refine hk_iconst (v := 0) dX9_judged_64 (by decide) ?_
    refine ivX9_124 rfl (ct_geti tb30 hc.2.1 hc.1 rfl hn (by decide)) dX9_judged_65 (hk_lt (by decide)) rfl rfl rfl (by decide) ⟨by decide, by decide⟩ (Nat.le_of_ble_eq_true rfl) (hk_kd ?_)
    exact hk_ireturn dX9_judged_68 rfl rfl (by decide) ⟨m, by rw [e1, ← e4]; rfl, rfl, SCR.refl⟩
  by_cases e1 : w = 1
  · subst e1
    refine hk_tableIn (tgt := 69) dX9_judged_18 (by decide) (by decide) rfl (by decide) ?_
    refine hk_aload_n dX9_judged_69 rfl rfl ?_
    refine gfX9_44 rfl dX9_judged_70 (hk_lt (by decide)) rfl rfl ?_
    refine gfX9_265 rfl dX9_judged_73 (hk_lt (by decide)) rfl rfl ?_
    refine hk_iload_n dX9_judged_76 rfl rfl ?_
    refine hk_iconst (v := 1) dX9_judged_77 (by decide) ?_
    refine ivX9_124 rfl (ct_geti tb30 hc.2.1 hc.1 rfl hn (by decide)) dX9_judged_78 (hk_lt (by decide)) rfl rfl rfl (by decide) ⟨by decide, by decide⟩ (Nat.le_of_ble_eq_true rfl) (hk_kd ?_)
    exact hk_ireturn dX9_judged_81 rfl rfl (by decide) ⟨m, by rw [e2]; rfl, rfl, SCR.refl⟩
  by_cases e2 : w = 2
  · subst e2
    refine hk_tableIn (tgt := 82) dX9_judged_18 (by decide) (by decide) rfl (by decide) ?_
    refine hk_aload_n dX9_judged_82 rfl rfl ?_
    refine hk_iload_n dX9_judged_83 rfl rfl ?_
    refine ivX9_268 rfl (ct_overpaid hi hc hn) dX9_judged_84 (hk_lt (by decide)) rfl rfl rfl (by decide) ⟨by decide, by decide⟩ (Nat.le_of_ble_eq_true rfl) (fun r h1 hq => ?_)
    obtain ⟨m3, rfl, rfl, s3⟩ := hq
    exact hk_ireturn dX9_judged_87 rfl rfl (by decide) ⟨m3, rfl, rfl, s3.scr⟩
  by_cases e3 : w = 3
  · subst e3
    refine hk_tableIn (tgt := 88) dX9_judged_18 (by decide) (by decide) rfl (by decide) ?_
    refine hk_aload_n dX9_judged_88 rfl rfl ?_
    refine hk_iload_n dX9_judged_89 rfl rfl ?_
    refine hk_iconst (v := 0) dX9_judged_90 (by decide) ?_
    refine ivX9_271 rfl (ct_likeCases0 hi hc hn) dX9_judged_91 (hk_lt (by decide)) rfl rfl rfl (by decide) ⟨by decide, by decide⟩ (Nat.le_of_ble_eq_true rfl) (hk_kd ?_)
    exact hk_ireturn dX9_judged_94 rfl rfl (by decide) ⟨m, rfl, rfl, SCR.refl⟩
  by_cases e4 : w = 4
  · subst e4
    refine hk_tableIn (tgt := 95) dX9_judged_18 (by decide) (by decide) rfl (by decide) ?_
    refine hk_aload_n dX9_judged_95 rfl rfl ?_
    refine hk_iload_n dX9_judged_96 rfl rfl ?_
    refine ivX9_275 rfl (ct_latest hi hc hn) dX9_judged_97 (hk_lt (by decide)) rfl rfl rfl (by decide) ⟨by decide, by decide⟩ (Nat.le_of_ble_eq_true rfl) (hk_kd ?_)
    exact hk_ireturn dX9_judged_100 rfl rfl (by decide) ⟨m, rfl, rfl, SCR.refl⟩
  by_cases e5 : w = 5
  · subst e5
    refine hk_tableIn (tgt := 101) dX9_judged_18 (by decide) (by decide) rfl (by decide) ?_
    refine hk_aload_n dX9_judged_101 rfl rfl ?_
    refine hk_iload_n dX9_judged_102 rfl rfl ?_
    refine hk_iconst (v := 1) dX9_judged_103 (by decide) ?_
    refine ivX9_271 rfl (ct_likeCases1 hi hc hn) dX9_judged_104 (hk_lt (by decide)) rfl rfl rfl (by decide) ⟨by decide, by decide⟩ (Nat.le_of_ble_eq_true rfl) (fun r h1 hq => ?_)
    obtain ⟨m3, rfl, rfl, s3⟩ := hq
    exact hk_ireturn dX9_judged_107 rfl rfl (by decide) ⟨m3, rfl, rfl, s3.scr⟩
  refine hk_tableOut (tgt := 108) dX9_judged_18 (hk_out0_5 e0 e1 e2 e3 e4 e5) (by decide) ?_
  refine hk_bipush (v := (-9)) dX9_judged_108 (by decide) ?_
  exact hk_ireturn dX9_judged_110 rfl rfl (by decide) ⟨m, by unfold jv; rw [if_neg e0, if_neg e1, if_neg e2, if_neg e3, if_neg e4, if_neg e5], rfl, SCR.refl⟩
set_option maxRecDepth 20000 in
set_option maxHeartbeats 2000000 in
theorem ct_judged_no (hc : LC m nP nT) (i : Int32) (hn : ¬ inR i nP) (w : Int32) : hk_Cd MX9_judged 6 0 0 [.ref 0, .int i, .int w] (hk_h L m) (some (.int (-9))) (hk_h L m) := by
  refine hk_ofWP (by decide) (by simp [Value.category]) (Nat.le_of_ble_eq_true rfl) ?_
  show hk_WP _ _ _ _ _ _ _ [some (.ref 0), some (.int i), some (.int w)] [] _ _
  refine hk_aload_n dX9_judged_0 rfl rfl ?_
  refine gfX9_44 rfl dX9_judged_1 (hk_lt (by decide)) rfl rfl ?_
  refine gfX9_265 rfl dX9_judged_4 (hk_lt (by decide)) rfl rfl ?_
  refine hk_iload_n dX9_judged_7 rfl rfl ?_
  refine ivX9_71 rfl (ct_has tb30 hc.2.1 hc.1 _) dX9_judged_8 (hk_lt (by decide)) rfl rfl rfl (by decide) ⟨by decide, by decide⟩ (Nat.le_of_ble_eq_true rfl) (hk_kd ?_)
  refine hk_if_ne (tgt := 17) dX9_judged_11 (by decide) (fun c11 => absurd (bI_0.mpr hn) c11) (fun _ => ?_)
  refine hk_bipush (v := (-9)) dX9_judged_14 (by decide) ?_
  exact hk_ireturn dX9_judged_16 rfl rfl (by decide) ⟨rfl, rfl⟩
set_option maxRecDepth 20000 in
set_option maxHeartbeats 2000000 in
theorem md_over (hi : LM m L nT) (hc : LC m nP nT) {i : Nat} (hn : i < nP) : hk_Ct MX10_over 71 0 0 [.ref 37, .int (nI i)] (hk_h L m) (fun r h => ∃ m1, r = some (.int (ov m L i)) ∧ h = hk_h L m1 ∧ SF m m1) := by
  obtain ⟨e1, e2, e3, e4⟩ := hc.g hi.2.2.2.2.1 hn
  obtain ⟨h1, h2, h3, h4, h5, h6⟩ := id hi
  have hP := hc.2.1
  refine hk_ofWP (by decide) (by simp [Value.category]) (Nat.le_of_ble_eq_true rfl) ?_
  show hk_WP _ _ _ _ _ _ _ [some (.ref 37), some (.int (nI i)), none, none, none] [] _ _
  refine hk_aload_n dX10_over_0 rfl rfl ?_
  refine gfX10_167 rfl dX10_over_1 (hk_lt (by decide)) rfl rfl ?_
  refine hk_iload_n dX10_over_4 rfl rfl ?_
  refine hk_ian dX10_over_5 (by decide) (fun _ => rfl) rfl (by omega) (by decide) ?_
  rw [e4]
  refine hk_istore_n dX10_over_6 rfl (by decide) rfl ?_
  refine hk_aload_n dX10_over_7 rfl rfl ?_
  refine hk_iload_n dX10_over_8 rfl rfl ?_
  refine hk_aload_n dX10_over_9 rfl rfl ?_
  refine gfX10_124 rfl dX10_over_10 (hk_lt (by decide)) rfl rfl ?_
  refine hk_iload_n dX10_over_13 rfl rfl ?_
  refine hk_ian dX10_over_14 (by decide) (fun _ => rfl) rfl (show tr m i < 300 by omega) (by decide) ?_
  refine hk_sipush (v := 1440) dX10_over_15 (by decide) ?_
  refine hk_idiv dX10_over_18 (by decide) ?_
  refine ivX10_290 rfl (md_due1 hi e3 _) dX10_over_19 (hk_lt (by decide)) rfl rfl rfl (by decide) ⟨by decide, by decide⟩ (Nat.le_of_ble_eq_true rfl) (fun r h1 hq => ?_)
  obtain ⟨m3, rfl, rfl, s3, s4⟩ := hq
  refine hk_istore_n dX10_over_22 rfl (by decide) rfl ?_
  refine hk_aload_n dX10_over_23 rfl rfl ?_
  refine gfX10_170 rfl dX10_over_24 (hk_lt (by decide)) rfl rfl ?_
  refine hk_iload_n dX10_over_27 rfl rfl ?_
  refine hk_ian dX10_over_28 (by decide) (fun _ => rfl) rfl (by omega) (by decide) ?_
  rw [s3.1 91 (by decide) (by decide)]
  refine hk_iload_n dX10_over_29 rfl rfl ?_
  refine hk_if_ge (tgt := 37) dX10_over_30 (by decide) (fun c30 => ?_) (fun c30 => ?_)
  · refine hk_iload_n dX10_over_37 rfl rfl ?_
    refine hk_isub dX10_over_38 ?_
    refine hk_istore dX10_over_39 (by decide) rfl ?_
    refine hk_iload dX10_over_41 rfl ?_
    refine hk_if_ge (tgt := 50) dX10_over_43 (by decide) (fun c43 => ?_) (fun c43 => ?_)
    · refine hk_iload dX10_over_50 rfl ?_
      exact hk_ireturn dX10_over_52 rfl rfl (by decide) ⟨m3, by
        have ez := nnI (dv m L (tr m i) (m 76 (tr m i) / 1440))
        have ez2 : ov m L i = _ := nnI (m 91 i - nI (dz m L (tr m i) (m 76 (tr m i) / 1440)))
        unfold dz at ez2
        first
        | rw [if_pos (Int32.not_le.mp c30)] at ez
        | rw [if_neg (Int32.not_lt.mpr c30)] at ez
        rw [ez] at ez2
        rw [ez2]
        first
        | rw [if_pos (Int32.not_le.mp c43)]
        | rw [if_neg (Int32.not_lt.mpr c43)], rfl, s3⟩
    · refine hk_iconst (v := 0) dX10_over_46 (by decide) ?_
      refine hk_goto (tgt := 52) dX10_over_47 (by decide) ?_
      exact hk_ireturn dX10_over_52 rfl rfl (by decide) ⟨m3, by
        have ez := nnI (dv m L (tr m i) (m 76 (tr m i) / 1440))
        have ez2 : ov m L i = _ := nnI (m 91 i - nI (dz m L (tr m i) (m 76 (tr m i) / 1440)))
        unfold dz at ez2
        first
        | rw [if_pos (Int32.not_le.mp c30)] at ez
        | rw [if_neg (Int32.not_lt.mpr c30)] at ez
        rw [ez] at ez2
        rw [ez2]
        first
        | rw [if_pos (Int32.not_le.mp c43)]
        | rw [if_neg (Int32.not_lt.mpr c43)], rfl, s3⟩
  · refine hk_iconst (v := 0) dX10_over_33 (by decide) ?_
    refine hk_goto (tgt := 38) dX10_over_34 (by decide) ?_
    refine hk_isub dX10_over_38 ?_
    refine hk_istore dX10_over_39 (by decide) rfl ?_
    refine hk_iload dX10_over_41 rfl ?_
    refine hk_if_ge (tgt := 50) dX10_over_43 (by decide) (fun c43 => ?_) (fun c43 => ?_)
    · refine hk_iload dX10_over_50 rfl ?_
      exact hk_ireturn dX10_over_52 rfl rfl (by decide) ⟨m3, by
        have ez := nnI (dv m L (tr m i) (m 76 (tr m i) / 1440))
        have ez2 : ov m L i = _ := nnI (m 91 i - nI (dz m L (tr m i) (m 76 (tr m i) / 1440)))
        unfold dz at ez2
        first
        | rw [if_pos (Int32.not_le.mp c30)] at ez
        | rw [if_neg (Int32.not_lt.mpr c30)] at ez
        rw [ez] at ez2
        rw [ez2]
        first
        | rw [if_pos (Int32.not_le.mp c43)]
        | rw [if_neg (Int32.not_lt.mpr c43)], rfl, s3⟩
    · refine hk_iconst (v := 0) dX10_over_46 (by decide) ?_
      refine hk_goto (tgt := 52) dX10_over_47 (by decide) ?_
      exact hk_ireturn dX10_over_52 rfl rfl (by decide) ⟨m3, by
        have ez := nnI (dv m L (tr m i) (m 76 (tr m i) / 1440))
        have ez2 : ov m L i = _ := nnI (m 91 i - nI (dz m L (tr m i) (m 76 (tr m i) / 1440)))
        unfold dz at ez2
        first
        | rw [if_pos (Int32.not_le.mp c30)] at ez
        | rw [if_neg (Int32.not_lt.mpr c30)] at ez
        rw [ez] at ez2
        rw [ez2]
        first
        | rw [if_pos (Int32.not_le.mp c43)]
        | rw [if_neg (Int32.not_lt.mpr c43)], rfl, s3⟩
set_option maxRecDepth 20000 in
set_option maxHeartbeats 2000000 in
theorem md_areLike (hT : nT ≤ 300) (hc : LC m nP nT) {i j : Nat} (hn : i < nP) (hn2 : j < nP) : hk_Cd MX10_areLike 0 0 0 [.ref 37, .int (nI i), .int (nI j)] (hk_h L m) (some (.int (bI (LK m i j)))) (hk_h L m) := by
  obtain ⟨e1, e2, e3, e4⟩ := hc.g hT hn
  obtain ⟨d1, d2, d3, d4⟩ := hc.g hT hn2
  have hP := hc.2.1
  refine hk_ofWP (by decide) (by simp [Value.category]) (Nat.le_of_ble_eq_true rfl) ?_
  show hk_WP _ _ _ _ _ _ _ [some (.ref 37), some (.int (nI i)), some (.int (nI j)), none, none] [] _ _
  refine hk_aload_n dX10_areLike_0 rfl rfl ?_
  refine gfX10_167 rfl dX10_areLike_1 (hk_lt (by decide)) rfl rfl ?_
  refine hk_iload_n dX10_areLike_4 rfl rfl ?_
  refine hk_ian dX10_areLike_5 (by decide) (fun _ => rfl) rfl (by omega) (by decide) ?_
  rw [e4]
  refine hk_istore_n dX10_areLike_6 rfl (by decide) rfl ?_
  refine hk_aload_n dX10_areLike_7 rfl rfl ?_
  refine gfX10_167 rfl dX10_areLike_8 (hk_lt (by decide)) rfl rfl ?_
  refine hk_iload_n dX10_areLike_11 rfl rfl ?_
  refine hk_ian dX10_areLike_12 (by decide) (fun _ => rfl) rfl (by omega) (by decide) ?_
  rw [d4]
  refine hk_istore dX10_areLike_13 (by decide) rfl ?_
  refine hk_aload_n dX10_areLike_15 rfl rfl ?_
  refine gfX10_133 rfl dX10_areLike_16 (hk_lt (by decide)) rfl rfl ?_
  refine hk_iload_n dX10_areLike_19 rfl rfl ?_
  refine hk_ian dX10_areLike_20 (by decide) (fun _ => rfl) rfl (show tr m i < 300 by omega) (by decide) ?_
  refine hk_sipush (v := 1000) dX10_areLike_21 (by decide) ?_
  refine hk_idiv dX10_areLike_24 (by decide) ?_
  refine hk_aload_n dX10_areLike_25 rfl rfl ?_
  refine gfX10_133 rfl dX10_areLike_26 (hk_lt (by decide)) rfl rfl ?_
  refine hk_iload dX10_areLike_29 rfl ?_
  refine hk_ian dX10_areLike_31 (by decide) (fun _ => rfl) rfl (show tr m j < 300 by omega) (by decide) ?_
  refine hk_sipush (v := 1000) dX10_areLike_32 (by decide) ?_
  refine hk_idiv dX10_areLike_35 (by decide) ?_
  refine hk_icmp_ne (tgt := 105) dX10_areLike_36 (by decide) (fun c36 => ?_) (fun c36 => ?_)
  · refine hk_iconst (v := 0) dX10_areLike_105 (by decide) ?_
    exact hk_ireturn dX10_areLike_106 rfl rfl (by decide) ⟨by first | exact bI_r1 ⟨c52, c98, c36, c82⟩ | exact bI_r0 (fun q => c52 q.1) | exact bI_r0 (fun q => c98 q.2.1) | exact bI_r0 (fun q => c36 q.2.2.1) | exact bI_r0 (fun q => c82 q.2.2.2), rfl⟩
  · refine hk_aload_n dX10_areLike_39 rfl rfl ?_
    refine gfX10_148 rfl dX10_areLike_40 (hk_lt (by decide)) rfl rfl ?_
    refine hk_iload_n dX10_areLike_43 rfl rfl ?_
    refine hk_zan dX10_areLike_44 (by decide) (fun _ => rfl) rfl (show tr m i < 300 by omega) (by decide) ?_
    refine hk_aload_n dX10_areLike_45 rfl rfl ?_
    refine gfX10_148 rfl dX10_areLike_46 (hk_lt (by decide)) rfl rfl ?_
    refine hk_iload dX10_areLike_49 rfl ?_
    refine hk_zan dX10_areLike_51 (by decide) (fun _ => rfl) rfl (show tr m j < 300 by omega) (by decide) ?_
    refine hk_icmp_ne (tgt := 105) dX10_areLike_52 (by decide) (fun c52 => ?_) (fun c52 => ?_)
    · refine hk_iconst (v := 0) dX10_areLike_105 (by decide) ?_
      exact hk_ireturn dX10_areLike_106 rfl rfl (by decide) ⟨by first | exact bI_r1 ⟨c52, c98, c36, c82⟩ | exact bI_r0 (fun q => c52 q.1) | exact bI_r0 (fun q => c98 q.2.1) | exact bI_r0 (fun q => c36 q.2.2.1) | exact bI_r0 (fun q => c82 q.2.2.2), rfl⟩
    · refine hk_aload_n dX10_areLike_55 rfl rfl ?_
      refine gfX10_124 rfl dX10_areLike_56 (hk_lt (by decide)) rfl rfl ?_
      refine hk_iload_n dX10_areLike_59 rfl rfl ?_
      refine hk_ian dX10_areLike_60 (by decide) (fun _ => rfl) rfl (show tr m i < 300 by omega) (by decide) ?_
      refine hk_sipush (v := 1440) dX10_areLike_61 (by decide) ?_
      refine hk_idiv dX10_areLike_64 (by decide) ?_
      refine hk_bipush (v := 7) dX10_areLike_65 (by decide) ?_
      refine hk_irem dX10_areLike_67 (by decide) ?_
      refine hk_aload_n dX10_areLike_68 rfl rfl ?_
      refine gfX10_124 rfl dX10_areLike_69 (hk_lt (by decide)) rfl rfl ?_
      refine hk_iload dX10_areLike_72 rfl ?_
      refine hk_ian dX10_areLike_74 (by decide) (fun _ => rfl) rfl (show tr m j < 300 by omega) (by decide) ?_
      refine hk_sipush (v := 1440) dX10_areLike_75 (by decide) ?_
      refine hk_idiv dX10_areLike_78 (by decide) ?_
      refine hk_bipush (v := 7) dX10_areLike_79 (by decide) ?_
      refine hk_irem dX10_areLike_81 (by decide) ?_
      refine hk_icmp_ne (tgt := 105) dX10_areLike_82 (by decide) (fun c82 => ?_) (fun c82 => ?_)
      · refine hk_iconst (v := 0) dX10_areLike_105 (by decide) ?_
        exact hk_ireturn dX10_areLike_106 rfl rfl (by decide) ⟨by first | exact bI_r1 ⟨c52, c98, c36, c82⟩ | exact bI_r0 (fun q => c52 q.1) | exact bI_r0 (fun q => c98 q.2.1) | exact bI_r0 (fun q => c36 q.2.2.1) | exact bI_r0 (fun q => c82 q.2.2.2), rfl⟩
      · refine hk_aload_n dX10_areLike_85 rfl rfl ?_
        refine gfX10_139 rfl dX10_areLike_86 (hk_lt (by decide)) rfl rfl ?_
        refine hk_iload_n dX10_areLike_89 rfl rfl ?_
        refine hk_ian dX10_areLike_90 (by decide) (fun _ => rfl) rfl (show tr m i < 300 by omega) (by decide) ?_
        refine hk_aload_n dX10_areLike_91 rfl rfl ?_
        refine gfX10_139 rfl dX10_areLike_92 (hk_lt (by decide)) rfl rfl ?_
        refine hk_iload dX10_areLike_95 rfl ?_
        refine hk_ian dX10_areLike_97 (by decide) (fun _ => rfl) rfl (show tr m j < 300 by omega) (by decide) ?_
        refine hk_icmp_ne (tgt := 105) dX10_areLike_98 (by decide) (fun c98 => ?_) (fun c98 => ?_)
        · refine hk_iconst (v := 0) dX10_areLike_105 (by decide) ?_
          exact hk_ireturn dX10_areLike_106 rfl rfl (by decide) ⟨by first | exact bI_r1 ⟨c52, c98, c36, c82⟩ | exact bI_r0 (fun q => c52 q.1) | exact bI_r0 (fun q => c98 q.2.1) | exact bI_r0 (fun q => c36 q.2.2.1) | exact bI_r0 (fun q => c82 q.2.2.2), rfl⟩
        · refine hk_iconst (v := 1) dX10_areLike_101 (by decide) ?_
          refine hk_goto (tgt := 106) dX10_areLike_102 (by decide) ?_
          exact hk_ireturn dX10_areLike_106 rfl rfl (by decide) ⟨by first | exact bI_r1 ⟨c52, c98, c36, c82⟩ | exact bI_r0 (fun q => c52 q.1) | exact bI_r0 (fun q => c98 q.2.1) | exact bI_r0 (fun q => c36 q.2.2.1) | exact bI_r0 (fun q => c82 q.2.2.2), rfl⟩
theorem SF.ovk (s : SF m m1) {i : Nat} : ov m1 L i = ov m L i := s.scr.ovk.1
theorem SF.lk (s : SF m m1) : LK m1 = LK m := s.scr.lk
theorem LC.s (h : LC m nP nT) (s : SCR m m1) : LC m1 nP nT := by
  unfold LC
  rw [s.a (a := 30) (by decide), s.a (a := 31) (by decide), s.a (a := 90) (by decide), s.a (a := 91) (by decide)]
  exact h
set_option maxRecDepth 20000 in
set_option maxHeartbeats 2000000 in
theorem lp_judged (hi : LM m L nT) (hc : LC m nP nT) (hP : m 37 68 = nI nP) {i : Nat} (hn : i < nP) (w : Int32) (hw : ¬ w < 0 ∧ ¬ 5 < w) (j : Nat) (hj : j ≤ i) (m1 : Nat → Nat → Int32) (s : SF m m1) : hk_WP MX10_judged 72 0 0 0 0 35 [some (.ref 37), some (.int (nI i)), some (.int w), some (.int (nI (cn (LK m i) j))), some (.int (fo (-1) (la (LK m i) j))), some (.int (nI (cn (fun j => LK m i j ∧ 0 < ov m L j) j))), some (.int (nI j))] [] (hk_h L m1) (fun r h => ∃ m1, r = some (.int (jv m L i w)) ∧ h = hk_h L m1 ∧ SCR m m1) := by
  have hP3 := hc.2.1
  have hc1 := hc.s s.scr
  obtain ⟨e1, e2, e3, e4⟩ := hc.g hi.2.2.2.2.1 hn
  refine hk_iload dX10_judged_35 rfl ?_
  refine hk_iload_n dX10_judged_37 rfl rfl ?_
  refine hk_icmp_ge (tgt := 83) dX10_judged_38 (by decide) (fun c38 => ?_) (fun c38 => ?_)
  · rw [nI_leI (by omega) (by omega)] at c38
    have hji : j = i := by omega
    subst hji
    refine hk_iload_n dX10_judged_83 rfl rfl ?_
    by_cases e0 : w = 0
    · subst e0
      refine hk_tableIn (tgt := 120) dX10_judged_84 (by decide) (by decide) rfl (by decide) ?_
      refine hk_aload_n dX10_judged_120 rfl rfl ?_
      refine gfX10_167 rfl dX10_judged_121 (hk_lt (by decide)) rfl rfl ?_
      refine hk_iload_n dX10_judged_124 rfl rfl ?_
      refine hk_ian dX10_judged_125 (by decide) (fun _ => rfl) rfl (by omega) (by decide) ?_
      exact hk_ireturn dX10_judged_126 rfl rfl (by decide) ⟨m1, by rw [s.1 90 (by decide) (by decide)]; rfl, rfl, s.scr⟩
    by_cases e1 : w = 1
    · subst e1
      refine hk_tableIn (tgt := 127) dX10_judged_84 (by decide) (by decide) rfl (by decide) ?_
      refine hk_aload_n dX10_judged_127 rfl rfl ?_
      refine gfX10_170 rfl dX10_judged_128 (hk_lt (by decide)) rfl rfl ?_
      refine hk_iload_n dX10_judged_131 rfl rfl ?_
      refine hk_ian dX10_judged_132 (by decide) (fun _ => rfl) rfl (by omega) (by decide) ?_
      exact hk_ireturn dX10_judged_133 rfl rfl (by decide) ⟨m1, by rw [s.1 91 (by decide) (by decide)]; rfl, rfl, s.scr⟩
    by_cases e2 : w = 2
    · subst e2
      refine hk_tableIn (tgt := 134) dX10_judged_84 (by decide) (by decide) rfl (by decide) ?_
      refine hk_aload_n dX10_judged_134 rfl rfl ?_
      refine hk_iload_n dX10_judged_135 rfl rfl ?_
      refine ivX10_398 rfl (md_over (hi.k s) hc1 hn) dX10_judged_136 (hk_lt (by decide)) rfl rfl rfl (by decide) ⟨by decide, by decide⟩ (Nat.le_of_ble_eq_true rfl) (fun r h1 hq => ?_)
      obtain ⟨m3, rfl, rfl, s3⟩ := hq
      rw [s.ovk]
      exact hk_ireturn dX10_judged_139 rfl rfl (by decide) ⟨m3, rfl, rfl, (s.t s3).scr⟩
    by_cases e3 : w = 3
    · subst e3
      refine hk_tableIn (tgt := 140) dX10_judged_84 (by decide) (by decide) rfl (by decide) ?_
      refine hk_iload_n dX10_judged_140 rfl rfl ?_
      exact hk_ireturn dX10_judged_141 rfl rfl (by decide) ⟨m1, rfl, rfl, s.scr⟩
    by_cases e4 : w = 4
    · subst e4
      refine hk_tableIn (tgt := 142) dX10_judged_84 (by decide) (by decide) rfl (by decide) ?_
      refine hk_iload dX10_judged_142 rfl ?_
      exact hk_ireturn dX10_judged_144 rfl rfl (by decide) ⟨m1, rfl, rfl, s.scr⟩
    refine hk_tableOut (tgt := 145) dX10_judged_84 (hk_out0_4 e0 e1 e2 e3 e4) (by decide) ?_
    refine hk_iload dX10_judged_145 rfl ?_
    exact hk_ireturn dX10_judged_147 rfl rfl (by decide) ⟨m1, by
        have h5 : w = 5 := by
          rw [i32_lt, i32_0, i32_lt, show (5 : Int32).toInt = 5 from rfl] at hw
          simp only [i32_eq, show (0 : Int32).toInt = 0 from rfl, show (1 : Int32).toInt = 1 from rfl, show (2 : Int32).toInt = 2 from rfl, show (3 : Int32).toInt = 3 from rfl, show (4 : Int32).toInt = 4 from rfl, show (5 : Int32).toInt = 5 from rfl] at e0 e1 e2 e3 e4 ⊢
          omega
        subst h5; rfl, rfl, s.scr⟩
  · rw [nI_leI (by omega) (by omega)] at c38
    refine hk_aload_n dX10_judged_41 rfl rfl ?_
    refine hk_iload_n dX10_judged_42 rfl rfl ?_
    refine hk_iload dX10_judged_43 rfl ?_
    refine ivX10_395 rfl (md_areLike hi.2.2.2.2.1 hc1 hn (show j < nP by omega)) dX10_judged_45 (hk_lt (by decide)) rfl rfl rfl (by decide) ⟨by decide, by decide⟩ (Nat.le_of_ble_eq_true rfl) (hk_kd ?_)
    rw [s.lk]
    refine hk_if_eq (tgt := 77) dX10_judged_48 (by decide) (fun c48 => ?_) (fun c48 => ?_)
    · rw [bI_0] at c48
      refine hk_iinc (v := nI (j + 1)) dX10_judged_77 rfl (nI_1 j) (by decide) rfl ?_
      refine hk_goto (tgt := 35) dX10_judged_80 (by decide) ?_
      have hlt : j < i := by omega
      first
      | (have hs := lp_judged hi hc hP hn w hw (j + 1) (by omega) _ (s.t s3)
         rw [cn_y (p := LK m i) (Classical.not_not.mp c48), la_y (p := LK m i) (Classical.not_not.mp c48), cn_y (p := fun j => LK m i j ∧ 0 < ov m L j) ⟨Classical.not_not.mp c48, Int32.not_le.mp c66⟩] at hs
         rw [nI_1]
         exact hs)
      | (have hs := lp_judged hi hc hP hn w hw (j + 1) (by omega) _ (s.t s3)
         rw [cn_y (p := LK m i) (Classical.not_not.mp c48), la_y (p := LK m i) (Classical.not_not.mp c48), cn_n (p := fun j => LK m i j ∧ 0 < ov m L j) (fun q => absurd c66 (Int32.not_le.mpr q.2))] at hs
         rw [Int32.add_zero]
         exact hs)
      | (have hs := lp_judged hi hc hP hn w hw (j + 1) (by omega) _ s
         rw [cn_n (p := LK m i) c48, la_n (p := LK m i) c48, cn_n (p := fun j => LK m i j ∧ 0 < ov m L j) (fun q => c48 q.1)] at hs
         exact hs)
    · rw [bI_0] at c48
      refine hk_iinc (v := nI (cn (LK m i) j + 1)) dX10_judged_51 rfl (nI_1 _) (by decide) rfl ?_
      refine hk_iload dX10_judged_54 rfl ?_
      refine hk_istore dX10_judged_56 (by decide) rfl ?_
      refine hk_iload dX10_judged_58 rfl ?_
      refine hk_aload_n dX10_judged_60 rfl rfl ?_
      refine hk_iload dX10_judged_61 rfl ?_
      refine ivX10_398 rfl (md_over (hi.k s) hc1 (show j < nP by omega)) dX10_judged_63 (hk_lt (by decide)) rfl rfl rfl (by decide) ⟨by decide, by decide⟩ (Nat.le_of_ble_eq_true rfl) (fun r h1 hq => ?_)
      obtain ⟨m3, rfl, rfl, s3⟩ := hq
      rw [s.ovk]
      refine hk_if_le (tgt := 73) dX10_judged_66 (by decide) (fun c66 => ?_) (fun c66 => ?_)
      · refine hk_iconst (v := 0) dX10_judged_73 (by decide) ?_
        refine hk_iadd dX10_judged_74 ?_
        refine hk_istore dX10_judged_75 (by decide) rfl ?_
        refine hk_iinc (v := nI (j + 1)) dX10_judged_77 rfl (nI_1 j) (by decide) rfl ?_
        refine hk_goto (tgt := 35) dX10_judged_80 (by decide) ?_
        have hlt : j < i := by omega
        first
        | (have hs := lp_judged hi hc hP hn w hw (j + 1) (by omega) _ (s.t s3)
           rw [cn_y (p := LK m i) (Classical.not_not.mp c48), la_y (p := LK m i) (Classical.not_not.mp c48), cn_y (p := fun j => LK m i j ∧ 0 < ov m L j) ⟨Classical.not_not.mp c48, Int32.not_le.mp c66⟩] at hs
           rw [nI_1]
           exact hs)
        | (have hs := lp_judged hi hc hP hn w hw (j + 1) (by omega) _ (s.t s3)
           rw [cn_y (p := LK m i) (Classical.not_not.mp c48), la_y (p := LK m i) (Classical.not_not.mp c48), cn_n (p := fun j => LK m i j ∧ 0 < ov m L j) (fun q => absurd c66 (Int32.not_le.mpr q.2))] at hs
           rw [Int32.add_zero]
           exact hs)
        | (have hs := lp_judged hi hc hP hn w hw (j + 1) (by omega) _ s
           rw [cn_n (p := LK m i) c48, la_n (p := LK m i) c48, cn_n (p := fun j => LK m i j ∧ 0 < ov m L j) (fun q => c48 q.1)] at hs
           exact hs)
      · refine hk_iconst (v := 1) dX10_judged_69 (by decide) ?_
        refine hk_goto (tgt := 74) dX10_judged_70 (by decide) ?_
        refine hk_iadd dX10_judged_74 ?_
        refine hk_istore dX10_judged_75 (by decide) rfl ?_
        refine hk_iinc (v := nI (j + 1)) dX10_judged_77 rfl (nI_1 j) (by decide) rfl ?_
        refine hk_goto (tgt := 35) dX10_judged_80 (by decide) ?_
        have hlt : j < i := by omega
        first
        | (have hs := lp_judged hi hc hP hn w hw (j + 1) (by omega) _ (s.t s3)
           rw [cn_y (p := LK m i) (Classical.not_not.mp c48), la_y (p := LK m i) (Classical.not_not.mp c48), cn_y (p := fun j => LK m i j ∧ 0 < ov m L j) ⟨Classical.not_not.mp c48, Int32.not_le.mp c66⟩] at hs
           rw [nI_1]
           exact hs)
        | (have hs := lp_judged hi hc hP hn w hw (j + 1) (by omega) _ (s.t s3)
           rw [cn_y (p := LK m i) (Classical.not_not.mp c48), la_y (p := LK m i) (Classical.not_not.mp c48), cn_n (p := fun j => LK m i j ∧ 0 < ov m L j) (fun q => absurd c66 (Int32.not_le.mpr q.2))] at hs
           rw [Int32.add_zero]
           exact hs)
        | (have hs := lp_judged hi hc hP hn w hw (j + 1) (by omega) _ s
           rw [cn_n (p := LK m i) c48, la_n (p := LK m i) c48, cn_n (p := fun j => LK m i j ∧ 0 < ov m L j) (fun q => c48 q.1)] at hs
           exact hs)
termination_by i - j
decreasing_by all_goals omega
set_option maxRecDepth 20000 in
set_option maxHeartbeats 2000000 in
theorem md_judged (hi : LM m L nT) (hc : LC m nP nT) (hP : m 37 68 = nI nP) {i : Nat} (hn : i < nP) (w : Int32) : hk_Ct MX10_judged 72 0 0 [.ref 37, .int (nI i), .int w] (hk_h L m) (fun r h => ∃ m1, r = some (.int (jv m L i w)) ∧ h = hk_h L m1 ∧ SCR m m1) := by
  have hP3 := hc.2.1
  refine hk_ofWP (by decide) (by simp [Value.category]) (Nat.le_of_ble_eq_true rfl) ?_
  show hk_WP _ _ _ _ _ _ _ [some (.ref 37), some (.int (nI i)), some (.int w), none, none, none, none] [] _ _
  refine hk_iload_n dX10_judged_0 rfl rfl ?_
  refine hk_if_lt (tgt := 21) dX10_judged_1 (by decide) (fun c1 => absurd c1 (nI_pos (by omega))) (fun _ => ?_)
  refine hk_iload_n dX10_judged_4 rfl rfl ?_
  refine hk_aload_n dX10_judged_5 rfl rfl ?_
  refine gfX10_392 rfl dX10_judged_6 (hk_lt (by decide)) rfl rfl ?_
  refine hk_icmp_ge (tgt := 21) dX10_judged_9 (by decide) (fun c9 => absurd c9 (by rw [hP]; exact nI_ge hn (by omega))) (fun _ => ?_)
  refine hk_iload_n dX10_judged_12 rfl rfl ?_
  refine hk_iconst (v := 0) dX10_judged_13 (by decide) ?_
  refine hk_iconst (v := 5) dX10_judged_14 (by decide) ?_
  refine ivX10_208 rfl (ct_within w 0 5) dX10_judged_15 rfl rfl (by decide) ⟨by decide, by decide⟩ (Nat.le_of_ble_eq_true rfl) (hk_kd ?_)
  refine hk_if_ne (tgt := 24) dX10_judged_18 (by decide) (fun c18 => ?_) (fun c18 => ?_)
  · rw [bI_0] at c18
    refine hk_iconst (v := 0) dX10_judged_24 (by decide) ?_
    refine hk_istore_n dX10_judged_25 rfl (by decide) rfl ?_
    refine hk_iconst (v := (-1)) dX10_judged_26 (by decide) ?_
    refine hk_istore dX10_judged_27 (by decide) rfl ?_
    refine hk_iconst (v := 0) dX10_judged_29 (by decide) ?_
    refine hk_istore dX10_judged_30 (by decide) rfl ?_
    refine hk_iconst (v := 0) dX10_judged_32 (by decide) ?_
    refine hk_istore dX10_judged_33 (by decide) rfl ?_
    exact lp_judged hi hc hP hn w (Classical.not_not.mp c18) 0 (Nat.zero_le _) m SF.refl
  · rw [bI_0] at c18
    refine hk_bipush (v := (-9)) dX10_judged_21 (by decide) ?_
    exact hk_ireturn dX10_judged_23 rfl rfl (by decide) ⟨m, by
        rw [i32_lt, i32_0, i32_lt, show (5 : Int32).toInt = 5 from rfl] at c18
        have h5 : ¬ w = 0 ∧ ¬ w = 1 ∧ ¬ w = 2 ∧ ¬ w = 3 ∧ ¬ w = 4 ∧ ¬ w = 5 := by
          simp only [i32_eq, show (0 : Int32).toInt = 0 from rfl, show (1 : Int32).toInt = 1 from rfl, show (2 : Int32).toInt = 2 from rfl, show (3 : Int32).toInt = 3 from rfl, show (4 : Int32).toInt = 4 from rfl, show (5 : Int32).toInt = 5 from rfl]
          omega
        obtain ⟨h0, h1, h2, h3, h4, h6⟩ := h5
        unfold jv; rw [if_neg h0, if_neg h1, if_neg h2, if_neg h3, if_neg h4, if_neg h6], rfl, SCR.refl⟩
set_option maxRecDepth 20000 in
set_option maxHeartbeats 2000000 in
theorem md_judged_no (hP : m 37 68 = nI nP) (i : Int32) (hn : ¬ inR i nP) (w : Int32) : hk_Cd MX10_judged 72 0 0 [.ref 37, .int i, .int w] (hk_h L m) (some (.int (-9))) (hk_h L m) := by
  refine hk_ofWP (by decide) (by simp [Value.category]) (Nat.le_of_ble_eq_true rfl) ?_
  show hk_WP _ _ _ _ _ _ _ [some (.ref 37), some (.int i), some (.int w), none, none, none, none] [] _ _
  refine hk_iload_n dX10_judged_0 rfl rfl ?_
  refine hk_if_lt (tgt := 21) dX10_judged_1 (by decide) (fun c1 => ?_) (fun c1 => ?_)
  · refine hk_bipush (v := (-9)) dX10_judged_21 (by decide) ?_
    exact hk_ireturn dX10_judged_23 rfl rfl (by decide) ⟨rfl, rfl⟩
  · refine hk_iload_n dX10_judged_4 rfl rfl ?_
    refine hk_aload_n dX10_judged_5 rfl rfl ?_
    refine gfX10_392 rfl dX10_judged_6 (hk_lt (by decide)) rfl rfl ?_
    refine hk_icmp_ge (tgt := 21) dX10_judged_9 (by decide) (fun c9 => ?_) (fun c9 => ?_)
    · rw [hP] at c9
      refine hk_bipush (v := (-9)) dX10_judged_21 (by decide) ?_
      exact hk_ireturn dX10_judged_23 rfl rfl (by decide) ⟨rfl, rfl⟩
    · rw [hP] at c9
      exact absurd ⟨c1, c9⟩ hn
theorem Inv_lc (hI : Inv L z m) : LC m (z 7) (z 5) ∧ m 37 68 = nI (z 7) := by
  obtain ⟨g0, ⟨⟨a0, a1, a2, a3, a4, a5, a6, a7, a8, a9, a10, a11, a12, a13⟩, ⟨b0, b1, b2, b3, b4, b5, b6, b7, b8, b9, b10, b11, b12⟩, ⟨c0, c1, c2, c3, c4, c5, c6, c7, c8, c9, c10, c11, c12⟩⟩, g2, g3, g4, g5, g6, g7, g8, g9, g10, g11, g12, g13, g14⟩ := id hI
  exact ⟨⟨a7, c7, g12⟩, b7⟩
theorem SCR.jvk (s : SCR m m1) {i : Nat} {w : Int32} : jv m1 L i w = jv m L i w := by
  unfold jv
  rw [s.a (a := 90) (by decide), s.a (a := 91) (by decide), s.lk, s.ovk.1]
  rw [show (fun j => LK m i j ∧ 0 < ov m1 L j) = (fun j => LK m i j ∧ 0 < ov m L j) from by funext j; rw [s.ovk.1]]
theorem op_judged (hI : Inv L z m) (t w : Int32) : OpE L m MX9_judged MX10_judged [.int t, .int w] := by
  have h1 := Inv_li hI
  have h2 := Inv_lm hI
  obtain ⟨h3, h4⟩ := Inv_lc hI
  by_cases ho : inR t (z 7)
  · obtain ⟨i, hi, rfl⟩ := inR_of ho (by have := h3.2.1; omega)
    refine OpE.of (d1 := 6) (d2 := 72) hI (by decide) (by decide) (ct_judged h1 h3 hi w) (fun m1 hI1 s1 => ?_)
    obtain ⟨k3, k4⟩ := Inv_lc hI1
    have := md_judged (Inv_lm hI1) k3 k4 hi w
    rwa [s1.jvk] at this
  · exact OpOK.e ⟨6, 0, 0, 72, -9, L, m, m, z, by decide, by decide, by decide, by decide, ct_judged_no h3 t ho w, md_judged_no h4 t ho w, hI⟩
end OFx
