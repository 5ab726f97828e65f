section O8
variable {L : Nat} {m : Nat → Nat → Int32} {z : Nat → Nat}
set_option maxRecDepth 20000 in
set_option maxHeartbeats 2000000 in
theorem ct_addSpan_full {nS : Nat} (hS : m 2 3 = nI nS) (hS2 : nS ≤ 60) {i : Nat} (hi : i < nS) (f t : Int32) (hk : m 3 (i * 13 + 4) = nI 4) : hk_Cd MX0_addSpan 1 0 0 [.ref 1, .int (nI i), .int f, .int t] (hk_h L m) (some (.int (-2))) (hk_h L m) := by
  refine hk_ofWP (by decide) (by simp [Value.category]) (Nat.le_of_ble_eq_true rfl) ?_
  show hk_WP _ _ _ _ _ _ _ [some (.ref 1), some (.int (nI i)), some (.int f), some (.int t), none] [] _ _
  refine hk_aload_n dX0_addSpan_0 rfl rfl ?_
  refine gfX0_16 rfl dX0_addSpan_1 (hk_lt (by decide)) rfl rfl ?_
  refine hk_iload_n dX0_addSpan_4 rfl rfl ?_
  refine hk_iconst (v := 4) dX0_addSpan_5 (by decide) ?_
  refine ivX0_47 rfl (ct_geti tb2 hS2 hS rfl hi (by decide)) dX0_addSpan_6 (hk_lt (by decide)) rfl rfl rfl (by decide) ⟨by decide, by decide⟩ (Nat.le_of_ble_eq_true rfl) (hk_kd ?_)
  refine hk_istore dX0_addSpan_9 (by decide) rfl ?_
  refine hk_iload dX0_addSpan_11 rfl ?_
  refine hk_iconst (v := 4) dX0_addSpan_13 (by decide) ?_
  refine hk_icmp_lt (tgt := 20) dX0_addSpan_14 (by decide) (fun c14 => absurd c14 (by rw [hk]; decide)) (fun _ => ?_)
  refine hk_bipush (v := (-2)) dX0_addSpan_17 (by decide) ?_
  exact hk_ireturn dX0_addSpan_19 rfl rfl (by decide) ⟨rfl, rfl⟩
set_option maxRecDepth 20000 in
set_option maxHeartbeats 2000000 in
theorem ct_addSpan {nS : Nat} (hS : m 2 3 = nI nS) (hS2 : nS ≤ 60) {i k : Nat} (hi : i < nS) (f t : Int32) (hk : m 3 (i * 13 + 4) = nI k) (hk4 : k < 4) : hk_Cd MX0_addSpan 1 0 0 [.ref 1, .int (nI i), .int f, .int t] (hk_h L m) (some (.int (nI (k + 1)))) (hk_h L (hk_w (hk_w (hk_w m 3 (i * 13 + (5 + 2 * k)) f) 3 (i * 13 + (5 + 2 * k + 1)) t) 3 (i * 13 + 4) (nI (k + 1)))) := by
  refine hk_ofWP (by decide) (by simp [Value.category]) (Nat.le_of_ble_eq_true rfl) ?_
  show hk_WP _ _ _ _ _ _ _ [some (.ref 1), some (.int (nI i)), some (.int f), some (.int t), none] [] _ _
  refine hk_aload_n dX0_addSpan_0 rfl rfl ?_
  refine gfX0_16 rfl dX0_addSpan_1 (hk_lt (by decide)) rfl rfl ?_
  refine hk_iload_n dX0_addSpan_4 rfl rfl ?_
  refine hk_iconst (v := 4) dX0_addSpan_5 (by decide) ?_
  refine ivX0_47 rfl (ct_geti tb2 hS2 hS rfl hi (by decide)) dX0_addSpan_6 (hk_lt (by decide)) rfl rfl rfl (by decide) ⟨by decide, by decide⟩ (Nat.le_of_ble_eq_true rfl) (hk_kd ?_)
  rw [hk]
  refine hk_istore dX0_addSpan_9 (by decide) rfl ?_
  refine hk_iload dX0_addSpan_11 rfl ?_
  refine hk_iconst (v := 4) dX0_addSpan_13 (by decide) ?_
  refine hk_icmp_lt (tgt := 20) dX0_addSpan_14 (by decide) (fun _ => ?_) (fun c14 => absurd (nI_lt hk4 (by decide)) c14)
  refine hk_aload_n dX0_addSpan_20 rfl rfl ?_
  refine gfX0_16 rfl dX0_addSpan_21 (hk_lt (by decide)) rfl rfl ?_
  refine hk_iload_n dX0_addSpan_24 rfl rfl ?_
  refine hk_iconst (v := 5) dX0_addSpan_25 (by decide) ?_
  refine hk_iconst (v := 2) dX0_addSpan_26 (by decide) ?_
  refine hk_iload dX0_addSpan_27 rfl ?_
  refine hk_imul dX0_addSpan_29 ?_
  refine hk_iadd dX0_addSpan_30 ?_
  rw [show (5 : Int32) + 2 * nI k = nI (5 + 2 * k) by rw [show (5 : Int32) = nI 5 from rfl, show (2 : Int32) = nI 2 from rfl, nI_mul, nI_add]]
  refine hk_iload_n dX0_addSpan_31 rfl rfl ?_
  refine ivX0_45 rfl (ct_seti tb2 hS2 (by simp [hk_wo, hS]) (A := 3) (i := i) (j := 5 + 2 * k) rfl hi (by omega) _) dX0_addSpan_32 (hk_lt (by decide)) rfl rfl rfl (by decide) ⟨by decide, by decide⟩ (Nat.le_of_ble_eq_true rfl) (hk_kv ?_)
  refine hk_aload_n dX0_addSpan_35 rfl rfl ?_
  refine gfX0_16 rfl dX0_addSpan_36 (hk_lt (by decide)) rfl rfl ?_
  refine hk_iload_n dX0_addSpan_39 rfl rfl ?_
  refine hk_iconst (v := 5) dX0_addSpan_40 (by decide) ?_
  refine hk_iconst (v := 2) dX0_addSpan_41 (by decide) ?_
  refine hk_iload dX0_addSpan_42 rfl ?_
  refine hk_imul dX0_addSpan_44 ?_
  refine hk_iadd dX0_addSpan_45 ?_
  rw [show (5 : Int32) + 2 * nI k = nI (5 + 2 * k) by rw [show (5 : Int32) = nI 5 from rfl, show (2 : Int32) = nI 2 from rfl, nI_mul, nI_add]]
  refine hk_iconst (v := 1) dX0_addSpan_46 (by decide) ?_
  refine hk_iadd dX0_addSpan_47 ?_
  rw [nI_1]
  refine hk_iload_n dX0_addSpan_48 rfl rfl ?_
  refine ivX0_45 rfl (ct_seti tb2 hS2 (by simp [hk_wo, hS]) (A := 3) (i := i) (j := 5 + 2 * k + 1) rfl hi (by omega) _) dX0_addSpan_49 (hk_lt (by decide)) rfl rfl rfl (by decide) ⟨by decide, by decide⟩ (Nat.le_of_ble_eq_true rfl) (hk_kv ?_)
  refine hk_aload_n dX0_addSpan_52 rfl rfl ?_
  refine gfX0_16 rfl dX0_addSpan_53 (hk_lt (by decide)) rfl rfl ?_
  refine hk_iload_n dX0_addSpan_56 rfl rfl ?_
  refine hk_iconst (v := 4) dX0_addSpan_57 (by decide) ?_
  refine hk_iload dX0_addSpan_58 rfl ?_
  refine hk_iconst (v := 1) dX0_addSpan_60 (by decide) ?_
  refine hk_iadd dX0_addSpan_61 ?_
  rw [nI_1]
  refine ivX0_45 rfl (ct_seti tb2 hS2 (by simp [hk_wo, hS]) (A := 3) (i := i) (j := 4) rfl hi (by omega) _) dX0_addSpan_62 (hk_lt (by decide)) rfl rfl rfl (by decide) ⟨by decide, by decide⟩ (Nat.le_of_ble_eq_true rfl) (hk_kv ?_)
  refine hk_iload dX0_addSpan_65 rfl ?_
  refine hk_iconst (v := 1) dX0_addSpan_67 (by decide) ?_
  refine hk_iadd dX0_addSpan_68 ?_
  rw [nI_1]
  exact hk_ireturn dX0_addSpan_69 rfl rfl (by decide) ⟨rfl, rfl⟩
set_option maxRecDepth 20000 in
set_option maxHeartbeats 2000000 in
theorem ct_shut_no {nS : Nat} (hS : m 2 3 = nI nS) (hS2 : nS ≤ 60) (s f t : Int32) (h : ¬ (inR s nS ∧ ¬ f < m 0 0 ∧ ¬ t ≤ f ∧ ¬ 720000 < t)) : hk_Cd MX9_shut 2 0 0 [.ref 0, .int s, .int f, .int t] (hk_h L m) (some (.int (-1))) (hk_h L m) := by
  refine hk_ofWP (by decide) (by simp [Value.category]) (Nat.le_of_ble_eq_true rfl) ?_
  show hk_WP _ _ _ _ _ _ _ [some (.ref 0), some (.int s), some (.int f), some (.int t)] [] _ _
  refine hk_aload_n dX9_shut_0 rfl rfl ?_
  refine gfX9_16 rfl dX9_shut_1 (hk_lt (by decide)) rfl rfl ?_
  refine gfX9_67 rfl dX9_shut_4 (hk_lt (by decide)) rfl rfl ?_
  refine hk_iload_n dX9_shut_7 rfl rfl ?_
  refine ivX9_71 rfl (ct_has tb2 hS2 hS s) dX9_shut_8 (hk_lt (by decide)) rfl rfl rfl (by decide) ⟨by decide, by decide⟩ (Nat.le_of_ble_eq_true rfl) (hk_kd ?_)
  refine hk_if_eq (tgt := 33) dX9_shut_11 (by decide) (fun c11 => ?_) (fun c11 => ?_)
  · rw [bI_0] at c11
    refine hk_iconst (v := (-1)) dX9_shut_33 (by decide) ?_
    exact hk_ireturn dX9_shut_34 rfl rfl (by decide) ⟨rfl, rfl⟩
  · rw [bI_0] at c11
    refine hk_iload_n dX9_shut_14 rfl rfl ?_
    refine hk_aload_n dX9_shut_15 rfl rfl ?_
    refine gfX9_7 rfl dX9_shut_16 (hk_lt (by decide)) rfl rfl ?_
    refine hk_icmp_lt (tgt := 33) dX9_shut_19 (by decide) (fun c19 => ?_) (fun c19 => ?_)
    · refine hk_iconst (v := (-1)) dX9_shut_33 (by decide) ?_
      exact hk_ireturn dX9_shut_34 rfl rfl (by decide) ⟨rfl, rfl⟩
    · refine hk_iload_n dX9_shut_22 rfl rfl ?_
      refine hk_iload_n dX9_shut_23 rfl rfl ?_
      refine hk_icmp_ge (tgt := 33) dX9_shut_24 (by decide) (fun c24 => ?_) (fun c24 => ?_)
      · refine hk_iconst (v := (-1)) dX9_shut_33 (by decide) ?_
        exact hk_ireturn dX9_shut_34 rfl rfl (by decide) ⟨rfl, rfl⟩
      · refine hk_iload_n dX9_shut_27 rfl rfl ?_
        refine hk_ldc dX9_shut_28 hk_k9_76 ?_
        refine hk_icmp_le (tgt := 35) dX9_shut_30 (by decide) (fun c30 => ?_) (fun c30 => ?_)
        · exact absurd (by grind) h
        · refine hk_iconst (v := (-1)) dX9_shut_33 (by decide) ?_
          exact hk_ireturn dX9_shut_34 rfl rfl (by decide) ⟨rfl, rfl⟩
set_option maxRecDepth 20000 in
set_option maxHeartbeats 2000000 in
theorem ct_shut_full {nS : Nat} (hS : m 2 3 = nI nS) (hS2 : nS ≤ 60) {i : Nat} (hi : i < nS) (f t : Int32) (hk : m 3 (i * 13 + 4) = nI 4) (h : ¬ f < m 0 0 ∧ ¬ t ≤ f ∧ ¬ 720000 < t) : hk_Cd MX9_shut 2 0 0 [.ref 0, .int (nI i), .int f, .int t] (hk_h L m) (some (.int (-2))) (hk_h L m) := by
  refine hk_ofWP (by decide) (by simp [Value.category]) (Nat.le_of_ble_eq_true rfl) ?_
  show hk_WP _ _ _ _ _ _ _ [some (.ref 0), some (.int (nI i)), some (.int f), some (.int t)] [] _ _
  refine hk_aload_n dX9_shut_0 rfl rfl ?_
  refine gfX9_16 rfl dX9_shut_1 (hk_lt (by decide)) rfl rfl ?_
  refine gfX9_67 rfl dX9_shut_4 (hk_lt (by decide)) rfl rfl ?_
  refine hk_iload_n dX9_shut_7 rfl rfl ?_
  refine ivX9_71 rfl (ct_has tb2 hS2 hS _) dX9_shut_8 (hk_lt (by decide)) rfl rfl rfl (by decide) ⟨by decide, by decide⟩ (Nat.le_of_ble_eq_true rfl) (hk_kd ?_)
  refine hk_if_eq (tgt := 33) dX9_shut_11 (by decide) (fun c11 => absurd c11 (fun q => bI_0.mp q (inR_nI hi (by omega)))) (fun _ => ?_)
  refine hk_iload_n dX9_shut_14 rfl rfl ?_
  refine hk_aload_n dX9_shut_15 rfl rfl ?_
  refine gfX9_7 rfl dX9_shut_16 (hk_lt (by decide)) rfl rfl ?_
  refine hk_icmp_lt (tgt := 33) dX9_shut_19 (by decide) (fun c19 => absurd c19 h.1) (fun _ => ?_)
  refine hk_iload_n dX9_shut_22 rfl rfl ?_
  refine hk_iload_n dX9_shut_23 rfl rfl ?_
  refine hk_icmp_ge (tgt := 33) dX9_shut_24 (by decide) (fun c24 => absurd c24 h.2.1) (fun _ => ?_)
  refine hk_iload_n dX9_shut_27 rfl rfl ?_
  refine hk_ldc dX9_shut_28 hk_k9_76 ?_
  refine hk_icmp_le (tgt := 35) dX9_shut_30 (by decide) (fun _ => ?_) (fun c30 => absurd (Int32.not_lt.mp h.2.2) c30)
  refine hk_aload_n dX9_shut_35 rfl rfl ?_
  refine gfX9_16 rfl dX9_shut_36 (hk_lt (by decide)) rfl rfl ?_
  refine hk_iload_n dX9_shut_39 rfl rfl ?_
  refine hk_iload_n dX9_shut_40 rfl rfl ?_
  refine hk_iload_n dX9_shut_41 rfl rfl ?_
  refine ivX9_77 rfl (ct_addSpan_full hS hS2 hi f t hk) dX9_shut_42 (hk_lt (by decide)) rfl rfl rfl (by decide) ⟨by decide, by decide⟩ (Nat.le_of_ble_eq_true rfl) (hk_kd ?_)
  exact hk_ireturn dX9_shut_45 rfl rfl (by decide) ⟨rfl, rfl⟩
set_option maxRecDepth 20000 in
set_option maxHeartbeats 2000000 in
theorem ct_shut {nS : Nat} (hS : m 2 3 = nI nS) (hS2 : nS ≤ 60) {i : Nat} (hi : i < nS) (f t : Int32) {k : Nat} (hk : m 3 (i * 13 + 4) = nI k) (hk4 : k < 4) (h : ¬ f < m 0 0 ∧ ¬ t ≤ f ∧ ¬ 720000 < t) : hk_Cd MX9_shut 2 0 0 [.ref 0, .int (nI i), .int f, .int t] (hk_h L m) (some (.int (nI (k + 1)))) (hk_h L (hk_w (hk_w (hk_w m 3 (i * 13 + (5 + 2 * k)) f) 3 (i * 13 + (5 + 2 * k + 1)) t) 3 (i * 13 + 4) (nI (k + 1)))) := by
  refine hk_ofWP (by decide) (by simp [Value.category]) (Nat.le_of_ble_eq_true rfl) ?_
  show hk_WP _ _ _ _ _ _ _ [some (.ref 0), some (.int (nI i)), some (.int f), some (.int t)] [] _ _
  refine hk_aload_n dX9_shut_0 rfl rfl ?_
  refine gfX9_16 rfl dX9_shut_1 (hk_lt (by decide)) rfl rfl ?_
  refine gfX9_67 rfl dX9_shut_4 (hk_lt (by decide)) rfl rfl ?_
  refine hk_iload_n dX9_shut_7 rfl rfl ?_
  refine ivX9_71 rfl (ct_has tb2 hS2 hS _) dX9_shut_8 (hk_lt (by decide)) rfl rfl rfl (by decide) ⟨by decide, by decide⟩ (Nat.le_of_ble_eq_true rfl) (hk_kd ?_)
  refine hk_if_eq (tgt := 33) dX9_shut_11 (by decide) (fun c11 => absurd c11 (fun q => bI_0.mp q (inR_nI hi (by omega)))) (fun _ => ?_)
  refine hk_iload_n dX9_shut_14 rfl rfl ?_
  refine hk_aload_n dX9_shut_15 rfl rfl ?_
  refine gfX9_7 rfl dX9_shut_16 (hk_lt (by decide)) rfl rfl ?_
  refine hk_icmp_lt (tgt := 33) dX9_shut_19 (by decide) (fun c19 => absurd c19 h.1) (fun _ => ?_)
  refine hk_iload_n dX9_shut_22 rfl rfl ?_
  refine hk_iload_n dX9_shut_23 rfl rfl ?_
  refine hk_icmp_ge (tgt := 33) dX9_shut_24 (by decide) (fun c24 => absurd c24 h.2.1) (fun _ => ?_)
  refine hk_iload_n dX9_shut_27 rfl rfl ?_
  refine hk_ldc dX9_shut_28 hk_k9_76 ?_
  refine hk_icmp_le (tgt := 35) dX9_shut_30 (by decide) (fun _ => ?_) (fun c30 => absurd (Int32.not_lt.mp h.2.2) c30)
  refine hk_aload_n dX9_shut_35 rfl rfl ?_
  refine gfX9_16 rfl dX9_shut_36 (hk_lt (by decide)) rfl rfl ?_
  refine hk_iload_n dX9_shut_39 rfl rfl ?_
  refine hk_iload_n dX9_shut_40 rfl rfl ?_
  refine hk_iload_n dX9_shut_41 rfl rfl ?_
  refine ivX9_77 rfl (ct_addSpan hS hS2 hi f t hk hk4) dX9_shut_42 (hk_lt (by decide)) rfl rfl rfl (by decide) ⟨by decide, by decide⟩ (Nat.le_of_ble_eq_true rfl) (hk_kd ?_)
  exact hk_ireturn dX9_shut_45 rfl rfl (by decide) ⟨rfl, rfl⟩
set_option maxRecDepth 20000 in
set_option maxHeartbeats 2000000 in
theorem md_shut_no {nS : Nat} (hS : m 37 11 = nI nS) (hS2 : nS ≤ 60) (s f t : Int32) (h : ¬ (inR s nS ∧ ¬ f < m 37 0 ∧ ¬ t ≤ f ∧ ¬ 720000 < t)) : hk_Cd MX10_shut 0 0 0 [.ref 37, .int s, .int f, .int t] (hk_h L m) (some (.int (-1))) (hk_h L m) := by
  refine hk_ofWP (by decide) (by simp [Value.category]) (Nat.le_of_ble_eq_true rfl) ?_
  show hk_WP _ _ _ _ _ _ _ [some (.ref 37), some (.int s), some (.int f), some (.int t)] [] _ _
  refine hk_iload_n dX10_shut_0 rfl rfl ?_
  refine hk_if_lt (tgt := 31) dX10_shut_1 (by decide) (fun c1 => ?_) (fun c1 => ?_)
  · refine hk_iconst (v := (-1)) dX10_shut_31 (by decide) ?_
    exact hk_ireturn dX10_shut_32 rfl rfl (by decide) ⟨rfl, rfl⟩
  · refine hk_iload_n dX10_shut_4 rfl rfl ?_
    refine hk_aload_n dX10_shut_5 rfl rfl ?_
    refine gfX10_216 rfl dX10_shut_6 (hk_lt (by decide)) rfl rfl ?_
    refine hk_icmp_ge (tgt := 31) dX10_shut_9 (by decide) (fun c9 => ?_) (fun c9 => ?_)
    · rw [hS] at c9
      refine hk_iconst (v := (-1)) dX10_shut_31 (by decide) ?_
      exact hk_ireturn dX10_shut_32 rfl rfl (by decide) ⟨rfl, rfl⟩
    · rw [hS] at c9
      refine hk_iload_n dX10_shut_12 rfl rfl ?_
      refine hk_aload_n dX10_shut_13 rfl rfl ?_
      refine gfX10_194 rfl dX10_shut_14 (hk_lt (by decide)) rfl rfl ?_
      refine hk_icmp_lt (tgt := 31) dX10_shut_17 (by decide) (fun c17 => ?_) (fun c17 => ?_)
      · refine hk_iconst (v := (-1)) dX10_shut_31 (by decide) ?_
        exact hk_ireturn dX10_shut_32 rfl rfl (by decide) ⟨rfl, rfl⟩
      · refine hk_iload_n dX10_shut_20 rfl rfl ?_
        refine hk_iload_n dX10_shut_21 rfl rfl ?_
        refine hk_icmp_le (tgt := 31) dX10_shut_22 (by decide) (fun c22 => ?_) (fun c22 => ?_)
        · refine hk_iconst (v := (-1)) dX10_shut_31 (by decide) ?_
          exact hk_ireturn dX10_shut_32 rfl rfl (by decide) ⟨rfl, rfl⟩
        · refine hk_iload_n dX10_shut_25 rfl rfl ?_
          refine hk_ldc dX10_shut_26 hk_k10_219 ?_
          refine hk_icmp_le (tgt := 33) dX10_shut_28 (by decide) (fun c28 => ?_) (fun c28 => ?_)
          · exact absurd (by grind) h
          · refine hk_iconst (v := (-1)) dX10_shut_31 (by decide) ?_
            exact hk_ireturn dX10_shut_32 rfl rfl (by decide) ⟨rfl, rfl⟩
set_option maxRecDepth 20000 in
set_option maxHeartbeats 2000000 in
theorem md_shut_full {nS : Nat} (hS : m 37 11 = nI nS) (hS2 : nS ≤ 60) {i : Nat} (hi : i < nS) (f t : Int32) (hk : m 46 i = nI 4) (h : ¬ f < m 37 0 ∧ ¬ t ≤ f ∧ ¬ 720000 < t) : hk_Cd MX10_shut 0 0 0 [.ref 37, .int (nI i), .int f, .int t] (hk_h L m) (some (.int (-2))) (hk_h L m) := by
  refine hk_ofWP (by decide) (by simp [Value.category]) (Nat.le_of_ble_eq_true rfl) ?_
  show hk_WP _ _ _ _ _ _ _ [some (.ref 37), some (.int (nI i)), some (.int f), some (.int t)] [] _ _
  refine hk_iload_n dX10_shut_0 rfl rfl ?_
  refine hk_if_lt (tgt := 31) dX10_shut_1 (by decide) (fun c1 => absurd c1 (nI_pos (by omega))) (fun _ => ?_)
  refine hk_iload_n dX10_shut_4 rfl rfl ?_
  refine hk_aload_n dX10_shut_5 rfl rfl ?_
  refine gfX10_216 rfl dX10_shut_6 (hk_lt (by decide)) rfl rfl ?_
  refine hk_icmp_ge (tgt := 31) dX10_shut_9 (by decide) (fun c9 => absurd c9 (by rw [hS]; exact nI_ge hi (by omega))) (fun _ => ?_)
  refine hk_iload_n dX10_shut_12 rfl rfl ?_
  refine hk_aload_n dX10_shut_13 rfl rfl ?_
  refine gfX10_194 rfl dX10_shut_14 (hk_lt (by decide)) rfl rfl ?_
  refine hk_icmp_lt (tgt := 31) dX10_shut_17 (by decide) (fun c17 => absurd c17 h.1) (fun _ => ?_)
  refine hk_iload_n dX10_shut_20 rfl rfl ?_
  refine hk_iload_n dX10_shut_21 rfl rfl ?_
  refine hk_icmp_le (tgt := 31) dX10_shut_22 (by decide) (fun c22 => absurd c22 h.2.1) (fun _ => ?_)
  refine hk_iload_n dX10_shut_25 rfl rfl ?_
  refine hk_ldc dX10_shut_26 hk_k10_219 ?_
  refine hk_icmp_le (tgt := 33) dX10_shut_28 (by decide) (fun _ => ?_) (fun c28 => absurd (Int32.not_lt.mp h.2.2) c28)
  refine hk_aload_n dX10_shut_33 rfl rfl ?_
  refine gfX10_34 rfl dX10_shut_34 (hk_lt (by decide)) rfl rfl ?_
  refine hk_iload_n dX10_shut_37 rfl rfl ?_
  refine hk_ian dX10_shut_38 (by decide) (fun _ => rfl) rfl (by omega) (by decide) ?_
  refine hk_iconst (v := 4) dX10_shut_39 (by decide) ?_
  refine hk_icmp_ne (tgt := 46) dX10_shut_40 (by decide) (fun c40 => absurd (by rw [hk]; rfl) c40) (fun _ => ?_)
  refine hk_bipush (v := (-2)) dX10_shut_43 (by decide) ?_
  exact hk_ireturn dX10_shut_45 rfl rfl (by decide) ⟨rfl, rfl⟩
set_option maxRecDepth 20000 in
set_option maxHeartbeats 2000000 in
theorem md_shut {nS : Nat} (hS : m 37 11 = nI nS) (hS2 : nS ≤ 60) {i k : Nat} (hi : i < nS) (f t : Int32) (hk : m 46 i = nI k) (hk4 : k < 4) (h : ¬ f < m 37 0 ∧ ¬ t ≤ f ∧ ¬ 720000 < t) : hk_Cd MX10_shut 0 0 0 [.ref 37, .int (nI i), .int f, .int t] (hk_h L m) (some (.int (nI (k + 1)))) (hk_h L (hk_w (hk_w (hk_w m 44 (4 * i + k) f) 45 (4 * i + k) t) 46 i (nI (k + 1)))) := by
  refine hk_ofWP (by decide) (by simp [Value.category]) (Nat.le_of_ble_eq_true rfl) ?_
  show hk_WP _ _ _ _ _ _ _ [some (.ref 37), some (.int (nI i)), some (.int f), some (.int t)] [] _ _
  refine hk_iload_n dX10_shut_0 rfl rfl ?_
  refine hk_if_lt (tgt := 31) dX10_shut_1 (by decide) (fun c1 => absurd c1 (nI_pos (by omega))) (fun _ => ?_)
  refine hk_iload_n dX10_shut_4 rfl rfl ?_
  refine hk_aload_n dX10_shut_5 rfl rfl ?_
  refine gfX10_216 rfl dX10_shut_6 (hk_lt (by decide)) rfl rfl ?_
  refine hk_icmp_ge (tgt := 31) dX10_shut_9 (by decide) (fun c9 => absurd c9 (by rw [hS]; exact nI_ge hi (by omega))) (fun _ => ?_)
  refine hk_iload_n dX10_shut_12 rfl rfl ?_
  refine hk_aload_n dX10_shut_13 rfl rfl ?_
  refine gfX10_194 rfl dX10_shut_14 (hk_lt (by decide)) rfl rfl ?_
  refine hk_icmp_lt (tgt := 31) dX10_shut_17 (by decide) (fun c17 => absurd c17 h.1) (fun _ => ?_)
  refine hk_iload_n dX10_shut_20 rfl rfl ?_
  refine hk_iload_n dX10_shut_21 rfl rfl ?_
  refine hk_icmp_le (tgt := 31) dX10_shut_22 (by decide) (fun c22 => absurd c22 h.2.1) (fun _ => ?_)
  refine hk_iload_n dX10_shut_25 rfl rfl ?_
  refine hk_ldc dX10_shut_26 hk_k10_219 ?_
  refine hk_icmp_le (tgt := 33) dX10_shut_28 (by decide) (fun _ => ?_) (fun c28 => absurd (Int32.not_lt.mp h.2.2) c28)
  refine hk_aload_n dX10_shut_33 rfl rfl ?_
  refine gfX10_34 rfl dX10_shut_34 (hk_lt (by decide)) rfl rfl ?_
  refine hk_iload_n dX10_shut_37 rfl rfl ?_
  refine hk_ian dX10_shut_38 (by decide) (fun _ => rfl) rfl (by omega) (by decide) ?_
  refine hk_iconst (v := 4) dX10_shut_39 (by decide) ?_
  refine hk_icmp_ne (tgt := 46) dX10_shut_40 (by decide) (fun _ => ?_) (fun c40 => absurd c40 (by rw [hk, show (4 : Int32) = nI 4 from rfl, nI_eq (by omega) (by decide)]; omega))
  refine hk_aload_n dX10_shut_46 rfl rfl ?_
  refine gfX10_28 rfl dX10_shut_47 (hk_lt (by decide)) rfl rfl ?_
  refine hk_iconst (v := 4) dX10_shut_50 (by decide) ?_
  refine hk_iload_n dX10_shut_51 rfl rfl ?_
  refine hk_imul dX10_shut_52 ?_
  refine hk_aload_n dX10_shut_53 rfl rfl ?_
  refine gfX10_34 rfl dX10_shut_54 (hk_lt (by decide)) rfl rfl ?_
  refine hk_iload_n dX10_shut_57 rfl rfl ?_
  refine hk_ian dX10_shut_58 (by decide) (fun _ => rfl) rfl (by omega) (by decide) ?_
  refine hk_iadd dX10_shut_59 ?_
  rw [hk, show (4 : Int32) * nI i + nI k = nI (4 * i + k) by rw [show (4 : Int32) = nI 4 from rfl, nI_mul, nI_add]]
  refine hk_iload_n dX10_shut_60 rfl rfl ?_
  refine hk_isn (j := 4 * i + k) dX10_shut_61 (by decide) (fun _ => rfl) rfl (by omega) (by decide) ?_
  refine hk_aload_n dX10_shut_62 rfl rfl ?_
  refine gfX10_31 rfl dX10_shut_63 (hk_lt (by decide)) rfl rfl ?_
  refine hk_iconst (v := 4) dX10_shut_66 (by decide) ?_
  refine hk_iload_n dX10_shut_67 rfl rfl ?_
  refine hk_imul dX10_shut_68 ?_
  refine hk_aload_n dX10_shut_69 rfl rfl ?_
  refine gfX10_34 rfl dX10_shut_70 (hk_lt (by decide)) rfl rfl ?_
  refine hk_iload_n dX10_shut_73 rfl rfl ?_
  refine hk_ian dX10_shut_74 (by decide) (fun _ => rfl) rfl (by omega) (by decide) ?_
  refine hk_iadd dX10_shut_75 ?_
  rw [show hk_w m 44 (4 * i + k) f 46 i = nI k by rw [hk_w_ne (by decide)]; exact hk, show (4 : Int32) * nI i + nI k = nI (4 * i + k) by rw [show (4 : Int32) = nI 4 from rfl, nI_mul, nI_add]]
  refine hk_iload_n dX10_shut_76 rfl rfl ?_
  refine hk_isn (j := 4 * i + k) dX10_shut_77 (by decide) (fun _ => rfl) rfl (by omega) (by decide) ?_
  refine hk_aload_n dX10_shut_78 rfl rfl ?_
  refine gfX10_34 rfl dX10_shut_79 (hk_lt (by decide)) rfl rfl ?_
  refine hk_iload_n dX10_shut_82 rfl rfl ?_
  refine hk_dup2 dX10_shut_83 rfl rfl ?_
  refine hk_ian dX10_shut_84 (by decide) (fun _ => rfl) rfl (by omega) (by decide) ?_
  refine hk_iconst (v := 1) dX10_shut_85 (by decide) ?_
  refine hk_iadd dX10_shut_86 ?_
  rw [show hk_w (hk_w m 44 (4 * i + k) f) 45 (4 * i + k) t 46 i + 1 = nI (k + 1) by rw [hk_w_ne (by decide), hk_w_ne (by decide), hk, nI_1]]
  refine hk_isn dX10_shut_87 (by decide) (fun _ => rfl) rfl (by omega) (by decide) ?_
  refine hk_aload_n dX10_shut_88 rfl rfl ?_
  refine gfX10_34 rfl dX10_shut_89 (hk_lt (by decide)) rfl rfl ?_
  refine hk_iload_n dX10_shut_92 rfl rfl ?_
  refine hk_ian dX10_shut_93 (by decide) (fun _ => rfl) rfl (by omega) (by decide) ?_
  exact hk_ireturn dX10_shut_94 rfl rfl (by decide) ⟨by rw [hk_w_eq], rfl⟩
theorem op_shut (hI : Inv L z m) (s f t : Int32) : OpOK L m MX9_shut MX10_shut [.int s, .int f, .int t] := by
  obtain ⟨g0, ⟨⟨a0, a1, a2, a3, a4, a5, a6, a7, a8, a9, a10, a11, a12, a13⟩, ⟨b0, b1, b2, b3, b4, b5, b6, b7, b8, b9, b10, b11, b12⟩, ⟨c0, c1, c2, c3, c4, c5, c6, c7, c8, c9, c10, c11, c12⟩⟩, g2, g3, g4, g5, g6, g7, g8, g9, g10, g11, g12, g13, g14⟩ := id hI
  by_cases h : inR s (z 1) ∧ ¬ f < m 0 0 ∧ ¬ t ≤ f ∧ ¬ 720000 < t
  · obtain ⟨i, hi, rfl⟩ := inR_of h.1 (by omega)
    obtain ⟨h1, h2, h3, h4, x1, x2, x3, x4, k, q1, q2, q3, q4, q5, q6, q7, q8, q9, q10, q11, q12, q13⟩ := g2.1 i hi
    have hm : ¬ f < m 37 0 ∧ ¬ t ≤ f ∧ ¬ 720000 < t := by rw [b8, ← a8]; exact h.2
    by_cases hk : k = 4
    · exact ⟨2, 0, 0, 0, -2, L, m, m, z, by decide, by decide, by decide, by decide, ct_shut_full a1 c1 hi f t (by rw [h4, q5, hk]) h.2, md_shut_full b1 c1 hi f t (by rw [q5, hk]) hm, hI⟩
    · refine ⟨2, 0, 0, 0, nI (k + 1), L, _, _, z, by decide, by decide, by decide, by decide, ct_shut a1 c1 hi f t (by rw [h4, q5]) (by omega) h.2, md_shut (nS := z 1) (by simpa [hk_wo, hk_wt] using b1) c1 hi f t (by simpa [hk_wo, hk_wt] using q5) (by omega) (by simpa [hk_wo, hk_wt] using hm), ?_⟩
      refine ⟨g0, ⟨?_, ?_, ?_⟩, ?_, ?_, ?_, ?_, ?_, ?_, ?_, ?_, ?_, ?_, ?_, ?_, ?_⟩
      · simp [hk_wo, hk_wt, hk_w99, up, upd, a0, a1, a2, a3, a4, a5, a6, a7, a8, a9, a10, a11, a12, a13]
      · simp [hk_wo, hk_wt, hk_w99, up, upd, b0, b1, b2, b3, b4, b5, b6, b7, b8, b9, b10, b11, b12]
      · first | (simp [up]; omega) | omega
      · refine ⟨fun s hs => ?_, fun s hs hs2 => ?_⟩
        · by_cases hsi : s = i
          · subst hsi
            refine ⟨?_, ?_, ?_, ?_, x1, x2, x3, x4, k + 1, by simpa [hk_wo, hk_wt, upd] using q1, by simpa [hk_wo, hk_wt, upd] using q2, by simpa [hk_wo, hk_wt, upd] using q3, by simpa [hk_wo, hk_wt, upd] using q4, by simp [hk_wo, hk_wt, upd], q6, q7, q8, q9, q10, q11, by omega, fun j hj => ?_⟩
            · simp (disch := decide) only [hk_w_at, hk_w_ne]
              repeat rw [if_neg (by omega)]
              exact h1
            · simp (disch := decide) only [hk_w_at, hk_w_ne]
              repeat rw [if_neg (by omega)]
              exact h2
            · simp (disch := decide) only [hk_w_at, hk_w_ne]
              repeat rw [if_neg (by omega)]
              exact h3
            · simp (disch := decide) only [hk_w_at, hk_w_ne]
              simp
            · by_cases hjk : j = k
              · subst hjk
                constructor
                · simp (disch := decide) only [hk_w_at, hk_w_ne]
                  repeat rw [if_neg (by omega)]
                  simp
                · simp (disch := decide) only [hk_w_at, hk_w_ne]
                  repeat rw [if_neg (by omega)]
                  simp
              · have := q13 j (by omega)
                constructor
                · simp (disch := decide) only [hk_w_at, hk_w_ne]
                  repeat rw [if_neg (by omega)]
                  exact this.1
                · simp (disch := decide) only [hk_w_at, hk_w_ne]
                  repeat rw [if_neg (by omega)]
                  exact this.2
          · obtain ⟨h1, h2, h3, h4, x1, x2, x3, x4, x5, q1, q2, q3, q4, q5, q6, q7, q8, q9, q10, q11, q12, q13⟩ := g2.1 s hs
            refine ⟨?_, ?_, ?_, ?_, x1, x2, x3, x4, x5, by simpa [hk_wo, hk_wt, upd] using q1, by simpa [hk_wo, hk_wt, upd] using q2, by simpa [hk_wo, hk_wt, upd] using q3, by simpa [hk_wo, hk_wt, upd] using q4, by simpa [hk_wo, hk_wt, upd, hsi] using q5, q6, q7, q8, q9, q10, q11, q12, fun j hj => ?_⟩
            · simp (disch := decide) only [hk_w_at, hk_w_ne]
              repeat rw [if_neg (by omega)]
              exact h1
            · simp (disch := decide) only [hk_w_at, hk_w_ne]
              repeat rw [if_neg (by omega)]
              exact h2
            · simp (disch := decide) only [hk_w_at, hk_w_ne]
              repeat rw [if_neg (by omega)]
              exact h3
            · simp (disch := decide) only [hk_w_at, hk_w_ne]
              repeat rw [if_neg (by omega)]
              exact h4
            · have := q13 j hj
              constructor
              · simp (disch := decide) only [hk_w_at, hk_w_ne]
                repeat rw [if_neg (by omega)]
                exact this.1
              · simp (disch := decide) only [hk_w_at, hk_w_ne]
                repeat rw [if_neg (by omega)]
                exact this.2
        · have := g2.2 s hs hs2
          constructor
          · simp (disch := decide) only [hk_w_at, hk_w_ne]
            repeat rw [if_neg (by omega)]
            exact this.1
          · simp (disch := decide) only [hk_w_at, hk_w_ne]
            repeat rw [if_neg (by omega)]
            exact this.2
      · simpa [hk_wo, hk_wt, hk_w99, up, upd] using g3
      · simpa [hk_wo, hk_wt, hk_w99, up, upd] using g4
      · simpa [hk_wo, hk_wt, hk_w99, up, upd] using g5
      · simpa [hk_wo, hk_wt, hk_w99, up, upd] using g6
      · simpa [hk_wo, hk_wt, hk_w99, up, upd] using g7
      · simpa [hk_wo, hk_wt, hk_w99, up, upd] using g8
      · simpa [hk_wo, hk_wt, hk_w99, up, upd] using g9
      · simpa [hk_wo, hk_wt, hk_w99, up, upd] using g10
      · simpa [hk_wo, hk_wt, hk_w99, up, upd] using g11
      · simpa [hk_wo, hk_wt, hk_w99, up, upd] using g12
      · simpa [hk_wo, hk_wt, hk_w99, up, upd] using g13
      · simpa [hk_wo, hk_wt, hk_w99, up, upd] using g14
  · exact ⟨2, 0, 0, 0, -1, L, m, m, z, by decide, by decide, by decide, by decide, ct_shut_no a1 c1 s f t h, md_shut_no b1 c1 s f t (by rw [b8, ← a8]; exact h), hI⟩
set_option maxRecDepth 20000 in
set_option maxHeartbeats 2000000 in
theorem ct_stepAt {n : Nat} (hn : m 1 6 = nI n) (hn2 : n ≤ 24) (i : Int32) : hk_Cd MX0_stepAt 0 0 0 [.ref 1, .int i] (hk_h L m) (some (.int (cI (inR i n) (m 7 i.toNatClampNeg) (-1)))) (hk_h L m) := by
  refine hk_ofWP (by decide) (by simp [Value.category]) (Nat.le_of_ble_eq_true rfl) ?_
  show hk_WP _ _ _ _ _ _ _ [some (.ref 1), some (.int i)] [] _ _
  refine hk_iload_n dX0_stepAt_0 rfl rfl ?_
  refine hk_if_lt (tgt := 27) dX0_stepAt_1 (by decide) (fun c1 => ?_) (fun c1 => ?_)
  · refine hk_iconst (v := (-1)) dX0_stepAt_27 (by decide) ?_
    exact hk_ireturn dX0_stepAt_28 rfl rfl (by decide) ⟨by first | exact cI_r1 ⟨c1, c9⟩ | exact cI_r0 (fun q => q.1 c1) | exact cI_r0 (fun q => q.2 c9) | exact cI_r0 (fun q => by obtain ⟨j, hj, rfl⟩ := inR_of q (by omega); exact absurd c15 (nI_ge (show j < 24 by omega) (by decide))), rfl⟩
  · refine hk_iload_n dX0_stepAt_4 rfl rfl ?_
    refine hk_aload_n dX0_stepAt_5 rfl rfl ?_
    refine gfX0_82 rfl dX0_stepAt_6 (hk_lt (by decide)) rfl rfl ?_
    refine hk_icmp_ge (tgt := 27) dX0_stepAt_9 (by decide) (fun c9 => ?_) (fun c9 => ?_)
    · rw [hn] at c9
      refine hk_iconst (v := (-1)) dX0_stepAt_27 (by decide) ?_
      exact hk_ireturn dX0_stepAt_28 rfl rfl (by decide) ⟨by first | exact cI_r1 ⟨c1, c9⟩ | exact cI_r0 (fun q => q.1 c1) | exact cI_r0 (fun q => q.2 c9) | exact cI_r0 (fun q => by obtain ⟨j, hj, rfl⟩ := inR_of q (by omega); exact absurd c15 (nI_ge (show j < 24 by omega) (by decide))), rfl⟩
    · rw [hn] at c9
      refine hk_iload_n dX0_stepAt_12 rfl rfl ?_
      refine hk_bipush (v := 24) dX0_stepAt_13 (by decide) ?_
      refine hk_icmp_ge (tgt := 27) dX0_stepAt_15 (by decide) (fun c15 => ?_) (fun c15 => ?_)
      · refine hk_iconst (v := (-1)) dX0_stepAt_27 (by decide) ?_
        exact hk_ireturn dX0_stepAt_28 rfl rfl (by decide) ⟨by first | exact cI_r1 ⟨c1, c9⟩ | exact cI_r0 (fun q => q.1 c1) | exact cI_r0 (fun q => q.2 c9) | exact cI_r0 (fun q => by obtain ⟨j, hj, rfl⟩ := inR_of q (by omega); exact absurd c15 (nI_ge (show j < 24 by omega) (by decide))), rfl⟩
      · refine hk_aload_n dX0_stepAt_18 rfl rfl ?_
        refine gfX0_30 rfl dX0_stepAt_19 (hk_lt (by decide)) rfl rfl ?_
        refine hk_iload_n dX0_stepAt_22 rfl rfl ?_
        refine hk_ia dX0_stepAt_23 (by decide) (fun _ => rfl) (by obtain ⟨j, hj, rfl⟩ := inR_of (n := n) ⟨c1, c9⟩ (by omega); exact vp_in_nI (by omega) (by decide)) ?_
        refine hk_goto (tgt := 28) dX0_stepAt_24 (by decide) ?_
        exact hk_ireturn dX0_stepAt_28 rfl rfl (by decide) ⟨by first | exact cI_r1 ⟨c1, c9⟩ | exact cI_r0 (fun q => q.1 c1) | exact cI_r0 (fun q => q.2 c9) | exact cI_r0 (fun q => by obtain ⟨j, hj, rfl⟩ := inR_of q (by omega); exact absurd c15 (nI_ge (show j < 24 by omega) (by decide))), rfl⟩
set_option maxRecDepth 20000 in
set_option maxHeartbeats 2000000 in
theorem ct_step {n : Nat} (hn : m 1 6 = nI n) (hn2 : n ≤ 24) (i : Int32) : hk_Cd MX9_step 1 0 0 [.ref 0, .int i] (hk_h L m) (some (.int (cI (inR i n) (m 7 i.toNatClampNeg) (-1)))) (hk_h L m) := by
  refine hk_ofWP (by decide) (by simp [Value.category]) (Nat.le_of_ble_eq_true rfl) ?_
  show hk_WP _ _ _ _ _ _ _ [some (.ref 0), some (.int i)] [] _ _
  refine hk_aload_n dX9_step_0 rfl rfl ?_
  refine gfX9_16 rfl dX9_step_1 (hk_lt (by decide)) rfl rfl ?_
  refine hk_iload_n dX9_step_4 rfl rfl ?_
  refine ivX9_99 rfl (ct_stepAt hn hn2 i) dX9_step_5 (hk_lt (by decide)) rfl rfl rfl (by decide) ⟨by decide, by decide⟩ (Nat.le_of_ble_eq_true rfl) (hk_kd ?_)
  exact hk_ireturn dX9_step_8 rfl rfl (by decide) ⟨rfl, rfl⟩
set_option maxRecDepth 20000 in
set_option maxHeartbeats 2000000 in
theorem md_step {n : Nat} (hn : m 37 17 = nI n) (hn2 : n ≤ 24) (i : Int32) : hk_Cd MX10_step 0 0 0 [.ref 37, .int i] (hk_h L m) (some (.int (cI (inR i n) (m 50 i.toNatClampNeg) (-1)))) (hk_h L m) := by
  refine hk_ofWP (by decide) (by simp [Value.category]) (Nat.le_of_ble_eq_true rfl) ?_
  show hk_WP _ _ _ _ _ _ _ [some (.ref 37), some (.int i)] [] _ _
  refine hk_iload_n dX10_step_0 rfl rfl ?_
  refine hk_if_lt (tgt := 21) dX10_step_1 (by decide) (fun c1 => ?_) (fun c1 => ?_)
  · refine hk_iconst (v := (-1)) dX10_step_21 (by decide) ?_
    exact hk_ireturn dX10_step_22 rfl rfl (by decide) ⟨by first | exact cI_r1 ⟨c1, c9⟩ | exact cI_r0 (fun q => q.1 c1) | exact cI_r0 (fun q => q.2 c9), rfl⟩
  · refine hk_iload_n dX10_step_4 rfl rfl ?_
    refine hk_aload_n dX10_step_5 rfl rfl ?_
    refine gfX10_249 rfl dX10_step_6 (hk_lt (by decide)) rfl rfl ?_
    refine hk_icmp_ge (tgt := 21) dX10_step_9 (by decide) (fun c9 => ?_) (fun c9 => ?_)
    · rw [hn] at c9
      refine hk_iconst (v := (-1)) dX10_step_21 (by decide) ?_
      exact hk_ireturn dX10_step_22 rfl rfl (by decide) ⟨by first | exact cI_r1 ⟨c1, c9⟩ | exact cI_r0 (fun q => q.1 c1) | exact cI_r0 (fun q => q.2 c9), rfl⟩
    · rw [hn] at c9
      refine hk_aload_n dX10_step_12 rfl rfl ?_
      refine gfX10_46 rfl dX10_step_13 (hk_lt (by decide)) rfl rfl ?_
      refine hk_iload_n dX10_step_16 rfl rfl ?_
      refine hk_ia dX10_step_17 (by decide) (fun _ => rfl) (by obtain ⟨j, hj, rfl⟩ := inR_of (n := n) ⟨c1, c9⟩ (by omega); exact vp_in_nI (by omega) (by decide)) ?_
      refine hk_goto (tgt := 22) dX10_step_18 (by decide) ?_
      exact hk_ireturn dX10_step_22 rfl rfl (by decide) ⟨by first | exact cI_r1 ⟨c1, c9⟩ | exact cI_r0 (fun q => q.1 c1) | exact cI_r0 (fun q => q.2 c9), rfl⟩
theorem op_step (hI : Inv L z m) (i : Int32) : OpOK L m MX9_step MX10_step [.int i] := by
  obtain ⟨g0, ⟨⟨a0, a1, a2, a3, a4, a5, a6, a7, a8, a9, a10, a11, a12, a13⟩, ⟨b0, b1, b2, b3, b4, b5, b6, b7, b8, b9, b10, b11, b12⟩, ⟨c0, c1, c2, c3, c4, c5, c6, c7, c8, c9, c10, c11, c12⟩⟩, g2, g3, g4, g5, g6, g7, g8, g9, g10, g11, g12, g13, g14⟩ := id hI
  obtain ⟨e, n, hn, hn2, hs⟩ := g4
  refine ⟨1, 0, 0, 0, _, L, m, m, z, by decide, by decide, by decide, by decide, ct_step hn hn2 i, ?_, hI⟩
  have := md_step (L := L) (m := m) (by rw [← e]; exact hn) hn2 i
  by_cases h : inR i n
  · rw [cI_t h] at this ⊢
    obtain ⟨j, hj, rfl⟩ := inR_of h (by omega)
    rw [nI_clamp (by omega)] at this ⊢
    rw [hs j hj]; exact this
  · rw [cI_f h] at this ⊢; exact this
set_option maxRecDepth 20000 in
set_option maxHeartbeats 2000000 in
theorem ct_refusal {n : Nat} (hn : m 27 3 = nI n) (hn2 : n ≤ 300) (i w : Int32) : hk_Cd MX9_refusal 1 0 0 [.ref 0, .int i, .int w] (hk_h L m) (some (.int (tg m 27 4 n i w))) (hk_h L m) := by
  refine hk_ofWP (by decide) (by simp [Value.category]) (Nat.le_of_ble_eq_true rfl) ?_
  show hk_WP _ _ _ _ _ _ _ [some (.ref 0), some (.int i), some (.int w)] [] _ _
  refine hk_aload_n dX9_refusal_0 rfl rfl ?_
  refine gfX9_37 rfl dX9_refusal_1 (hk_lt (by decide)) rfl rfl ?_
  refine gfX9_255 rfl dX9_refusal_4 (hk_lt (by decide)) rfl rfl ?_
  refine hk_iload_n dX9_refusal_7 rfl rfl ?_
  refine hk_iload_n dX9_refusal_8 rfl rfl ?_
  refine ivX9_124 rfl (ct_get tb27 hn2 hn i w) dX9_refusal_9 (hk_lt (by decide)) rfl rfl rfl (by decide) ⟨by decide, by decide⟩ (Nat.le_of_ble_eq_true rfl) (hk_kd ?_)
  exact hk_ireturn dX9_refusal_12 rfl rfl (by decide) ⟨rfl, rfl⟩
set_option maxRecDepth 20000 in
set_option maxHeartbeats 2000000 in
theorem md_refusal_no {n : Nat} (hn : m 37 65 = nI n) (i w : Int32) (h : ¬ (inR i n ∧ inR w 4)) : hk_Cd MX10_refusal 1 0 0 [.ref 37, .int i, .int w] (hk_h L m) (some (.int (-1))) (hk_h L m) := by
  refine hk_ofWP (by decide) (by simp [Value.category]) (Nat.le_of_ble_eq_true rfl) ?_
  show hk_WP _ _ _ _ _ _ _ [some (.ref 37), some (.int i), some (.int w)] [] _ _
  refine hk_iload_n dX10_refusal_0 rfl rfl ?_
  refine hk_if_lt (tgt := 21) dX10_refusal_1 (by decide) (fun c1 => ?_) (fun c1 => ?_)
  · refine hk_iconst (v := (-1)) dX10_refusal_21 (by decide) ?_
    exact hk_ireturn dX10_refusal_22 rfl rfl (by decide) ⟨rfl, rfl⟩
  · refine hk_iload_n dX10_refusal_4 rfl rfl ?_
    refine hk_aload_n dX10_refusal_5 rfl rfl ?_
    refine gfX10_370 rfl dX10_refusal_6 (hk_lt (by decide)) rfl rfl ?_
    refine hk_icmp_ge (tgt := 21) dX10_refusal_9 (by decide) (fun c9 => ?_) (fun c9 => ?_)
    · rw [hn] at c9
      refine hk_iconst (v := (-1)) dX10_refusal_21 (by decide) ?_
      exact hk_ireturn dX10_refusal_22 rfl rfl (by decide) ⟨rfl, rfl⟩
    · rw [hn] at c9
      refine hk_iload_n dX10_refusal_12 rfl rfl ?_
      refine hk_iconst (v := 0) dX10_refusal_13 (by decide) ?_
      refine hk_iconst (v := 3) dX10_refusal_14 (by decide) ?_
      refine ivX10_208 rfl (ct_within w 0 3) dX10_refusal_15 rfl rfl (by decide) ⟨by decide, by decide⟩ (Nat.le_of_ble_eq_true rfl) (hk_kd ?_)
      refine hk_if_ne (tgt := 23) dX10_refusal_18 (by decide) (fun c18 => ?_) (fun c18 => ?_)
      · rw [bI_0, show (3 : Int32) = nI 3 from rfl, inR_w (by decide)] at c18
        exact absurd (by grind) h
      · rw [bI_0, show (3 : Int32) = nI 3 from rfl, inR_w (by decide)] at c18
        refine hk_iconst (v := (-1)) dX10_refusal_21 (by decide) ?_
        exact hk_ireturn dX10_refusal_22 rfl rfl (by decide) ⟨rfl, rfl⟩
set_option maxRecDepth 20000 in
set_option maxHeartbeats 2000000 in
theorem md_refusal {n i : Nat} (hn : m 37 65 = nI n) (hn2 : n ≤ 300) (hi : i < n) (w : Int32) (h : inR w 4) : hk_Cd MX10_refusal 1 0 0 [.ref 37, .int (nI i), .int w] (hk_h L m) (some (.int (if w = 0 then m 86 i else if w = 1 then m 87 i else if w = 2 then m 88 i else m 89 i))) (hk_h L m) := by
  refine hk_ofWP (by decide) (by simp [Value.category]) (Nat.le_of_ble_eq_true rfl) ?_
  show hk_WP _ _ _ _ _ _ _ [some (.ref 37), some (.int (nI i)), some (.int w)] [] _ _
  refine hk_iload_n dX10_refusal_0 rfl rfl ?_
  refine hk_if_lt (tgt := 21) dX10_refusal_1 (by decide) (fun c1 => absurd c1 (nI_pos (by omega))) (fun _ => ?_)
  refine hk_iload_n dX10_refusal_4 rfl rfl ?_
  refine hk_aload_n dX10_refusal_5 rfl rfl ?_
  refine gfX10_370 rfl dX10_refusal_6 (hk_lt (by decide)) rfl rfl ?_
  refine hk_icmp_ge (tgt := 21) dX10_refusal_9 (by decide) (fun c9 => absurd c9 (by rw [hn]; exact nI_ge hi (by omega))) (fun _ => ?_)
  refine hk_iload_n dX10_refusal_12 rfl rfl ?_
  refine hk_iconst (v := 0) dX10_refusal_13 (by decide) ?_
  refine hk_iconst (v := 3) dX10_refusal_14 (by decide) ?_
  refine ivX10_208 rfl (ct_within w 0 3) dX10_refusal_15 rfl rfl (by decide) ⟨by decide, by decide⟩ (Nat.le_of_ble_eq_true rfl) (hk_kd ?_)
  refine hk_if_ne (tgt := 23) dX10_refusal_18 (by decide) (fun _ => ?_) (fun c18 => absurd c18 (by rw [bI_0, show (3 : Int32) = nI 3 from rfl, inR_w (by decide)]; exact fun q => q h))
  refine hk_iload_n dX10_refusal_23 rfl rfl ?_
  refine hk_if_ne (tgt := 36) dX10_refusal_24 (by decide) (fun c24 => ?_) (fun c24 => ?_)
  · refine hk_iload_n dX10_refusal_36 rfl rfl ?_
    refine hk_iconst (v := 1) dX10_refusal_37 (by decide) ?_
    refine hk_icmp_ne (tgt := 50) dX10_refusal_38 (by decide) (fun c38 => ?_) (fun c38 => ?_)
    · refine hk_iload_n dX10_refusal_50 rfl rfl ?_
      refine hk_iconst (v := 2) dX10_refusal_51 (by decide) ?_
      refine hk_icmp_ne (tgt := 64) dX10_refusal_52 (by decide) (fun c52 => ?_) (fun c52 => ?_)
      · refine hk_aload_n dX10_refusal_64 rfl rfl ?_
        refine gfX10_164 rfl dX10_refusal_65 (hk_lt (by decide)) rfl rfl ?_
        refine hk_iload_n dX10_refusal_68 rfl rfl ?_
        refine hk_ian dX10_refusal_69 (by decide) (fun _ => rfl) rfl (by omega) (by decide) ?_
        exact hk_ireturn dX10_refusal_70 rfl rfl (by decide) ⟨by first | (simp [c24, c38, c52]; done) | (simp [c24, c38]; done) | (simp [c24]; done), rfl⟩
      · refine hk_aload_n dX10_refusal_55 rfl rfl ?_
        refine gfX10_161 rfl dX10_refusal_56 (hk_lt (by decide)) rfl rfl ?_
        refine hk_iload_n dX10_refusal_59 rfl rfl ?_
        refine hk_ian dX10_refusal_60 (by decide) (fun _ => rfl) rfl (by omega) (by decide) ?_
        refine hk_goto (tgt := 70) dX10_refusal_61 (by decide) ?_
        exact hk_ireturn dX10_refusal_70 rfl rfl (by decide) ⟨by first | (simp [c24, c38, c52]; done) | (simp [c24, c38]; done) | (simp [c24]; done), rfl⟩
    · refine hk_aload_n dX10_refusal_41 rfl rfl ?_
      refine gfX10_158 rfl dX10_refusal_42 (hk_lt (by decide)) rfl rfl ?_
      refine hk_iload_n dX10_refusal_45 rfl rfl ?_
      refine hk_ian dX10_refusal_46 (by decide) (fun _ => rfl) rfl (by omega) (by decide) ?_
      refine hk_goto (tgt := 70) dX10_refusal_47 (by decide) ?_
      exact hk_ireturn dX10_refusal_70 rfl rfl (by decide) ⟨by first | (simp [c24, c38, c52]; done) | (simp [c24, c38]; done) | (simp [c24]; done), rfl⟩
  · refine hk_aload_n dX10_refusal_27 rfl rfl ?_
    refine gfX10_155 rfl dX10_refusal_28 (hk_lt (by decide)) rfl rfl ?_
    refine hk_iload_n dX10_refusal_31 rfl rfl ?_
    refine hk_ian dX10_refusal_32 (by decide) (fun _ => rfl) rfl (by omega) (by decide) ?_
    refine hk_goto (tgt := 70) dX10_refusal_33 (by decide) ?_
    exact hk_ireturn dX10_refusal_70 rfl rfl (by decide) ⟨by first | (simp [c24, c38, c52]; done) | (simp [c24, c38]; done) | (simp [c24]; done), rfl⟩
theorem op_refusal (hI : Inv L z m) (i w : Int32) : OpOK L m MX9_refusal MX10_refusal [.int i, .int w] := by
  obtain ⟨g0, ⟨⟨a0, a1, a2, a3, a4, a5, a6, a7, a8, a9, a10, a11, a12, a13⟩, ⟨b0, b1, b2, b3, b4, b5, b6, b7, b8, b9, b10, b11, b12⟩, ⟨c0, c1, c2, c3, c4, c5, c6, c7, c8, c9, c10, c11, c12⟩⟩, g2, g3, g4, g5, g6, g7, g8, g9, g10, g11, g12, g13, g14⟩ := id hI
  by_cases h : inR i (z 6) ∧ inR w 4
  · obtain ⟨j, hj, rfl⟩ := inR_of h.1 (by omega)
    obtain ⟨k, hk, rfl⟩ := inR_of h.2 (by omega)
    refine ⟨1, 0, 0, 1, _, L, m, m, z, by decide, by decide, by decide, by decide, ct_refusal a6 c6 _ _, ?_, hI⟩
    have := md_refusal (L := L) (m := m) b6 c6 hj _ h.2
    rw [tg_in (by omega) (by decide) hj hk]
    have g := g11 j hj
    rcases (show k = 0 ∨ k = 1 ∨ k = 2 ∨ k = 3 by omega) with rfl | rfl | rfl | rfl
    · rw [if_pos (show nI 0 = 0 from rfl), ← g.1] at this; exact this
    · rw [if_neg (by decide), if_pos (show nI 1 = 1 from rfl), ← g.2.1] at this; exact this
    · rw [if_neg (by decide), if_neg (by decide), if_pos (show nI 2 = 2 from rfl), ← g.2.2.1] at this; exact this
    · rw [if_neg (by decide), if_neg (by decide), if_neg (by decide), ← g.2.2.2] at this; exact this
  · have e : tg m 27 4 (z 6) i w = -1 := if_neg (fun q => h ⟨⟨q.1, q.2.1⟩, q.2.2⟩)
    refine ⟨1, 0, 0, 1, -1, L, m, m, z, by decide, by decide, by decide, by decide, ?_, md_refusal_no b6 i w h, hI⟩
    have := ct_refusal (L := L) a6 c6 i w
    rw [e] at this; exact this
end O8
