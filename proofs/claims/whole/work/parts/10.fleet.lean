/-! FLEET -/
section FL
variable {L K D N : Nat} {m : Nat → Nat → Int32}
set_option maxRecDepth 20000 in
set_option maxHeartbeats 2000000 in
theorem lp_hasPlate (hK : m 9 3 = nI K) (hK30 : K ≤ 30) (p : Int32) (i : Nat) (hi : i ≤ K) (hno : ∀ j, j < i → ¬ m 10 (j * 8 + 6) = p) : hk_WP MX2_hasPlate 1 0 0 0 0 2 [some (.ref 8), some (.int p), some (.int (nI i))] [] (hk_h L m) (fun r h' => r = some (.int (bI (∃ i, i < K ∧ m 10 (i * 8 + 6) = p))) ∧ h' = hk_h L m) := by
  refine hk_iload_n dX2_hasPlate_2 rfl rfl ?_
  refine hk_aload_n dX2_hasPlate_3 rfl rfl ?_
  refine gfX2_16 rfl dX2_hasPlate_4 (hk_lt (by decide)) rfl rfl ?_
  refine gfX2_26 rfl dX2_hasPlate_7 (hk_lt (by decide)) rfl rfl ?_
  refine hk_icmp_ge (tgt := 35) dX2_hasPlate_10 (by decide) (fun c10 => ?_) (fun c10 => ?_)
  · rw [hK, nI_leI (by omega) (by omega)] at c10
    refine hk_iconst (v := 0) dX2_hasPlate_35 (by decide) ?_
    exact hk_ireturn dX2_hasPlate_36 rfl rfl (by decide) ⟨bI_r0 (fun ⟨j, hj, hp⟩ => hno j (by omega) hp), rfl⟩
  · rw [hK, nI_leI (by omega) (by omega)] at c10
    refine hk_aload_n dX2_hasPlate_13 rfl rfl ?_
    refine gfX2_16 rfl dX2_hasPlate_14 (hk_lt (by decide)) rfl rfl ?_
    refine hk_iload_n dX2_hasPlate_17 rfl rfl ?_
    refine hk_bipush (v := 6) dX2_hasPlate_18 (by decide) ?_
    refine ivX2_30 rfl (ct_geti tb9 hK30 hK rfl (by omega) (by decide)) dX2_hasPlate_20 (hk_lt (by decide)) rfl rfl rfl (by decide) ⟨by decide, by decide⟩ (Nat.le_of_ble_eq_true rfl) (hk_kd ?_)
    refine hk_iload_n dX2_hasPlate_23 rfl rfl ?_
    refine hk_icmp_ne (tgt := 29) dX2_hasPlate_24 (by decide) (fun c24 => ?_) (fun c24 => ?_)
    · refine hk_iinc (v := nI (i + 1)) dX2_hasPlate_29 rfl (nI_1 i) (by decide) rfl ?_
      refine hk_goto (tgt := 2) dX2_hasPlate_32 (by decide) ?_
      have hlt : i < K := by omega
      exact lp_hasPlate hK hK30 p (i + 1) (by omega) (fun j hj => by rcases Nat.lt_succ_iff_lt_or_eq.mp hj with h | h; exact hno j h; rw [h]; grind)
    · refine hk_iconst (v := 1) dX2_hasPlate_27 (by decide) ?_
      exact hk_ireturn dX2_hasPlate_28 rfl rfl (by decide) ⟨bI_r1 ⟨i, by omega, by grind⟩, rfl⟩
termination_by K - i
decreasing_by omega
set_option maxRecDepth 20000 in
set_option maxHeartbeats 2000000 in
theorem ct_hasPlate (hK : m 9 3 = nI K) (hK30 : K ≤ 30) (p : Int32) : hk_Cd MX2_hasPlate 1 0 0 [.ref 8, .int p] (hk_h L m) (some (.int (bI (∃ i, i < K ∧ m 10 (i * 8 + 6) = p)))) (hk_h L m) := by
  refine hk_ofWP (by decide) (by simp [Value.category]) (Nat.le_of_ble_eq_true rfl) ?_
  show hk_WP _ _ _ _ _ _ _ [some (.ref 8), some (.int p), none] [] _ _
  refine hk_iconst (v := 0) dX2_hasPlate_0 (by decide) ?_
  refine hk_istore_n dX2_hasPlate_1 rfl (by decide) rfl ?_
  exact lp_hasPlate hK hK30 p 0 (Nat.zero_le _) (fun j hj => absurd hj (Nat.not_lt_zero _))
/-- who holds the licence of a coach for a year: the first row of the table that says so -/
noncomputable def hol (m : Nat → Nat → Int32) (A N : Nat) (c y : Int32) : Int32 := (fun i => @ite _ (i < N) (Nat.decLt _ _) (m A (i * 3 + 2)) (-1)) (fi (fun i => m A (i * 3) = c ∧ m A (i * 3 + 1) = y) N)
set_option maxRecDepth 20000 in
set_option maxHeartbeats 2000000 in
theorem lp_holderOf (hN : m 11 3 = nI N) (hN2 : N ≤ 200) (c y : Int32) (i : Nat) (hi : i ≤ N) (hno : ∀ j, j < i → ¬ (m 12 (j * 3) = c ∧ m 12 (j * 3 + 1) = y)) : hk_WP MX2_holderOf 1 0 0 0 0 2 [some (.ref 8), some (.int c), some (.int y), some (.int (nI i))] [] (hk_h L m) (fun r h' => r = some (.int (hol m 12 N c y)) ∧ h' = hk_h L m) := by
  refine hk_iload_n dX2_holderOf_2 rfl rfl ?_
  refine hk_aload_n dX2_holderOf_3 rfl rfl ?_
  refine gfX2_20 rfl dX2_holderOf_4 (hk_lt (by decide)) rfl rfl ?_
  refine gfX2_26 rfl dX2_holderOf_7 (hk_lt (by decide)) rfl rfl ?_
  refine hk_icmp_ge (tgt := 55) dX2_holderOf_10 (by decide) (fun c10 => ?_) (fun c10 => ?_)
  · rw [hN, nI_leI (by omega) (by omega)] at c10
    refine hk_iconst (v := (-1)) dX2_holderOf_55 (by decide) ?_
    exact hk_ireturn dX2_holderOf_56 rfl rfl (by decide) ⟨by unfold hol; rw [fi_none (fun j hj => hno j (by omega))]; simp, rfl⟩
  · rw [hN, nI_leI (by omega) (by omega)] at c10
    refine hk_aload_n dX2_holderOf_13 rfl rfl ?_
    refine gfX2_20 rfl dX2_holderOf_14 (hk_lt (by decide)) rfl rfl ?_
    refine hk_iload_n dX2_holderOf_17 rfl rfl ?_
    refine hk_iconst (v := 0) dX2_holderOf_18 (by decide) ?_
    refine ivX2_30 rfl (ct_geti tb11 hN2 hN rfl (by omega) (by decide)) dX2_holderOf_19 (hk_lt (by decide)) rfl rfl rfl (by decide) ⟨by decide, by decide⟩ (Nat.le_of_ble_eq_true rfl) (hk_kd ?_)
    refine hk_iload_n dX2_holderOf_22 rfl rfl ?_
    refine hk_icmp_ne (tgt := 49) dX2_holderOf_23 (by decide) (fun c23 => ?_) (fun c23 => ?_)
    · refine hk_iinc (v := nI (i + 1)) dX2_holderOf_49 rfl (nI_1 i) (by decide) rfl ?_
      refine hk_goto (tgt := 2) dX2_holderOf_52 (by decide) ?_
      have hlt : i < N := by omega
      exact lp_holderOf hN hN2 c y (i + 1) (by omega) (fun j hj => by rcases Nat.lt_succ_iff_lt_or_eq.mp hj with h | h; exact hno j h; rw [h]; grind)
    · refine hk_aload_n dX2_holderOf_26 rfl rfl ?_
      refine gfX2_20 rfl dX2_holderOf_27 (hk_lt (by decide)) rfl rfl ?_
      refine hk_iload_n dX2_holderOf_30 rfl rfl ?_
      refine hk_iconst (v := 1) dX2_holderOf_31 (by decide) ?_
      refine ivX2_30 rfl (ct_geti tb11 hN2 hN rfl (by omega) (by decide)) dX2_holderOf_32 (hk_lt (by decide)) rfl rfl rfl (by decide) ⟨by decide, by decide⟩ (Nat.le_of_ble_eq_true rfl) (hk_kd ?_)
      refine hk_iload_n dX2_holderOf_35 rfl rfl ?_
      refine hk_icmp_ne (tgt := 49) dX2_holderOf_36 (by decide) (fun c36 => ?_) (fun c36 => ?_)
      · refine hk_iinc (v := nI (i + 1)) dX2_holderOf_49 rfl (nI_1 i) (by decide) rfl ?_
        refine hk_goto (tgt := 2) dX2_holderOf_52 (by decide) ?_
        have hlt : i < N := by omega
        exact lp_holderOf hN hN2 c y (i + 1) (by omega) (fun j hj => by rcases Nat.lt_succ_iff_lt_or_eq.mp hj with h | h; exact hno j h; rw [h]; grind)
      · refine hk_aload_n dX2_holderOf_39 rfl rfl ?_
        refine gfX2_20 rfl dX2_holderOf_40 (hk_lt (by decide)) rfl rfl ?_
        refine hk_iload_n dX2_holderOf_43 rfl rfl ?_
        refine hk_iconst (v := 2) dX2_holderOf_44 (by decide) ?_
        refine ivX2_30 rfl (ct_geti tb11 hN2 hN rfl (by omega) (by decide)) dX2_holderOf_45 (hk_lt (by decide)) rfl rfl rfl (by decide) ⟨by decide, by decide⟩ (Nat.le_of_ble_eq_true rfl) (hk_kd ?_)
        exact hk_ireturn dX2_holderOf_48 rfl rfl (by decide) ⟨by unfold hol; rw [fi_is (i := i) (by omega) (by grind) hno]; simp only; rw [if_pos (by omega)], rfl⟩
termination_by N - i
decreasing_by all_goals omega
set_option maxRecDepth 20000 in
set_option maxHeartbeats 2000000 in
theorem ct_holderOf (hN : m 11 3 = nI N) (hN2 : N ≤ 200) (c y : Int32) : hk_Cd MX2_holderOf 1 0 0 [.ref 8, .int c, .int y] (hk_h L m) (some (.int (hol m 12 N c y))) (hk_h L m) := by
  refine hk_ofWP (by decide) (by simp [Value.category]) (Nat.le_of_ble_eq_true rfl) ?_
  show hk_WP _ _ _ _ _ _ _ [some (.ref 8), some (.int c), some (.int y), none] [] _ _
  refine hk_iconst (v := 0) dX2_holderOf_0 (by decide) ?_
  refine hk_istore_n dX2_holderOf_1 rfl (by decide) rfl ?_
  exact lp_holderOf hN hN2 c y 0 (Nat.zero_le _) (fun j hj => absurd hj (Nat.not_lt_zero _))
set_option maxRecDepth 20000 in
set_option maxHeartbeats 2000000 in
theorem ct_settle (hK : m 9 3 = nI K) (hK30 : K ≤ 30) {i : Nat} (hi : i < K) (d s : Int32) : hk_Cd MX2_settle 1 0 0 [.ref 8, .int (nI i), .int d, .int s] (hk_h L m) none (hk_h L (hk_w (hk_w (hk_w m 10 (i * 8 + 0) d) 10 (i * 8 + 4) s) 10 (i * 8 + 3) (-1))) := by
  refine hk_ofWP (by decide) (by simp [Value.category]) (Nat.le_of_ble_eq_true rfl) ?_
  show hk_WP _ _ _ _ _ _ _ [some (.ref 8), some (.int (nI i)), some (.int d), some (.int s)] [] _ _
  refine hk_aload_n dX2_settle_0 rfl rfl ?_
  refine gfX2_16 rfl dX2_settle_1 (hk_lt (by decide)) rfl rfl ?_
  refine hk_iload_n dX2_settle_4 rfl rfl ?_
  refine hk_iconst (v := 0) dX2_settle_5 (by decide) ?_
  refine hk_iload_n dX2_settle_6 rfl rfl ?_
  refine ivX2_38 rfl (ct_seti tb9 hK30 (by simp [hk_w, hK]) rfl hi (by decide) _) dX2_settle_7 (hk_lt (by decide)) rfl rfl rfl (by decide) ⟨by decide, by decide⟩ (Nat.le_of_ble_eq_true rfl) (hk_kv ?_)
  refine hk_aload_n dX2_settle_10 rfl rfl ?_
  refine gfX2_16 rfl dX2_settle_11 (hk_lt (by decide)) rfl rfl ?_
  refine hk_iload_n dX2_settle_14 rfl rfl ?_
  refine hk_iconst (v := 4) dX2_settle_15 (by decide) ?_
  refine hk_iload_n dX2_settle_16 rfl rfl ?_
  refine ivX2_38 rfl (ct_seti tb9 hK30 (by simp [hk_w, hK]) rfl hi (by decide) _) dX2_settle_17 (hk_lt (by decide)) rfl rfl rfl (by decide) ⟨by decide, by decide⟩ (Nat.le_of_ble_eq_true rfl) (hk_kv ?_)
  refine hk_aload_n dX2_settle_20 rfl rfl ?_
  refine gfX2_16 rfl dX2_settle_21 (hk_lt (by decide)) rfl rfl ?_
  refine hk_iload_n dX2_settle_24 rfl rfl ?_
  refine hk_iconst (v := 3) dX2_settle_25 (by decide) ?_
  refine hk_iconst (v := (-1)) dX2_settle_26 (by decide) ?_
  refine ivX2_38 rfl (ct_seti tb9 hK30 (by simp [hk_w, hK]) rfl hi (by decide) _) dX2_settle_27 (hk_lt (by decide)) rfl rfl rfl (by decide) ⟨by decide, by decide⟩ (Nat.le_of_ble_eq_true rfl) (hk_kv ?_)
  exact hk_return dX2_settle_30 rfl (by decide) ⟨rfl, rfl⟩
set_option maxRecDepth 20000 in
set_option maxHeartbeats 2000000 in
theorem ct_setOut (hK : m 9 3 = nI K) (hK30 : K ≤ 30) {i : Nat} (hi : i < K) (d c s a : Int32) : hk_Cd MX2_setOut 1 0 0 [.ref 8, .int (nI i), .int d, .int c, .int s, .int a] (hk_h L m) none (hk_h L (hk_w (hk_w (hk_w (hk_w m 10 (i * 8 + 0) d) 10 (i * 8 + 1) c) 10 (i * 8 + 4) s) 10 (i * 8 + 3) a)) := by
  refine hk_ofWP (by decide) (by simp [Value.category]) (Nat.le_of_ble_eq_true rfl) ?_
  show hk_WP _ _ _ _ _ _ _ [some (.ref 8), some (.int (nI i)), some (.int d), some (.int c), some (.int s), some (.int a)] [] _ _
  refine hk_aload_n dX2_setOut_0 rfl rfl ?_
  refine gfX2_16 rfl dX2_setOut_1 (hk_lt (by decide)) rfl rfl ?_
  refine hk_iload_n dX2_setOut_4 rfl rfl ?_
  refine hk_iconst (v := 0) dX2_setOut_5 (by decide) ?_
  refine hk_iload_n dX2_setOut_6 rfl rfl ?_
  refine ivX2_38 rfl (ct_seti tb9 hK30 (by simp [hk_w, hK]) rfl hi (by decide) _) dX2_setOut_7 (hk_lt (by decide)) rfl rfl rfl (by decide) ⟨by decide, by decide⟩ (Nat.le_of_ble_eq_true rfl) (hk_kv ?_)
  refine hk_aload_n dX2_setOut_10 rfl rfl ?_
  refine gfX2_16 rfl dX2_setOut_11 (hk_lt (by decide)) rfl rfl ?_
  refine hk_iload_n dX2_setOut_14 rfl rfl ?_
  refine hk_iconst (v := 1) dX2_setOut_15 (by decide) ?_
  refine hk_iload_n dX2_setOut_16 rfl rfl ?_
  refine ivX2_38 rfl (ct_seti tb9 hK30 (by simp [hk_w, hK]) rfl hi (by decide) _) dX2_setOut_17 (hk_lt (by decide)) rfl rfl rfl (by decide) ⟨by decide, by decide⟩ (Nat.le_of_ble_eq_true rfl) (hk_kv ?_)
  refine hk_aload_n dX2_setOut_20 rfl rfl ?_
  refine gfX2_16 rfl dX2_setOut_21 (hk_lt (by decide)) rfl rfl ?_
  refine hk_iload_n dX2_setOut_24 rfl rfl ?_
  refine hk_iconst (v := 4) dX2_setOut_25 (by decide) ?_
  refine hk_iload dX2_setOut_26 rfl ?_
  refine ivX2_38 rfl (ct_seti tb9 hK30 (by simp [hk_w, hK]) rfl hi (by decide) _) dX2_setOut_28 (hk_lt (by decide)) rfl rfl rfl (by decide) ⟨by decide, by decide⟩ (Nat.le_of_ble_eq_true rfl) (hk_kv ?_)
  refine hk_aload_n dX2_setOut_31 rfl rfl ?_
  refine gfX2_16 rfl dX2_setOut_32 (hk_lt (by decide)) rfl rfl ?_
  refine hk_iload_n dX2_setOut_35 rfl rfl ?_
  refine hk_iconst (v := 3) dX2_setOut_36 (by decide) ?_
  refine hk_iload dX2_setOut_37 rfl ?_
  refine ivX2_38 rfl (ct_seti tb9 hK30 (by simp [hk_w, hK]) rfl hi (by decide) _) dX2_setOut_39 (hk_lt (by decide)) rfl rfl rfl (by decide) ⟨by decide, by decide⟩ (Nat.le_of_ble_eq_true rfl) (hk_kv ?_)
  exact hk_return dX2_setOut_42 rfl (by decide) ⟨rfl, rfl⟩
set_option maxRecDepth 20000 in
set_option maxHeartbeats 2000000 in
theorem ct_addCoach (hK : m 9 3 = nI K) (hK30 : K < 30) (p h : Int32) : hk_Cd MX2_addCoach 2 0 0 [.ref 8, .int p, .int h] (hk_h L m) (some (.int (nI K))) (hk_h L (hk_w (hk_w (hk_w (hk_w (hk_w (hk_w (hk_w (hk_w (hk_w m 9 3 (nI (K + 1))) 10 (K * 8 + 6) p) 10 (K * 8 + 7) h) 10 (K * 8 + 1) h) 10 (K * 8 + 2) 1000) 10 (K * 8 + 5) (-1)) 10 (K * 8 + 0) 0) 10 (K * 8 + 4) (-1)) 10 (K * 8 + 3) (-1))) := by
  refine hk_ofWP (by decide) (by simp [Value.category]) (Nat.le_of_ble_eq_true rfl) ?_
  show hk_WP _ _ _ _ _ _ _ [some (.ref 8), some (.int p), some (.int h), none] [] _ _
  refine hk_aload_n dX2_addCoach_0 rfl rfl ?_
  refine gfX2_16 rfl dX2_addCoach_1 (hk_lt (by decide)) rfl rfl ?_
  refine ivX2_34 rfl (ct_add tb9 (by omega) hK hK30) dX2_addCoach_4 (hk_lt (by decide)) rfl rfl rfl (by decide) ⟨by decide, by decide⟩ (Nat.le_of_ble_eq_true rfl) (hk_kd ?_)
  refine hk_istore_n dX2_addCoach_7 rfl (by decide) rfl ?_
  refine hk_aload_n dX2_addCoach_8 rfl rfl ?_
  refine gfX2_16 rfl dX2_addCoach_9 (hk_lt (by decide)) rfl rfl ?_
  refine hk_iload_n dX2_addCoach_12 rfl rfl ?_
  refine hk_bipush (v := 6) dX2_addCoach_13 (by decide) ?_
  refine hk_iload_n dX2_addCoach_15 rfl rfl ?_
  refine ivX2_38 rfl (ct_seti tb9 (by omega : K + 1 ≤ 30) (by simp [hk_w, upd]) rfl (Nat.lt_succ_self K) (by decide) _) dX2_addCoach_16 (hk_lt (by decide)) rfl rfl rfl (by decide) ⟨by decide, by decide⟩ (Nat.le_of_ble_eq_true rfl) (hk_kv ?_)
  refine hk_aload_n dX2_addCoach_19 rfl rfl ?_
  refine gfX2_16 rfl dX2_addCoach_20 (hk_lt (by decide)) rfl rfl ?_
  refine hk_iload_n dX2_addCoach_23 rfl rfl ?_
  refine hk_bipush (v := 7) dX2_addCoach_24 (by decide) ?_
  refine hk_iload_n dX2_addCoach_26 rfl rfl ?_
  refine ivX2_38 rfl (ct_seti tb9 (by omega : K + 1 ≤ 30) (by simp [hk_w, upd]) rfl (Nat.lt_succ_self K) (by decide) _) dX2_addCoach_27 (hk_lt (by decide)) rfl rfl rfl (by decide) ⟨by decide, by decide⟩ (Nat.le_of_ble_eq_true rfl) (hk_kv ?_)
  refine hk_aload_n dX2_addCoach_30 rfl rfl ?_
  refine gfX2_16 rfl dX2_addCoach_31 (hk_lt (by decide)) rfl rfl ?_
  refine hk_iload_n dX2_addCoach_34 rfl rfl ?_
  refine hk_iconst (v := 1) dX2_addCoach_35 (by decide) ?_
  refine hk_iload_n dX2_addCoach_36 rfl rfl ?_
  refine ivX2_38 rfl (ct_seti tb9 (by omega : K + 1 ≤ 30) (by simp [hk_w, upd]) rfl (Nat.lt_succ_self K) (by decide) _) dX2_addCoach_37 (hk_lt (by decide)) rfl rfl rfl (by decide) ⟨by decide, by decide⟩ (Nat.le_of_ble_eq_true rfl) (hk_kv ?_)
  refine hk_aload_n dX2_addCoach_40 rfl rfl ?_
  refine gfX2_16 rfl dX2_addCoach_41 (hk_lt (by decide)) rfl rfl ?_
  refine hk_iload_n dX2_addCoach_44 rfl rfl ?_
  refine hk_iconst (v := 2) dX2_addCoach_45 (by decide) ?_
  refine hk_sipush (v := 1000) dX2_addCoach_46 (by decide) ?_
  refine ivX2_38 rfl (ct_seti tb9 (by omega : K + 1 ≤ 30) (by simp [hk_w, upd]) rfl (Nat.lt_succ_self K) (by decide) _) dX2_addCoach_49 (hk_lt (by decide)) rfl rfl rfl (by decide) ⟨by decide, by decide⟩ (Nat.le_of_ble_eq_true rfl) (hk_kv ?_)
  refine hk_aload_n dX2_addCoach_52 rfl rfl ?_
  refine gfX2_16 rfl dX2_addCoach_53 (hk_lt (by decide)) rfl rfl ?_
  refine hk_iload_n dX2_addCoach_56 rfl rfl ?_
  refine hk_iconst (v := 5) dX2_addCoach_57 (by decide) ?_
  refine hk_iconst (v := (-1)) dX2_addCoach_58 (by decide) ?_
  refine ivX2_38 rfl (ct_seti tb9 (by omega : K + 1 ≤ 30) (by simp [hk_w, upd]) rfl (Nat.lt_succ_self K) (by decide) _) dX2_addCoach_59 (hk_lt (by decide)) rfl rfl rfl (by decide) ⟨by decide, by decide⟩ (Nat.le_of_ble_eq_true rfl) (hk_kv ?_)
  refine hk_aload_n dX2_addCoach_62 rfl rfl ?_
  refine hk_iload_n dX2_addCoach_63 rfl rfl ?_
  refine hk_iconst (v := 0) dX2_addCoach_64 (by decide) ?_
  refine hk_iconst (v := (-1)) dX2_addCoach_65 (by decide) ?_
  refine ivX2_42 rfl (ct_settle (K := K + 1) (by simp [hk_w, upd]) (by omega) (Nat.lt_succ_self K) _ _) dX2_addCoach_66 (hk_lt (by decide)) rfl rfl rfl (by decide) ⟨by decide, by decide⟩ (Nat.le_of_ble_eq_true rfl) (hk_kv ?_)
  refine hk_iload_n dX2_addCoach_69 rfl rfl ?_
  exact hk_ireturn dX2_addCoach_70 rfl rfl (by decide) ⟨rfl, rfl⟩
set_option maxRecDepth 20000 in
set_option maxHeartbeats 2000000 in
theorem ct_settle_out (hK : m 9 3 = nI 30) (d s : Int32) : hk_Cd MX2_settle 1 0 0 [.ref 8, .int (-2), .int d, .int s] (hk_h L m) none (hk_h L m) := by
  refine hk_ofWP (by decide) (by simp [Value.category]) (Nat.le_of_ble_eq_true rfl) ?_
  show hk_WP _ _ _ _ _ _ _ [some (.ref 8), some (.int (-2)), some (.int d), some (.int s)] [] _ _
  refine hk_aload_n dX2_settle_0 rfl rfl ?_
  refine gfX2_16 rfl dX2_settle_1 (hk_lt (by decide)) rfl rfl ?_
  refine hk_iload_n dX2_settle_4 rfl rfl ?_
  refine hk_iconst (v := 0) dX2_settle_5 (by decide) ?_
  refine hk_iload_n dX2_settle_6 rfl rfl ?_
  refine ivX2_38 rfl (ct_set_out tb9 (Nat.le_refl 30) hK (by decide) _ _) dX2_settle_7 (hk_lt (by decide)) rfl rfl rfl (by decide) ⟨by decide, by decide⟩ (Nat.le_of_ble_eq_true rfl) (hk_kv ?_)
  refine hk_aload_n dX2_settle_10 rfl rfl ?_
  refine gfX2_16 rfl dX2_settle_11 (hk_lt (by decide)) rfl rfl ?_
  refine hk_iload_n dX2_settle_14 rfl rfl ?_
  refine hk_iconst (v := 4) dX2_settle_15 (by decide) ?_
  refine hk_iload_n dX2_settle_16 rfl rfl ?_
  refine ivX2_38 rfl (ct_set_out tb9 (Nat.le_refl 30) hK (by decide) _ _) dX2_settle_17 (hk_lt (by decide)) rfl rfl rfl (by decide) ⟨by decide, by decide⟩ (Nat.le_of_ble_eq_true rfl) (hk_kv ?_)
  refine hk_aload_n dX2_settle_20 rfl rfl ?_
  refine gfX2_16 rfl dX2_settle_21 (hk_lt (by decide)) rfl rfl ?_
  refine hk_iload_n dX2_settle_24 rfl rfl ?_
  refine hk_iconst (v := 3) dX2_settle_25 (by decide) ?_
  refine hk_iconst (v := (-1)) dX2_settle_26 (by decide) ?_
  refine ivX2_38 rfl (ct_set_out tb9 (Nat.le_refl 30) hK (by decide) _ _) dX2_settle_27 (hk_lt (by decide)) rfl rfl rfl (by decide) ⟨by decide, by decide⟩ (Nat.le_of_ble_eq_true rfl) (hk_kv ?_)
  exact hk_return dX2_settle_30 rfl (by decide) ⟨rfl, rfl⟩
set_option maxRecDepth 20000 in
set_option maxHeartbeats 2000000 in
theorem ct_addCoach_full (hK : m 9 3 = nI 30) (p h : Int32) : hk_Cd MX2_addCoach 2 0 0 [.ref 8, .int p, .int h] (hk_h L m) (some (.int (-2))) (hk_h L m) := by
  refine hk_ofWP (by decide) (by simp [Value.category]) (Nat.le_of_ble_eq_true rfl) ?_
  show hk_WP _ _ _ _ _ _ _ [some (.ref 8), some (.int p), some (.int h), none] [] _ _
  refine hk_aload_n dX2_addCoach_0 rfl rfl ?_
  refine gfX2_16 rfl dX2_addCoach_1 (hk_lt (by decide)) rfl rfl ?_
  refine ivX2_34 rfl (ct_add_full tb9 (Nat.le_refl 30) hK rfl) dX2_addCoach_4 (hk_lt (by decide)) rfl rfl rfl (by decide) ⟨by decide, by decide⟩ (Nat.le_of_ble_eq_true rfl) (hk_kd ?_)
  refine hk_istore_n dX2_addCoach_7 rfl (by decide) rfl ?_
  refine hk_aload_n dX2_addCoach_8 rfl rfl ?_
  refine gfX2_16 rfl dX2_addCoach_9 (hk_lt (by decide)) rfl rfl ?_
  refine hk_iload_n dX2_addCoach_12 rfl rfl ?_
  refine hk_bipush (v := 6) dX2_addCoach_13 (by decide) ?_
  refine hk_iload_n dX2_addCoach_15 rfl rfl ?_
  refine ivX2_38 rfl (ct_set_out tb9 (Nat.le_refl 30) hK (by decide) _ _) dX2_addCoach_16 (hk_lt (by decide)) rfl rfl rfl (by decide) ⟨by decide, by decide⟩ (Nat.le_of_ble_eq_true rfl) (hk_kv ?_)
  refine hk_aload_n dX2_addCoach_19 rfl rfl ?_
  refine gfX2_16 rfl dX2_addCoach_20 (hk_lt (by decide)) rfl rfl ?_
  refine hk_iload_n dX2_addCoach_23 rfl rfl ?_
  refine hk_bipush (v := 7) dX2_addCoach_24 (by decide) ?_
  refine hk_iload_n dX2_addCoach_26 rfl rfl ?_
  refine ivX2_38 rfl (ct_set_out tb9 (Nat.le_refl 30) hK (by decide) _ _) dX2_addCoach_27 (hk_lt (by decide)) rfl rfl rfl (by decide) ⟨by decide, by decide⟩ (Nat.le_of_ble_eq_true rfl) (hk_kv ?_)
  refine hk_aload_n dX2_addCoach_30 rfl rfl ?_
  refine gfX2_16 rfl dX2_addCoach_31 (hk_lt (by decide)) rfl rfl ?_
  refine hk_iload_n dX2_addCoach_34 rfl rfl ?_
  refine hk_iconst (v := 1) dX2_addCoach_35 (by decide) ?_
  refine hk_iload_n dX2_addCoach_36 rfl rfl ?_
  refine ivX2_38 rfl (ct_set_out tb9 (Nat.le_refl 30) hK (by decide) _ _) dX2_addCoach_37 (hk_lt (by decide)) rfl rfl rfl (by decide) ⟨by decide, by decide⟩ (Nat.le_of_ble_eq_true rfl) (hk_kv ?_)
  refine hk_aload_n dX2_addCoach_40 rfl rfl ?_
  refine gfX2_16 rfl dX2_addCoach_41 (hk_lt (by decide)) rfl rfl ?_
  refine hk_iload_n dX2_addCoach_44 rfl rfl ?_
  refine hk_iconst (v := 2) dX2_addCoach_45 (by decide) ?_
  refine hk_sipush (v := 1000) dX2_addCoach_46 (by decide) ?_
  refine ivX2_38 rfl (ct_set_out tb9 (Nat.le_refl 30) hK (by decide) _ _) dX2_addCoach_49 (hk_lt (by decide)) rfl rfl rfl (by decide) ⟨by decide, by decide⟩ (Nat.le_of_ble_eq_true rfl) (hk_kv ?_)
  refine hk_aload_n dX2_addCoach_52 rfl rfl ?_
  refine gfX2_16 rfl dX2_addCoach_53 (hk_lt (by decide)) rfl rfl ?_
  refine hk_iload_n dX2_addCoach_56 rfl rfl ?_
  refine hk_iconst (v := 5) dX2_addCoach_57 (by decide) ?_
  refine hk_iconst (v := (-1)) dX2_addCoach_58 (by decide) ?_
  refine ivX2_38 rfl (ct_set_out tb9 (Nat.le_refl 30) hK (by decide) _ _) dX2_addCoach_59 (hk_lt (by decide)) rfl rfl rfl (by decide) ⟨by decide, by decide⟩ (Nat.le_of_ble_eq_true rfl) (hk_kv ?_)
  refine hk_aload_n dX2_addCoach_62 rfl rfl ?_
  refine hk_iload_n dX2_addCoach_63 rfl rfl ?_
  refine hk_iconst (v := 0) dX2_addCoach_64 (by decide) ?_
  refine hk_iconst (v := (-1)) dX2_addCoach_65 (by decide) ?_
  refine ivX2_42 rfl (ct_settle_out hK _ _) dX2_addCoach_66 (hk_lt (by decide)) rfl rfl rfl (by decide) ⟨by decide, by decide⟩ (Nat.le_of_ble_eq_true rfl) (hk_kv ?_)
  refine hk_iload_n dX2_addCoach_69 rfl rfl ?_
  exact hk_ireturn dX2_addCoach_70 rfl rfl (by decide) ⟨rfl, rfl⟩
set_option maxRecDepth 20000 in
set_option maxHeartbeats 2000000 in
theorem ct_addLicence (hN : m 11 3 = nI N) (hN2 : N < 200) (c y o : Int32) : hk_Cd MX2_addLicence 2 0 0 [.ref 8, .int c, .int y, .int o] (hk_h L m) (some (.int 1)) (hk_h L (hk_w (hk_w (hk_w (hk_w m 11 3 (nI (N + 1))) 12 (N * 3 + 0) c) 12 (N * 3 + 1) y) 12 (N * 3 + 2) o)) := by
  refine hk_ofWP (by decide) (by simp [Value.category]) (Nat.le_of_ble_eq_true rfl) ?_
  show hk_WP _ _ _ _ _ _ _ [some (.ref 8), some (.int c), some (.int y), some (.int o), none] [] _ _
  refine hk_aload_n dX2_addLicence_0 rfl rfl ?_
  refine gfX2_20 rfl dX2_addLicence_1 (hk_lt (by decide)) rfl rfl ?_
  refine ivX2_34 rfl (ct_add tb11 (by omega) hN hN2) dX2_addLicence_4 (hk_lt (by decide)) rfl rfl rfl (by decide) ⟨by decide, by decide⟩ (Nat.le_of_ble_eq_true rfl) (hk_kd ?_)
  refine hk_istore dX2_addLicence_7 (by decide) rfl ?_
  refine hk_aload_n dX2_addLicence_9 rfl rfl ?_
  refine gfX2_20 rfl dX2_addLicence_10 (hk_lt (by decide)) rfl rfl ?_
  refine hk_iload dX2_addLicence_13 rfl ?_
  refine hk_iconst (v := 0) dX2_addLicence_15 (by decide) ?_
  refine hk_iload_n dX2_addLicence_16 rfl rfl ?_
  refine ivX2_38 rfl (ct_seti tb11 (by omega : N + 1 ≤ 200) (by simp [hk_w, upd]) rfl (Nat.lt_succ_self N) (by decide) _) dX2_addLicence_17 (hk_lt (by decide)) rfl rfl rfl (by decide) ⟨by decide, by decide⟩ (Nat.le_of_ble_eq_true rfl) (hk_kv ?_)
  refine hk_aload_n dX2_addLicence_20 rfl rfl ?_
  refine gfX2_20 rfl dX2_addLicence_21 (hk_lt (by decide)) rfl rfl ?_
  refine hk_iload dX2_addLicence_24 rfl ?_
  refine hk_iconst (v := 1) dX2_addLicence_26 (by decide) ?_
  refine hk_iload_n dX2_addLicence_27 rfl rfl ?_
  refine ivX2_38 rfl (ct_seti tb11 (by omega : N + 1 ≤ 200) (by simp [hk_w, upd]) rfl (Nat.lt_succ_self N) (by decide) _) dX2_addLicence_28 (hk_lt (by decide)) rfl rfl rfl (by decide) ⟨by decide, by decide⟩ (Nat.le_of_ble_eq_true rfl) (hk_kv ?_)
  refine hk_aload_n dX2_addLicence_31 rfl rfl ?_
  refine gfX2_20 rfl dX2_addLicence_32 (hk_lt (by decide)) rfl rfl ?_
  refine hk_iload dX2_addLicence_35 rfl ?_
  refine hk_iconst (v := 2) dX2_addLicence_37 (by decide) ?_
  refine hk_iload_n dX2_addLicence_38 rfl rfl ?_
  refine ivX2_38 rfl (ct_seti tb11 (by omega : N + 1 ≤ 200) (by simp [hk_w, upd]) rfl (Nat.lt_succ_self N) (by decide) _) dX2_addLicence_39 (hk_lt (by decide)) rfl rfl rfl (by decide) ⟨by decide, by decide⟩ (Nat.le_of_ble_eq_true rfl) (hk_kv ?_)
  refine hk_iload dX2_addLicence_42 rfl ?_
  refine hk_if_ge (tgt := 52) dX2_addLicence_44 (by decide) (fun _ => ?_) (fun c44 => absurd (nI_pos' (by omega)) c44)
  refine hk_iconst (v := 1) dX2_addLicence_52 (by decide) ?_
  exact hk_ireturn dX2_addLicence_53 rfl rfl (by decide) ⟨rfl, rfl⟩
set_option maxRecDepth 20000 in
set_option maxHeartbeats 2000000 in
theorem ct_addLicence_full (hN : m 11 3 = nI 200) (c y o : Int32) : hk_Cd MX2_addLicence 2 0 0 [.ref 8, .int c, .int y, .int o] (hk_h L m) (some (.int (-2))) (hk_h L m) := by
  refine hk_ofWP (by decide) (by simp [Value.category]) (Nat.le_of_ble_eq_true rfl) ?_
  show hk_WP _ _ _ _ _ _ _ [some (.ref 8), some (.int c), some (.int y), some (.int o), none] [] _ _
  refine hk_aload_n dX2_addLicence_0 rfl rfl ?_
  refine gfX2_20 rfl dX2_addLicence_1 (hk_lt (by decide)) rfl rfl ?_
  refine ivX2_34 rfl (ct_add_full tb11 (Nat.le_refl 200) hN rfl) dX2_addLicence_4 (hk_lt (by decide)) rfl rfl rfl (by decide) ⟨by decide, by decide⟩ (Nat.le_of_ble_eq_true rfl) (hk_kd ?_)
  refine hk_istore dX2_addLicence_7 (by decide) rfl ?_
  refine hk_aload_n dX2_addLicence_9 rfl rfl ?_
  refine gfX2_20 rfl dX2_addLicence_10 (hk_lt (by decide)) rfl rfl ?_
  refine hk_iload dX2_addLicence_13 rfl ?_
  refine hk_iconst (v := 0) dX2_addLicence_15 (by decide) ?_
  refine hk_iload_n dX2_addLicence_16 rfl rfl ?_
  refine ivX2_38 rfl (ct_set_out tb11 (Nat.le_refl 200) hN (by decide) _ _) dX2_addLicence_17 (hk_lt (by decide)) rfl rfl rfl (by decide) ⟨by decide, by decide⟩ (Nat.le_of_ble_eq_true rfl) (hk_kv ?_)
  refine hk_aload_n dX2_addLicence_20 rfl rfl ?_
  refine gfX2_20 rfl dX2_addLicence_21 (hk_lt (by decide)) rfl rfl ?_
  refine hk_iload dX2_addLicence_24 rfl ?_
  refine hk_iconst (v := 1) dX2_addLicence_26 (by decide) ?_
  refine hk_iload_n dX2_addLicence_27 rfl rfl ?_
  refine ivX2_38 rfl (ct_set_out tb11 (Nat.le_refl 200) hN (by decide) _ _) dX2_addLicence_28 (hk_lt (by decide)) rfl rfl rfl (by decide) ⟨by decide, by decide⟩ (Nat.le_of_ble_eq_true rfl) (hk_kv ?_)
  refine hk_aload_n dX2_addLicence_31 rfl rfl ?_
  refine gfX2_20 rfl dX2_addLicence_32 (hk_lt (by decide)) rfl rfl ?_
  refine hk_iload dX2_addLicence_35 rfl ?_
  refine hk_iconst (v := 2) dX2_addLicence_37 (by decide) ?_
  refine hk_iload_n dX2_addLicence_38 rfl rfl ?_
  refine ivX2_38 rfl (ct_set_out tb11 (Nat.le_refl 200) hN (by decide) _ _) dX2_addLicence_39 (hk_lt (by decide)) rfl rfl rfl (by decide) ⟨by decide, by decide⟩ (Nat.le_of_ble_eq_true rfl) (hk_kv ?_)
  refine hk_iload dX2_addLicence_42 rfl ?_
  refine hk_if_ge (tgt := 52) dX2_addLicence_44 (by decide) (fun c44 => absurd c44 (by decide)) (fun _ => ?_)
  refine hk_bipush (v := (-2)) dX2_addLicence_47 (by decide) ?_
  refine hk_goto (tgt := 53) dX2_addLicence_49 (by decide) ?_
  exact hk_ireturn dX2_addLicence_53 rfl rfl (by decide) ⟨rfl, rfl⟩
set_option maxRecDepth 20000 in
set_option maxHeartbeats 2000000 in
theorem ct_addStand (hD : m 13 3 = nI D) (hD12 : D < 12) (c n : Int32) : hk_Cd MX2_addStand 2 0 0 [.ref 8, .int c, .int n] (hk_h L m) (some (.int (nI D))) (hk_h L (hk_w (hk_w (hk_w m 13 3 (nI (D + 1))) 14 (D * 13 + 0) c) 14 (D * 13 + 1) n)) := by
  refine hk_ofWP (by decide) (by simp [Value.category]) (Nat.le_of_ble_eq_true rfl) ?_
  show hk_WP _ _ _ _ _ _ _ [some (.ref 8), some (.int c), some (.int n), none] [] _ _
  refine hk_aload_n dX2_addStand_0 rfl rfl ?_
  refine gfX2_23 rfl dX2_addStand_1 (hk_lt (by decide)) rfl rfl ?_
  refine ivX2_34 rfl (ct_add tb13 (by omega) hD hD12) dX2_addStand_4 (hk_lt (by decide)) rfl rfl rfl (by decide) ⟨by decide, by decide⟩ (Nat.le_of_ble_eq_true rfl) (hk_kd ?_)
  refine hk_istore_n dX2_addStand_7 rfl (by decide) rfl ?_
  refine hk_aload_n dX2_addStand_8 rfl rfl ?_
  refine gfX2_23 rfl dX2_addStand_9 (hk_lt (by decide)) rfl rfl ?_
  refine hk_iload_n dX2_addStand_12 rfl rfl ?_
  refine hk_iconst (v := 0) dX2_addStand_13 (by decide) ?_
  refine hk_iload_n dX2_addStand_14 rfl rfl ?_
  refine ivX2_38 rfl (ct_seti tb13 (by omega : D + 1 ≤ 12) (by simp [hk_w, upd]) rfl (Nat.lt_succ_self D) (by decide) _) dX2_addStand_15 (hk_lt (by decide)) rfl rfl rfl (by decide) ⟨by decide, by decide⟩ (Nat.le_of_ble_eq_true rfl) (hk_kv ?_)
  refine hk_aload_n dX2_addStand_18 rfl rfl ?_
  refine gfX2_23 rfl dX2_addStand_19 (hk_lt (by decide)) rfl rfl ?_
  refine hk_iload_n dX2_addStand_22 rfl rfl ?_
  refine hk_iconst (v := 1) dX2_addStand_23 (by decide) ?_
  refine hk_iload_n dX2_addStand_24 rfl rfl ?_
  refine ivX2_38 rfl (ct_seti tb13 (by omega : D + 1 ≤ 12) (by simp [hk_w, upd]) rfl (Nat.lt_succ_self D) (by decide) _) dX2_addStand_25 (hk_lt (by decide)) rfl rfl rfl (by decide) ⟨by decide, by decide⟩ (Nat.le_of_ble_eq_true rfl) (hk_kv ?_)
  refine hk_iload_n dX2_addStand_28 rfl rfl ?_
  exact hk_ireturn dX2_addStand_29 rfl rfl (by decide) ⟨rfl, rfl⟩
set_option maxRecDepth 20000 in
set_option maxHeartbeats 2000000 in
theorem ct_addStand_full (hD : m 13 3 = nI 12) (c n : Int32) : hk_Cd MX2_addStand 2 0 0 [.ref 8, .int c, .int n] (hk_h L m) (some (.int (-2))) (hk_h L m) := by
  refine hk_ofWP (by decide) (by simp [Value.category]) (Nat.le_of_ble_eq_true rfl) ?_
  show hk_WP _ _ _ _ _ _ _ [some (.ref 8), some (.int c), some (.int n), none] [] _ _
  refine hk_aload_n dX2_addStand_0 rfl rfl ?_
  refine gfX2_23 rfl dX2_addStand_1 (hk_lt (by decide)) rfl rfl ?_
  refine ivX2_34 rfl (ct_add_full tb13 (Nat.le_refl 12) hD rfl) dX2_addStand_4 (hk_lt (by decide)) rfl rfl rfl (by decide) ⟨by decide, by decide⟩ (Nat.le_of_ble_eq_true rfl) (hk_kd ?_)
  refine hk_istore_n dX2_addStand_7 rfl (by decide) rfl ?_
  refine hk_aload_n dX2_addStand_8 rfl rfl ?_
  refine gfX2_23 rfl dX2_addStand_9 (hk_lt (by decide)) rfl rfl ?_
  refine hk_iload_n dX2_addStand_12 rfl rfl ?_
  refine hk_iconst (v := 0) dX2_addStand_13 (by decide) ?_
  refine hk_iload_n dX2_addStand_14 rfl rfl ?_
  refine ivX2_38 rfl (ct_set_out tb13 (Nat.le_refl 12) hD (by decide) _ _) dX2_addStand_15 (hk_lt (by decide)) rfl rfl rfl (by decide) ⟨by decide, by decide⟩ (Nat.le_of_ble_eq_true rfl) (hk_kv ?_)
  refine hk_aload_n dX2_addStand_18 rfl rfl ?_
  refine gfX2_23 rfl dX2_addStand_19 (hk_lt (by decide)) rfl rfl ?_
  refine hk_iload_n dX2_addStand_22 rfl rfl ?_
  refine hk_iconst (v := 1) dX2_addStand_23 (by decide) ?_
  refine hk_iload_n dX2_addStand_24 rfl rfl ?_
  refine ivX2_38 rfl (ct_set_out tb13 (Nat.le_refl 12) hD (by decide) _ _) dX2_addStand_25 (hk_lt (by decide)) rfl rfl rfl (by decide) ⟨by decide, by decide⟩ (Nat.le_of_ble_eq_true rfl) (hk_kv ?_)
  refine hk_iload_n dX2_addStand_28 rfl rfl ?_
  exact hk_ireturn dX2_addStand_29 rfl rfl (by decide) ⟨rfl, rfl⟩
set_option maxRecDepth 20000 in
set_option maxHeartbeats 2000000 in
theorem ct_isMoving (hK : m 9 3 = nI K) (hK30 : K ≤ 30) {i : Nat} (hi : i < K) : hk_Cd MX2_isMoving 1 0 0 [.ref 8, .int (nI i)] (hk_h L m) (some (.int (bI (m 10 (i * 8) = 2 ∨ m 10 (i * 8) = 3)))) (hk_h L m) := by
  refine hk_ofWP (by decide) (by simp [Value.category]) (Nat.le_of_ble_eq_true rfl) ?_
  show hk_WP _ _ _ _ _ _ _ [some (.ref 8), some (.int (nI i)), none] [] _ _
  refine hk_aload_n dX2_isMoving_0 rfl rfl ?_
  refine gfX2_16 rfl dX2_isMoving_1 (hk_lt (by decide)) rfl rfl ?_
  refine hk_iload_n dX2_isMoving_4 rfl rfl ?_
  refine hk_iconst (v := 0) dX2_isMoving_5 (by decide) ?_
  refine ivX2_30 rfl (ct_geti tb9 hK30 hK rfl hi (by decide)) dX2_isMoving_6 (hk_lt (by decide)) rfl rfl rfl (by decide) ⟨by decide, by decide⟩ (Nat.le_of_ble_eq_true rfl) (hk_kd ?_)
  refine hk_istore_n dX2_isMoving_9 rfl (by decide) rfl ?_
  refine hk_iload_n dX2_isMoving_10 rfl rfl ?_
  refine hk_iconst (v := 2) dX2_isMoving_11 (by decide) ?_
  refine hk_icmp_eq (tgt := 20) dX2_isMoving_12 (by decide) (fun c12 => ?_) (fun c12 => ?_)
  · refine hk_iconst (v := 1) dX2_isMoving_20 (by decide) ?_
    refine hk_goto (tgt := 25) dX2_isMoving_21 (by decide) ?_
    exact hk_ireturn dX2_isMoving_25 rfl rfl (by decide) ⟨by first | exact bI_r1 (by grind) | exact bI_r0 (by grind), rfl⟩
  · refine hk_iload_n dX2_isMoving_15 rfl rfl ?_
    refine hk_iconst (v := 3) dX2_isMoving_16 (by decide) ?_
    refine hk_icmp_ne (tgt := 24) dX2_isMoving_17 (by decide) (fun c17 => ?_) (fun c17 => ?_)
    · refine hk_iconst (v := 0) dX2_isMoving_24 (by decide) ?_
      exact hk_ireturn dX2_isMoving_25 rfl rfl (by decide) ⟨by first | exact bI_r1 (by grind) | exact bI_r0 (by grind), rfl⟩
    · refine hk_iconst (v := 1) dX2_isMoving_20 (by decide) ?_
      refine hk_goto (tgt := 25) dX2_isMoving_21 (by decide) ?_
      exact hk_ireturn dX2_isMoving_25 rfl rfl (by decide) ⟨by first | exact bI_r1 (by grind) | exact bI_r0 (by grind), rfl⟩
set_option maxRecDepth 20000 in
set_option maxHeartbeats 2000000 in
theorem ct_isStanding (hK : m 9 3 = nI K) (hK30 : K ≤ 30) (c : Int32) : hk_Cd MX2_isStanding 1 0 0 [.ref 8, .int c] (hk_h L m) (some (.int (bI (tg m 9 8 K c 0 = 1)))) (hk_h L m) := by
  refine hk_ofWP (by decide) (by simp [Value.category]) (Nat.le_of_ble_eq_true rfl) ?_
  show hk_WP _ _ _ _ _ _ _ [some (.ref 8), some (.int c)] [] _ _
  refine hk_aload_n dX2_isStanding_0 rfl rfl ?_
  refine gfX2_16 rfl dX2_isStanding_1 (hk_lt (by decide)) rfl rfl ?_
  refine hk_iload_n dX2_isStanding_4 rfl rfl ?_
  refine hk_iconst (v := 0) dX2_isStanding_5 (by decide) ?_
  refine ivX2_30 rfl (ct_get tb9 hK30 hK c 0) dX2_isStanding_6 (hk_lt (by decide)) rfl rfl rfl (by decide) ⟨by decide, by decide⟩ (Nat.le_of_ble_eq_true rfl) (hk_kd ?_)
  refine hk_iconst (v := 1) dX2_isStanding_9 (by decide) ?_
  refine hk_icmp_ne (tgt := 17) dX2_isStanding_10 (by decide) (fun c10 => ?_) (fun c10 => ?_)
  · refine hk_iconst (v := 0) dX2_isStanding_17 (by decide) ?_
    exact hk_ireturn dX2_isStanding_18 rfl rfl (by decide) ⟨by first | exact bI_r1 (by grind) | exact bI_r0 (by grind), rfl⟩
  · refine hk_iconst (v := 1) dX2_isStanding_13 (by decide) ?_
    refine hk_goto (tgt := 18) dX2_isStanding_14 (by decide) ?_
    exact hk_ireturn dX2_isStanding_18 rfl rfl (by decide) ⟨by first | exact bI_r1 (by grind) | exact bI_r0 (by grind), rfl⟩
set_option maxRecDepth 20000 in
set_option maxHeartbeats 2000000 in
theorem ct_isStandingAt (hK : m 9 3 = nI K) (hK30 : K ≤ 30) {i : Nat} (hi : i < K) (s : Int32) : hk_Cd MX2_isStandingAt 2 0 0 [.ref 8, .int (nI i), .int s] (hk_h L m) (some (.int (bI (tg m 9 8 K (nI i) 0 = 1 ∧ m 10 (i * 8 + 4) = s)))) (hk_h L m) := by
  refine hk_ofWP (by decide) (by simp [Value.category]) (Nat.le_of_ble_eq_true rfl) ?_
  show hk_WP _ _ _ _ _ _ _ [some (.ref 8), some (.int (nI i)), some (.int s)] [] _ _
  refine hk_aload_n dX2_isStandingAt_0 rfl rfl ?_
  refine hk_iload_n dX2_isStandingAt_1 rfl rfl ?_
  refine ivX2_45 rfl (ct_isStanding hK hK30 _) dX2_isStandingAt_2 (hk_lt (by decide)) rfl rfl rfl (by decide) ⟨by decide, by decide⟩ (Nat.le_of_ble_eq_true rfl) (hk_kd ?_)
  refine hk_if_eq (tgt := 25) dX2_isStandingAt_5 (by decide) (fun c5 => ?_) (fun c5 => ?_)
  · rw [bI_0] at c5
    refine hk_iconst (v := 0) dX2_isStandingAt_25 (by decide) ?_
    exact hk_ireturn dX2_isStandingAt_26 rfl rfl (by decide) ⟨by first | exact bI_r1 (by grind) | exact bI_r0 (by grind), rfl⟩
  · rw [bI_0] at c5
    refine hk_aload_n dX2_isStandingAt_8 rfl rfl ?_
    refine gfX2_16 rfl dX2_isStandingAt_9 (hk_lt (by decide)) rfl rfl ?_
    refine hk_iload_n dX2_isStandingAt_12 rfl rfl ?_
    refine hk_iconst (v := 4) dX2_isStandingAt_13 (by decide) ?_
    refine ivX2_30 rfl (ct_geti tb9 hK30 hK rfl hi (by decide)) dX2_isStandingAt_14 (hk_lt (by decide)) rfl rfl rfl (by decide) ⟨by decide, by decide⟩ (Nat.le_of_ble_eq_true rfl) (hk_kd ?_)
    refine hk_iload_n dX2_isStandingAt_17 rfl rfl ?_
    refine hk_icmp_ne (tgt := 25) dX2_isStandingAt_18 (by decide) (fun c18 => ?_) (fun c18 => ?_)
    · refine hk_iconst (v := 0) dX2_isStandingAt_25 (by decide) ?_
      exact hk_ireturn dX2_isStandingAt_26 rfl rfl (by decide) ⟨by first | exact bI_r1 (by grind) | exact bI_r0 (by grind), rfl⟩
    · refine hk_iconst (v := 1) dX2_isStandingAt_21 (by decide) ?_
      refine hk_goto (tgt := 26) dX2_isStandingAt_22 (by decide) ?_
      exact hk_ireturn dX2_isStandingAt_26 rfl rfl (by decide) ⟨by first | exact bI_r1 (by grind) | exact bI_r0 (by grind), rfl⟩
set_option maxRecDepth 20000 in
set_option maxHeartbeats 2000000 in
theorem ct_rowLength (hD : m 13 3 = nI D) (hD12 : D ≤ 12) (s : Int32) : hk_Cd MX2_rowLength 1 0 0 [.ref 8, .int s] (hk_h L m) (some (.int (tg m 13 13 D s 2))) (hk_h L m) := by
  refine hk_ofWP (by decide) (by simp [Value.category]) (Nat.le_of_ble_eq_true rfl) ?_
  show hk_WP _ _ _ _ _ _ _ [some (.ref 8), some (.int s)] [] _ _
  refine hk_aload_n dX2_rowLength_0 rfl rfl ?_
  refine gfX2_23 rfl dX2_rowLength_1 (hk_lt (by decide)) rfl rfl ?_
  refine hk_iload_n dX2_rowLength_4 rfl rfl ?_
  refine hk_iconst (v := 2) dX2_rowLength_5 (by decide) ?_
  refine ivX2_30 rfl (ct_get tb13 hD12 hD s 2) dX2_rowLength_6 (hk_lt (by decide)) rfl rfl rfl (by decide) ⟨by decide, by decide⟩ (Nat.le_of_ble_eq_true rfl) (hk_kd ?_)
  exact hk_ireturn dX2_rowLength_9 rfl rfl (by decide) ⟨rfl, rfl⟩
set_option maxRecDepth 20000 in
set_option maxHeartbeats 2000000 in
theorem ct_coachInRow (hD : m 13 3 = nI D) (hD12 : D ≤ 12) (s i : Int32) : hk_Cd MX2_coachInRow 2 0 0 [.ref 8, .int s, .int i] (hk_h L m) (some (.int (if ¬ i < 0 ∧ ¬ tg m 13 13 D s 2 ≤ i then tg m 13 13 D s (3 + i) else -1))) (hk_h L m) := by
  refine hk_ofWP (by decide) (by simp [Value.category]) (Nat.le_of_ble_eq_true rfl) ?_
  show hk_WP _ _ _ _ _ _ _ [some (.ref 8), some (.int s), some (.int i)] [] _ _
  refine hk_iload_n dX2_coachInRow_0 rfl rfl ?_
  refine hk_if_lt (tgt := 27) dX2_coachInRow_1 (by decide) (fun c1 => ?_) (fun c1 => ?_)
  · refine hk_iconst (v := (-1)) dX2_coachInRow_27 (by decide) ?_
    exact hk_ireturn dX2_coachInRow_28 rfl rfl (by decide) ⟨by grind, rfl⟩
  · refine hk_iload_n dX2_coachInRow_4 rfl rfl ?_
    refine hk_aload_n dX2_coachInRow_5 rfl rfl ?_
    refine hk_iload_n dX2_coachInRow_6 rfl rfl ?_
    refine ivX2_49 rfl (ct_rowLength hD hD12 _) dX2_coachInRow_7 (hk_lt (by decide)) rfl rfl rfl (by decide) ⟨by decide, by decide⟩ (Nat.le_of_ble_eq_true rfl) (hk_kd ?_)
    refine hk_icmp_ge (tgt := 27) dX2_coachInRow_10 (by decide) (fun c10 => ?_) (fun c10 => ?_)
    · refine hk_iconst (v := (-1)) dX2_coachInRow_27 (by decide) ?_
      exact hk_ireturn dX2_coachInRow_28 rfl rfl (by decide) ⟨by grind, rfl⟩
    · refine hk_aload_n dX2_coachInRow_13 rfl rfl ?_
      refine gfX2_23 rfl dX2_coachInRow_14 (hk_lt (by decide)) rfl rfl ?_
      refine hk_iload_n dX2_coachInRow_17 rfl rfl ?_
      refine hk_iconst (v := 3) dX2_coachInRow_18 (by decide) ?_
      refine hk_iload_n dX2_coachInRow_19 rfl rfl ?_
      refine hk_iadd dX2_coachInRow_20 ?_
      refine ivX2_30 rfl (ct_get tb13 hD12 hD s (3 + i)) dX2_coachInRow_21 (hk_lt (by decide)) rfl rfl rfl (by decide) ⟨by decide, by decide⟩ (Nat.le_of_ble_eq_true rfl) (hk_kd ?_)
      refine hk_goto (tgt := 28) dX2_coachInRow_24 (by decide) ?_
      exact hk_ireturn dX2_coachInRow_28 rfl rfl (by decide) ⟨by grind, rfl⟩
end FL
