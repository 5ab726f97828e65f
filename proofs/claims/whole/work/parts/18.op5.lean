section O5
variable {L : Nat} {m : Nat → Nat → Int32} {z : Nat → Nat}
set_option maxRecDepth 20000 in
set_option maxHeartbeats 2000000 in
theorem ct_coach_no {nC : Nat} (hC : m 1 0 = nI nC) (p h : Int32) (hn : ¬ ((¬ p < 1 ∧ ¬ 9999 < p) ∧ inR h nC)) : hk_Cd MX9_coach 3 0 0 [.ref 0, .int p, .int h] (hk_h L m) (some (.int (-1))) (hk_h L m) := by
  refine hk_ofWP (by decide) (by simp [Value.category]) (Nat.le_of_ble_eq_true rfl) ?_
  show hk_WP _ _ _ _ _ _ _ [some (.ref 0), some (.int p), some (.int h)] [] _ _
  refine hk_iload_n dX9_coach_0 rfl rfl ?_
  refine hk_iconst (v := 1) dX9_coach_1 (by decide) ?_
  refine hk_icmp_lt (tgt := 23) dX9_coach_2 (by decide) (fun c2 => ?_) (fun c2 => ?_)
  · refine hk_iconst (v := (-1)) dX9_coach_23 (by decide) ?_
    exact hk_ireturn dX9_coach_24 rfl rfl (by decide) ⟨rfl, rfl⟩
  · refine hk_iload_n dX9_coach_5 rfl rfl ?_
    refine hk_sipush (v := 9999) dX9_coach_6 (by decide) ?_
    refine hk_icmp_gt (tgt := 23) dX9_coach_9 (by decide) (fun c9 => ?_) (fun c9 => ?_)
    · refine hk_iconst (v := (-1)) dX9_coach_23 (by decide) ?_
      exact hk_ireturn dX9_coach_24 rfl rfl (by decide) ⟨rfl, rfl⟩
    · refine hk_aload_n dX9_coach_12 rfl rfl ?_
      refine gfX9_16 rfl dX9_coach_13 (hk_lt (by decide)) rfl rfl ?_
      refine hk_iload_n dX9_coach_16 rfl rfl ?_
      refine ivX9_59 rfl (ct_isCorner hC _) dX9_coach_17 (hk_lt (by decide)) rfl rfl rfl (by decide) ⟨by decide, by decide⟩ (Nat.le_of_ble_eq_true rfl) (hk_kd ?_)
      refine hk_if_ne (tgt := 25) dX9_coach_20 (by decide) (fun c20 => ?_) (fun c20 => ?_)
      · rw [bI_0] at c20
        exact absurd (by grind) hn
      · rw [bI_0] at c20
        refine hk_iconst (v := (-1)) dX9_coach_23 (by decide) ?_
        exact hk_ireturn dX9_coach_24 rfl rfl (by decide) ⟨rfl, rfl⟩
set_option maxRecDepth 20000 in
set_option maxHeartbeats 2000000 in
theorem ct_coach_there {nC : Nat} (hC : m 1 0 = nI nC) {K : Nat} (hK : m 9 3 = nI K) (hK30 : K ≤ 30) (p h : Int32) (hp : (¬ p < 1 ∧ ¬ 9999 < p) ∧ inR h nC) (hx : ∃ i, i < K ∧ m 10 (i * 8 + 6) = p) : hk_Cd MX9_coach 3 0 0 [.ref 0, .int p, .int h] (hk_h L m) (some (.int (-4))) (hk_h L m) := by
  refine hk_ofWP (by decide) (by simp [Value.category]) (Nat.le_of_ble_eq_true rfl) ?_
  show hk_WP _ _ _ _ _ _ _ [some (.ref 0), some (.int p), some (.int h)] [] _ _
  refine hk_iload_n dX9_coach_0 rfl rfl ?_
  refine hk_iconst (v := 1) dX9_coach_1 (by decide) ?_
  refine hk_icmp_lt (tgt := 23) dX9_coach_2 (by decide) (fun c2 => ?_) (fun c2 => ?_)
  · exfalso; grind
  · refine hk_iload_n dX9_coach_5 rfl rfl ?_
    refine hk_sipush (v := 9999) dX9_coach_6 (by decide) ?_
    refine hk_icmp_gt (tgt := 23) dX9_coach_9 (by decide) (fun c9 => ?_) (fun c9 => ?_)
    · exfalso; grind
    · refine hk_aload_n dX9_coach_12 rfl rfl ?_
      refine gfX9_16 rfl dX9_coach_13 (hk_lt (by decide)) rfl rfl ?_
      refine hk_iload_n dX9_coach_16 rfl rfl ?_
      refine ivX9_59 rfl (ct_isCorner hC _) dX9_coach_17 (hk_lt (by decide)) rfl rfl rfl (by decide) ⟨by decide, by decide⟩ (Nat.le_of_ble_eq_true rfl) (hk_kd ?_)
      refine hk_if_ne (tgt := 25) dX9_coach_20 (by decide) (fun c20 => ?_) (fun c20 => ?_)
      · rw [bI_0] at c20
        refine hk_aload_n dX9_coach_25 rfl rfl ?_
        refine gfX9_23 rfl dX9_coach_26 (hk_lt (by decide)) rfl rfl ?_
        refine hk_iload_n dX9_coach_29 rfl rfl ?_
        refine ivX9_105 rfl (ct_hasPlate hK hK30 p) dX9_coach_30 (hk_lt (by decide)) rfl rfl rfl (by decide) ⟨by decide, by decide⟩ (Nat.le_of_ble_eq_true rfl) (hk_kd ?_)
        refine hk_if_eq (tgt := 39) dX9_coach_33 (by decide) (fun c33 => ?_) (fun c33 => ?_)
        · rw [bI_0] at c33
          exact absurd hx c33
        · rw [bI_0] at c33
          refine hk_bipush (v := (-4)) dX9_coach_36 (by decide) ?_
          exact hk_ireturn dX9_coach_38 rfl rfl (by decide) ⟨rfl, rfl⟩
      · rw [bI_0] at c20
        exfalso; grind
set_option maxRecDepth 20000 in
set_option maxHeartbeats 2000000 in
theorem ct_coach_full {nC : Nat} (hC : m 1 0 = nI nC) (hK : m 9 3 = nI 30) (p h : Int32) (hp : (¬ p < 1 ∧ ¬ 9999 < p) ∧ inR h nC) (hx : ¬ (∃ i, i < 30 ∧ m 10 (i * 8 + 6) = p)) : hk_Cd MX9_coach 3 0 0 [.ref 0, .int p, .int h] (hk_h L m) (some (.int (-2))) (hk_h L m) := by
  refine hk_ofWP (by decide) (by simp [Value.category]) (Nat.le_of_ble_eq_true rfl) ?_
  show hk_WP _ _ _ _ _ _ _ [some (.ref 0), some (.int p), some (.int h)] [] _ _
  refine hk_iload_n dX9_coach_0 rfl rfl ?_
  refine hk_iconst (v := 1) dX9_coach_1 (by decide) ?_
  refine hk_icmp_lt (tgt := 23) dX9_coach_2 (by decide) (fun c2 => ?_) (fun c2 => ?_)
  · exfalso; grind
  · refine hk_iload_n dX9_coach_5 rfl rfl ?_
    refine hk_sipush (v := 9999) dX9_coach_6 (by decide) ?_
    refine hk_icmp_gt (tgt := 23) dX9_coach_9 (by decide) (fun c9 => ?_) (fun c9 => ?_)
    · exfalso; grind
    · refine hk_aload_n dX9_coach_12 rfl rfl ?_
      refine gfX9_16 rfl dX9_coach_13 (hk_lt (by decide)) rfl rfl ?_
      refine hk_iload_n dX9_coach_16 rfl rfl ?_
      refine ivX9_59 rfl (ct_isCorner hC _) dX9_coach_17 (hk_lt (by decide)) rfl rfl rfl (by decide) ⟨by decide, by decide⟩ (Nat.le_of_ble_eq_true rfl) (hk_kd ?_)
      refine hk_if_ne (tgt := 25) dX9_coach_20 (by decide) (fun c20 => ?_) (fun c20 => ?_)
      · rw [bI_0] at c20
        refine hk_aload_n dX9_coach_25 rfl rfl ?_
        refine gfX9_23 rfl dX9_coach_26 (hk_lt (by decide)) rfl rfl ?_
        refine hk_iload_n dX9_coach_29 rfl rfl ?_
        refine ivX9_105 rfl (ct_hasPlate hK (Nat.le_refl 30) p) dX9_coach_30 (hk_lt (by decide)) rfl rfl rfl (by decide) ⟨by decide, by decide⟩ (Nat.le_of_ble_eq_true rfl) (hk_kd ?_)
        refine hk_if_eq (tgt := 39) dX9_coach_33 (by decide) (fun c33 => ?_) (fun c33 => ?_)
        · rw [bI_0] at c33
          refine hk_aload_n dX9_coach_39 rfl rfl ?_
          refine gfX9_23 rfl dX9_coach_40 (hk_lt (by decide)) rfl rfl ?_
          refine hk_iload_n dX9_coach_43 rfl rfl ?_
          refine hk_iload_n dX9_coach_44 rfl rfl ?_
          refine ivX9_108 rfl (ct_addCoach_full hK _ _) dX9_coach_45 (hk_lt (by decide)) rfl rfl rfl (by decide) ⟨by decide, by decide⟩ (Nat.le_of_ble_eq_true rfl) (hk_kd ?_)
          exact hk_ireturn dX9_coach_48 rfl rfl (by decide) ⟨rfl, rfl⟩
        · rw [bI_0] at c33
          exact absurd hx c33
      · rw [bI_0] at c20
        exfalso; grind
set_option maxRecDepth 20000 in
set_option maxHeartbeats 2000000 in
theorem ct_coach {nC : Nat} (hC : m 1 0 = nI nC) {K : Nat} (hK : m 9 3 = nI K) (hK30 : K < 30) (p h : Int32) (hp : (¬ p < 1 ∧ ¬ 9999 < p) ∧ inR h nC) (hx : ¬ (∃ i, i < K ∧ m 10 (i * 8 + 6) = p)) : hk_Cd MX9_coach 3 0 0 [.ref 0, .int p, .int h] (hk_h L m) (some (.int (nI K))) (hk_h L (hk_w (hk_w (hk_w (hk_w (hk_w (hk_w (hk_w (hk_w (hk_w m 9 3 (nI (K + 1))) 10 (K * 8 + 6) p) 10 (K * 8 + 7) h) 10 (K * 8 + 1) h) 10 (K * 8 + 2) 1000) 10 (K * 8 + 5) (-1)) 10 (K * 8 + 0) 0) 10 (K * 8 + 4) (-1)) 10 (K * 8 + 3) (-1))) := by
  refine hk_ofWP (by decide) (by simp [Value.category]) (Nat.le_of_ble_eq_true rfl) ?_
  show hk_WP _ _ _ _ _ _ _ [some (.ref 0), some (.int p), some (.int h)] [] _ _
  refine hk_iload_n dX9_coach_0 rfl rfl ?_
  refine hk_iconst (v := 1) dX9_coach_1 (by decide) ?_
  refine hk_icmp_lt (tgt := 23) dX9_coach_2 (by decide) (fun c2 => ?_) (fun c2 => ?_)
  · exfalso; grind
  · refine hk_iload_n dX9_coach_5 rfl rfl ?_
    refine hk_sipush (v := 9999) dX9_coach_6 (by decide) ?_
    refine hk_icmp_gt (tgt := 23) dX9_coach_9 (by decide) (fun c9 => ?_) (fun c9 => ?_)
    · exfalso; grind
    · refine hk_aload_n dX9_coach_12 rfl rfl ?_
      refine gfX9_16 rfl dX9_coach_13 (hk_lt (by decide)) rfl rfl ?_
      refine hk_iload_n dX9_coach_16 rfl rfl ?_
      refine ivX9_59 rfl (ct_isCorner hC _) dX9_coach_17 (hk_lt (by decide)) rfl rfl rfl (by decide) ⟨by decide, by decide⟩ (Nat.le_of_ble_eq_true rfl) (hk_kd ?_)
      refine hk_if_ne (tgt := 25) dX9_coach_20 (by decide) (fun c20 => ?_) (fun c20 => ?_)
      · rw [bI_0] at c20
        refine hk_aload_n dX9_coach_25 rfl rfl ?_
        refine gfX9_23 rfl dX9_coach_26 (hk_lt (by decide)) rfl rfl ?_
        refine hk_iload_n dX9_coach_29 rfl rfl ?_
        refine ivX9_105 rfl (ct_hasPlate hK (Nat.le_of_lt hK30) p) dX9_coach_30 (hk_lt (by decide)) rfl rfl rfl (by decide) ⟨by decide, by decide⟩ (Nat.le_of_ble_eq_true rfl) (hk_kd ?_)
        refine hk_if_eq (tgt := 39) dX9_coach_33 (by decide) (fun c33 => ?_) (fun c33 => ?_)
        · rw [bI_0] at c33
          refine hk_aload_n dX9_coach_39 rfl rfl ?_
          refine gfX9_23 rfl dX9_coach_40 (hk_lt (by decide)) rfl rfl ?_
          refine hk_iload_n dX9_coach_43 rfl rfl ?_
          refine hk_iload_n dX9_coach_44 rfl rfl ?_
          refine ivX9_108 rfl (ct_addCoach hK hK30 _ _) dX9_coach_45 (hk_lt (by decide)) rfl rfl rfl (by decide) ⟨by decide, by decide⟩ (Nat.le_of_ble_eq_true rfl) (hk_kd ?_)
          exact hk_ireturn dX9_coach_48 rfl rfl (by decide) ⟨rfl, rfl⟩
        · rw [bI_0] at c33
          exact absurd hx c33
      · rw [bI_0] at c20
        exfalso; grind
set_option maxRecDepth 20000 in
set_option maxHeartbeats 2000000 in
theorem md_coach_no {nC : Nat} (hC : m 37 3 = nI nC) (p h : Int32) (hn : ¬ ((¬ p < 1 ∧ ¬ 9999 < p) ∧ inR h nC)) : hk_Cd MX10_coach 1 0 0 [.ref 37, .int p, .int h] (hk_h L m) (some (.int (-1))) (hk_h L m) := by
  refine hk_ofWP (by decide) (by simp [Value.category]) (Nat.le_of_ble_eq_true rfl) ?_
  show hk_WP _ _ _ _ _ _ _ [some (.ref 37), some (.int p), some (.int h), none] [] _ _
  refine hk_iload_n dX10_coach_0 rfl rfl ?_
  refine hk_iconst (v := 1) dX10_coach_1 (by decide) ?_
  refine hk_sipush (v := 9999) dX10_coach_2 (by decide) ?_
  refine ivX10_208 rfl (ct_within p 1 9999) dX10_coach_5 rfl rfl (by decide) ⟨by decide, by decide⟩ (Nat.le_of_ble_eq_true rfl) (hk_kd ?_)
  refine hk_if_eq (tgt := 19) dX10_coach_8 (by decide) (fun c8 => ?_) (fun c8 => ?_)
  · rw [bI_0] at c8
    refine hk_iconst (v := (-1)) dX10_coach_19 (by decide) ?_
    exact hk_ireturn dX10_coach_20 rfl rfl (by decide) ⟨rfl, rfl⟩
  · rw [bI_0] at c8
    refine hk_aload_n dX10_coach_11 rfl rfl ?_
    refine hk_iload_n dX10_coach_12 rfl rfl ?_
    refine ivX10_212 rfl (md_isCorner hC _) dX10_coach_13 (hk_lt (by decide)) rfl rfl rfl (by decide) ⟨by decide, by decide⟩ (Nat.le_of_ble_eq_true rfl) (hk_kd ?_)
    refine hk_if_ne (tgt := 21) dX10_coach_16 (by decide) (fun c16 => ?_) (fun c16 => ?_)
    · rw [bI_0] at c16
      exact absurd (by grind) hn
    · rw [bI_0] at c16
      refine hk_iconst (v := (-1)) dX10_coach_19 (by decide) ?_
      exact hk_ireturn dX10_coach_20 rfl rfl (by decide) ⟨rfl, rfl⟩
set_option maxRecDepth 20000 in
set_option maxHeartbeats 2000000 in
theorem lp_coach_there {K : Nat} (hK : m 37 26 = nI K) (hK30 : K ≤ 30) (p h : Int32) {q : Nat} (hq : q < K) (hqp : m 51 q = p) (i : Nat) (hi : i ≤ q) : hk_WP MX10_coach 1 0 0 0 0 23 [some (.ref 37), some (.int p), some (.int h), some (.int (nI i))] [] (hk_h L m) (fun r h' => r = some (.int (-4)) ∧ h' = hk_h L m) := by
  refine hk_iload_n dX10_coach_23 rfl rfl ?_
  refine hk_aload_n dX10_coach_24 rfl rfl ?_
  refine gfX10_201 rfl dX10_coach_25 (hk_lt (by decide)) rfl rfl ?_
  refine hk_icmp_ge (tgt := 50) dX10_coach_28 (by decide) (fun c28 => ?_) (fun c28 => ?_)
  · rw [hK, nI_leI (by omega) (by omega)] at c28
    exfalso; omega
  · rw [hK, nI_leI (by omega) (by omega)] at c28
    refine hk_aload_n dX10_coach_31 rfl rfl ?_
    refine gfX10_49 rfl dX10_coach_32 (hk_lt (by decide)) rfl rfl ?_
    refine hk_iload_n dX10_coach_35 rfl rfl ?_
    refine hk_ian dX10_coach_36 (by decide) (fun _ => rfl) rfl (by omega) (by decide) ?_
    refine hk_iload_n dX10_coach_37 rfl rfl ?_
    refine hk_icmp_ne (tgt := 44) dX10_coach_38 (by decide) (fun c38 => ?_) (fun c38 => ?_)
    · refine hk_iinc (v := nI (i + 1)) dX10_coach_44 rfl (nI_1 i) (by decide) rfl ?_
      refine hk_goto (tgt := 23) dX10_coach_47 (by decide) ?_
      have hlt : i < q := by rcases Nat.lt_or_eq_of_le hi with h1 | h1 <;> first | exact h1 | exact absurd (h1 ▸ hqp) c38
      exact lp_coach_there hK hK30 p h hq hqp (i + 1) (by omega)
    · refine hk_bipush (v := (-4)) dX10_coach_41 (by decide) ?_
      exact hk_ireturn dX10_coach_43 rfl rfl (by decide) ⟨rfl, rfl⟩
termination_by q - i
decreasing_by all_goals omega
set_option maxRecDepth 20000 in
set_option maxHeartbeats 2000000 in
theorem md_coach_there {nC : Nat} (hC : m 37 3 = nI nC) {K : Nat} (hK : m 37 26 = nI K) (hK30 : K ≤ 30) (p h : Int32) (hp : (¬ p < 1 ∧ ¬ 9999 < p) ∧ inR h nC) (hx : ∃ i, i < K ∧ m 51 i = p) : hk_Cd MX10_coach 1 0 0 [.ref 37, .int p, .int h] (hk_h L m) (some (.int (-4))) (hk_h L m) := by
  refine hk_ofWP (by decide) (by simp [Value.category]) (Nat.le_of_ble_eq_true rfl) ?_
  show hk_WP _ _ _ _ _ _ _ [some (.ref 37), some (.int p), some (.int h), none] [] _ _
  refine hk_iload_n dX10_coach_0 rfl rfl ?_
  refine hk_iconst (v := 1) dX10_coach_1 (by decide) ?_
  refine hk_sipush (v := 9999) dX10_coach_2 (by decide) ?_
  refine ivX10_208 rfl (ct_within p 1 9999) dX10_coach_5 rfl rfl (by decide) ⟨by decide, by decide⟩ (Nat.le_of_ble_eq_true rfl) (hk_kd ?_)
  refine hk_if_eq (tgt := 19) dX10_coach_8 (by decide) (fun c8 => ?_) (fun c8 => ?_)
  · rw [bI_0] at c8
    exfalso; grind
  · rw [bI_0] at c8
    refine hk_aload_n dX10_coach_11 rfl rfl ?_
    refine hk_iload_n dX10_coach_12 rfl rfl ?_
    refine ivX10_212 rfl (md_isCorner hC _) dX10_coach_13 (hk_lt (by decide)) rfl rfl rfl (by decide) ⟨by decide, by decide⟩ (Nat.le_of_ble_eq_true rfl) (hk_kd ?_)
    refine hk_if_ne (tgt := 21) dX10_coach_16 (by decide) (fun c16 => ?_) (fun c16 => ?_)
    · rw [bI_0] at c16
      refine hk_iconst (v := 0) dX10_coach_21 (by decide) ?_
      refine hk_istore_n dX10_coach_22 rfl (by decide) rfl ?_
      obtain ⟨q, hq, hqp⟩ := hx
      exact lp_coach_there hK hK30 p h hq hqp 0 (Nat.zero_le _)
    · rw [bI_0] at c16
      exfalso; grind
set_option maxRecDepth 20000 in
set_option maxHeartbeats 2000000 in
theorem lp_coach_full {K : Nat} (hK : m 37 26 = nI K) (hKK : K = 30) (p h : Int32) (hx : ∀ i, i < K → ¬ m 51 i = p) (i : Nat) (hi : i ≤ K) : hk_WP MX10_coach 1 0 0 0 0 23 [some (.ref 37), some (.int p), some (.int h), some (.int (nI i))] [] (hk_h L m) (fun r h' => r = some (.int (-2)) ∧ h' = hk_h L m) := by
  refine hk_iload_n dX10_coach_23 rfl rfl ?_
  refine hk_aload_n dX10_coach_24 rfl rfl ?_
  refine gfX10_201 rfl dX10_coach_25 (hk_lt (by decide)) rfl rfl ?_
  refine hk_icmp_ge (tgt := 50) dX10_coach_28 (by decide) (fun c28 => ?_) (fun c28 => ?_)
  · rw [hK, nI_leI (by omega) (by omega)] at c28
    refine hk_aload_n dX10_coach_50 rfl rfl ?_
    refine gfX10_201 rfl dX10_coach_51 (hk_lt (by decide)) rfl rfl ?_
    refine hk_bipush (v := 30) dX10_coach_54 (by decide) ?_
    refine hk_icmp_ne (tgt := 62) dX10_coach_56 (by decide) (fun c56 => absurd (by rw [hK, hKK]; rfl) c56) (fun _ => ?_)
    refine hk_bipush (v := (-2)) dX10_coach_59 (by decide) ?_
    exact hk_ireturn dX10_coach_61 rfl rfl (by decide) ⟨rfl, rfl⟩
  · rw [hK, nI_leI (by omega) (by omega)] at c28
    refine hk_aload_n dX10_coach_31 rfl rfl ?_
    refine gfX10_49 rfl dX10_coach_32 (hk_lt (by decide)) rfl rfl ?_
    refine hk_iload_n dX10_coach_35 rfl rfl ?_
    refine hk_ian dX10_coach_36 (by decide) (fun _ => rfl) rfl (by omega) (by decide) ?_
    refine hk_iload_n dX10_coach_37 rfl rfl ?_
    refine hk_icmp_ne (tgt := 44) dX10_coach_38 (by decide) (fun c38 => ?_) (fun c38 => ?_)
    · refine hk_iinc (v := nI (i + 1)) dX10_coach_44 rfl (nI_1 i) (by decide) rfl ?_
      refine hk_goto (tgt := 23) dX10_coach_47 (by decide) ?_
      have hlt : i < K := by omega
      exact lp_coach_full hK hKK p h hx (i + 1) (by omega)
    · exact absurd c38 (hx i (by omega))
termination_by K - i
decreasing_by all_goals omega
set_option maxRecDepth 20000 in
set_option maxHeartbeats 2000000 in
theorem md_coach_full {nC : Nat} (hC : m 37 3 = nI nC) {K : Nat} (hK : m 37 26 = nI K) (hKK : K = 30) (p h : Int32) (hp : (¬ p < 1 ∧ ¬ 9999 < p) ∧ inR h nC) (hx : ∀ i, i < K → ¬ m 51 i = p) : hk_Cd MX10_coach 1 0 0 [.ref 37, .int p, .int h] (hk_h L m) (some (.int (-2))) (hk_h L m) := by
  refine hk_ofWP (by decide) (by simp [Value.category]) (Nat.le_of_ble_eq_true rfl) ?_
  show hk_WP _ _ _ _ _ _ _ [some (.ref 37), some (.int p), some (.int h), none] [] _ _
  refine hk_iload_n dX10_coach_0 rfl rfl ?_
  refine hk_iconst (v := 1) dX10_coach_1 (by decide) ?_
  refine hk_sipush (v := 9999) dX10_coach_2 (by decide) ?_
  refine ivX10_208 rfl (ct_within p 1 9999) dX10_coach_5 rfl rfl (by decide) ⟨by decide, by decide⟩ (Nat.le_of_ble_eq_true rfl) (hk_kd ?_)
  refine hk_if_eq (tgt := 19) dX10_coach_8 (by decide) (fun c8 => ?_) (fun c8 => ?_)
  · rw [bI_0] at c8
    exfalso; grind
  · rw [bI_0] at c8
    refine hk_aload_n dX10_coach_11 rfl rfl ?_
    refine hk_iload_n dX10_coach_12 rfl rfl ?_
    refine ivX10_212 rfl (md_isCorner hC _) dX10_coach_13 (hk_lt (by decide)) rfl rfl rfl (by decide) ⟨by decide, by decide⟩ (Nat.le_of_ble_eq_true rfl) (hk_kd ?_)
    refine hk_if_ne (tgt := 21) dX10_coach_16 (by decide) (fun c16 => ?_) (fun c16 => ?_)
    · rw [bI_0] at c16
      refine hk_iconst (v := 0) dX10_coach_21 (by decide) ?_
      refine hk_istore_n dX10_coach_22 rfl (by decide) rfl ?_
      exact lp_coach_full hK hKK p h hx 0 (Nat.zero_le _)
    · rw [bI_0] at c16
      exfalso; grind
set_option maxRecDepth 20000 in
set_option maxHeartbeats 2000000 in
theorem lp_coach {K : Nat} (hK : m 37 26 = nI K) (hK30 : K < 30) (p h : Int32) (hx : ∀ i, i < K → ¬ m 51 i = p) (i : Nat) (hi : i ≤ K) : hk_WP MX10_coach 1 0 0 0 0 23 [some (.ref 37), some (.int p), some (.int h), some (.int (nI i))] [] (hk_h L m) (fun r h' => r = some (.int (nI K)) ∧ h' = hk_h L (hk_w (hk_w (hk_w (hk_w (hk_w (hk_w (hk_w m 51 K p) 52 K h) 56 K h) 53 K 1000) 54 K (-1)) 58 K (-1)) 37 26 (nI (K + 1)))) := by
  refine hk_iload_n dX10_coach_23 rfl rfl ?_
  refine hk_aload_n dX10_coach_24 rfl rfl ?_
  refine gfX10_201 rfl dX10_coach_25 (hk_lt (by decide)) rfl rfl ?_
  refine hk_icmp_ge (tgt := 50) dX10_coach_28 (by decide) (fun c28 => ?_) (fun c28 => ?_)
  · rw [hK, nI_leI (by omega) (by omega)] at c28
    refine hk_aload_n dX10_coach_50 rfl rfl ?_
    refine gfX10_201 rfl dX10_coach_51 (hk_lt (by decide)) rfl rfl ?_
    refine hk_bipush (v := 30) dX10_coach_54 (by decide) ?_
    refine hk_icmp_ne (tgt := 62) dX10_coach_56 (by decide) (fun _ => ?_) (fun c56 => absurd c56 (by rw [hK, show (30 : Int32) = nI 30 from rfl, nI_eq (by omega) (by decide)]; omega))
    refine hk_aload_n dX10_coach_62 rfl rfl ?_
    refine gfX10_49 rfl dX10_coach_63 (hk_lt (by decide)) rfl rfl ?_
    refine hk_aload_n dX10_coach_66 rfl rfl ?_
    refine gfX10_201 rfl dX10_coach_67 (hk_lt (by decide)) rfl rfl ?_
    refine hk_iload_n dX10_coach_70 rfl rfl ?_
    refine hk_isn dX10_coach_71 (by decide) (fun _ => rfl) hK (by omega) (by decide) ?_
    refine hk_aload_n dX10_coach_72 rfl rfl ?_
    refine gfX10_52 rfl dX10_coach_73 (hk_lt (by decide)) rfl rfl ?_
    refine hk_aload_n dX10_coach_76 rfl rfl ?_
    refine gfX10_201 rfl dX10_coach_77 (hk_lt (by decide)) rfl rfl ?_
    refine hk_iload_n dX10_coach_80 rfl rfl ?_
    refine hk_isn (j := K) dX10_coach_81 (by decide) (fun _ => rfl) (by simp [hk_wo, hK]) (by omega) (by decide) ?_
    refine hk_aload_n dX10_coach_82 rfl rfl ?_
    refine gfX10_64 rfl dX10_coach_83 (hk_lt (by decide)) rfl rfl ?_
    refine hk_aload_n dX10_coach_86 rfl rfl ?_
    refine gfX10_201 rfl dX10_coach_87 (hk_lt (by decide)) rfl rfl ?_
    refine hk_iload_n dX10_coach_90 rfl rfl ?_
    refine hk_isn (j := K) dX10_coach_91 (by decide) (fun _ => rfl) (by simp [hk_wo, hK]) (by omega) (by decide) ?_
    refine hk_aload_n dX10_coach_92 rfl rfl ?_
    refine gfX10_55 rfl dX10_coach_93 (hk_lt (by decide)) rfl rfl ?_
    refine hk_aload_n dX10_coach_96 rfl rfl ?_
    refine gfX10_201 rfl dX10_coach_97 (hk_lt (by decide)) rfl rfl ?_
    refine hk_sipush (v := 1000) dX10_coach_100 (by decide) ?_
    refine hk_isn (j := K) dX10_coach_103 (by decide) (fun _ => rfl) (by simp [hk_wo, hK]) (by omega) (by decide) ?_
    refine hk_aload_n dX10_coach_104 rfl rfl ?_
    refine gfX10_58 rfl dX10_coach_105 (hk_lt (by decide)) rfl rfl ?_
    refine hk_aload_n dX10_coach_108 rfl rfl ?_
    refine gfX10_201 rfl dX10_coach_109 (hk_lt (by decide)) rfl rfl ?_
    refine hk_iconst (v := (-1)) dX10_coach_112 (by decide) ?_
    refine hk_isn (j := K) dX10_coach_113 (by decide) (fun _ => rfl) (by simp [hk_wo, hK]) (by omega) (by decide) ?_
    refine hk_aload_n dX10_coach_114 rfl rfl ?_
    refine gfX10_70 rfl dX10_coach_115 (hk_lt (by decide)) rfl rfl ?_
    refine hk_aload_n dX10_coach_118 rfl rfl ?_
    refine gfX10_201 rfl dX10_coach_119 (hk_lt (by decide)) rfl rfl ?_
    refine hk_iconst (v := (-1)) dX10_coach_122 (by decide) ?_
    refine hk_isn (j := K) dX10_coach_123 (by decide) (fun _ => rfl) (by simp [hk_wo, hK]) (by omega) (by decide) ?_
    refine hk_aload_n dX10_coach_124 rfl rfl ?_
    refine hk_dup dX10_coach_125 rfl ?_
    refine gfX10_201 rfl dX10_coach_126 (hk_lt (by decide)) rfl rfl ?_
    refine hk_iconst (v := 1) dX10_coach_129 (by decide) ?_
    refine hk_iadd dX10_coach_130 ?_
    refine pfX10_201 rfl dX10_coach_131 (hk_lt (by decide)) rfl (Nat.le_of_ble_eq_true rfl) (hk_st (j := 26) rfl ?_)
    rw [show hk_w _ _ _ _ _ _ + 1 = nI (K + 1) by simp [hk_wo, hK, nI_1]]
    refine hk_aload_n dX10_coach_134 rfl rfl ?_
    refine gfX10_201 rfl dX10_coach_135 (hk_lt (by decide)) rfl rfl ?_
    refine hk_iconst (v := 1) dX10_coach_138 (by decide) ?_
    refine hk_isub dX10_coach_139 ?_
    exact hk_ireturn dX10_coach_140 rfl rfl (by decide) ⟨by simp [hk_wt, upd, nI_pred], rfl⟩
  · rw [hK, nI_leI (by omega) (by omega)] at c28
    refine hk_aload_n dX10_coach_31 rfl rfl ?_
    refine gfX10_49 rfl dX10_coach_32 (hk_lt (by decide)) rfl rfl ?_
    refine hk_iload_n dX10_coach_35 rfl rfl ?_
    refine hk_ian dX10_coach_36 (by decide) (fun _ => rfl) rfl (by omega) (by decide) ?_
    refine hk_iload_n dX10_coach_37 rfl rfl ?_
    refine hk_icmp_ne (tgt := 44) dX10_coach_38 (by decide) (fun c38 => ?_) (fun c38 => ?_)
    · refine hk_iinc (v := nI (i + 1)) dX10_coach_44 rfl (nI_1 i) (by decide) rfl ?_
      refine hk_goto (tgt := 23) dX10_coach_47 (by decide) ?_
      have hlt : i < K := by omega
      exact lp_coach hK hK30 p h hx (i + 1) (by omega)
    · exact absurd c38 (hx i (by omega))
termination_by K - i
decreasing_by all_goals omega
set_option maxRecDepth 20000 in
set_option maxHeartbeats 2000000 in
theorem md_coach {nC : Nat} (hC : m 37 3 = nI nC) {K : Nat} (hK : m 37 26 = nI K) (hK30 : K < 30) (p h : Int32) (hp : (¬ p < 1 ∧ ¬ 9999 < p) ∧ inR h nC) (hx : ∀ i, i < K → ¬ m 51 i = p) : hk_Cd MX10_coach 1 0 0 [.ref 37, .int p, .int h] (hk_h L m) (some (.int (nI K))) (hk_h L (hk_w (hk_w (hk_w (hk_w (hk_w (hk_w (hk_w m 51 K p) 52 K h) 56 K h) 53 K 1000) 54 K (-1)) 58 K (-1)) 37 26 (nI (K + 1)))) := by
  refine hk_ofWP (by decide) (by simp [Value.category]) (Nat.le_of_ble_eq_true rfl) ?_
  show hk_WP _ _ _ _ _ _ _ [some (.ref 37), some (.int p), some (.int h), none] [] _ _
  refine hk_iload_n dX10_coach_0 rfl rfl ?_
  refine hk_iconst (v := 1) dX10_coach_1 (by decide) ?_
  refine hk_sipush (v := 9999) dX10_coach_2 (by decide) ?_
  refine ivX10_208 rfl (ct_within p 1 9999) dX10_coach_5 rfl rfl (by decide) ⟨by decide, by decide⟩ (Nat.le_of_ble_eq_true rfl) (hk_kd ?_)
  refine hk_if_eq (tgt := 19) dX10_coach_8 (by decide) (fun c8 => ?_) (fun c8 => ?_)
  · rw [bI_0] at c8
    exfalso; grind
  · rw [bI_0] at c8
    refine hk_aload_n dX10_coach_11 rfl rfl ?_
    refine hk_iload_n dX10_coach_12 rfl rfl ?_
    refine ivX10_212 rfl (md_isCorner hC _) dX10_coach_13 (hk_lt (by decide)) rfl rfl rfl (by decide) ⟨by decide, by decide⟩ (Nat.le_of_ble_eq_true rfl) (hk_kd ?_)
    refine hk_if_ne (tgt := 21) dX10_coach_16 (by decide) (fun c16 => ?_) (fun c16 => ?_)
    · rw [bI_0] at c16
      refine hk_iconst (v := 0) dX10_coach_21 (by decide) ?_
      refine hk_istore_n dX10_coach_22 rfl (by decide) rfl ?_
      exact lp_coach hK hK30 p h hx 0 (Nat.zero_le _)
    · rw [bI_0] at c16
      exfalso; grind
theorem GSt_k {nC a b nD : Nat} {t sc pl ro rm ct ct2 : Nat → Int32} (h : GSt nC a nD t sc pl ro rm ct) (hab : a ≤ b) (h1 : ∀ c, c < a → ct2 (c * 8) = ct (c * 8) ∧ ct2 (c * 8 + 4) = ct (c * 8 + 4)) (h2 : ∀ c, a ≤ c → c < b → ct2 (c * 8) ≠ 1) : GSt nC b nD t sc pl ro rm ct2 := by
  refine ⟨fun s hs => ?_, h.2⟩
  obtain ⟨e1, e2, e3, x, p, q, g1, g2, g3, g4, g5, g6, g7, g8, g9, g10⟩ := h.1 s hs
  refine ⟨e1, e2, e3, x, p, q, g1, g2, g3, g4, g5, g6, g7, fun i hi => ?_, g9, fun c hc hc1 hc4 => ?_⟩
  · obtain ⟨k1, c, k2, k3, k4, k5⟩ := g8 i hi
    exact ⟨k1, c, by omega, k3, by rw [(h1 c k2).1]; exact k4, by rw [(h1 c k2).2]; exact k5⟩
  · by_cases hca : c < a
    · exact g10 c hca (by rw [← (h1 c hca).1]; exact hc1) (by rw [← (h1 c hca).2]; exact hc4)
    · exact absurd hc1 (h2 c (by omega) hc)
theorem GFo_k {n a b : Nat} {t x y w : Nat → Int32} (h : GFo n a t x y w) (hab : a ≤ b) : GFo n b t x y w := fun i hi => by
  obtain ⟨h1, h2, h3, k, h4, h5⟩ := h i hi
  exact ⟨h1, h2, h3, k, h4, by omega⟩
theorem op_coach (hI : Inv L z m) (p h : Int32) : OpOK L m MX9_coach MX10_coach [.int p, .int h] := by
  obtain ⟨g0, ⟨⟨a0, a1, a2, a3, a4, a5, a6, a7, a8, a9, a10, a11, a12, a13⟩, ⟨b0, b1, b2, b3, b4, b5, b6, b7, b8, b9, b10, b11, b12⟩, ⟨c0, c1, c2, c3, c4, c5, c6, c7, c8, c9, c10, c11, c12⟩⟩, g2, g3, g4, g5, g6, g7, g8, g9, g10, g11, g12, g13, g14⟩ := id hI
  by_cases hp : (¬ p < 1 ∧ ¬ 9999 < p) ∧ inR h (z 0)
  · have hcong : ∀ i, i < z 2 → m 10 (i * 8 + 6) = m 51 i := fun i hi => (g5.1 i hi).2.2.2.2.1
    by_cases hx : ∃ i, i < z 2 ∧ m 10 (i * 8 + 6) = p
    · exact ⟨3, 0, 0, 1, -4, L, m, m, z, by decide, by decide, by decide, by decide, ct_coach_there a0 a2 c2 p h hp hx, md_coach_there b0 b2 c2 p h hp (by obtain ⟨i, hi, he⟩ := hx; exact ⟨i, hi, (hcong i hi).symm.trans he⟩), hI⟩
    · have hx2 : ∀ i, i < z 2 → ¬ m 51 i = p := fun i hi he => hx ⟨i, hi, (hcong i hi).trans he⟩
      by_cases hf : z 2 = 30
      · exact ⟨3, 0, 0, 1, -2, L, m, m, z, by decide, by decide, by decide, by decide, ct_coach_full a0 (hf ▸ a2) p h hp (hf ▸ hx), md_coach_full b0 b2 hf p h hp hx2, hI⟩
      · refine ⟨3, 0, 0, 1, nI (z 2), L, _, _, up z 2 (z 2 + 1), by decide, by decide, by decide, by decide, ct_coach a0 a2 (by omega) p h hp hx, md_coach (nC := z 0) (by simpa [hk_wo, hk_wt] using b0) (by simpa [hk_wo, hk_wt] using b2) (by omega) p h hp (by simpa [hk_wo, hk_wt] using hx2), ?_⟩
        obtain ⟨j, hj, ej⟩ := inR_of hp.2 (by omega)
        refine ⟨g0, ⟨?_, ?_, ?_⟩, ?_, ?_, ?_, ?_, ?_, ?_, ?_, ?_, ?_, ?_, ?_, ?_, ?_⟩
        · simp [hk_wo, hk_wt, hk_w99, up, upd, a0, a1, a2, a3, a4, a5, a6, a7, a8, a9, a10, a11, a12, a13]
        · simp [hk_wo, hk_wt, hk_w99, up, upd, b0, b1, b2, b3, b4, b5, b6, b7, b8, b9, b10, b11, b12]
        · first | (simp [up]; omega) | omega
        · simpa [hk_wo, hk_wt, hk_w99, up, upd] using g2
        · simpa [hk_wo, hk_wt, hk_w99, up, upd] using g3
        · simpa [hk_wo, hk_wt, hk_w99, up, upd] using g4
        · have hz := g5.2 (z 2) (Nat.le_refl _) (by omega)
          refine GCo_set (nK := z 2) (by simpa [hk_wo, hk_wt, up] using g5) (i := z 2) (by simp [up]) (Or.inr ⟨by simp [up], rfl⟩) (fun c k hc hk => ?_) (fun c hc => ?_) ?_
          · simp (disch := decide) only [hk_w_at, hk_w_ne]
            repeat rw [if_neg (by omega)]
          · simp [hk_wo, hk_wt, upd, hc]
          · refine ⟨by simp [hk_wo, hk_wt, upd, hz], by simp [hk_wo, hk_wt, upd], by simp [hk_wo, hk_wt, upd], by simp [hk_wo, hk_wt, upd], by simp [hk_wo, hk_wt, upd], by simp [hk_wo, hk_wt, upd], ⟨0, j, 1000, j, by simp [hk_wo, hk_wt, upd, hz]; rfl, by decide, by simp [hk_wo, hk_wt, upd, ej], by simpa [up] using hj, by simp [hk_wo, hk_wt, upd]; rfl, by decide, by simp [hk_wo, hk_wt, upd, ej], by simpa [up] using hj⟩, fun q => ?_, fun _ => by simp [hk_wo, hk_wt, upd], fun q => ?_, fun q => ?_, fun _ => by simp [hk_wo, hk_wt, upd]⟩
            · simp [hk_wo, hk_wt, upd, hz] at q
            · simp [hk_wo, hk_wt, upd, hz] at q
            · simp [hk_wo, hk_wt, upd, hz] at q
        · simpa [hk_wo, hk_wt, hk_w99, up, upd] using g6
        · have h7 : GSt (z 0) (z 2) (z 3) (m 14) (m 62) (m 63) (m 64) (m 65) (m 10) := g7
          refine GSt_k (a := z 2) (by simpa [hk_wo, hk_wt, up] using h7) (by simp [up]) (fun c hc => ⟨?_, ?_⟩) (fun c hc hc2 => ?_)
          · simp (disch := decide) only [hk_w_at, hk_w_ne]
            repeat rw [if_neg (by omega)]
          · simp (disch := decide) only [hk_w_at, hk_w_ne]
            repeat rw [if_neg (by omega)]
          · simp only [up, if_true] at hc2
            obtain rfl : c = z 2 := by omega
            simp [hk_wo, hk_wt, upd]
        · simpa [hk_wo, hk_wt, hk_w99, up, upd] using g8
        · simpa [hk_wo, hk_wt, hk_w99, up, upd] using g9
        · simpa [hk_wo, hk_wt, hk_w99, up, upd] using g10
        · simpa [hk_wo, hk_wt, hk_w99, up, upd] using g11
        · simpa [hk_wo, hk_wt, hk_w99, up, upd] using g12
        · simpa [hk_wo, hk_wt, hk_w99, up, upd] using g13
        · simpa [hk_wo, hk_wt, hk_w99, up, upd] using GFo_k g14 (Nat.le_succ _)
  · exact ⟨3, 0, 0, 1, -1, L, m, m, z, by decide, by decide, by decide, by decide, ct_coach_no a0 p h hp, md_coach_no b0 p h hp, hI⟩
end O5
