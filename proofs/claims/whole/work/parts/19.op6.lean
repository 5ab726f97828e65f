section O6
variable {L : Nat} {m : Nat → Nat → Int32} {z : Nat → Nat}
set_option maxRecDepth 20000 in
set_option maxHeartbeats 2000000 in
theorem ct_licence_no {K : Nat} (hK : m 9 3 = nI K) (hK30 : K ≤ 30) (c y o : Int32) (h : ¬ (inR c K ∧ inR y 2000 ∧ inR o 50)) : hk_Cd MX9_licence 3 0 0 [.ref 0, .int c, .int y, .int o] (hk_h L m) (some (.int (-1))) (hk_h L m) := by
  have l1 : nI 2000 = 2000 := rfl
  have l2 : nI 50 = 50 := rfl
  refine hk_ofWP (by decide) (by simp [Value.category]) (Nat.le_of_ble_eq_true rfl) ?_
  show hk_WP _ _ _ _ _ _ _ [some (.ref 0), some (.int c), some (.int y), some (.int o)] [] _ _
  refine hk_aload_n dX9_licence_0 rfl rfl ?_
  refine gfX9_23 rfl dX9_licence_1 (hk_lt (by decide)) rfl rfl ?_
  refine gfX9_112 rfl dX9_licence_4 (hk_lt (by decide)) rfl rfl ?_
  refine hk_iload_n dX9_licence_7 rfl rfl ?_
  refine ivX9_71 rfl (ct_has tb9 hK30 hK c) dX9_licence_8 (hk_lt (by decide)) rfl rfl rfl (by decide) ⟨by decide, by decide⟩ (Nat.le_of_ble_eq_true rfl) (hk_kd ?_)
  refine hk_if_eq (tgt := 35) dX9_licence_11 (by decide) (fun c11 => ?_) (fun c11 => ?_)
  · rw [bI_0] at c11
    refine hk_iconst (v := (-1)) dX9_licence_35 (by decide) ?_
    exact hk_ireturn dX9_licence_36 rfl rfl (by decide) ⟨rfl, rfl⟩
  · rw [bI_0] at c11
    refine hk_iload_n dX9_licence_14 rfl rfl ?_
    refine hk_if_lt (tgt := 35) dX9_licence_15 (by decide) (fun c15 => ?_) (fun c15 => ?_)
    · refine hk_iconst (v := (-1)) dX9_licence_35 (by decide) ?_
      exact hk_ireturn dX9_licence_36 rfl rfl (by decide) ⟨rfl, rfl⟩
    · refine hk_iload_n dX9_licence_18 rfl rfl ?_
      refine hk_sipush (v := 2000) dX9_licence_19 (by decide) ?_
      refine hk_icmp_ge (tgt := 35) dX9_licence_22 (by decide) (fun c22 => ?_) (fun c22 => ?_)
      · refine hk_iconst (v := (-1)) dX9_licence_35 (by decide) ?_
        exact hk_ireturn dX9_licence_36 rfl rfl (by decide) ⟨rfl, rfl⟩
      · refine hk_iload_n dX9_licence_25 rfl rfl ?_
        refine hk_if_lt (tgt := 35) dX9_licence_26 (by decide) (fun c26 => ?_) (fun c26 => ?_)
        · refine hk_iconst (v := (-1)) dX9_licence_35 (by decide) ?_
          exact hk_ireturn dX9_licence_36 rfl rfl (by decide) ⟨rfl, rfl⟩
        · refine hk_iload_n dX9_licence_29 rfl rfl ?_
          refine hk_bipush (v := 50) dX9_licence_30 (by decide) ?_
          refine hk_icmp_lt (tgt := 37) dX9_licence_32 (by decide) (fun c32 => ?_) (fun c32 => ?_)
          · exact absurd (by grind) h
          · refine hk_iconst (v := (-1)) dX9_licence_35 (by decide) ?_
            exact hk_ireturn dX9_licence_36 rfl rfl (by decide) ⟨rfl, rfl⟩
set_option maxRecDepth 20000 in
set_option maxHeartbeats 2000000 in
theorem ct_licence_there {K : Nat} (hK : m 9 3 = nI K) (hK30 : K ≤ 30) {N : Nat} (hN : m 11 3 = nI N) (hN2 : N ≤ 200) (c y o : Int32) (h : inR c K ∧ inR y 2000 ∧ inR o 50) (hh : ¬ hol m 12 N c y < 0) : hk_Cd MX9_licence 3 0 0 [.ref 0, .int c, .int y, .int o] (hk_h L m) (some (.int (-4))) (hk_h L m) := by
  have l1 : nI 2000 = 2000 := rfl
  have l2 : nI 50 = 50 := rfl
  refine hk_ofWP (by decide) (by simp [Value.category]) (Nat.le_of_ble_eq_true rfl) ?_
  show hk_WP _ _ _ _ _ _ _ [some (.ref 0), some (.int c), some (.int y), some (.int o)] [] _ _
  refine hk_aload_n dX9_licence_0 rfl rfl ?_
  refine gfX9_23 rfl dX9_licence_1 (hk_lt (by decide)) rfl rfl ?_
  refine gfX9_112 rfl dX9_licence_4 (hk_lt (by decide)) rfl rfl ?_
  refine hk_iload_n dX9_licence_7 rfl rfl ?_
  refine ivX9_71 rfl (ct_has tb9 hK30 hK c) dX9_licence_8 (hk_lt (by decide)) rfl rfl rfl (by decide) ⟨by decide, by decide⟩ (Nat.le_of_ble_eq_true rfl) (hk_kd ?_)
  refine hk_if_eq (tgt := 35) dX9_licence_11 (by decide) (fun c11 => ?_) (fun c11 => ?_)
  · rw [bI_0] at c11
    exfalso; grind
  · rw [bI_0] at c11
    refine hk_iload_n dX9_licence_14 rfl rfl ?_
    refine hk_if_lt (tgt := 35) dX9_licence_15 (by decide) (fun c15 => ?_) (fun c15 => ?_)
    · exfalso; grind
    · refine hk_iload_n dX9_licence_18 rfl rfl ?_
      refine hk_sipush (v := 2000) dX9_licence_19 (by decide) ?_
      refine hk_icmp_ge (tgt := 35) dX9_licence_22 (by decide) (fun c22 => ?_) (fun c22 => ?_)
      · exfalso; grind
      · refine hk_iload_n dX9_licence_25 rfl rfl ?_
        refine hk_if_lt (tgt := 35) dX9_licence_26 (by decide) (fun c26 => ?_) (fun c26 => ?_)
        · exfalso; grind
        · refine hk_iload_n dX9_licence_29 rfl rfl ?_
          refine hk_bipush (v := 50) dX9_licence_30 (by decide) ?_
          refine hk_icmp_lt (tgt := 37) dX9_licence_32 (by decide) (fun c32 => ?_) (fun c32 => ?_)
          · refine hk_aload_n dX9_licence_37 rfl rfl ?_
            refine gfX9_23 rfl dX9_licence_38 (hk_lt (by decide)) rfl rfl ?_
            refine hk_iload_n dX9_licence_41 rfl rfl ?_
            refine hk_iload_n dX9_licence_42 rfl rfl ?_
            refine ivX9_115 rfl (ct_holderOf hN hN2 c y) dX9_licence_43 (hk_lt (by decide)) rfl rfl rfl (by decide) ⟨by decide, by decide⟩ (Nat.le_of_ble_eq_true rfl) (hk_kd ?_)
            refine hk_if_lt (tgt := 52) dX9_licence_46 (by decide) (fun c46 => absurd c46 hh) (fun _ => ?_)
            refine hk_bipush (v := (-4)) dX9_licence_49 (by decide) ?_
            exact hk_ireturn dX9_licence_51 rfl rfl (by decide) ⟨rfl, rfl⟩
          · exfalso; grind
set_option maxRecDepth 20000 in
set_option maxHeartbeats 2000000 in
theorem ct_licence_full {K : Nat} (hK : m 9 3 = nI K) (hK30 : K ≤ 30) (hN : m 11 3 = nI 200) (c y o : Int32) (h : inR c K ∧ inR y 2000 ∧ inR o 50) (hh : hol m 12 200 c y < 0) : hk_Cd MX9_licence 3 0 0 [.ref 0, .int c, .int y, .int o] (hk_h L m) (some (.int (-2))) (hk_h L m) := by
  have l1 : nI 2000 = 2000 := rfl
  have l2 : nI 50 = 50 := rfl
  refine hk_ofWP (by decide) (by simp [Value.category]) (Nat.le_of_ble_eq_true rfl) ?_
  show hk_WP _ _ _ _ _ _ _ [some (.ref 0), some (.int c), some (.int y), some (.int o)] [] _ _
  refine hk_aload_n dX9_licence_0 rfl rfl ?_
  refine gfX9_23 rfl dX9_licence_1 (hk_lt (by decide)) rfl rfl ?_
  refine gfX9_112 rfl dX9_licence_4 (hk_lt (by decide)) rfl rfl ?_
  refine hk_iload_n dX9_licence_7 rfl rfl ?_
  refine ivX9_71 rfl (ct_has tb9 hK30 hK c) dX9_licence_8 (hk_lt (by decide)) rfl rfl rfl (by decide) ⟨by decide, by decide⟩ (Nat.le_of_ble_eq_true rfl) (hk_kd ?_)
  refine hk_if_eq (tgt := 35) dX9_licence_11 (by decide) (fun c11 => ?_) (fun c11 => ?_)
  · rw [bI_0] at c11
    exfalso; grind
  · rw [bI_0] at c11
    refine hk_iload_n dX9_licence_14 rfl rfl ?_
    refine hk_if_lt (tgt := 35) dX9_licence_15 (by decide) (fun c15 => ?_) (fun c15 => ?_)
    · exfalso; grind
    · refine hk_iload_n dX9_licence_18 rfl rfl ?_
      refine hk_sipush (v := 2000) dX9_licence_19 (by decide) ?_
      refine hk_icmp_ge (tgt := 35) dX9_licence_22 (by decide) (fun c22 => ?_) (fun c22 => ?_)
      · exfalso; grind
      · refine hk_iload_n dX9_licence_25 rfl rfl ?_
        refine hk_if_lt (tgt := 35) dX9_licence_26 (by decide) (fun c26 => ?_) (fun c26 => ?_)
        · exfalso; grind
        · refine hk_iload_n dX9_licence_29 rfl rfl ?_
          refine hk_bipush (v := 50) dX9_licence_30 (by decide) ?_
          refine hk_icmp_lt (tgt := 37) dX9_licence_32 (by decide) (fun c32 => ?_) (fun c32 => ?_)
          · refine hk_aload_n dX9_licence_37 rfl rfl ?_
            refine gfX9_23 rfl dX9_licence_38 (hk_lt (by decide)) rfl rfl ?_
            refine hk_iload_n dX9_licence_41 rfl rfl ?_
            refine hk_iload_n dX9_licence_42 rfl rfl ?_
            refine ivX9_115 rfl (ct_holderOf hN (Nat.le_refl 200) c y) dX9_licence_43 (hk_lt (by decide)) rfl rfl rfl (by decide) ⟨by decide, by decide⟩ (Nat.le_of_ble_eq_true rfl) (hk_kd ?_)
            refine hk_if_lt (tgt := 52) dX9_licence_46 (by decide) (fun _ => ?_) (fun c46 => absurd hh c46)
            refine hk_aload_n dX9_licence_52 rfl rfl ?_
            refine gfX9_23 rfl dX9_licence_53 (hk_lt (by decide)) rfl rfl ?_
            refine hk_iload_n dX9_licence_56 rfl rfl ?_
            refine hk_iload_n dX9_licence_57 rfl rfl ?_
            refine hk_iload_n dX9_licence_58 rfl rfl ?_
            refine ivX9_118 rfl (ct_addLicence_full hN _ _ _) dX9_licence_59 (hk_lt (by decide)) rfl rfl rfl (by decide) ⟨by decide, by decide⟩ (Nat.le_of_ble_eq_true rfl) (hk_kd ?_)
            exact hk_ireturn dX9_licence_62 rfl rfl (by decide) ⟨rfl, rfl⟩
          · exfalso; grind
set_option maxRecDepth 20000 in
set_option maxHeartbeats 2000000 in
theorem ct_licence {K : Nat} (hK : m 9 3 = nI K) (hK30 : K ≤ 30) {N : Nat} (hN : m 11 3 = nI N) (hN2 : N < 200) (c y o : Int32) (h : inR c K ∧ inR y 2000 ∧ inR o 50) (hh : hol m 12 N c y < 0) : hk_Cd MX9_licence 3 0 0 [.ref 0, .int c, .int y, .int o] (hk_h L m) (some (.int 1)) (hk_h L (hk_w (hk_w (hk_w (hk_w m 11 3 (nI (N + 1))) 12 (N * 3 + 0) c) 12 (N * 3 + 1) y) 12 (N * 3 + 2) o)) := by
  have l1 : nI 2000 = 2000 := rfl
  have l2 : nI 50 = 50 := rfl
  refine hk_ofWP (by decide) (by simp [Value.category]) (Nat.le_of_ble_eq_true rfl) ?_
  show hk_WP _ _ _ _ _ _ _ [some (.ref 0), some (.int c), some (.int y), some (.int o)] [] _ _
  refine hk_aload_n dX9_licence_0 rfl rfl ?_
  refine gfX9_23 rfl dX9_licence_1 (hk_lt (by decide)) rfl rfl ?_
  refine gfX9_112 rfl dX9_licence_4 (hk_lt (by decide)) rfl rfl ?_
  refine hk_iload_n dX9_licence_7 rfl rfl ?_
  refine ivX9_71 rfl (ct_has tb9 hK30 hK c) dX9_licence_8 (hk_lt (by decide)) rfl rfl rfl (by decide) ⟨by decide, by decide⟩ (Nat.le_of_ble_eq_true rfl) (hk_kd ?_)
  refine hk_if_eq (tgt := 35) dX9_licence_11 (by decide) (fun c11 => ?_) (fun c11 => ?_)
  · rw [bI_0] at c11
    exfalso; grind
  · rw [bI_0] at c11
    refine hk_iload_n dX9_licence_14 rfl rfl ?_
    refine hk_if_lt (tgt := 35) dX9_licence_15 (by decide) (fun c15 => ?_) (fun c15 => ?_)
    · exfalso; grind
    · refine hk_iload_n dX9_licence_18 rfl rfl ?_
      refine hk_sipush (v := 2000) dX9_licence_19 (by decide) ?_
      refine hk_icmp_ge (tgt := 35) dX9_licence_22 (by decide) (fun c22 => ?_) (fun c22 => ?_)
      · exfalso; grind
      · refine hk_iload_n dX9_licence_25 rfl rfl ?_
        refine hk_if_lt (tgt := 35) dX9_licence_26 (by decide) (fun c26 => ?_) (fun c26 => ?_)
        · exfalso; grind
        · refine hk_iload_n dX9_licence_29 rfl rfl ?_
          refine hk_bipush (v := 50) dX9_licence_30 (by decide) ?_
          refine hk_icmp_lt (tgt := 37) dX9_licence_32 (by decide) (fun c32 => ?_) (fun c32 => ?_)
          · refine hk_aload_n dX9_licence_37 rfl rfl ?_
            refine gfX9_23 rfl dX9_licence_38 (hk_lt (by decide)) rfl rfl ?_
            refine hk_iload_n dX9_licence_41 rfl rfl ?_
            refine hk_iload_n dX9_licence_42 rfl rfl ?_
            refine ivX9_115 rfl (ct_holderOf hN (Nat.le_of_lt hN2) c y) dX9_licence_43 (hk_lt (by decide)) rfl rfl rfl (by decide) ⟨by decide, by decide⟩ (Nat.le_of_ble_eq_true rfl) (hk_kd ?_)
            refine hk_if_lt (tgt := 52) dX9_licence_46 (by decide) (fun _ => ?_) (fun c46 => absurd hh c46)
            refine hk_aload_n dX9_licence_52 rfl rfl ?_
            refine gfX9_23 rfl dX9_licence_53 (hk_lt (by decide)) rfl rfl ?_
            refine hk_iload_n dX9_licence_56 rfl rfl ?_
            refine hk_iload_n dX9_licence_57 rfl rfl ?_
            refine hk_iload_n dX9_licence_58 rfl rfl ?_
            refine ivX9_118 rfl (ct_addLicence hN hN2 _ _ _) dX9_licence_59 (hk_lt (by decide)) rfl rfl rfl (by decide) ⟨by decide, by decide⟩ (Nat.le_of_ble_eq_true rfl) (hk_kd ?_)
            exact hk_ireturn dX9_licence_62 rfl rfl (by decide) ⟨rfl, rfl⟩
          · exfalso; grind
set_option maxRecDepth 20000 in
set_option maxHeartbeats 2000000 in
theorem md_licence_no {K : Nat} (hK : m 37 26 = nI K) (c y o : Int32) (h : ¬ (inR c K ∧ inR y 2000 ∧ inR o 50)) : hk_Cd MX10_licence 1 0 0 [.ref 37, .int c, .int y, .int o] (hk_h L m) (some (.int (-1))) (hk_h L m) := by
  refine hk_ofWP (by decide) (by simp [Value.category]) (Nat.le_of_ble_eq_true rfl) ?_
  show hk_WP _ _ _ _ _ _ _ [some (.ref 37), some (.int c), some (.int y), some (.int o)] [] _ _
  refine hk_aload_n dX10_licence_0 rfl rfl ?_
  refine hk_iload_n dX10_licence_1 rfl rfl ?_
  refine ivX10_255 rfl (md_isCoach hK c) dX10_licence_2 (hk_lt (by decide)) rfl rfl rfl (by decide) ⟨by decide, by decide⟩ (Nat.le_of_ble_eq_true rfl) (hk_kd ?_)
  refine hk_if_eq (tgt := 29) dX10_licence_5 (by decide) (fun c5 => ?_) (fun c5 => ?_)
  · rw [bI_0] at c5
    refine hk_iconst (v := (-1)) dX10_licence_29 (by decide) ?_
    exact hk_ireturn dX10_licence_30 rfl rfl (by decide) ⟨rfl, rfl⟩
  · rw [bI_0] at c5
    refine hk_iload_n dX10_licence_8 rfl rfl ?_
    refine hk_iconst (v := 0) dX10_licence_9 (by decide) ?_
    refine hk_sipush (v := 1999) dX10_licence_10 (by decide) ?_
    refine ivX10_208 rfl (ct_within y 0 1999) dX10_licence_13 rfl rfl (by decide) ⟨by decide, by decide⟩ (Nat.le_of_ble_eq_true rfl) (hk_kd ?_)
    refine hk_if_eq (tgt := 29) dX10_licence_16 (by decide) (fun c16 => ?_) (fun c16 => ?_)
    · rw [bI_0, show (1999 : Int32) = nI 1999 from rfl, inR_w (by decide)] at c16
      refine hk_iconst (v := (-1)) dX10_licence_29 (by decide) ?_
      exact hk_ireturn dX10_licence_30 rfl rfl (by decide) ⟨rfl, rfl⟩
    · rw [bI_0, show (1999 : Int32) = nI 1999 from rfl, inR_w (by decide)] at c16
      refine hk_iload_n dX10_licence_19 rfl rfl ?_
      refine hk_iconst (v := 0) dX10_licence_20 (by decide) ?_
      refine hk_bipush (v := 49) dX10_licence_21 (by decide) ?_
      refine ivX10_208 rfl (ct_within o 0 49) dX10_licence_23 rfl rfl (by decide) ⟨by decide, by decide⟩ (Nat.le_of_ble_eq_true rfl) (hk_kd ?_)
      refine hk_if_ne (tgt := 31) dX10_licence_26 (by decide) (fun c26 => ?_) (fun c26 => ?_)
      · rw [bI_0, show (49 : Int32) = nI 49 from rfl, inR_w (by decide)] at c26
        exact absurd (by grind) h
      · rw [bI_0, show (49 : Int32) = nI 49 from rfl, inR_w (by decide)] at c26
        refine hk_iconst (v := (-1)) dX10_licence_29 (by decide) ?_
        exact hk_ireturn dX10_licence_30 rfl rfl (by decide) ⟨rfl, rfl⟩
set_option maxRecDepth 20000 in
set_option maxHeartbeats 2000000 in
theorem md_licence_there {K : Nat} (hK : m 37 26 = nI K) {N : Nat} (hN : m 37 30 = nI N) (hN2 : N ≤ 200) (c y o : Int32) (h : inR c K ∧ inR y 2000 ∧ inR o 50) (hh : ¬ hol2 (m 59) (m 60) (m 61) N c y < 0) : hk_Cd MX10_licence 1 0 0 [.ref 37, .int c, .int y, .int o] (hk_h L m) (some (.int (-4))) (hk_h L m) := by
  refine hk_ofWP (by decide) (by simp [Value.category]) (Nat.le_of_ble_eq_true rfl) ?_
  show hk_WP _ _ _ _ _ _ _ [some (.ref 37), some (.int c), some (.int y), some (.int o)] [] _ _
  refine hk_aload_n dX10_licence_0 rfl rfl ?_
  refine hk_iload_n dX10_licence_1 rfl rfl ?_
  refine ivX10_255 rfl (md_isCoach hK c) dX10_licence_2 (hk_lt (by decide)) rfl rfl rfl (by decide) ⟨by decide, by decide⟩ (Nat.le_of_ble_eq_true rfl) (hk_kd ?_)
  refine hk_if_eq (tgt := 29) dX10_licence_5 (by decide) (fun c5 => ?_) (fun c5 => ?_)
  · rw [bI_0] at c5
    exfalso; grind
  · rw [bI_0] at c5
    refine hk_iload_n dX10_licence_8 rfl rfl ?_
    refine hk_iconst (v := 0) dX10_licence_9 (by decide) ?_
    refine hk_sipush (v := 1999) dX10_licence_10 (by decide) ?_
    refine ivX10_208 rfl (ct_within y 0 1999) dX10_licence_13 rfl rfl (by decide) ⟨by decide, by decide⟩ (Nat.le_of_ble_eq_true rfl) (hk_kd ?_)
    refine hk_if_eq (tgt := 29) dX10_licence_16 (by decide) (fun c16 => ?_) (fun c16 => ?_)
    · rw [bI_0, show (1999 : Int32) = nI 1999 from rfl, inR_w (by decide)] at c16
      exfalso; grind
    · rw [bI_0, show (1999 : Int32) = nI 1999 from rfl, inR_w (by decide)] at c16
      refine hk_iload_n dX10_licence_19 rfl rfl ?_
      refine hk_iconst (v := 0) dX10_licence_20 (by decide) ?_
      refine hk_bipush (v := 49) dX10_licence_21 (by decide) ?_
      refine ivX10_208 rfl (ct_within o 0 49) dX10_licence_23 rfl rfl (by decide) ⟨by decide, by decide⟩ (Nat.le_of_ble_eq_true rfl) (hk_kd ?_)
      refine hk_if_ne (tgt := 31) dX10_licence_26 (by decide) (fun c26 => ?_) (fun c26 => ?_)
      · rw [bI_0, show (49 : Int32) = nI 49 from rfl, inR_w (by decide)] at c26
        refine hk_aload_n dX10_licence_31 rfl rfl ?_
        refine hk_iload_n dX10_licence_32 rfl rfl ?_
        refine hk_iload_n dX10_licence_33 rfl rfl ?_
        refine ivX10_258 rfl (md_holder hN hN2 c y) dX10_licence_34 (hk_lt (by decide)) rfl rfl rfl (by decide) ⟨by decide, by decide⟩ (Nat.le_of_ble_eq_true rfl) (hk_kd ?_)
        refine hk_if_lt (tgt := 43) dX10_licence_37 (by decide) (fun c37 => absurd c37 hh) (fun _ => ?_)
        refine hk_bipush (v := (-4)) dX10_licence_40 (by decide) ?_
        exact hk_ireturn dX10_licence_42 rfl rfl (by decide) ⟨rfl, rfl⟩
      · rw [bI_0, show (49 : Int32) = nI 49 from rfl, inR_w (by decide)] at c26
        exfalso; grind
set_option maxRecDepth 20000 in
set_option maxHeartbeats 2000000 in
theorem md_licence_full {K : Nat} (hK : m 37 26 = nI K) {N : Nat} (hN : m 37 30 = nI N) (hN2 : N = 200) (c y o : Int32) (h : inR c K ∧ inR y 2000 ∧ inR o 50) (hh : hol2 (m 59) (m 60) (m 61) N c y < 0) : hk_Cd MX10_licence 1 0 0 [.ref 37, .int c, .int y, .int o] (hk_h L m) (some (.int (-2))) (hk_h L m) := by
  refine hk_ofWP (by decide) (by simp [Value.category]) (Nat.le_of_ble_eq_true rfl) ?_
  show hk_WP _ _ _ _ _ _ _ [some (.ref 37), some (.int c), some (.int y), some (.int o)] [] _ _
  refine hk_aload_n dX10_licence_0 rfl rfl ?_
  refine hk_iload_n dX10_licence_1 rfl rfl ?_
  refine ivX10_255 rfl (md_isCoach hK c) dX10_licence_2 (hk_lt (by decide)) rfl rfl rfl (by decide) ⟨by decide, by decide⟩ (Nat.le_of_ble_eq_true rfl) (hk_kd ?_)
  refine hk_if_eq (tgt := 29) dX10_licence_5 (by decide) (fun c5 => ?_) (fun c5 => ?_)
  · rw [bI_0] at c5
    exfalso; grind
  · rw [bI_0] at c5
    refine hk_iload_n dX10_licence_8 rfl rfl ?_
    refine hk_iconst (v := 0) dX10_licence_9 (by decide) ?_
    refine hk_sipush (v := 1999) dX10_licence_10 (by decide) ?_
    refine ivX10_208 rfl (ct_within y 0 1999) dX10_licence_13 rfl rfl (by decide) ⟨by decide, by decide⟩ (Nat.le_of_ble_eq_true rfl) (hk_kd ?_)
    refine hk_if_eq (tgt := 29) dX10_licence_16 (by decide) (fun c16 => ?_) (fun c16 => ?_)
    · rw [bI_0, show (1999 : Int32) = nI 1999 from rfl, inR_w (by decide)] at c16
      exfalso; grind
    · rw [bI_0, show (1999 : Int32) = nI 1999 from rfl, inR_w (by decide)] at c16
      refine hk_iload_n dX10_licence_19 rfl rfl ?_
      refine hk_iconst (v := 0) dX10_licence_20 (by decide) ?_
      refine hk_bipush (v := 49) dX10_licence_21 (by decide) ?_
      refine ivX10_208 rfl (ct_within o 0 49) dX10_licence_23 rfl rfl (by decide) ⟨by decide, by decide⟩ (Nat.le_of_ble_eq_true rfl) (hk_kd ?_)
      refine hk_if_ne (tgt := 31) dX10_licence_26 (by decide) (fun c26 => ?_) (fun c26 => ?_)
      · rw [bI_0, show (49 : Int32) = nI 49 from rfl, inR_w (by decide)] at c26
        refine hk_aload_n dX10_licence_31 rfl rfl ?_
        refine hk_iload_n dX10_licence_32 rfl rfl ?_
        refine hk_iload_n dX10_licence_33 rfl rfl ?_
        refine ivX10_258 rfl (md_holder hN (by omega) c y) dX10_licence_34 (hk_lt (by decide)) rfl rfl rfl (by decide) ⟨by decide, by decide⟩ (Nat.le_of_ble_eq_true rfl) (hk_kd ?_)
        refine hk_if_lt (tgt := 43) dX10_licence_37 (by decide) (fun _ => ?_) (fun c37 => absurd hh c37)
        refine hk_aload_n dX10_licence_43 rfl rfl ?_
        refine gfX10_252 rfl dX10_licence_44 (hk_lt (by decide)) rfl rfl ?_
        refine hk_sipush (v := 200) dX10_licence_47 (by decide) ?_
        refine hk_icmp_ne (tgt := 56) dX10_licence_50 (by decide) (fun c50 => absurd (by rw [hN, hN2]; rfl) c50) (fun _ => ?_)
        refine hk_bipush (v := (-2)) dX10_licence_53 (by decide) ?_
        exact hk_ireturn dX10_licence_55 rfl rfl (by decide) ⟨rfl, rfl⟩
      · rw [bI_0, show (49 : Int32) = nI 49 from rfl, inR_w (by decide)] at c26
        exfalso; grind
set_option maxRecDepth 20000 in
set_option maxHeartbeats 2000000 in
theorem md_licence {K : Nat} (hK : m 37 26 = nI K) {N : Nat} (hN : m 37 30 = nI N) (hN2 : N < 200) (c y o : Int32) (h : inR c K ∧ inR y 2000 ∧ inR o 50) (hh : hol2 (m 59) (m 60) (m 61) N c y < 0) : hk_Cd MX10_licence 1 0 0 [.ref 37, .int c, .int y, .int o] (hk_h L m) (some (.int 1)) (hk_h L (hk_w (hk_w (hk_w (hk_w m 59 N c) 60 N y) 61 N o) 37 30 (nI (N + 1)))) := by
  refine hk_ofWP (by decide) (by simp [Value.category]) (Nat.le_of_ble_eq_true rfl) ?_
  show hk_WP _ _ _ _ _ _ _ [some (.ref 37), some (.int c), some (.int y), some (.int o)] [] _ _
  refine hk_aload_n dX10_licence_0 rfl rfl ?_
  refine hk_iload_n dX10_licence_1 rfl rfl ?_
  refine ivX10_255 rfl (md_isCoach hK c) dX10_licence_2 (hk_lt (by decide)) rfl rfl rfl (by decide) ⟨by decide, by decide⟩ (Nat.le_of_ble_eq_true rfl) (hk_kd ?_)
  refine hk_if_eq (tgt := 29) dX10_licence_5 (by decide) (fun c5 => ?_) (fun c5 => ?_)
  · rw [bI_0] at c5
    exfalso; grind
  · rw [bI_0] at c5
    refine hk_iload_n dX10_licence_8 rfl rfl ?_
    refine hk_iconst (v := 0) dX10_licence_9 (by decide) ?_
    refine hk_sipush (v := 1999) dX10_licence_10 (by decide) ?_
    refine ivX10_208 rfl (ct_within y 0 1999) dX10_licence_13 rfl rfl (by decide) ⟨by decide, by decide⟩ (Nat.le_of_ble_eq_true rfl) (hk_kd ?_)
    refine hk_if_eq (tgt := 29) dX10_licence_16 (by decide) (fun c16 => ?_) (fun c16 => ?_)
    · rw [bI_0, show (1999 : Int32) = nI 1999 from rfl, inR_w (by decide)] at c16
      exfalso; grind
    · rw [bI_0, show (1999 : Int32) = nI 1999 from rfl, inR_w (by decide)] at c16
      refine hk_iload_n dX10_licence_19 rfl rfl ?_
      refine hk_iconst (v := 0) dX10_licence_20 (by decide) ?_
      refine hk_bipush (v := 49) dX10_licence_21 (by decide) ?_
      refine ivX10_208 rfl (ct_within o 0 49) dX10_licence_23 rfl rfl (by decide) ⟨by decide, by decide⟩ (Nat.le_of_ble_eq_true rfl) (hk_kd ?_)
      refine hk_if_ne (tgt := 31) dX10_licence_26 (by decide) (fun c26 => ?_) (fun c26 => ?_)
      · rw [bI_0, show (49 : Int32) = nI 49 from rfl, inR_w (by decide)] at c26
        refine hk_aload_n dX10_licence_31 rfl rfl ?_
        refine hk_iload_n dX10_licence_32 rfl rfl ?_
        refine hk_iload_n dX10_licence_33 rfl rfl ?_
        refine ivX10_258 rfl (md_holder hN (by omega) c y) dX10_licence_34 (hk_lt (by decide)) rfl rfl rfl (by decide) ⟨by decide, by decide⟩ (Nat.le_of_ble_eq_true rfl) (hk_kd ?_)
        refine hk_if_lt (tgt := 43) dX10_licence_37 (by decide) (fun _ => ?_) (fun c37 => absurd hh c37)
        refine hk_aload_n dX10_licence_43 rfl rfl ?_
        refine gfX10_252 rfl dX10_licence_44 (hk_lt (by decide)) rfl rfl ?_
        refine hk_sipush (v := 200) dX10_licence_47 (by decide) ?_
        refine hk_icmp_ne (tgt := 56) dX10_licence_50 (by decide) (fun _ => ?_) (fun c50 => absurd c50 (by rw [hN, show (200 : Int32) = nI 200 from rfl, nI_eq (by omega) (by decide)]; omega))
        refine hk_aload_n dX10_licence_56 rfl rfl ?_
        refine gfX10_73 rfl dX10_licence_57 (hk_lt (by decide)) rfl rfl ?_
        refine hk_aload_n dX10_licence_60 rfl rfl ?_
        refine gfX10_252 rfl dX10_licence_61 (hk_lt (by decide)) rfl rfl ?_
        refine hk_iload_n dX10_licence_64 rfl rfl ?_
        refine hk_isn dX10_licence_65 (by decide) (fun _ => rfl) hN (by omega) (by decide) ?_
        refine hk_aload_n dX10_licence_66 rfl rfl ?_
        refine gfX10_76 rfl dX10_licence_67 (hk_lt (by decide)) rfl rfl ?_
        refine hk_aload_n dX10_licence_70 rfl rfl ?_
        refine gfX10_252 rfl dX10_licence_71 (hk_lt (by decide)) rfl rfl ?_
        refine hk_iload_n dX10_licence_74 rfl rfl ?_
        refine hk_isn (j := N) dX10_licence_75 (by decide) (fun _ => rfl) (by simp [hk_wo, hN]) (by omega) (by decide) ?_
        refine hk_aload_n dX10_licence_76 rfl rfl ?_
        refine gfX10_79 rfl dX10_licence_77 (hk_lt (by decide)) rfl rfl ?_
        refine hk_aload_n dX10_licence_80 rfl rfl ?_
        refine gfX10_252 rfl dX10_licence_81 (hk_lt (by decide)) rfl rfl ?_
        refine hk_iload_n dX10_licence_84 rfl rfl ?_
        refine hk_isn (j := N) dX10_licence_85 (by decide) (fun _ => rfl) (by simp [hk_wo, hN]) (by omega) (by decide) ?_
        refine hk_aload_n dX10_licence_86 rfl rfl ?_
        refine hk_dup dX10_licence_87 rfl ?_
        refine gfX10_252 rfl dX10_licence_88 (hk_lt (by decide)) rfl rfl ?_
        refine hk_iconst (v := 1) dX10_licence_91 (by decide) ?_
        refine hk_iadd dX10_licence_92 ?_
        rw [show hk_w _ _ _ _ _ _ + 1 = nI (N + 1) by simp [hk_wo, hN, nI_1]]
        refine pfX10_252 rfl dX10_licence_93 (hk_lt (by decide)) rfl (Nat.le_of_ble_eq_true rfl) (hk_st (j := 30) rfl ?_)
        refine hk_iconst (v := 1) dX10_licence_96 (by decide) ?_
        exact hk_ireturn dX10_licence_97 rfl rfl (by decide) ⟨rfl, rfl⟩
      · rw [bI_0, show (49 : Int32) = nI 49 from rfl, inR_w (by decide)] at c26
        exfalso; grind
theorem hol_c {N : Nat} (h : GLic N (m 12) (m 59) (m 60) (m 61)) (c y : Int32) : hol m 12 N c y = hol2 (m 59) (m 60) (m 61) N c y := by
  unfold hol hol2
  have e : fi (fun i => m 12 (i * 3) = c ∧ m 12 (i * 3 + 1) = y) N = fi (fun i => m 59 i = c ∧ m 60 i = y) N := fi_c (fun i hi => by rw [(h i hi).1, (h i hi).2.1])
  simp only [e]
  by_cases hl : fi (fun i => m 59 i = c ∧ m 60 i = y) N < N
  · rw [if_pos hl, if_pos hl]; exact (h _ hl).2.2.1
  · rw [if_neg hl, if_neg hl]
theorem op_licence (hI : Inv L z m) (c y o : Int32) : OpOK L m MX9_licence MX10_licence [.int c, .int y, .int o] := by
  obtain ⟨g0, ⟨⟨a0, a1, a2, a3, a4, a5, a6, a7, a8, a9, a10, a11, a12, a13⟩, ⟨b0, b1, b2, b3, b4, b5, b6, b7, b8, b9, b10, b11, b12⟩, ⟨c0, c1, c2, c3, c4, c5, c6, c7, c8, c9, c10, c11, c12⟩⟩, g2, g3, g4, g5, g6, g7, g8, g9, g10, g11, g12, g13, g14⟩ := id hI
  by_cases h : inR c (z 2) ∧ inR y 2000 ∧ inR o 50
  · have hc := hol_c g6 c y
    by_cases hh : hol m 12 (z 12) c y < 0
    · by_cases hf : z 12 = 200
      · exact ⟨3, 0, 0, 1, -2, L, m, m, z, by decide, by decide, by decide, by decide, ct_licence_full a2 c2 (hf ▸ a12) c y o h (hf ▸ hh), md_licence_full b2 b12 hf c y o h (hc ▸ hh), hI⟩
      · refine ⟨3, 0, 0, 1, 1, L, _, _, up z 12 (z 12 + 1), by decide, by decide, by decide, by decide, ct_licence a2 c2 a12 (by omega) c y o h hh, md_licence (K := z 2) (N := z 12) (by simpa [hk_wo, hk_wt] using b2) (by simpa [hk_wo, hk_wt] using b12) (by omega) c y o h (by simpa [hk_wo, hk_wt] using hc ▸ hh), ?_⟩
        refine ⟨g0, ⟨?_, ?_, ?_⟩, ?_, ?_, ?_, ?_, ?_, ?_, ?_, ?_, ?_, ?_, ?_, ?_, ?_⟩
        · simp [hk_wo, hk_wt, hk_w99, up, upd, a0, a1, a2, a3, a4, a5, a6, a7, a8, a9, a10, a11, a12, a13]
        · simp [hk_wo, hk_wt, hk_w99, up, upd, b0, b1, b2, b3, b4, b5, b6, b7, b8, b9, b10, b11, b12]
        · first | (simp [up]; omega) | omega
        · simpa [hk_wo, hk_wt, hk_w99, up, upd] using g2
        · simpa [hk_wo, hk_wt, hk_w99, up, upd] using g3
        · simpa [hk_wo, hk_wt, hk_w99, up, upd] using g4
        · simpa [hk_wo, hk_wt, hk_w99, up, upd] using g5
        · refine fun i hi => ?_
          simp only [up, if_true] at hi
          by_cases hin : i = z 12
          · subst hin
            simp [hk_wo, hk_wt, upd]
            exact Int32.not_lt.mp h.2.2.1
          · have := g6 i (by omega)
            refine ⟨?_, ?_, ?_, ?_⟩
            · (simp [hk_wo, hk_wt, upd, hin, this]) <;> (repeat rw [if_neg (by omega)])
            · (simp [hk_wo, hk_wt, upd, hin, this]) <;> (repeat rw [if_neg (by omega)])
            · (simp [hk_wo, hk_wt, upd, hin, this]) <;> (repeat rw [if_neg (by omega)])
            · simpa [hk_wo, hk_wt, upd, hin] using this.2.2.2
        · simpa [hk_wo, hk_wt, hk_w99, up, upd] using g7
        · simpa [hk_wo, hk_wt, hk_w99, up, upd] using g8
        · simpa [hk_wo, hk_wt, hk_w99, up, upd] using g9
        · simpa [hk_wo, hk_wt, hk_w99, up, upd] using g10
        · simpa [hk_wo, hk_wt, hk_w99, up, upd] using g11
        · simpa [hk_wo, hk_wt, hk_w99, up, upd] using g12
        · simpa [hk_wo, hk_wt, hk_w99, up, upd] using g13
        · simpa [hk_wo, hk_wt, hk_w99, up, upd] using g14
    · exact ⟨3, 0, 0, 1, -4, L, m, m, z, by decide, by decide, by decide, by decide, ct_licence_there a2 c2 a12 c12 c y o h hh, md_licence_there b2 b12 c12 c y o h (hc ▸ hh), hI⟩
  · exact ⟨3, 0, 0, 1, -1, L, m, m, z, by decide, by decide, by decide, by decide, ct_licence_no a2 c2 c y o h, md_licence_no b2 c y o h, hI⟩
set_option maxRecDepth 20000 in
set_option maxHeartbeats 2000000 in
theorem ct_look_no {K : Nat} (hK : m 9 3 = nI K) (hK30 : K ≤ 30) (c u : Int32) (h : ¬ (inR c K ∧ ¬ u < m 0 0 / 1440 ∧ ¬ 9999 < u)) : hk_Cd MX9_look 1 0 0 [.ref 0, .int c, .int u] (hk_h L m) (some (.int (-9))) (hk_h L m) := by
  refine hk_ofWP (by decide) (by simp [Value.category]) (Nat.le_of_ble_eq_true rfl) ?_
  show hk_WP _ _ _ _ _ _ _ [some (.ref 0), some (.int c), some (.int u), none] [] _ _
  refine hk_aload_n dX9_look_0 rfl rfl ?_
  refine gfX9_23 rfl dX9_look_1 (hk_lt (by decide)) rfl rfl ?_
  refine gfX9_112 rfl dX9_look_4 (hk_lt (by decide)) rfl rfl ?_
  refine hk_iload_n dX9_look_7 rfl rfl ?_
  refine ivX9_71 rfl (ct_has tb9 hK30 hK c) dX9_look_8 (hk_lt (by decide)) rfl rfl rfl (by decide) ⟨by decide, by decide⟩ (Nat.le_of_ble_eq_true rfl) (hk_kd ?_)
  refine hk_if_eq (tgt := 29) dX9_look_11 (by decide) (fun c11 => ?_) (fun c11 => ?_)
  · rw [bI_0] at c11
    refine hk_bipush (v := (-9)) dX9_look_29 (by decide) ?_
    exact hk_ireturn dX9_look_31 rfl rfl (by decide) ⟨rfl, rfl⟩
  · rw [bI_0] at c11
    refine hk_iload_n dX9_look_14 rfl rfl ?_
    refine hk_aload_n dX9_look_15 rfl rfl ?_
    refine ivX9_121 rfl ct_today dX9_look_16 (hk_lt (by decide)) rfl rfl rfl (by decide) ⟨by decide, by decide⟩ (Nat.le_of_ble_eq_true rfl) (hk_kd ?_)
    refine hk_icmp_lt (tgt := 29) dX9_look_19 (by decide) (fun c19 => ?_) (fun c19 => ?_)
    · refine hk_bipush (v := (-9)) dX9_look_29 (by decide) ?_
      exact hk_ireturn dX9_look_31 rfl rfl (by decide) ⟨rfl, rfl⟩
    · refine hk_iload_n dX9_look_22 rfl rfl ?_
      refine hk_sipush (v := 10000) dX9_look_23 (by decide) ?_
      refine hk_icmp_lt (tgt := 32) dX9_look_26 (by decide) (fun c26 => ?_) (fun c26 => ?_)
      · exact absurd ⟨Classical.not_not.mp c11, c19, fun q => absurd c26 (by rw [i32_lt] at q ⊢; have : (9999 : Int32).toInt = 9999 := rfl; have : (10000 : Int32).toInt = 10000 := rfl; omega)⟩ h
      · refine hk_bipush (v := (-9)) dX9_look_29 (by decide) ?_
        exact hk_ireturn dX9_look_31 rfl rfl (by decide) ⟨rfl, rfl⟩
set_option maxRecDepth 20000 in
set_option maxHeartbeats 2000000 in
theorem ct_look {K : Nat} (hK : m 9 3 = nI K) (hK30 : K ≤ 30) {i : Nat} (hi : i < K) (u : Int32) (h : ¬ u < m 0 0 / 1440 ∧ ¬ 9999 < u) : hk_Cd MX9_look 1 0 0 [.ref 0, .int (nI i), .int u] (hk_h L m) (some (.int (m 10 (i * 8 + 5)))) (hk_h L (hk_w m 10 (i * 8 + 5) u)) := by
  refine hk_ofWP (by decide) (by simp [Value.category]) (Nat.le_of_ble_eq_true rfl) ?_
  show hk_WP _ _ _ _ _ _ _ [some (.ref 0), some (.int (nI i)), some (.int u), none] [] _ _
  refine hk_aload_n dX9_look_0 rfl rfl ?_
  refine gfX9_23 rfl dX9_look_1 (hk_lt (by decide)) rfl rfl ?_
  refine gfX9_112 rfl dX9_look_4 (hk_lt (by decide)) rfl rfl ?_
  refine hk_iload_n dX9_look_7 rfl rfl ?_
  refine ivX9_71 rfl (ct_has tb9 hK30 hK _) dX9_look_8 (hk_lt (by decide)) rfl rfl rfl (by decide) ⟨by decide, by decide⟩ (Nat.le_of_ble_eq_true rfl) (hk_kd ?_)
  refine hk_if_eq (tgt := 29) dX9_look_11 (by decide) (fun c11 => absurd c11 (fun q => bI_0.mp q (inR_nI hi (by omega)))) (fun _ => ?_)
  refine hk_iload_n dX9_look_14 rfl rfl ?_
  refine hk_aload_n dX9_look_15 rfl rfl ?_
  refine ivX9_121 rfl ct_today dX9_look_16 (hk_lt (by decide)) rfl rfl rfl (by decide) ⟨by decide, by decide⟩ (Nat.le_of_ble_eq_true rfl) (hk_kd ?_)
  refine hk_icmp_lt (tgt := 29) dX9_look_19 (by decide) (fun c19 => absurd c19 h.1) (fun _ => ?_)
  refine hk_iload_n dX9_look_22 rfl rfl ?_
  refine hk_sipush (v := 10000) dX9_look_23 (by decide) ?_
  refine hk_icmp_lt (tgt := 32) dX9_look_26 (by decide) (fun _ => ?_) (fun c26 => absurd (by have q := h.2; rw [i32_lt] at q ⊢; have : (9999 : Int32).toInt = 9999 := rfl; have : (10000 : Int32).toInt = 10000 := rfl; omega) c26)
  refine hk_aload_n dX9_look_32 rfl rfl ?_
  refine gfX9_23 rfl dX9_look_33 (hk_lt (by decide)) rfl rfl ?_
  refine gfX9_112 rfl dX9_look_36 (hk_lt (by decide)) rfl rfl ?_
  refine hk_iload_n dX9_look_39 rfl rfl ?_
  refine hk_iconst (v := 5) dX9_look_40 (by decide) ?_
  refine ivX9_124 rfl (ct_geti tb9 hK30 hK rfl hi (by decide)) dX9_look_41 (hk_lt (by decide)) rfl rfl rfl (by decide) ⟨by decide, by decide⟩ (Nat.le_of_ble_eq_true rfl) (hk_kd ?_)
  refine hk_istore_n dX9_look_44 rfl (by decide) rfl ?_
  refine hk_aload_n dX9_look_45 rfl rfl ?_
  refine gfX9_23 rfl dX9_look_46 (hk_lt (by decide)) rfl rfl ?_
  refine gfX9_112 rfl dX9_look_49 (hk_lt (by decide)) rfl rfl ?_
  refine hk_iload_n dX9_look_52 rfl rfl ?_
  refine hk_iconst (v := 5) dX9_look_53 (by decide) ?_
  refine hk_iload_n dX9_look_54 rfl rfl ?_
  refine ivX9_127 rfl (ct_seti tb9 hK30 hK rfl hi (by decide) _) dX9_look_55 (hk_lt (by decide)) rfl rfl rfl (by decide) ⟨by decide, by decide⟩ (Nat.le_of_ble_eq_true rfl) (hk_kv ?_)
  refine hk_iload_n dX9_look_58 rfl rfl ?_
  exact hk_ireturn dX9_look_59 rfl rfl (by decide) ⟨rfl, rfl⟩
set_option maxRecDepth 20000 in
set_option maxHeartbeats 2000000 in
theorem md_look_no {K : Nat} (hK : m 37 26 = nI K) (c u : Int32) (h : ¬ (inR c K ∧ ¬ u < m 37 0 / 1440 ∧ ¬ 9999 < u)) : hk_Cd MX10_look 1 0 0 [.ref 37, .int c, .int u] (hk_h L m) (some (.int (-9))) (hk_h L m) := by
  refine hk_ofWP (by decide) (by simp [Value.category]) (Nat.le_of_ble_eq_true rfl) ?_
  show hk_WP _ _ _ _ _ _ _ [some (.ref 37), some (.int c), some (.int u), none] [] _ _
  refine hk_aload_n dX10_look_0 rfl rfl ?_
  refine hk_iload_n dX10_look_1 rfl rfl ?_
  refine ivX10_255 rfl (md_isCoach hK c) dX10_look_2 (hk_lt (by decide)) rfl rfl rfl (by decide) ⟨by decide, by decide⟩ (Nat.le_of_ble_eq_true rfl) (hk_kd ?_)
  refine hk_if_eq (tgt := 22) dX10_look_5 (by decide) (fun c5 => ?_) (fun c5 => ?_)
  · rw [bI_0] at c5
    refine hk_bipush (v := (-9)) dX10_look_22 (by decide) ?_
    exact hk_ireturn dX10_look_24 rfl rfl (by decide) ⟨rfl, rfl⟩
  · rw [bI_0] at c5
    refine hk_iload_n dX10_look_8 rfl rfl ?_
    refine hk_aload_n dX10_look_9 rfl rfl ?_
    refine ivX10_262 rfl md_today dX10_look_10 (hk_lt (by decide)) rfl rfl rfl (by decide) ⟨by decide, by decide⟩ (Nat.le_of_ble_eq_true rfl) (hk_kd ?_)
    refine hk_sipush (v := 9999) dX10_look_13 (by decide) ?_
    refine ivX10_208 rfl (ct_within u (m 37 0 / 1440) 9999) dX10_look_16 rfl rfl (by decide) ⟨by decide, by decide⟩ (Nat.le_of_ble_eq_true rfl) (hk_kd ?_)
    refine hk_if_ne (tgt := 25) dX10_look_19 (by decide) (fun c19 => ?_) (fun c19 => ?_)
    · rw [bI_0] at c19
      exact absurd ⟨Classical.not_not.mp c5, Classical.not_not.mp c19⟩ h
    · rw [bI_0] at c19
      refine hk_bipush (v := (-9)) dX10_look_22 (by decide) ?_
      exact hk_ireturn dX10_look_24 rfl rfl (by decide) ⟨rfl, rfl⟩
set_option maxRecDepth 20000 in
set_option maxHeartbeats 2000000 in
theorem md_look {K : Nat} (hK : m 37 26 = nI K) (hK30 : K ≤ 30) {i : Nat} (hi : i < K) (u : Int32) (h : ¬ u < m 37 0 / 1440 ∧ ¬ 9999 < u) : hk_Cd MX10_look 1 0 0 [.ref 37, .int (nI i), .int u] (hk_h L m) (some (.int (m 54 i))) (hk_h L (hk_w m 54 i u)) := by
  refine hk_ofWP (by decide) (by simp [Value.category]) (Nat.le_of_ble_eq_true rfl) ?_
  show hk_WP _ _ _ _ _ _ _ [some (.ref 37), some (.int (nI i)), some (.int u), none] [] _ _
  refine hk_aload_n dX10_look_0 rfl rfl ?_
  refine hk_iload_n dX10_look_1 rfl rfl ?_
  refine ivX10_255 rfl (md_isCoach hK _) dX10_look_2 (hk_lt (by decide)) rfl rfl rfl (by decide) ⟨by decide, by decide⟩ (Nat.le_of_ble_eq_true rfl) (hk_kd ?_)
  refine hk_if_eq (tgt := 22) dX10_look_5 (by decide) (fun c5 => absurd c5 (fun q => bI_0.mp q (inR_nI hi (by omega)))) (fun _ => ?_)
  refine hk_iload_n dX10_look_8 rfl rfl ?_
  refine hk_aload_n dX10_look_9 rfl rfl ?_
  refine ivX10_262 rfl md_today dX10_look_10 (hk_lt (by decide)) rfl rfl rfl (by decide) ⟨by decide, by decide⟩ (Nat.le_of_ble_eq_true rfl) (hk_kd ?_)
  refine hk_sipush (v := 9999) dX10_look_13 (by decide) ?_
  refine ivX10_208 rfl (ct_within u (m 37 0 / 1440) 9999) dX10_look_16 rfl rfl (by decide) ⟨by decide, by decide⟩ (Nat.le_of_ble_eq_true rfl) (hk_kd ?_)
  refine hk_if_ne (tgt := 25) dX10_look_19 (by decide) (fun _ => ?_) (fun c19 => absurd c19 (fun q => bI_0.mp q h))
  refine hk_aload_n dX10_look_25 rfl rfl ?_
  refine gfX10_58 rfl dX10_look_26 (hk_lt (by decide)) rfl rfl ?_
  refine hk_iload_n dX10_look_29 rfl rfl ?_
  refine hk_ian dX10_look_30 (by decide) (fun _ => rfl) rfl (by omega) (by decide) ?_
  refine hk_istore_n dX10_look_31 rfl (by decide) rfl ?_
  refine hk_aload_n dX10_look_32 rfl rfl ?_
  refine gfX10_58 rfl dX10_look_33 (hk_lt (by decide)) rfl rfl ?_
  refine hk_iload_n dX10_look_36 rfl rfl ?_
  refine hk_iload_n dX10_look_37 rfl rfl ?_
  refine hk_isn dX10_look_38 (by decide) (fun _ => rfl) rfl (by omega) (by decide) ?_
  refine hk_iload_n dX10_look_39 rfl rfl ?_
  exact hk_ireturn dX10_look_40 rfl rfl (by decide) ⟨rfl, rfl⟩
theorem op_look (hI : Inv L z m) (c u : Int32) : OpOK L m MX9_look MX10_look [.int c, .int u] := by
  obtain ⟨g0, ⟨⟨a0, a1, a2, a3, a4, a5, a6, a7, a8, a9, a10, a11, a12, a13⟩, ⟨b0, b1, b2, b3, b4, b5, b6, b7, b8, b9, b10, b11, b12⟩, ⟨c0, c1, c2, c3, c4, c5, c6, c7, c8, c9, c10, c11, c12⟩⟩, g2, g3, g4, g5, g6, g7, g8, g9, g10, g11, g12, g13, g14⟩ := id hI
  by_cases h : inR c (z 2) ∧ ¬ u < m 0 0 / 1440 ∧ ¬ 9999 < u
  · obtain ⟨i, hi, rfl⟩ := inR_of h.1 (by omega)
    have hr := g5.1 i hi
    refine ⟨1, 0, 0, 1, m 10 (i * 8 + 5), L, _, hk_w (hk_w m 10 (i * 8 + 5) u) 54 i u, z, by decide, by decide, by decide, by decide, ct_look a2 c2 hi u h.2, ?_, ?_⟩
    · have := md_look (m := hk_w m 10 (i * 8 + 5) u) (L := L) (K := z 2) (by simpa [hk_wo, hk_wt] using b2) c2 hi u (by simpa [hk_wo, b8, ← a8] using h.2)
      rw [hk_w_ne (by decide), ← hr.2.2.2.1] at this
      exact this
    refine ⟨g0, ⟨?_, ?_, ?_⟩, ?_, ?_, ?_, ?_, ?_, ?_, ?_, ?_, ?_, ?_, ?_, ?_, ?_⟩
    · simp [hk_wo, hk_wt, hk_w99, up, upd, a0, a1, a2, a3, a4, a5, a6, a7, a8, a9, a10, a11, a12, a13]
    · simp [hk_wo, hk_wt, hk_w99, up, upd, b0, b1, b2, b3, b4, b5, b6, b7, b8, b9, b10, b11, b12]
    · first | (simp [up]; omega) | omega
    · simpa [hk_wo, hk_wt, hk_w99, up, upd] using g2
    · simpa [hk_wo, hk_wt, hk_w99, up, upd] using g3
    · simpa [hk_wo, hk_wt, hk_w99, up, upd] using g4
    · refine GCo_set (by simpa [hk_wo, hk_wt] using g5) hi (Or.inl rfl) (fun c k hc hk => ?_) (fun c hc => ?_) ?_
      · simp (disch := decide) only [hk_w_at, hk_w_ne]
        repeat rw [if_neg (by omega)]
      · simp [hk_wo, hk_wt, upd, hc]
      · simpa [CoRow, hk_wo, hk_wt, upd] using And.intro hr.1 (And.intro hr.2.1 (And.intro hr.2.2.1 hr.2.2.2.2))
    · simpa [hk_wo, hk_wt, hk_w99, up, upd] using g6
    · refine GSt_k (a := z 2) (by simpa [hk_wo, hk_wt] using g7) (Nat.le_refl _) (fun c hc => ⟨?_, ?_⟩) (fun c hc hc2 => by omega)
      · simp (disch := decide) only [hk_w_at, hk_w_ne]
        repeat rw [if_neg (by omega)]
      · simp (disch := decide) only [hk_w_at, hk_w_ne]
        repeat rw [if_neg (by omega)]
    · simpa [hk_wo, hk_wt, hk_w99, up, upd] using g8
    · simpa [hk_wo, hk_wt, hk_w99, up, upd] using g9
    · simpa [hk_wo, hk_wt, hk_w99, up, upd] using g10
    · simpa [hk_wo, hk_wt, hk_w99, up, upd] using g11
    · simpa [hk_wo, hk_wt, hk_w99, up, upd] using g12
    · simpa [hk_wo, hk_wt, hk_w99, up, upd] using g13
    · simpa [hk_wo, hk_wt, hk_w99, up, upd] using g14
  · exact ⟨1, 0, 0, 1, -9, L, m, m, z, by decide, by decide, by decide, by decide, ct_look_no a2 c2 c u h, md_look_no b2 c u (by rw [b8, ← a8]; exact h), hI⟩
end O6
