/-! SMALL METHODS of both objects, and their conditions as one -/
theorem i32_lt {a b : Int32} : a < b ↔ a.toInt < b.toInt := Int32.lt_iff_toInt_lt
theorem i32_le {a b : Int32} : a ≤ b ↔ a.toInt ≤ b.toInt := Int32.le_iff_toInt_le
theorem i32_eq {a b : Int32} : a = b ↔ a.toInt = b.toInt := Int32.toInt_inj.symm
theorem i32_0 : (0 : Int32).toInt = 0 := rfl
theorem inR_w {v : Int32} {k : Nat} (hk : k + 1 < 2 ^ 31) : (¬ v < 0 ∧ ¬ nI k < v) ↔ inR v (k + 1) := by
  unfold inR
  simp only [i32_lt, i32_le, i32_0, nI_toInt hk, nI_toInt (show k < 2 ^ 31 by omega)]
  omega
theorem inR_of {x : Int32} {n : Nat} (h : inR x n) (hn : n < 2 ^ 31) : ∃ i, i < n ∧ x = nI i := hk_dn h.1 h.2 hn
theorem inR_i {x : Int32} {n : Nat} (hn : n < 2 ^ 31) : inR x n ↔ 0 ≤ x.toInt ∧ x.toInt < n := by
  unfold inR
  simp only [i32_lt, i32_le, i32_0, nI_toInt hn]
  omega
section SM
variable {L : Nat} {m : Nat → Nat → Int32}
set_option maxRecDepth 20000 in
set_option maxHeartbeats 2000000 in
theorem ct_within (v a b : Int32) : hk_Cd MX10_within 0 0 0 [.int v, .int a, .int b] (hk_h L m) (some (.int (bI (¬ v < a ∧ ¬ b < v)))) (hk_h L m) := by
  refine hk_ofWP (by decide) (by simp [Value.category]) (Nat.le_of_ble_eq_true rfl) ?_
  show hk_WP _ _ _ _ _ _ _ [some (.int v), some (.int a), some (.int b)] [] _ _
  refine hk_iload_n dX10_within_0 rfl rfl ?_
  refine hk_iload_n dX10_within_1 rfl rfl ?_
  refine hk_icmp_lt (tgt := 14) dX10_within_2 (by decide) (fun c2 => ?_) (fun c2 => ?_)
  · refine hk_iconst (v := 0) dX10_within_14 (by decide) ?_
    exact hk_ireturn dX10_within_15 rfl rfl (by decide) ⟨by first | exact bI_r1 (by grind) | exact bI_r0 (by grind), rfl⟩
  · refine hk_iload_n dX10_within_5 rfl rfl ?_
    refine hk_iload_n dX10_within_6 rfl rfl ?_
    refine hk_icmp_gt (tgt := 14) dX10_within_7 (by decide) (fun c7 => ?_) (fun c7 => ?_)
    · refine hk_iconst (v := 0) dX10_within_14 (by decide) ?_
      exact hk_ireturn dX10_within_15 rfl rfl (by decide) ⟨by first | exact bI_r1 (by grind) | exact bI_r0 (by grind), rfl⟩
    · refine hk_iconst (v := 1) dX10_within_10 (by decide) ?_
      refine hk_goto (tgt := 15) dX10_within_11 (by decide) ?_
      exact hk_ireturn dX10_within_15 rfl rfl (by decide) ⟨by first | exact bI_r1 (by grind) | exact bI_r0 (by grind), rfl⟩
set_option maxRecDepth 20000 in
set_option maxHeartbeats 2000000 in
theorem md_isCorner {n : Nat} (hn : m 37 3 = nI n) (c : Int32) : hk_Cd MX10_isCorner 0 0 0 [.ref 37, .int c] (hk_h L m) (some (.int (bI (inR c n)))) (hk_h L m) := by
  refine hk_ofWP (by decide) (by simp [Value.category]) (Nat.le_of_ble_eq_true rfl) ?_
  show hk_WP _ _ _ _ _ _ _ [some (.ref 37), some (.int c)] [] _ _
  refine hk_iload_n dX10_isCorner_0 rfl rfl ?_
  refine hk_if_lt (tgt := 16) dX10_isCorner_1 (by decide) (fun c1 => ?_) (fun c1 => ?_)
  · refine hk_iconst (v := 0) dX10_isCorner_16 (by decide) ?_
    exact hk_ireturn dX10_isCorner_17 rfl rfl (by decide) ⟨by first | exact bI_r1 ⟨c1, c9⟩ | exact bI_r0 (fun q => q.1 c1) | exact bI_r0 (fun q => q.2 c9), rfl⟩
  · refine hk_iload_n dX10_isCorner_4 rfl rfl ?_
    refine hk_aload_n dX10_isCorner_5 rfl rfl ?_
    refine gfX10_198 rfl dX10_isCorner_6 (hk_lt (by decide)) rfl rfl ?_
    refine hk_icmp_ge (tgt := 16) dX10_isCorner_9 (by decide) (fun c9 => ?_) (fun c9 => ?_)
    · rw [hn] at c9
      refine hk_iconst (v := 0) dX10_isCorner_16 (by decide) ?_
      exact hk_ireturn dX10_isCorner_17 rfl rfl (by decide) ⟨by first | exact bI_r1 ⟨c1, c9⟩ | exact bI_r0 (fun q => q.1 c1) | exact bI_r0 (fun q => q.2 c9), rfl⟩
    · rw [hn] at c9
      refine hk_iconst (v := 1) dX10_isCorner_12 (by decide) ?_
      refine hk_goto (tgt := 17) dX10_isCorner_13 (by decide) ?_
      exact hk_ireturn dX10_isCorner_17 rfl rfl (by decide) ⟨by first | exact bI_r1 ⟨c1, c9⟩ | exact bI_r0 (fun q => q.1 c1) | exact bI_r0 (fun q => q.2 c9), rfl⟩
set_option maxRecDepth 20000 in
set_option maxHeartbeats 2000000 in
theorem md_isCoach {n : Nat} (hn : m 37 26 = nI n) (c : Int32) : hk_Cd MX10_isCoach 0 0 0 [.ref 37, .int c] (hk_h L m) (some (.int (bI (inR c n)))) (hk_h L m) := by
  refine hk_ofWP (by decide) (by simp [Value.category]) (Nat.le_of_ble_eq_true rfl) ?_
  show hk_WP _ _ _ _ _ _ _ [some (.ref 37), some (.int c)] [] _ _
  refine hk_iload_n dX10_isCoach_0 rfl rfl ?_
  refine hk_if_lt (tgt := 16) dX10_isCoach_1 (by decide) (fun c1 => ?_) (fun c1 => ?_)
  · refine hk_iconst (v := 0) dX10_isCoach_16 (by decide) ?_
    exact hk_ireturn dX10_isCoach_17 rfl rfl (by decide) ⟨by first | exact bI_r1 ⟨c1, c9⟩ | exact bI_r0 (fun q => q.1 c1) | exact bI_r0 (fun q => q.2 c9), rfl⟩
  · refine hk_iload_n dX10_isCoach_4 rfl rfl ?_
    refine hk_aload_n dX10_isCoach_5 rfl rfl ?_
    refine gfX10_201 rfl dX10_isCoach_6 (hk_lt (by decide)) rfl rfl ?_
    refine hk_icmp_ge (tgt := 16) dX10_isCoach_9 (by decide) (fun c9 => ?_) (fun c9 => ?_)
    · rw [hn] at c9
      refine hk_iconst (v := 0) dX10_isCoach_16 (by decide) ?_
      exact hk_ireturn dX10_isCoach_17 rfl rfl (by decide) ⟨by first | exact bI_r1 ⟨c1, c9⟩ | exact bI_r0 (fun q => q.1 c1) | exact bI_r0 (fun q => q.2 c9), rfl⟩
    · rw [hn] at c9
      refine hk_iconst (v := 1) dX10_isCoach_12 (by decide) ?_
      refine hk_goto (tgt := 17) dX10_isCoach_13 (by decide) ?_
      exact hk_ireturn dX10_isCoach_17 rfl rfl (by decide) ⟨by first | exact bI_r1 ⟨c1, c9⟩ | exact bI_r0 (fun q => q.1 c1) | exact bI_r0 (fun q => q.2 c9), rfl⟩
set_option maxRecDepth 20000 in
set_option maxHeartbeats 2000000 in
theorem md_isStand {n : Nat} (hn : m 37 35 = nI n) (c : Int32) : hk_Cd MX10_isStand 0 0 0 [.ref 37, .int c] (hk_h L m) (some (.int (bI (inR c n)))) (hk_h L m) := by
  refine hk_ofWP (by decide) (by simp [Value.category]) (Nat.le_of_ble_eq_true rfl) ?_
  show hk_WP _ _ _ _ _ _ _ [some (.ref 37), some (.int c)] [] _ _
  refine hk_iload_n dX10_isStand_0 rfl rfl ?_
  refine hk_if_lt (tgt := 16) dX10_isStand_1 (by decide) (fun c1 => ?_) (fun c1 => ?_)
  · refine hk_iconst (v := 0) dX10_isStand_16 (by decide) ?_
    exact hk_ireturn dX10_isStand_17 rfl rfl (by decide) ⟨by first | exact bI_r1 ⟨c1, c9⟩ | exact bI_r0 (fun q => q.1 c1) | exact bI_r0 (fun q => q.2 c9), rfl⟩
  · refine hk_iload_n dX10_isStand_4 rfl rfl ?_
    refine hk_aload_n dX10_isStand_5 rfl rfl ?_
    refine gfX10_204 rfl dX10_isStand_6 (hk_lt (by decide)) rfl rfl ?_
    refine hk_icmp_ge (tgt := 16) dX10_isStand_9 (by decide) (fun c9 => ?_) (fun c9 => ?_)
    · rw [hn] at c9
      refine hk_iconst (v := 0) dX10_isStand_16 (by decide) ?_
      exact hk_ireturn dX10_isStand_17 rfl rfl (by decide) ⟨by first | exact bI_r1 ⟨c1, c9⟩ | exact bI_r0 (fun q => q.1 c1) | exact bI_r0 (fun q => q.2 c9), rfl⟩
    · rw [hn] at c9
      refine hk_iconst (v := 1) dX10_isStand_12 (by decide) ?_
      refine hk_goto (tgt := 17) dX10_isStand_13 (by decide) ?_
      exact hk_ireturn dX10_isStand_17 rfl rfl (by decide) ⟨by first | exact bI_r1 ⟨c1, c9⟩ | exact bI_r0 (fun q => q.1 c1) | exact bI_r0 (fun q => q.2 c9), rfl⟩
set_option maxRecDepth 20000 in
set_option maxHeartbeats 2000000 in
theorem md_isTrip {n : Nat} (hn : m 37 60 = nI n) (c : Int32) : hk_Cd MX10_isTrip 0 0 0 [.ref 37, .int c] (hk_h L m) (some (.int (bI (inR c n)))) (hk_h L m) := by
  refine hk_ofWP (by decide) (by simp [Value.category]) (Nat.le_of_ble_eq_true rfl) ?_
  show hk_WP _ _ _ _ _ _ _ [some (.ref 37), some (.int c)] [] _ _
  refine hk_iload_n dX10_isTrip_0 rfl rfl ?_
  refine hk_if_lt (tgt := 16) dX10_isTrip_1 (by decide) (fun c1 => ?_) (fun c1 => ?_)
  · refine hk_iconst (v := 0) dX10_isTrip_16 (by decide) ?_
    exact hk_ireturn dX10_isTrip_17 rfl rfl (by decide) ⟨by first | exact bI_r1 ⟨c1, c9⟩ | exact bI_r0 (fun q => q.1 c1) | exact bI_r0 (fun q => q.2 c9), rfl⟩
  · refine hk_iload_n dX10_isTrip_4 rfl rfl ?_
    refine hk_aload_n dX10_isTrip_5 rfl rfl ?_
    refine gfX10_287 rfl dX10_isTrip_6 (hk_lt (by decide)) rfl rfl ?_
    refine hk_icmp_ge (tgt := 16) dX10_isTrip_9 (by decide) (fun c9 => ?_) (fun c9 => ?_)
    · rw [hn] at c9
      refine hk_iconst (v := 0) dX10_isTrip_16 (by decide) ?_
      exact hk_ireturn dX10_isTrip_17 rfl rfl (by decide) ⟨by first | exact bI_r1 ⟨c1, c9⟩ | exact bI_r0 (fun q => q.1 c1) | exact bI_r0 (fun q => q.2 c9), rfl⟩
    · rw [hn] at c9
      refine hk_iconst (v := 1) dX10_isTrip_12 (by decide) ?_
      refine hk_goto (tgt := 17) dX10_isTrip_13 (by decide) ?_
      exact hk_ireturn dX10_isTrip_17 rfl rfl (by decide) ⟨by first | exact bI_r1 ⟨c1, c9⟩ | exact bI_r0 (fun q => q.1 c1) | exact bI_r0 (fun q => q.2 c9), rfl⟩
set_option maxRecDepth 20000 in
set_option maxHeartbeats 2000000 in
theorem md_today : hk_Cd MX10_today 0 0 0 [.ref 37] (hk_h L m) (some (.int (m 37 0 / 1440))) (hk_h L m) := by
  refine hk_ofWP (by decide) (by simp [Value.category]) (Nat.le_of_ble_eq_true rfl) ?_
  show hk_WP _ _ _ _ _ _ _ [some (.ref 37)] [] _ _
  refine hk_aload_n dX10_today_0 rfl rfl ?_
  refine gfX10_194 rfl dX10_today_1 (hk_lt (by decide)) rfl rfl ?_
  refine hk_sipush (v := 1440) dX10_today_4 (by decide) ?_
  refine hk_idiv dX10_today_7 (by decide) ?_
  exact hk_ireturn dX10_today_8 rfl rfl (by decide) ⟨rfl, rfl⟩
set_option maxRecDepth 20000 in
set_option maxHeartbeats 2000000 in
theorem md_isMinute (c : Int32) : hk_Cd MX10_isMinute 1 0 0 [.int c] (hk_h L m) (some (.int (bI (inR c 720000)))) (hk_h L m) := by
  refine hk_ofWP (by decide) (by simp [Value.category]) (Nat.le_of_ble_eq_true rfl) ?_
  show hk_WP _ _ _ _ _ _ _ [some (.int c)] [] _ _
  refine hk_iload_n dX10_isMinute_0 rfl rfl ?_
  refine hk_iconst (v := 0) dX10_isMinute_1 (by decide) ?_
  refine hk_ldc dX10_isMinute_2 hk_k10_207 ?_
  refine ivX10_208 rfl (ct_within c 0 719999) dX10_isMinute_4 rfl rfl (by decide) ⟨by decide, by decide⟩ (Nat.le_of_ble_eq_true rfl) (hk_kd ?_)
  exact hk_ireturn dX10_isMinute_7 rfl bI_nar (by decide) ⟨congrArg (fun x => some (Value.int x)) (bI_c (inR_w (k := 719999) (by decide))), rfl⟩
set_option maxRecDepth 20000 in
set_option maxHeartbeats 2000000 in
theorem md_isDay (c : Int32) : hk_Cd MX10_isDay 1 0 0 [.int c] (hk_h L m) (some (.int (bI (inR c 10000)))) (hk_h L m) := by
  refine hk_ofWP (by decide) (by simp [Value.category]) (Nat.le_of_ble_eq_true rfl) ?_
  show hk_WP _ _ _ _ _ _ _ [some (.int c)] [] _ _
  refine hk_iload_n dX10_isDay_0 rfl rfl ?_
  refine hk_iconst (v := 0) dX10_isDay_1 (by decide) ?_
  refine hk_sipush (v := 9999) dX10_isDay_2 (by decide) ?_
  refine ivX10_208 rfl (ct_within c 0 9999) dX10_isDay_5 rfl rfl (by decide) ⟨by decide, by decide⟩ (Nat.le_of_ble_eq_true rfl) (hk_kd ?_)
  exact hk_ireturn dX10_isDay_8 rfl bI_nar (by decide) ⟨congrArg (fun x => some (Value.int x)) (bI_c (inR_w (k := 9999) (by decide))), rfl⟩
set_option maxRecDepth 20000 in
set_option maxHeartbeats 2000000 in
theorem md_minutesOf (y : Int32) : hk_Cd MX10_minutesOf 0 0 0 [.int y] (hk_h L m) (some (.int ((y + 109) / 110))) (hk_h L m) := by
  refine hk_ofWP (by decide) (by simp [Value.category]) (Nat.le_of_ble_eq_true rfl) ?_
  show hk_WP _ _ _ _ _ _ _ [some (.int y)] [] _ _
  refine hk_iload_n dX10_minutesOf_0 rfl rfl ?_
  refine hk_bipush (v := 109) dX10_minutesOf_1 (by decide) ?_
  refine hk_iadd dX10_minutesOf_3 ?_
  refine hk_bipush (v := 110) dX10_minutesOf_4 (by decide) ?_
  refine hk_idiv dX10_minutesOf_6 (by decide) ?_
  exact hk_ireturn dX10_minutesOf_7 rfl rfl (by decide) ⟨rfl, rfl⟩
abbrev okCall (w : Int32) : Prop := ¬ w < 0 ∧ (¬ w / 1000 < 1 ∧ ¬ 6 < w / 1000) ∧ ¬ rm w 1000 < 0 ∧ ¬ 240 < rm w 1000
set_option maxRecDepth 20000 in
set_option maxHeartbeats 2000000 in
theorem md_isCall (w : Int32) : hk_Cd MX10_isCall 1 0 0 [.int w] (hk_h L m) (some (.int (bI (okCall w)))) (hk_h L m) := by
  refine hk_ofWP (by decide) (by simp [Value.category]) (Nat.le_of_ble_eq_true rfl) ?_
  show hk_WP _ _ _ _ _ _ _ [some (.int w)] [] _ _
  refine hk_iload_n dX10_isCall_0 rfl rfl ?_
  refine hk_if_lt (tgt := 37) dX10_isCall_1 (by decide) (fun c1 => ?_) (fun c1 => ?_)
  · refine hk_iconst (v := 0) dX10_isCall_37 (by decide) ?_
    exact hk_ireturn dX10_isCall_38 rfl rfl (by decide) ⟨by first | exact bI_r1 (by grind) | exact bI_r0 (by grind), rfl⟩
  · refine hk_iload_n dX10_isCall_4 rfl rfl ?_
    refine hk_sipush (v := 1000) dX10_isCall_5 (by decide) ?_
    refine hk_idiv dX10_isCall_8 (by decide) ?_
    refine hk_iconst (v := 1) dX10_isCall_9 (by decide) ?_
    refine hk_bipush (v := 6) dX10_isCall_10 (by decide) ?_
    refine ivX10_208 rfl (ct_within (w / 1000) 1 6) dX10_isCall_12 rfl rfl (by decide) ⟨by decide, by decide⟩ (Nat.le_of_ble_eq_true rfl) (hk_kd ?_)
    refine hk_if_eq (tgt := 37) dX10_isCall_15 (by decide) (fun c15 => ?_) (fun c15 => ?_)
    · rw [bI_0] at c15
      refine hk_iconst (v := 0) dX10_isCall_37 (by decide) ?_
      exact hk_ireturn dX10_isCall_38 rfl rfl (by decide) ⟨by first | exact bI_r1 (by grind) | exact bI_r0 (by grind), rfl⟩
    · rw [bI_0] at c15
      refine hk_iload_n dX10_isCall_18 rfl rfl ?_
      refine hk_sipush (v := 1000) dX10_isCall_19 (by decide) ?_
      refine hk_irem dX10_isCall_22 (by decide) ?_
      refine hk_iconst (v := 0) dX10_isCall_23 (by decide) ?_
      refine hk_sipush (v := 240) dX10_isCall_24 (by decide) ?_
      refine ivX10_208 rfl (ct_within (rm w 1000) 0 240) dX10_isCall_27 rfl rfl (by decide) ⟨by decide, by decide⟩ (Nat.le_of_ble_eq_true rfl) (hk_kd ?_)
      refine hk_if_eq (tgt := 37) dX10_isCall_30 (by decide) (fun c30 => ?_) (fun c30 => ?_)
      · rw [bI_0] at c30
        refine hk_iconst (v := 0) dX10_isCall_37 (by decide) ?_
        exact hk_ireturn dX10_isCall_38 rfl rfl (by decide) ⟨by first | exact bI_r1 (by grind) | exact bI_r0 (by grind), rfl⟩
      · rw [bI_0] at c30
        refine hk_iconst (v := 1) dX10_isCall_33 (by decide) ?_
        refine hk_goto (tgt := 38) dX10_isCall_34 (by decide) ?_
        exact hk_ireturn dX10_isCall_38 rfl rfl (by decide) ⟨by first | exact bI_r1 (by grind) | exact bI_r0 (by grind), rfl⟩
set_option maxRecDepth 20000 in
set_option maxHeartbeats 2000000 in
theorem md_mayBeCalled {n : Nat} (hn : m 37 3 = nI n) (a b w : Int32) : hk_Cd MX10_mayBeCalled 2 0 0 [.ref 37, .int a, .int b, .int w] (hk_h L m) (some (.int (bI (inR a n ∧ inR b n ∧ a ≠ b ∧ okCall w)))) (hk_h L m) := by
  refine hk_ofWP (by decide) (by simp [Value.category]) (Nat.le_of_ble_eq_true rfl) ?_
  show hk_WP _ _ _ _ _ _ _ [some (.ref 37), some (.int a), some (.int b), some (.int w)] [] _ _
  refine hk_aload_n dX10_mayBeCalled_0 rfl rfl ?_
  refine hk_iload_n dX10_mayBeCalled_1 rfl rfl ?_
  refine ivX10_212 rfl (md_isCorner hn a) dX10_mayBeCalled_2 (hk_lt (by decide)) rfl rfl rfl (by decide) ⟨by decide, by decide⟩ (Nat.le_of_ble_eq_true rfl) (hk_kd ?_)
  refine hk_if_eq (tgt := 32) dX10_mayBeCalled_5 (by decide) (fun c5 => ?_) (fun c5 => ?_)
  · rw [bI_0] at c5
    refine hk_iconst (v := 0) dX10_mayBeCalled_32 (by decide) ?_
    exact hk_ireturn dX10_mayBeCalled_33 rfl rfl (by decide) ⟨by first | exact bI_r1 ⟨Classical.not_not.mp c5, Classical.not_not.mp c13, c18, Classical.not_not.mp c25⟩ | exact bI_r0 (fun q => c5 q.1) | exact bI_r0 (fun q => c13 q.2.1) | exact bI_r0 (fun q => q.2.2.1 c18) | exact bI_r0 (fun q => c25 q.2.2.2), rfl⟩
  · rw [bI_0] at c5
    refine hk_aload_n dX10_mayBeCalled_8 rfl rfl ?_
    refine hk_iload_n dX10_mayBeCalled_9 rfl rfl ?_
    refine ivX10_212 rfl (md_isCorner hn b) dX10_mayBeCalled_10 (hk_lt (by decide)) rfl rfl rfl (by decide) ⟨by decide, by decide⟩ (Nat.le_of_ble_eq_true rfl) (hk_kd ?_)
    refine hk_if_eq (tgt := 32) dX10_mayBeCalled_13 (by decide) (fun c13 => ?_) (fun c13 => ?_)
    · rw [bI_0] at c13
      refine hk_iconst (v := 0) dX10_mayBeCalled_32 (by decide) ?_
      exact hk_ireturn dX10_mayBeCalled_33 rfl rfl (by decide) ⟨by first | exact bI_r1 ⟨Classical.not_not.mp c5, Classical.not_not.mp c13, c18, Classical.not_not.mp c25⟩ | exact bI_r0 (fun q => c5 q.1) | exact bI_r0 (fun q => c13 q.2.1) | exact bI_r0 (fun q => q.2.2.1 c18) | exact bI_r0 (fun q => c25 q.2.2.2), rfl⟩
    · rw [bI_0] at c13
      refine hk_iload_n dX10_mayBeCalled_16 rfl rfl ?_
      refine hk_iload_n dX10_mayBeCalled_17 rfl rfl ?_
      refine hk_icmp_eq (tgt := 32) dX10_mayBeCalled_18 (by decide) (fun c18 => ?_) (fun c18 => ?_)
      · refine hk_iconst (v := 0) dX10_mayBeCalled_32 (by decide) ?_
        exact hk_ireturn dX10_mayBeCalled_33 rfl rfl (by decide) ⟨by first | exact bI_r1 ⟨Classical.not_not.mp c5, Classical.not_not.mp c13, c18, Classical.not_not.mp c25⟩ | exact bI_r0 (fun q => c5 q.1) | exact bI_r0 (fun q => c13 q.2.1) | exact bI_r0 (fun q => q.2.2.1 c18) | exact bI_r0 (fun q => c25 q.2.2.2), rfl⟩
      · refine hk_iload_n dX10_mayBeCalled_21 rfl rfl ?_
        refine ivX10_367 rfl (md_isCall w) dX10_mayBeCalled_22 rfl rfl (by decide) ⟨by decide, by decide⟩ (Nat.le_of_ble_eq_true rfl) (hk_kd ?_)
        refine hk_if_eq (tgt := 32) dX10_mayBeCalled_25 (by decide) (fun c25 => ?_) (fun c25 => ?_)
        · rw [bI_0] at c25
          refine hk_iconst (v := 0) dX10_mayBeCalled_32 (by decide) ?_
          exact hk_ireturn dX10_mayBeCalled_33 rfl rfl (by decide) ⟨by first | exact bI_r1 ⟨Classical.not_not.mp c5, Classical.not_not.mp c13, c18, Classical.not_not.mp c25⟩ | exact bI_r0 (fun q => c5 q.1) | exact bI_r0 (fun q => c13 q.2.1) | exact bI_r0 (fun q => q.2.2.1 c18) | exact bI_r0 (fun q => c25 q.2.2.2), rfl⟩
        · rw [bI_0] at c25
          refine hk_iconst (v := 1) dX10_mayBeCalled_28 (by decide) ?_
          refine hk_goto (tgt := 33) dX10_mayBeCalled_29 (by decide) ?_
          exact hk_ireturn dX10_mayBeCalled_33 rfl rfl (by decide) ⟨by first | exact bI_r1 ⟨Classical.not_not.mp c5, Classical.not_not.mp c13, c18, Classical.not_not.mp c25⟩ | exact bI_r0 (fun q => c5 q.1) | exact bI_r0 (fun q => c13 q.2.1) | exact bI_r0 (fun q => q.2.2.1 c18) | exact bI_r0 (fun q => c25 q.2.2.2), rfl⟩
/-- who holds the licence, by the reference's three rows -/
noncomputable def hol2 (a b c : Nat → Int32) (N : Nat) (x y : Int32) : Int32 := (fun i => @ite _ (i < N) (Nat.decLt _ _) (c i) (-1)) (fi (fun i => a i = x ∧ b i = y) N)
set_option maxRecDepth 20000 in
set_option maxHeartbeats 2000000 in
theorem lp_holder {N : Nat} (hN : m 37 30 = nI N) (hN2 : N ≤ 200) (c y : Int32) (i : Nat) (hi : i ≤ N) (hno : ∀ j, j < i → ¬ (m 59 j = c ∧ m 60 j = y)) : hk_WP MX10_holder 0 0 0 0 0 2 [some (.ref 37), some (.int c), some (.int y), some (.int (nI i))] [] (hk_h L m) (fun r h' => r = some (.int (hol2 (m 59) (m 60) (m 61) N c y)) ∧ h' = hk_h L m) := by
  refine hk_iload_n dX10_holder_2 rfl rfl ?_
  refine hk_aload_n dX10_holder_3 rfl rfl ?_
  refine gfX10_252 rfl dX10_holder_4 (hk_lt (by decide)) rfl rfl ?_
  refine hk_icmp_ge (tgt := 43) dX10_holder_7 (by decide) (fun c7 => ?_) (fun c7 => ?_)
  · rw [hN, nI_leI (by omega) (by omega)] at c7
    refine hk_iconst (v := (-1)) dX10_holder_43 (by decide) ?_
    exact hk_ireturn dX10_holder_44 rfl rfl (by decide) ⟨by unfold hol2; rw [fi_none (fun j hj => hno j (by omega))]; simp, rfl⟩
  · rw [hN, nI_leI (by omega) (by omega)] at c7
    refine hk_aload_n dX10_holder_10 rfl rfl ?_
    refine gfX10_73 rfl dX10_holder_11 (hk_lt (by decide)) rfl rfl ?_
    refine hk_iload_n dX10_holder_14 rfl rfl ?_
    refine hk_ia dX10_holder_15 (by decide) (fun _ => rfl) (vp_in_nI (by omega) (by decide)) ?_
    rw [nI_clamp (by omega)]
    refine hk_iload_n dX10_holder_16 rfl rfl ?_
    refine hk_icmp_ne (tgt := 37) dX10_holder_17 (by decide) (fun c17 => ?_) (fun c17 => ?_)
    · refine hk_iinc (v := nI (i + 1)) dX10_holder_37 rfl (nI_1 i) (by decide) rfl ?_
      refine hk_goto (tgt := 2) dX10_holder_40 (by decide) ?_
      have hlt : i < N := by omega
      exact lp_holder hN hN2 c y (i + 1) (by omega) (fun j hj => by rcases Nat.lt_succ_iff_lt_or_eq.mp hj with h | h; exact hno j h; rw [h]; grind)
    · refine hk_aload_n dX10_holder_20 rfl rfl ?_
      refine gfX10_76 rfl dX10_holder_21 (hk_lt (by decide)) rfl rfl ?_
      refine hk_iload_n dX10_holder_24 rfl rfl ?_
      refine hk_ia dX10_holder_25 (by decide) (fun _ => rfl) (vp_in_nI (by omega) (by decide)) ?_
      rw [nI_clamp (by omega)]
      refine hk_iload_n dX10_holder_26 rfl rfl ?_
      refine hk_icmp_ne (tgt := 37) dX10_holder_27 (by decide) (fun c27 => ?_) (fun c27 => ?_)
      · refine hk_iinc (v := nI (i + 1)) dX10_holder_37 rfl (nI_1 i) (by decide) rfl ?_
        refine hk_goto (tgt := 2) dX10_holder_40 (by decide) ?_
        have hlt : i < N := by omega
        exact lp_holder hN hN2 c y (i + 1) (by omega) (fun j hj => by rcases Nat.lt_succ_iff_lt_or_eq.mp hj with h | h; exact hno j h; rw [h]; grind)
      · refine hk_aload_n dX10_holder_30 rfl rfl ?_
        refine gfX10_79 rfl dX10_holder_31 (hk_lt (by decide)) rfl rfl ?_
        refine hk_iload_n dX10_holder_34 rfl rfl ?_
        refine hk_ia dX10_holder_35 (by decide) (fun _ => rfl) (vp_in_nI (by omega) (by decide)) ?_
        rw [nI_clamp (by omega)]
        exact hk_ireturn dX10_holder_36 rfl rfl (by decide) ⟨by unfold hol2; rw [fi_is (i := i) (by omega) (by grind) hno]; simp only; rw [if_pos (by omega)], rfl⟩
termination_by N - i
decreasing_by all_goals omega
set_option maxRecDepth 20000 in
set_option maxHeartbeats 2000000 in
theorem md_holder {N : Nat} (hN : m 37 30 = nI N) (hN2 : N ≤ 200) (c y : Int32) : hk_Cd MX10_holder 0 0 0 [.ref 37, .int c, .int y] (hk_h L m) (some (.int (hol2 (m 59) (m 60) (m 61) N c y))) (hk_h L m) := by
  refine hk_ofWP (by decide) (by simp [Value.category]) (Nat.le_of_ble_eq_true rfl) ?_
  show hk_WP _ _ _ _ _ _ _ [some (.ref 37), some (.int c), some (.int y), none] [] _ _
  refine hk_iconst (v := 0) dX10_holder_0 (by decide) ?_
  refine hk_istore_n dX10_holder_1 rfl (by decide) rfl ?_
  exact lp_holder hN hN2 c y 0 (Nat.zero_le _) (fun j hj => absurd hj (Nat.not_lt_zero _))
set_option maxRecDepth 20000 in
set_option maxHeartbeats 2000000 in
theorem ct_isCorner {n : Nat} (hn : m 1 0 = nI n) (c : Int32) : hk_Cd MX0_isCorner 0 0 0 [.ref 1, .int c] (hk_h L m) (some (.int (bI (inR c n)))) (hk_h L m) := by
  refine hk_ofWP (by decide) (by simp [Value.category]) (Nat.le_of_ble_eq_true rfl) ?_
  show hk_WP _ _ _ _ _ _ _ [some (.ref 1), some (.int c)] [] _ _
  refine hk_iload_n dX0_isCorner_0 rfl rfl ?_
  refine hk_if_lt (tgt := 16) dX0_isCorner_1 (by decide) (fun c1 => ?_) (fun c1 => ?_)
  · refine hk_iconst (v := 0) dX0_isCorner_16 (by decide) ?_
    exact hk_ireturn dX0_isCorner_17 rfl rfl (by decide) ⟨by first | exact bI_r1 ⟨c1, c9⟩ | exact bI_r0 (fun q => q.1 c1) | exact bI_r0 (fun q => q.2 c9), rfl⟩
  · refine hk_iload_n dX0_isCorner_4 rfl rfl ?_
    refine hk_aload_n dX0_isCorner_5 rfl rfl ?_
    refine gfX0_37 rfl dX0_isCorner_6 (hk_lt (by decide)) rfl rfl ?_
    refine hk_icmp_ge (tgt := 16) dX0_isCorner_9 (by decide) (fun c9 => ?_) (fun c9 => ?_)
    · rw [hn] at c9
      refine hk_iconst (v := 0) dX0_isCorner_16 (by decide) ?_
      exact hk_ireturn dX0_isCorner_17 rfl rfl (by decide) ⟨by first | exact bI_r1 ⟨c1, c9⟩ | exact bI_r0 (fun q => q.1 c1) | exact bI_r0 (fun q => q.2 c9), rfl⟩
    · rw [hn] at c9
      refine hk_iconst (v := 1) dX0_isCorner_12 (by decide) ?_
      refine hk_goto (tgt := 17) dX0_isCorner_13 (by decide) ?_
      exact hk_ireturn dX0_isCorner_17 rfl rfl (by decide) ⟨by first | exact bI_r1 ⟨c1, c9⟩ | exact bI_r0 (fun q => q.1 c1) | exact bI_r0 (fun q => q.2 c9), rfl⟩
set_option maxRecDepth 20000 in
set_option maxHeartbeats 2000000 in
theorem ct_isMinute (c : Int32) : hk_Cd MX9_isMinute 0 0 0 [.int c] (hk_h L m) (some (.int (bI (inR c 720000)))) (hk_h L m) := by
  refine hk_ofWP (by decide) (by simp [Value.category]) (Nat.le_of_ble_eq_true rfl) ?_
  show hk_WP _ _ _ _ _ _ _ [some (.int c)] [] _ _
  refine hk_iload_n dX9_isMinute_0 rfl rfl ?_
  refine hk_if_lt (tgt := 14) dX9_isMinute_1 (by decide) (fun c1 => ?_) (fun c1 => ?_)
  · refine hk_iconst (v := 0) dX9_isMinute_14 (by decide) ?_
    exact hk_ireturn dX9_isMinute_15 rfl rfl (by decide) ⟨by first | exact bI_r1 ⟨c1, c7⟩ | exact bI_r0 (fun q => q.1 c1) | exact bI_r0 (fun q => q.2 c7), rfl⟩
  · refine hk_iload_n dX9_isMinute_4 rfl rfl ?_
    refine hk_ldc dX9_isMinute_5 hk_k9_76 ?_
    refine hk_icmp_ge (tgt := 14) dX9_isMinute_7 (by decide) (fun c7 => ?_) (fun c7 => ?_)
    · refine hk_iconst (v := 0) dX9_isMinute_14 (by decide) ?_
      exact hk_ireturn dX9_isMinute_15 rfl rfl (by decide) ⟨by first | exact bI_r1 ⟨c1, c7⟩ | exact bI_r0 (fun q => q.1 c1) | exact bI_r0 (fun q => q.2 c7), rfl⟩
    · refine hk_iconst (v := 1) dX9_isMinute_10 (by decide) ?_
      refine hk_goto (tgt := 15) dX9_isMinute_11 (by decide) ?_
      exact hk_ireturn dX9_isMinute_15 rfl rfl (by decide) ⟨by first | exact bI_r1 ⟨c1, c7⟩ | exact bI_r0 (fun q => q.1 c1) | exact bI_r0 (fun q => q.2 c7), rfl⟩
set_option maxRecDepth 20000 in
set_option maxHeartbeats 2000000 in
theorem ct_isDay (c : Int32) : hk_Cd MX9_isDay 0 0 0 [.int c] (hk_h L m) (some (.int (bI (inR c 10000)))) (hk_h L m) := by
  refine hk_ofWP (by decide) (by simp [Value.category]) (Nat.le_of_ble_eq_true rfl) ?_
  show hk_WP _ _ _ _ _ _ _ [some (.int c)] [] _ _
  refine hk_iload_n dX9_isDay_0 rfl rfl ?_
  refine hk_if_lt (tgt := 15) dX9_isDay_1 (by decide) (fun c1 => ?_) (fun c1 => ?_)
  · refine hk_iconst (v := 0) dX9_isDay_15 (by decide) ?_
    exact hk_ireturn dX9_isDay_16 rfl rfl (by decide) ⟨by first | exact bI_r1 ⟨c1, c8⟩ | exact bI_r0 (fun q => q.1 c1) | exact bI_r0 (fun q => q.2 c8), rfl⟩
  · refine hk_iload_n dX9_isDay_4 rfl rfl ?_
    refine hk_sipush (v := 10000) dX9_isDay_5 (by decide) ?_
    refine hk_icmp_ge (tgt := 15) dX9_isDay_8 (by decide) (fun c8 => ?_) (fun c8 => ?_)
    · refine hk_iconst (v := 0) dX9_isDay_15 (by decide) ?_
      exact hk_ireturn dX9_isDay_16 rfl rfl (by decide) ⟨by first | exact bI_r1 ⟨c1, c8⟩ | exact bI_r0 (fun q => q.1 c1) | exact bI_r0 (fun q => q.2 c8), rfl⟩
    · refine hk_iconst (v := 1) dX9_isDay_11 (by decide) ?_
      refine hk_goto (tgt := 16) dX9_isDay_12 (by decide) ?_
      exact hk_ireturn dX9_isDay_16 rfl rfl (by decide) ⟨by first | exact bI_r1 ⟨c1, c8⟩ | exact bI_r0 (fun q => q.1 c1) | exact bI_r0 (fun q => q.2 c8), rfl⟩
set_option maxRecDepth 20000 in
set_option maxHeartbeats 2000000 in
theorem ct_timeOf (y : Int32) : hk_Cd MX9_timeOf 0 0 0 [.int y] (hk_h L m) (some (.int ((y + 110 - 1) / 110))) (hk_h L m) := by
  refine hk_ofWP (by decide) (by simp [Value.category]) (Nat.le_of_ble_eq_true rfl) ?_
  show hk_WP _ _ _ _ _ _ _ [some (.int y)] [] _ _
  refine hk_iload_n dX9_timeOf_0 rfl rfl ?_
  refine hk_bipush (v := 110) dX9_timeOf_1 (by decide) ?_
  refine hk_iadd dX9_timeOf_3 ?_
  refine hk_iconst (v := 1) dX9_timeOf_4 (by decide) ?_
  refine hk_isub dX9_timeOf_5 ?_
  refine hk_bipush (v := 110) dX9_timeOf_6 (by decide) ?_
  refine hk_idiv dX9_timeOf_8 (by decide) ?_
  exact hk_ireturn dX9_timeOf_9 rfl rfl (by decide) ⟨rfl, rfl⟩
set_option maxRecDepth 20000 in
set_option maxHeartbeats 2000000 in
theorem ct_today : hk_Cd MX9_today 0 0 0 [.ref 0] (hk_h L m) (some (.int (m 0 0 / 1440))) (hk_h L m) := by
  refine hk_ofWP (by decide) (by simp [Value.category]) (Nat.le_of_ble_eq_true rfl) ?_
  show hk_WP _ _ _ _ _ _ _ [some (.ref 0)] [] _ _
  refine hk_aload_n dX9_today_0 rfl rfl ?_
  refine gfX9_7 rfl dX9_today_1 (hk_lt (by decide)) rfl rfl ?_
  refine hk_sipush (v := 1440) dX9_today_4 (by decide) ?_
  refine hk_idiv dX9_today_7 (by decide) ?_
  exact hk_ireturn dX9_today_8 rfl rfl (by decide) ⟨rfl, rfl⟩
set_option maxRecDepth 20000 in
set_option maxHeartbeats 2000000 in
theorem ct_thisYear : hk_Cd MX9_thisYear 1 0 0 [.ref 0] (hk_h L m) (some (.int (m 0 0 / 1440 / 360))) (hk_h L m) := by
  refine hk_ofWP (by decide) (by simp [Value.category]) (Nat.le_of_ble_eq_true rfl) ?_
  show hk_WP _ _ _ _ _ _ _ [some (.ref 0)] [] _ _
  refine hk_aload_n dX9_thisYear_0 rfl rfl ?_
  refine ivX9_121 rfl ct_today dX9_thisYear_1 (hk_lt (by decide)) rfl rfl rfl (by decide) ⟨by decide, by decide⟩ (Nat.le_of_ble_eq_true rfl) (hk_kd ?_)
  refine hk_sipush (v := 360) dX9_thisYear_4 (by decide) ?_
  refine hk_idiv dX9_thisYear_7 (by decide) ?_
  exact hk_ireturn dX9_thisYear_8 rfl rfl (by decide) ⟨rfl, rfl⟩
abbrev okLoad (p w : Int32) : Prop := (¬ p < 1 ∧ ¬ 6 < p) ∧ ¬ w < 0 ∧ ¬ 240 < w
set_option maxRecDepth 20000 in
set_option maxHeartbeats 2000000 in
theorem ct_isLoad (p w : Int32) : hk_Cd MX9_isLoad 0 0 0 [.int p, .int w] (hk_h L m) (some (.int (bI (okLoad p w)))) (hk_h L m) := by
  refine hk_ofWP (by decide) (by simp [Value.category]) (Nat.le_of_ble_eq_true rfl) ?_
  show hk_WP _ _ _ _ _ _ _ [some (.int p), some (.int w)] [] _ _
  refine hk_iload_n dX9_isLoad_0 rfl rfl ?_
  refine hk_iconst (v := 1) dX9_isLoad_1 (by decide) ?_
  refine hk_icmp_lt (tgt := 26) dX9_isLoad_2 (by decide) (fun c2 => ?_) (fun c2 => ?_)
  · refine hk_iconst (v := 0) dX9_isLoad_26 (by decide) ?_
    exact hk_ireturn dX9_isLoad_27 rfl rfl (by decide) ⟨by first | exact bI_r1 (by grind) | exact bI_r0 (by grind), rfl⟩
  · refine hk_iload_n dX9_isLoad_5 rfl rfl ?_
    refine hk_bipush (v := 6) dX9_isLoad_6 (by decide) ?_
    refine hk_icmp_gt (tgt := 26) dX9_isLoad_8 (by decide) (fun c8 => ?_) (fun c8 => ?_)
    · refine hk_iconst (v := 0) dX9_isLoad_26 (by decide) ?_
      exact hk_ireturn dX9_isLoad_27 rfl rfl (by decide) ⟨by first | exact bI_r1 (by grind) | exact bI_r0 (by grind), rfl⟩
    · refine hk_iload_n dX9_isLoad_11 rfl rfl ?_
      refine hk_if_lt (tgt := 26) dX9_isLoad_12 (by decide) (fun c12 => ?_) (fun c12 => ?_)
      · refine hk_iconst (v := 0) dX9_isLoad_26 (by decide) ?_
        exact hk_ireturn dX9_isLoad_27 rfl rfl (by decide) ⟨by first | exact bI_r1 (by grind) | exact bI_r0 (by grind), rfl⟩
      · refine hk_iload_n dX9_isLoad_15 rfl rfl ?_
        refine hk_sipush (v := 240) dX9_isLoad_16 (by decide) ?_
        refine hk_icmp_gt (tgt := 26) dX9_isLoad_19 (by decide) (fun c19 => ?_) (fun c19 => ?_)
        · refine hk_iconst (v := 0) dX9_isLoad_26 (by decide) ?_
          exact hk_ireturn dX9_isLoad_27 rfl rfl (by decide) ⟨by first | exact bI_r1 (by grind) | exact bI_r0 (by grind), rfl⟩
        · refine hk_iconst (v := 1) dX9_isLoad_22 (by decide) ?_
          refine hk_goto (tgt := 27) dX9_isLoad_23 (by decide) ?_
          exact hk_ireturn dX9_isLoad_27 rfl rfl (by decide) ⟨by first | exact bI_r1 (by grind) | exact bI_r0 (by grind), rfl⟩
set_option maxRecDepth 20000 in
set_option maxHeartbeats 2000000 in
theorem ct_isOrder {n : Nat} (hn : m 1 0 = nI n) (a b w : Int32) : hk_Cd MX9_isOrder 1 0 0 [.ref 0, .int a, .int b, .int w] (hk_h L m) (some (.int (bI (inR a n ∧ inR b n ∧ a ≠ b ∧ okLoad (w / 1000) (rm w 1000))))) (hk_h L m) := by
  refine hk_ofWP (by decide) (by simp [Value.category]) (Nat.le_of_ble_eq_true rfl) ?_
  show hk_WP _ _ _ _ _ _ _ [some (.ref 0), some (.int a), some (.int b), some (.int w)] [] _ _
  refine hk_aload_n dX9_isOrder_0 rfl rfl ?_
  refine gfX9_16 rfl dX9_isOrder_1 (hk_lt (by decide)) rfl rfl ?_
  refine hk_iload_n dX9_isOrder_4 rfl rfl ?_
  refine ivX9_59 rfl (ct_isCorner hn a) dX9_isOrder_5 (hk_lt (by decide)) rfl rfl rfl (by decide) ⟨by decide, by decide⟩ (Nat.le_of_ble_eq_true rfl) (hk_kd ?_)
  refine hk_if_eq (tgt := 47) dX9_isOrder_8 (by decide) (fun c8 => ?_) (fun c8 => ?_)
  · rw [bI_0] at c8
    refine hk_iconst (v := 0) dX9_isOrder_47 (by decide) ?_
    exact hk_ireturn dX9_isOrder_48 rfl rfl (by decide) ⟨by first | exact bI_r1 ⟨Classical.not_not.mp c8, Classical.not_not.mp c19, c24, Classical.not_not.mp c40⟩ | exact bI_r0 (fun q => c8 q.1) | exact bI_r0 (fun q => c19 q.2.1) | exact bI_r0 (fun q => q.2.2.1 c24) | exact bI_r0 (fun q => c40 q.2.2.2), rfl⟩
  · rw [bI_0] at c8
    refine hk_aload_n dX9_isOrder_11 rfl rfl ?_
    refine gfX9_16 rfl dX9_isOrder_12 (hk_lt (by decide)) rfl rfl ?_
    refine hk_iload_n dX9_isOrder_15 rfl rfl ?_
    refine ivX9_59 rfl (ct_isCorner hn b) dX9_isOrder_16 (hk_lt (by decide)) rfl rfl rfl (by decide) ⟨by decide, by decide⟩ (Nat.le_of_ble_eq_true rfl) (hk_kd ?_)
    refine hk_if_eq (tgt := 47) dX9_isOrder_19 (by decide) (fun c19 => ?_) (fun c19 => ?_)
    · rw [bI_0] at c19
      refine hk_iconst (v := 0) dX9_isOrder_47 (by decide) ?_
      exact hk_ireturn dX9_isOrder_48 rfl rfl (by decide) ⟨by first | exact bI_r1 ⟨Classical.not_not.mp c8, Classical.not_not.mp c19, c24, Classical.not_not.mp c40⟩ | exact bI_r0 (fun q => c8 q.1) | exact bI_r0 (fun q => c19 q.2.1) | exact bI_r0 (fun q => q.2.2.1 c24) | exact bI_r0 (fun q => c40 q.2.2.2), rfl⟩
    · rw [bI_0] at c19
      refine hk_iload_n dX9_isOrder_22 rfl rfl ?_
      refine hk_iload_n dX9_isOrder_23 rfl rfl ?_
      refine hk_icmp_eq (tgt := 47) dX9_isOrder_24 (by decide) (fun c24 => ?_) (fun c24 => ?_)
      · refine hk_iconst (v := 0) dX9_isOrder_47 (by decide) ?_
        exact hk_ireturn dX9_isOrder_48 rfl rfl (by decide) ⟨by first | exact bI_r1 ⟨Classical.not_not.mp c8, Classical.not_not.mp c19, c24, Classical.not_not.mp c40⟩ | exact bI_r0 (fun q => c8 q.1) | exact bI_r0 (fun q => c19 q.2.1) | exact bI_r0 (fun q => q.2.2.1 c24) | exact bI_r0 (fun q => c40 q.2.2.2), rfl⟩
      · refine hk_iload_n dX9_isOrder_27 rfl rfl ?_
        refine hk_sipush (v := 1000) dX9_isOrder_28 (by decide) ?_
        refine hk_idiv dX9_isOrder_31 (by decide) ?_
        refine hk_iload_n dX9_isOrder_32 rfl rfl ?_
        refine hk_sipush (v := 1000) dX9_isOrder_33 (by decide) ?_
        refine hk_irem dX9_isOrder_36 (by decide) ?_
        refine ivX9_341 rfl (ct_isLoad _ _) dX9_isOrder_37 rfl rfl (by decide) ⟨by decide, by decide⟩ (Nat.le_of_ble_eq_true rfl) (hk_kd ?_)
        refine hk_if_eq (tgt := 47) dX9_isOrder_40 (by decide) (fun c40 => ?_) (fun c40 => ?_)
        · rw [bI_0] at c40
          refine hk_iconst (v := 0) dX9_isOrder_47 (by decide) ?_
          exact hk_ireturn dX9_isOrder_48 rfl rfl (by decide) ⟨by first | exact bI_r1 ⟨Classical.not_not.mp c8, Classical.not_not.mp c19, c24, Classical.not_not.mp c40⟩ | exact bI_r0 (fun q => c8 q.1) | exact bI_r0 (fun q => c19 q.2.1) | exact bI_r0 (fun q => q.2.2.1 c24) | exact bI_r0 (fun q => c40 q.2.2.2), rfl⟩
        · rw [bI_0] at c40
          refine hk_iconst (v := 1) dX9_isOrder_43 (by decide) ?_
          refine hk_goto (tgt := 48) dX9_isOrder_44 (by decide) ?_
          exact hk_ireturn dX9_isOrder_48 rfl rfl (by decide) ⟨by first | exact bI_r1 ⟨Classical.not_not.mp c8, Classical.not_not.mp c19, c24, Classical.not_not.mp c40⟩ | exact bI_r0 (fun q => c8 q.1) | exact bI_r0 (fun q => c19 q.2.1) | exact bI_r0 (fun q => q.2.2.1 c24) | exact bI_r0 (fun q => c40 q.2.2.2), rfl⟩
end SM
theorem bm32 {x : Int} (h1 : -2147483648 ≤ x) (h2 : x < 2147483648) : x.bmod (2 ^ 32) = x := by
  rw [Int.bmod_def]
  split <;> omega
theorem nI_div {a b : Nat} (ha : a < 2 ^ 31) (hb : b < 2 ^ 31) : nI a / nI b = nI (a / b) := by
  apply Int32.toInt_inj.mp
  have h1 : a / b ≤ a := Nat.div_le_self a b
  rw [Int32.toInt_div, nI_toInt ha, nI_toInt hb, nI_toInt (by omega), ← Int.ofNat_tdiv]
  generalize a / b = q at h1 ⊢
  exact bm32 (by omega) (by omega)
theorem tdiv_neg_le {x : Int} {n : Nat} (h : x < 0) : -(x.natAbs : Int) ≤ x.tdiv n ∧ x.tdiv n ≤ 0 := by
  obtain ⟨k, hk⟩ : ∃ k : Nat, x = -(k : Int) := ⟨x.natAbs, by omega⟩
  subst hk
  rw [Int.neg_tdiv, ← Int.ofNat_tdiv]
  have : k / n ≤ k := Nat.div_le_self k n
  generalize k / n = q at this ⊢
  omega
theorem i32_div_neg {w : Int32} {n : Nat} (hn : n < 2 ^ 31) (h : w < 0) : (w / nI n).toInt = w.toInt.tdiv n ∧ w.toInt.tdiv n ≤ 0 := by
  rw [i32_lt, i32_0] at h
  have h4 := tdiv_neg_le (n := n) h
  have h3 := Int32.le_toInt w
  rw [Int32.toInt_div, nI_toInt hn]
  exact ⟨bm32 (by omega) (by omega), h4.2⟩
theorem okCall_iff (w : Int32) : okCall w ↔ okLoad (w / 1000) (rm w 1000) := by
  unfold okCall okLoad
  constructor
  · exact fun q => q.2
  · refine fun q => ⟨fun h => ?_, q⟩
    apply q.1.1
    have h5 := i32_div_neg (n := 1000) (by decide) h
    have h6 : w / 1000 = w / nI 1000 := rfl
    rw [h6, i32_lt, h5.1]
    have h2 : (1 : Int32).toInt = 1 := rfl
    rw [h2]
    omega
/-! choice by a condition -/
noncomputable def cI {α : Type} (P : Prop) (x y : α) : α := @ite α P (Classical.propDecidable P) x y
theorem cI_t {α : Type} {P : Prop} {x y : α} (h : P) : cI P x y = x := if_pos h
theorem cI_f {α : Type} {P : Prop} {x y : α} (h : ¬ P) : cI P x y = y := if_neg h
theorem cI_r1 {P : Prop} {x y : Int32} (h : P) : some (Value.int x) = some (Value.int (cI P x y)) := by rw [cI_t h]
theorem cI_r0 {P : Prop} {x y : Int32} (h : ¬ P) : some (Value.int y) = some (Value.int (cI P x y)) := by rw [cI_f h]
theorem cI_h1 {P : Prop} {L : Nat} {x y : Nat → Nat → Int32} (h : P) : hk_h L x = hk_h L (cI P x y) := by rw [cI_t h]
theorem cI_h0 {P : Prop} {L : Nat} {x y : Nat → Nat → Int32} (h : ¬ P) : hk_h L y = hk_h L (cI P x y) := by rw [cI_f h]
