theorem fb_holes : ∀ (m n : Nat) (f : Nat → Nat), (∀ i, i < n → f i < m) → (∀ i j, i < j → j < n → f i ≠ f j) → n ≤ m := by
  intro m
  induction m with
  | zero =>
    intro n f h1 _
    rcases Nat.eq_zero_or_pos n with h | h
    · omega
    · exact absurd (h1 0 h) (Nat.not_lt_zero _)
  | succ m ih =>
    intro n f h1 h2
    by_cases hx : ∃ i, i < n ∧ f i = m
    · obtain ⟨a, ha, hfa⟩ := hx
      have hg := ih (n - 1) (fun i => if i < a then f i else f (i + 1)) (by
        intro i hi
        by_cases q : i < a
        · simp only [if_pos q]
          have b1 := h1 i (by omega)
          have b2 := h2 i a q ha
          omega
        · simp only [if_neg q]
          have b1 := h1 (i + 1) (by omega)
          have b2 := h2 a (i + 1) (by omega) (by omega)
          omega) (by
        intro i j hij hj
        by_cases q : i < a
        · by_cases r : j < a
          · simp only [if_pos q, if_pos r]
            exact h2 i j hij (by omega)
          · simp only [if_pos q, if_neg r]
            exact h2 i (j + 1) (by omega) (by omega)
        · have r : ¬ j < a := by omega
          simp only [if_neg q, if_neg r]
          exact h2 (i + 1) (j + 1) (by omega) (by omega))
      omega
    · have hg := ih n f (fun i hi => by
        have b1 := h1 i hi
        have b2 : f i ≠ m := fun e => hx ⟨i, hi, e⟩
        omega) h2
      omega
section OA
variable {L : Nat} {m : Nat → Nat → Int32} {z : Nat → Nat}
set_option maxRecDepth 20000 in
set_option maxHeartbeats 2000000 in
theorem ct_complain_no {nT : Nat} (hT : m 23 3 = nI nT) (hT3 : nT ≤ 300) (t p : Int32) (h : ¬ (inR t nT ∧ ¬ p < 0 ∧ ¬ 1000000 < p)) : hk_Cd MX9_complain 3 0 0 [.ref 0, .int t, .int p] (hk_h L m) (some (.int (-1))) (hk_h L m) := by
  refine hk_ofWP (by decide) (by simp [Value.category]) (Nat.le_of_ble_eq_true rfl) ?_
  show hk_WP _ _ _ _ _ _ _ [some (.ref 0), some (.int t), some (.int p)] [] _ _
  refine hk_aload_n dX9_complain_0 rfl rfl ?_
  refine gfX9_37 rfl dX9_complain_1 (hk_lt (by decide)) rfl rfl ?_
  refine gfX9_215 rfl dX9_complain_4 (hk_lt (by decide)) rfl rfl ?_
  refine hk_iload_n dX9_complain_7 rfl rfl ?_
  refine ivX9_71 rfl (ct_has tb23 hT3 hT t) dX9_complain_8 (hk_lt (by decide)) rfl rfl rfl (by decide) ⟨by decide, by decide⟩ (Nat.le_of_ble_eq_true rfl) (hk_kd ?_)
  refine hk_if_eq (tgt := 25) dX9_complain_11 (by decide) (fun c11 => ?_) (fun c11 => ?_)
  · rw [bI_0] at c11
    refine hk_iconst (v := (-1)) dX9_complain_25 (by decide) ?_
    exact hk_ireturn dX9_complain_26 rfl rfl (by decide) ⟨rfl, rfl⟩
  · rw [bI_0] at c11
    refine hk_iload_n dX9_complain_14 rfl rfl ?_
    refine hk_if_lt (tgt := 25) dX9_complain_15 (by decide) (fun c15 => ?_) (fun c15 => ?_)
    · refine hk_iconst (v := (-1)) dX9_complain_25 (by decide) ?_
      exact hk_ireturn dX9_complain_26 rfl rfl (by decide) ⟨rfl, rfl⟩
    · refine hk_iload_n dX9_complain_18 rfl rfl ?_
      refine hk_ldcw dX9_complain_19 hk_k9_258 ?_
      refine hk_icmp_le (tgt := 27) dX9_complain_22 (by decide) (fun c22 => ?_) (fun c22 => ?_)
      · exact absurd (by grind) h
      · refine hk_iconst (v := (-1)) dX9_complain_25 (by decide) ?_
        exact hk_ireturn dX9_complain_26 rfl rfl (by decide) ⟨rfl, rfl⟩
set_option maxRecDepth 20000 in
set_option maxHeartbeats 2000000 in
theorem ct_complain_there {nT : Nat} (hT : m 23 3 = nI nT) (hT3 : nT ≤ 300) {nP : Nat} (hP : m 30 3 = nI nP) (hP3 : nP ≤ 300) (t p : Int32) (h : inR t nT ∧ ¬ p < 0 ∧ ¬ 1000000 < p) (hx : ∃ i, i < nP ∧ m 31 (i * 2) = t) : hk_Cd MX9_complain 3 0 0 [.ref 0, .int t, .int p] (hk_h L m) (some (.int (-4))) (hk_h L m) := by
  refine hk_ofWP (by decide) (by simp [Value.category]) (Nat.le_of_ble_eq_true rfl) ?_
  show hk_WP _ _ _ _ _ _ _ [some (.ref 0), some (.int t), some (.int p)] [] _ _
  refine hk_aload_n dX9_complain_0 rfl rfl ?_
  refine gfX9_37 rfl dX9_complain_1 (hk_lt (by decide)) rfl rfl ?_
  refine gfX9_215 rfl dX9_complain_4 (hk_lt (by decide)) rfl rfl ?_
  refine hk_iload_n dX9_complain_7 rfl rfl ?_
  refine ivX9_71 rfl (ct_has tb23 hT3 hT t) dX9_complain_8 (hk_lt (by decide)) rfl rfl rfl (by decide) ⟨by decide, by decide⟩ (Nat.le_of_ble_eq_true rfl) (hk_kd ?_)
  refine hk_if_eq (tgt := 25) dX9_complain_11 (by decide) (fun c11 => ?_) (fun c11 => ?_)
  · rw [bI_0] at c11
    exfalso; grind
  · rw [bI_0] at c11
    refine hk_iload_n dX9_complain_14 rfl rfl ?_
    refine hk_if_lt (tgt := 25) dX9_complain_15 (by decide) (fun c15 => ?_) (fun c15 => ?_)
    · exfalso; grind
    · refine hk_iload_n dX9_complain_18 rfl rfl ?_
      refine hk_ldcw dX9_complain_19 hk_k9_258 ?_
      refine hk_icmp_le (tgt := 27) dX9_complain_22 (by decide) (fun c22 => ?_) (fun c22 => ?_)
      · refine hk_aload_n dX9_complain_27 rfl rfl ?_
        refine gfX9_44 rfl dX9_complain_28 (hk_lt (by decide)) rfl rfl ?_
        refine hk_iload_n dX9_complain_31 rfl rfl ?_
        refine ivX9_259 rfl (ct_isOf hP hP3 t) dX9_complain_32 (hk_lt (by decide)) rfl rfl rfl (by decide) ⟨by decide, by decide⟩ (Nat.le_of_ble_eq_true rfl) (hk_kd ?_)
        refine hk_if_eq (tgt := 41) dX9_complain_35 (by decide) (fun c35 => ?_) (fun c35 => ?_)
        · rw [bI_0] at c35
          exact absurd hx c35
        · rw [bI_0] at c35
          refine hk_bipush (v := (-4)) dX9_complain_38 (by decide) ?_
          exact hk_ireturn dX9_complain_40 rfl rfl (by decide) ⟨rfl, rfl⟩
      · exfalso; grind
set_option maxRecDepth 20000 in
set_option maxHeartbeats 2000000 in
theorem ct_complain {nT : Nat} (hT : m 23 3 = nI nT) (hT3 : nT ≤ 300) {nP : Nat} (hP : m 30 3 = nI nP) (hP3 : nP < 300) (t p : Int32) (h : inR t nT ∧ ¬ p < 0 ∧ ¬ 1000000 < p) (hx : ¬ (∃ i, i < nP ∧ m 31 (i * 2) = t)) : hk_Cd MX9_complain 3 0 0 [.ref 0, .int t, .int p] (hk_h L m) (some (.int (nI nP))) (hk_h L (hk_w (hk_w (hk_w m 30 3 (nI (nP + 1))) 31 (nP * 2 + 0) t) 31 (nP * 2 + 1) p)) := by
  refine hk_ofWP (by decide) (by simp [Value.category]) (Nat.le_of_ble_eq_true rfl) ?_
  show hk_WP _ _ _ _ _ _ _ [some (.ref 0), some (.int t), some (.int p)] [] _ _
  refine hk_aload_n dX9_complain_0 rfl rfl ?_
  refine gfX9_37 rfl dX9_complain_1 (hk_lt (by decide)) rfl rfl ?_
  refine gfX9_215 rfl dX9_complain_4 (hk_lt (by decide)) rfl rfl ?_
  refine hk_iload_n dX9_complain_7 rfl rfl ?_
  refine ivX9_71 rfl (ct_has tb23 hT3 hT t) dX9_complain_8 (hk_lt (by decide)) rfl rfl rfl (by decide) ⟨by decide, by decide⟩ (Nat.le_of_ble_eq_true rfl) (hk_kd ?_)
  refine hk_if_eq (tgt := 25) dX9_complain_11 (by decide) (fun c11 => ?_) (fun c11 => ?_)
  · rw [bI_0] at c11
    exfalso; grind
  · rw [bI_0] at c11
    refine hk_iload_n dX9_complain_14 rfl rfl ?_
    refine hk_if_lt (tgt := 25) dX9_complain_15 (by decide) (fun c15 => ?_) (fun c15 => ?_)
    · exfalso; grind
    · refine hk_iload_n dX9_complain_18 rfl rfl ?_
      refine hk_ldcw dX9_complain_19 hk_k9_258 ?_
      refine hk_icmp_le (tgt := 27) dX9_complain_22 (by decide) (fun c22 => ?_) (fun c22 => ?_)
      · refine hk_aload_n dX9_complain_27 rfl rfl ?_
        refine gfX9_44 rfl dX9_complain_28 (hk_lt (by decide)) rfl rfl ?_
        refine hk_iload_n dX9_complain_31 rfl rfl ?_
        refine ivX9_259 rfl (ct_isOf hP (Nat.le_of_lt hP3) t) dX9_complain_32 (hk_lt (by decide)) rfl rfl rfl (by decide) ⟨by decide, by decide⟩ (Nat.le_of_ble_eq_true rfl) (hk_kd ?_)
        refine hk_if_eq (tgt := 41) dX9_complain_35 (by decide) (fun c35 => ?_) (fun c35 => ?_)
        · rw [bI_0] at c35
          refine hk_aload_n dX9_complain_41 rfl rfl ?_
          refine gfX9_44 rfl dX9_complain_42 (hk_lt (by decide)) rfl rfl ?_
          refine hk_iload_n dX9_complain_45 rfl rfl ?_
          refine hk_iload_n dX9_complain_46 rfl rfl ?_
          refine ivX9_262 rfl (ct_addComplaint hP hP3 _ _) dX9_complain_47 (hk_lt (by decide)) rfl rfl rfl (by decide) ⟨by decide, by decide⟩ (Nat.le_of_ble_eq_true rfl) (hk_kd ?_)
          exact hk_ireturn dX9_complain_50 rfl rfl (by decide) ⟨rfl, rfl⟩
        · rw [bI_0] at c35
          exact absurd hx c35
      · exfalso; grind
set_option maxRecDepth 20000 in
set_option maxHeartbeats 2000000 in
theorem md_complain_no {nT : Nat} (hT : m 37 60 = nI nT) (t p : Int32) (h : ¬ (inR t nT ∧ ¬ p < 0 ∧ ¬ 1000000 < p)) : hk_Cd MX10_complain 1 0 0 [.ref 37, .int t, .int p] (hk_h L m) (some (.int (-1))) (hk_h L m) := by
  refine hk_ofWP (by decide) (by simp [Value.category]) (Nat.le_of_ble_eq_true rfl) ?_
  show hk_WP _ _ _ _ _ _ _ [some (.ref 37), some (.int t), some (.int p), none] [] _ _
  refine hk_aload_n dX10_complain_0 rfl rfl ?_
  refine hk_iload_n dX10_complain_1 rfl rfl ?_
  refine ivX10_389 rfl (md_isTrip hT t) dX10_complain_2 (hk_lt (by decide)) rfl rfl rfl (by decide) ⟨by decide, by decide⟩ (Nat.le_of_ble_eq_true rfl) (hk_kd ?_)
  refine hk_if_eq (tgt := 19) dX10_complain_5 (by decide) (fun c5 => ?_) (fun c5 => ?_)
  · rw [bI_0] at c5
    refine hk_iconst (v := (-1)) dX10_complain_19 (by decide) ?_
    exact hk_ireturn dX10_complain_20 rfl rfl (by decide) ⟨rfl, rfl⟩
  · rw [bI_0] at c5
    refine hk_iload_n dX10_complain_8 rfl rfl ?_
    refine hk_iconst (v := 0) dX10_complain_9 (by decide) ?_
    refine hk_ldcw dX10_complain_10 hk_k10_354 ?_
    refine ivX10_208 rfl (ct_within p 0 1000000) dX10_complain_13 rfl rfl (by decide) ⟨by decide, by decide⟩ (Nat.le_of_ble_eq_true rfl) (hk_kd ?_)
    refine hk_if_ne (tgt := 21) dX10_complain_16 (by decide) (fun c16 => ?_) (fun c16 => ?_)
    · rw [bI_0] at c16
      exact absurd (by grind) h
    · rw [bI_0] at c16
      refine hk_iconst (v := (-1)) dX10_complain_19 (by decide) ?_
      exact hk_ireturn dX10_complain_20 rfl rfl (by decide) ⟨rfl, rfl⟩
set_option maxRecDepth 20000 in
set_option maxHeartbeats 2000000 in
theorem lp_complain_there {nP : Nat} (hP : m 37 68 = nI nP) (hP3 : nP ≤ 300) (t p : Int32) {q : Nat} (hq : q < nP) (hqt : m 90 q = t) (i : Nat) (hi : i ≤ q) : hk_WP MX10_complain 1 0 0 0 0 23 [some (.ref 37), some (.int t), some (.int p), some (.int (nI i))] [] (hk_h L m) (fun r h' => r = some (.int (-4)) ∧ h' = hk_h L m) := by
  refine hk_iload_n dX10_complain_23 rfl rfl ?_
  refine hk_aload_n dX10_complain_24 rfl rfl ?_
  refine gfX10_392 rfl dX10_complain_25 (hk_lt (by decide)) rfl rfl ?_
  refine hk_icmp_ge (tgt := 50) dX10_complain_28 (by decide) (fun c28 => ?_) (fun c28 => ?_)
  · rw [hP, nI_leI (by omega) (by omega)] at c28
    exfalso; omega
  · rw [hP, nI_leI (by omega) (by omega)] at c28
    refine hk_aload_n dX10_complain_31 rfl rfl ?_
    refine gfX10_167 rfl dX10_complain_32 (hk_lt (by decide)) rfl rfl ?_
    refine hk_iload_n dX10_complain_35 rfl rfl ?_
    refine hk_ian dX10_complain_36 (by decide) (fun _ => rfl) rfl (by omega) (by decide) ?_
    refine hk_iload_n dX10_complain_37 rfl rfl ?_
    refine hk_icmp_ne (tgt := 44) dX10_complain_38 (by decide) (fun c38 => ?_) (fun c38 => ?_)
    · refine hk_iinc (v := nI (i + 1)) dX10_complain_44 rfl (nI_1 i) (by decide) rfl ?_
      refine hk_goto (tgt := 23) dX10_complain_47 (by decide) ?_
      have hlt : i < q := by rcases Nat.lt_or_eq_of_le hi with h1 | h1 <;> first | exact h1 | exact absurd (h1 ▸ hqt) c38
      exact lp_complain_there hP hP3 t p hq hqt (i + 1) (by omega)
    · refine hk_bipush (v := (-4)) dX10_complain_41 (by decide) ?_
      exact hk_ireturn dX10_complain_43 rfl rfl (by decide) ⟨rfl, rfl⟩
termination_by q - i
decreasing_by all_goals omega
set_option maxRecDepth 20000 in
set_option maxHeartbeats 2000000 in
theorem md_complain_there {nT : Nat} (hT : m 37 60 = nI nT) {nP : Nat} (hP : m 37 68 = nI nP) (hP3 : nP ≤ 300) (t p : Int32) (h : inR t nT ∧ ¬ p < 0 ∧ ¬ 1000000 < p) (hx : ∃ i, i < nP ∧ m 90 i = t) : hk_Cd MX10_complain 1 0 0 [.ref 37, .int t, .int p] (hk_h L m) (some (.int (-4))) (hk_h L m) := by
  refine hk_ofWP (by decide) (by simp [Value.category]) (Nat.le_of_ble_eq_true rfl) ?_
  show hk_WP _ _ _ _ _ _ _ [some (.ref 37), some (.int t), some (.int p), none] [] _ _
  refine hk_aload_n dX10_complain_0 rfl rfl ?_
  refine hk_iload_n dX10_complain_1 rfl rfl ?_
  refine ivX10_389 rfl (md_isTrip hT t) dX10_complain_2 (hk_lt (by decide)) rfl rfl rfl (by decide) ⟨by decide, by decide⟩ (Nat.le_of_ble_eq_true rfl) (hk_kd ?_)
  refine hk_if_eq (tgt := 19) dX10_complain_5 (by decide) (fun c5 => ?_) (fun c5 => ?_)
  · rw [bI_0] at c5
    exfalso; grind
  · rw [bI_0] at c5
    refine hk_iload_n dX10_complain_8 rfl rfl ?_
    refine hk_iconst (v := 0) dX10_complain_9 (by decide) ?_
    refine hk_ldcw dX10_complain_10 hk_k10_354 ?_
    refine ivX10_208 rfl (ct_within p 0 1000000) dX10_complain_13 rfl rfl (by decide) ⟨by decide, by decide⟩ (Nat.le_of_ble_eq_true rfl) (hk_kd ?_)
    refine hk_if_ne (tgt := 21) dX10_complain_16 (by decide) (fun c16 => ?_) (fun c16 => ?_)
    · rw [bI_0] at c16
      refine hk_iconst (v := 0) dX10_complain_21 (by decide) ?_
      refine hk_istore_n dX10_complain_22 rfl (by decide) rfl ?_
      obtain ⟨q, hq, hqt⟩ := hx
      exact lp_complain_there hP hP3 t p hq hqt 0 (Nat.zero_le _)
    · rw [bI_0] at c16
      exfalso; grind
set_option maxRecDepth 20000 in
set_option maxHeartbeats 2000000 in
theorem lp_complain {nP : Nat} (hP : m 37 68 = nI nP) (hP3 : nP < 300) (t p : Int32) (hx : ∀ i, i < nP → ¬ m 90 i = t) (i : Nat) (hi : i ≤ nP) : hk_WP MX10_complain 1 0 0 0 0 23 [some (.ref 37), some (.int t), some (.int p), some (.int (nI i))] [] (hk_h L m) (fun r h' => r = some (.int (nI nP)) ∧ h' = hk_h L (hk_w (hk_w (hk_w m 90 nP t) 91 nP p) 37 68 (nI (nP + 1)))) := by
  refine hk_iload_n dX10_complain_23 rfl rfl ?_
  refine hk_aload_n dX10_complain_24 rfl rfl ?_
  refine gfX10_392 rfl dX10_complain_25 (hk_lt (by decide)) rfl rfl ?_
  refine hk_icmp_ge (tgt := 50) dX10_complain_28 (by decide) (fun c28 => ?_) (fun c28 => ?_)
  · rw [hP, nI_leI (by omega) (by omega)] at c28
    refine hk_aload_n dX10_complain_50 rfl rfl ?_
    refine gfX10_167 rfl dX10_complain_51 (hk_lt (by decide)) rfl rfl ?_
    refine hk_aload_n dX10_complain_54 rfl rfl ?_
    refine gfX10_392 rfl dX10_complain_55 (hk_lt (by decide)) rfl rfl ?_
    refine hk_iload_n dX10_complain_58 rfl rfl ?_
    refine hk_isn dX10_complain_59 (by decide) (fun _ => rfl) hP (by omega) (by decide) ?_
    refine hk_aload_n dX10_complain_60 rfl rfl ?_
    refine gfX10_170 rfl dX10_complain_61 (hk_lt (by decide)) rfl rfl ?_
    refine hk_aload_n dX10_complain_64 rfl rfl ?_
    refine gfX10_392 rfl dX10_complain_65 (hk_lt (by decide)) rfl rfl ?_
    refine hk_iload_n dX10_complain_68 rfl rfl ?_
    refine hk_isn (j := nP) dX10_complain_69 (by decide) (fun _ => rfl) (by simp [hk_wo, hP]) (by omega) (by decide) ?_
    refine hk_aload_n dX10_complain_70 rfl rfl ?_
    refine hk_dup dX10_complain_71 rfl ?_
    refine gfX10_392 rfl dX10_complain_72 (hk_lt (by decide)) rfl rfl ?_
    refine hk_iconst (v := 1) dX10_complain_75 (by decide) ?_
    refine hk_iadd dX10_complain_76 ?_
    refine pfX10_392 rfl dX10_complain_77 (hk_lt (by decide)) rfl (Nat.le_of_ble_eq_true rfl) (hk_st (j := 68) rfl ?_)
    rw [show hk_w _ _ _ _ _ _ + 1 = nI (nP + 1) by simp [hk_wo, hP, nI_1]]
    refine hk_aload_n dX10_complain_80 rfl rfl ?_
    refine gfX10_392 rfl dX10_complain_81 (hk_lt (by decide)) rfl rfl ?_
    refine hk_iconst (v := 1) dX10_complain_84 (by decide) ?_
    refine hk_isub dX10_complain_85 ?_
    exact hk_ireturn dX10_complain_86 rfl rfl (by decide) ⟨by simp [hk_wt, upd, nI_pred], rfl⟩
  · rw [hP, nI_leI (by omega) (by omega)] at c28
    refine hk_aload_n dX10_complain_31 rfl rfl ?_
    refine gfX10_167 rfl dX10_complain_32 (hk_lt (by decide)) rfl rfl ?_
    refine hk_iload_n dX10_complain_35 rfl rfl ?_
    refine hk_ian dX10_complain_36 (by decide) (fun _ => rfl) rfl (by omega) (by decide) ?_
    refine hk_iload_n dX10_complain_37 rfl rfl ?_
    refine hk_icmp_ne (tgt := 44) dX10_complain_38 (by decide) (fun c38 => ?_) (fun c38 => ?_)
    · refine hk_iinc (v := nI (i + 1)) dX10_complain_44 rfl (nI_1 i) (by decide) rfl ?_
      refine hk_goto (tgt := 23) dX10_complain_47 (by decide) ?_
      have hlt : i < nP := by omega
      exact lp_complain hP hP3 t p hx (i + 1) (by omega)
    · exact absurd c38 (hx i (by omega))
termination_by nP - i
decreasing_by all_goals omega
set_option maxRecDepth 20000 in
set_option maxHeartbeats 2000000 in
theorem md_complain {nT : Nat} (hT : m 37 60 = nI nT) {nP : Nat} (hP : m 37 68 = nI nP) (hP3 : nP < 300) (t p : Int32) (h : inR t nT ∧ ¬ p < 0 ∧ ¬ 1000000 < p) (hx : ∀ i, i < nP → ¬ m 90 i = t) : hk_Cd MX10_complain 1 0 0 [.ref 37, .int t, .int p] (hk_h L m) (some (.int (nI nP))) (hk_h L (hk_w (hk_w (hk_w m 90 nP t) 91 nP p) 37 68 (nI (nP + 1)))) := by
  refine hk_ofWP (by decide) (by simp [Value.category]) (Nat.le_of_ble_eq_true rfl) ?_
  show hk_WP _ _ _ _ _ _ _ [some (.ref 37), some (.int t), some (.int p), none] [] _ _
  refine hk_aload_n dX10_complain_0 rfl rfl ?_
  refine hk_iload_n dX10_complain_1 rfl rfl ?_
  refine ivX10_389 rfl (md_isTrip hT t) dX10_complain_2 (hk_lt (by decide)) rfl rfl rfl (by decide) ⟨by decide, by decide⟩ (Nat.le_of_ble_eq_true rfl) (hk_kd ?_)
  refine hk_if_eq (tgt := 19) dX10_complain_5 (by decide) (fun c5 => ?_) (fun c5 => ?_)
  · rw [bI_0] at c5
    exfalso; grind
  · rw [bI_0] at c5
    refine hk_iload_n dX10_complain_8 rfl rfl ?_
    refine hk_iconst (v := 0) dX10_complain_9 (by decide) ?_
    refine hk_ldcw dX10_complain_10 hk_k10_354 ?_
    refine ivX10_208 rfl (ct_within p 0 1000000) dX10_complain_13 rfl rfl (by decide) ⟨by decide, by decide⟩ (Nat.le_of_ble_eq_true rfl) (hk_kd ?_)
    refine hk_if_ne (tgt := 21) dX10_complain_16 (by decide) (fun c16 => ?_) (fun c16 => ?_)
    · rw [bI_0] at c16
      refine hk_iconst (v := 0) dX10_complain_21 (by decide) ?_
      refine hk_istore_n dX10_complain_22 rfl (by decide) rfl ?_
      exact lp_complain hP hP3 t p hx 0 (Nat.zero_le _)
    · rw [bI_0] at c16
      exfalso; grind
theorem com_lt {n nT k : Nat} {t a b : Nat → Int32} (h : GCom n nT t a b) (hT : nT < 2 ^ 31) (hk : k < nT) (hx : ∀ i, i < n → a i ≠ nI k) : n < nT := by
  have hf : ∀ i, i < n → a i = nI (a i).toNatClampNeg ∧ (a i).toNatClampNeg < nT := fun i hi => by
    obtain ⟨-, -, j, hj, hj2⟩ := h.1 i hi
    rw [hj, nI_clamp (by omega)]; exact ⟨rfl, hj2⟩
  have := fb_holes nT (n + 1) (fun i => if i < n then (a i).toNatClampNeg else k) (fun i hi => by
    by_cases q : i < n
    · simp only [if_pos q]; exact (hf i q).2
    · simp only [if_neg q]; exact hk) (fun i j hij hj => by
    have q : i < n := by omega
    by_cases r : j < n
    · simp only [if_pos q, if_pos r]
      intro e
      exact h.2 i j hij r (by rw [(hf i q).1, (hf j r).1, e])
    · simp only [if_pos q, if_neg r]
      intro e
      exact hx i q (by rw [(hf i q).1, e]))
  omega
theorem op_complain (hI : Inv L z m) (t p : Int32) : OpOK L m MX9_complain MX10_complain [.int t, .int p] := by
  obtain ⟨g0, ⟨⟨a0, a1, a2, a3, a4, a5, a6, a7, a8, a9, a10, a11, a12, a13⟩, ⟨b0, b1, b2, b3, b4, b5, b6, b7, b8, b9, b10, b11, b12⟩, ⟨c0, c1, c2, c3, c4, c5, c6, c7, c8, c9, c10, c11, c12⟩⟩, g2, g3, g4, g5, g6, g7, g8, g9, g10, g11, g12, g13, g14⟩ := id hI
  by_cases h : inR t (z 5) ∧ ¬ p < 0 ∧ ¬ 1000000 < p
  · have hcong : ∀ i, i < z 7 → m 31 (i * 2) = m 90 i := fun i hi => (g12.1 i hi).1
    by_cases hx : ∃ i, i < z 7 ∧ m 31 (i * 2) = t
    · exact ⟨3, 0, 0, 1, -4, L, m, m, z, by decide, by decide, by decide, by decide, ct_complain_there a5 c5 a7 c7 t p h hx, md_complain_there b5 b7 c7 t p h (by obtain ⟨i, hi, he⟩ := hx; exact ⟨i, hi, (hcong i hi).symm.trans he⟩), hI⟩
    · have hx2 : ∀ i, i < z 7 → ¬ m 90 i = t := fun i hi he => hx ⟨i, hi, (hcong i hi).trans he⟩
      obtain ⟨k, hk, rfl⟩ := inR_of h.1 (by omega)
      have hlt := com_lt g12 (by omega) hk hx2
      refine ⟨3, 0, 0, 1, nI (z 7), L, _, _, up z 7 (z 7 + 1), by decide, by decide, by decide, by decide, ct_complain a5 c5 a7 (by omega) _ p h hx, md_complain (nT := z 5) (by simpa [hk_wo, hk_wt] using b5) (by simpa [hk_wo, hk_wt] using b7) (by omega) _ p h (by simpa [hk_wo, hk_wt] using hx2), ?_⟩
      refine ⟨g0, ⟨?_, ?_, ?_⟩, ?_, ?_, ?_, ?_, ?_, ?_, ?_, ?_, ?_, ?_, ?_, ?_, ?_⟩
      · simp [hk_wo, hk_wt, hk_w99, up, upd, a0, a1, a2, a3, a4, a5, a6, a7, a8, a9, a10, a11, a12, a13]
      · simp [hk_wo, hk_wt, hk_w99, up, upd, b0, b1, b2, b3, b4, b5, b6, b7, b8, b9, b10, b11, b12]
      · first | (simp [up]; omega) | omega
      · simpa [hk_wo, hk_wt, hk_w99, up, upd] using g2
      · simpa [hk_wo, hk_wt, hk_w99, up, upd] using g3
      · simpa [hk_wo, hk_wt, hk_w99, up, upd] using g4
      · simpa [hk_wo, hk_wt, hk_w99, up, upd] using g5
      · simpa [hk_wo, hk_wt, hk_w99, up, upd] using g6
      · simpa [hk_wo, hk_wt, hk_w99, up, upd] using g7
      · simpa [hk_wo, hk_wt, hk_w99, up, upd] using g8
      · simpa [hk_wo, hk_wt, hk_w99, up, upd] using g9
      · simpa [hk_wo, hk_wt, hk_w99, up, upd] using g10
      · simpa [hk_wo, hk_wt, hk_w99, up, upd] using g11
      · refine ⟨fun i hi => ?_, fun i j hij hj => ?_⟩
        · simp only [up, if_true] at hi
          by_cases hin : i = z 7
          · subst hin
            exact ⟨by simp [hk_wo, hk_wt, upd], by simp [hk_wo, hk_wt, upd], k, by simp [hk_wo, hk_wt, upd], by simpa [up] using hk⟩
          · have := g12.1 i (by omega)
            refine ⟨?_, ?_, ?_⟩
            · (simp [hk_wo, hk_wt, upd, hin, this]) <;> (repeat rw [if_neg (by omega)])
            · (simp [hk_wo, hk_wt, upd, hin, this]) <;> (repeat rw [if_neg (by omega)])
            · simpa [hk_wo, hk_wt, upd, hin, up] using this.2.2
        · simp only [up, if_true] at hj
          by_cases hjn : j = z 7
          · subst hjn
            have : i ≠ z 7 := by omega
            simpa [hk_wo, hk_wt, upd, this] using hx2 i (by omega)
          · have : i ≠ z 7 := by omega
            simpa [hk_wo, hk_wt, upd, this, hjn] using g12.2 i j hij (by omega)
      · simpa [hk_wo, hk_wt, hk_w99, up, upd] using g13
      · simpa [hk_wo, hk_wt, hk_w99, up, upd] using g14
  · exact ⟨3, 0, 0, 1, -1, L, m, m, z, by decide, by decide, by decide, by decide, ct_complain_no a5 c5 t p h, md_complain_no b5 t p h, hI⟩
/-- a found thing fits a lost one, by the class's rows -/
def FitC (m : Nat → Nat → Int32) (nT l f : Nat) : Prop := m 34 (l * 4) = m 36 (f * 3) ∧ ¬ m 36 (f * 3 + 2) < m 34 (l * 4 + 2) ∧ fp 4 (m 34 (l * 4 + 1)) (m 10 ((m 36 (f * 3 + 1)).toNatClampNeg * 8 + 6)) ∧
  ∃ t, t < nT ∧ m 24 (t * 13) = m 36 (f * 3 + 1) ∧ m 24 (t * 13 + 3) ≤ m 34 (l * 4 + 3) ∧ ¬ m 24 (t * 13 + 5) ≤ m 34 (l * 4 + 2)
/-- the same by the reference's -/
def FitM (m : Nat → Nat → Int32) (nT l f : Nat) : Prop := m 92 l = m 96 f ∧ ¬ m 98 f < m 94 l ∧ fp 4 (m 93 l) (m 51 (m 97 f).toNatClampNeg) ∧ ∃ t, t < nT ∧ m 73 t = m 97 f ∧ m 76 t ≤ m 95 l ∧ ¬ m 78 t ≤ m 94 l
set_option maxRecDepth 20000 in
set_option maxHeartbeats 2000000 in
theorem ct_isFitting {K : Nat} (hK : m 9 3 = nI K) (hK30 : K ≤ 30) {nT : Nat} (hT : m 23 3 = nI nT) (hT3 : nT ≤ 300) {nL : Nat} (hL : m 33 3 = nI nL) (hL2 : nL ≤ 60) {nF : Nat} (hF : m 35 3 = nI nF) (hF2 : nF ≤ 60) {l f k : Nat} (hl : l < nL) (hf : f < nF) (hk : k < K) (ek : m 36 (f * 3 + 1) = nI k) : hk_Cd MX9_isFitting 2 0 0 [.ref 0, .int (nI l), .int (nI f)] (hk_h L m) (some (.int (bI (FitC m nT l f)))) (hk_h L m) := by
  have e1 : (m 36 (f * 3 + 1)).toNatClampNeg = k := by rw [ek, nI_clamp (by omega)]
  refine hk_ofWP (by decide) (by simp [Value.category]) (Nat.le_of_ble_eq_true rfl) ?_
  show hk_WP _ _ _ _ _ _ _ [some (.ref 0), some (.int (nI l)), some (.int (nI f)), none, none] [] _ _
  refine hk_aload_n dX9_isFitting_0 rfl rfl ?_
  refine gfX9_51 rfl dX9_isFitting_1 (hk_lt (by decide)) rfl rfl ?_
  refine gfX9_284 rfl dX9_isFitting_4 (hk_lt (by decide)) rfl rfl ?_
  refine hk_iload_n dX9_isFitting_7 rfl rfl ?_
  refine hk_iconst (v := 2) dX9_isFitting_8 (by decide) ?_
  refine ivX9_124 rfl (ct_geti tb33 hL2 hL rfl hl (by decide)) dX9_isFitting_9 (hk_lt (by decide)) rfl rfl rfl (by decide) ⟨by decide, by decide⟩ (Nat.le_of_ble_eq_true rfl) (hk_kd ?_)
  refine hk_istore_n dX9_isFitting_12 rfl (by decide) rfl ?_
  refine hk_aload_n dX9_isFitting_13 rfl rfl ?_
  refine gfX9_51 rfl dX9_isFitting_14 (hk_lt (by decide)) rfl rfl ?_
  refine gfX9_293 rfl dX9_isFitting_17 (hk_lt (by decide)) rfl rfl ?_
  refine hk_iload_n dX9_isFitting_20 rfl rfl ?_
  refine hk_iconst (v := 1) dX9_isFitting_21 (by decide) ?_
  refine ivX9_124 rfl (ct_geti tb35 hF2 hF rfl hf (by decide)) dX9_isFitting_22 (hk_lt (by decide)) rfl rfl rfl (by decide) ⟨by decide, by decide⟩ (Nat.le_of_ble_eq_true rfl) (hk_kd ?_)
  rw [ek]
  refine hk_istore dX9_isFitting_25 (by decide) rfl ?_
  refine hk_aload_n dX9_isFitting_27 rfl rfl ?_
  refine gfX9_51 rfl dX9_isFitting_28 (hk_lt (by decide)) rfl rfl ?_
  refine gfX9_284 rfl dX9_isFitting_31 (hk_lt (by decide)) rfl rfl ?_
  refine hk_iload_n dX9_isFitting_34 rfl rfl ?_
  refine hk_iconst (v := 0) dX9_isFitting_35 (by decide) ?_
  refine ivX9_124 rfl (ct_geti tb33 hL2 hL rfl hl (by decide)) dX9_isFitting_36 (hk_lt (by decide)) rfl rfl rfl (by decide) ⟨by decide, by decide⟩ (Nat.le_of_ble_eq_true rfl) (hk_kd ?_)
  refine hk_aload_n dX9_isFitting_39 rfl rfl ?_
  refine gfX9_51 rfl dX9_isFitting_40 (hk_lt (by decide)) rfl rfl ?_
  refine gfX9_293 rfl dX9_isFitting_43 (hk_lt (by decide)) rfl rfl ?_
  refine hk_iload_n dX9_isFitting_46 rfl rfl ?_
  refine hk_iconst (v := 0) dX9_isFitting_47 (by decide) ?_
  refine ivX9_124 rfl (ct_geti tb35 hF2 hF rfl hf (by decide)) dX9_isFitting_48 (hk_lt (by decide)) rfl rfl rfl (by decide) ⟨by decide, by decide⟩ (Nat.le_of_ble_eq_true rfl) (hk_kd ?_)
  refine hk_icmp_ne (tgt := 131) dX9_isFitting_51 (by decide) (fun c51 => ?_) (fun c51 => ?_)
  · refine hk_iconst (v := 0) dX9_isFitting_131 (by decide) ?_
    exact hk_ireturn dX9_isFitting_132 rfl rfl (by decide) ⟨by first | exact bI_r1 (by unfold FitC; rw [e1, ek]; exact ⟨c51, c67, Classical.not_not.mp c99, Classical.not_not.mp c124⟩) | exact bI_r0 (by unfold FitC; rw [e1, ek]; exact fun q => c51 q.1) | exact bI_r0 (by unfold FitC; rw [e1, ek]; exact fun q => q.2.1 c67) | exact bI_r0 (by unfold FitC; rw [e1, ek]; exact fun q => c99 q.2.2.1) | exact bI_r0 (by unfold FitC; rw [e1, ek]; exact fun q => c124 q.2.2.2), rfl⟩
  · refine hk_aload_n dX9_isFitting_54 rfl rfl ?_
    refine gfX9_51 rfl dX9_isFitting_55 (hk_lt (by decide)) rfl rfl ?_
    refine gfX9_293 rfl dX9_isFitting_58 (hk_lt (by decide)) rfl rfl ?_
    refine hk_iload_n dX9_isFitting_61 rfl rfl ?_
    refine hk_iconst (v := 2) dX9_isFitting_62 (by decide) ?_
    refine ivX9_124 rfl (ct_geti tb35 hF2 hF rfl hf (by decide)) dX9_isFitting_63 (hk_lt (by decide)) rfl rfl rfl (by decide) ⟨by decide, by decide⟩ (Nat.le_of_ble_eq_true rfl) (hk_kd ?_)
    refine hk_iload_n dX9_isFitting_66 rfl rfl ?_
    refine hk_icmp_lt (tgt := 131) dX9_isFitting_67 (by decide) (fun c67 => ?_) (fun c67 => ?_)
    · refine hk_iconst (v := 0) dX9_isFitting_131 (by decide) ?_
      exact hk_ireturn dX9_isFitting_132 rfl rfl (by decide) ⟨by first | exact bI_r1 (by unfold FitC; rw [e1, ek]; exact ⟨c51, c67, Classical.not_not.mp c99, Classical.not_not.mp c124⟩) | exact bI_r0 (by unfold FitC; rw [e1, ek]; exact fun q => c51 q.1) | exact bI_r0 (by unfold FitC; rw [e1, ek]; exact fun q => q.2.1 c67) | exact bI_r0 (by unfold FitC; rw [e1, ek]; exact fun q => c99 q.2.2.1) | exact bI_r0 (by unfold FitC; rw [e1, ek]; exact fun q => c124 q.2.2.2), rfl⟩
    · refine hk_aload_n dX9_isFitting_70 rfl rfl ?_
      refine gfX9_51 rfl dX9_isFitting_71 (hk_lt (by decide)) rfl rfl ?_
      refine gfX9_284 rfl dX9_isFitting_74 (hk_lt (by decide)) rfl rfl ?_
      refine hk_iload_n dX9_isFitting_77 rfl rfl ?_
      refine hk_iconst (v := 1) dX9_isFitting_78 (by decide) ?_
      refine ivX9_124 rfl (ct_geti tb33 hL2 hL rfl hl (by decide)) dX9_isFitting_79 (hk_lt (by decide)) rfl rfl rfl (by decide) ⟨by decide, by decide⟩ (Nat.le_of_ble_eq_true rfl) (hk_kd ?_)
      refine hk_aload_n dX9_isFitting_82 rfl rfl ?_
      refine gfX9_23 rfl dX9_isFitting_83 (hk_lt (by decide)) rfl rfl ?_
      refine gfX9_112 rfl dX9_isFitting_86 (hk_lt (by decide)) rfl rfl ?_
      refine hk_iload dX9_isFitting_89 rfl ?_
      refine hk_bipush (v := 6) dX9_isFitting_91 (by decide) ?_
      refine ivX9_124 rfl (ct_geti tb9 hK30 hK rfl hk (by decide)) dX9_isFitting_93 (hk_lt (by decide)) rfl rfl rfl (by decide) ⟨by decide, by decide⟩ (Nat.le_of_ble_eq_true rfl) (hk_kd ?_)
      refine ivX9_374 rfl (ct_isPlate _ _) dX9_isFitting_96 rfl rfl (by decide) ⟨by decide, by decide⟩ (Nat.le_of_ble_eq_true rfl) (hk_kd ?_)
      refine hk_if_eq (tgt := 131) dX9_isFitting_99 (by decide) (fun c99 => ?_) (fun c99 => ?_)
      · rw [bI_0] at c99
        refine hk_iconst (v := 0) dX9_isFitting_131 (by decide) ?_
        exact hk_ireturn dX9_isFitting_132 rfl rfl (by decide) ⟨by first | exact bI_r1 (by unfold FitC; rw [e1, ek]; exact ⟨c51, c67, Classical.not_not.mp c99, Classical.not_not.mp c124⟩) | exact bI_r0 (by unfold FitC; rw [e1, ek]; exact fun q => c51 q.1) | exact bI_r0 (by unfold FitC; rw [e1, ek]; exact fun q => q.2.1 c67) | exact bI_r0 (by unfold FitC; rw [e1, ek]; exact fun q => c99 q.2.2.1) | exact bI_r0 (by unfold FitC; rw [e1, ek]; exact fun q => c124 q.2.2.2), rfl⟩
      · rw [bI_0] at c99
        refine hk_aload_n dX9_isFitting_102 rfl rfl ?_
        refine gfX9_37 rfl dX9_isFitting_103 (hk_lt (by decide)) rfl rfl ?_
        refine hk_iload dX9_isFitting_106 rfl ?_
        refine hk_iload_n dX9_isFitting_108 rfl rfl ?_
        refine hk_aload_n dX9_isFitting_109 rfl rfl ?_
        refine gfX9_51 rfl dX9_isFitting_110 (hk_lt (by decide)) rfl rfl ?_
        refine gfX9_284 rfl dX9_isFitting_113 (hk_lt (by decide)) rfl rfl ?_
        refine hk_iload_n dX9_isFitting_116 rfl rfl ?_
        refine hk_iconst (v := 3) dX9_isFitting_117 (by decide) ?_
        refine ivX9_124 rfl (ct_geti tb33 hL2 hL rfl hl (by decide)) dX9_isFitting_118 (hk_lt (by decide)) rfl rfl rfl (by decide) ⟨by decide, by decide⟩ (Nat.le_of_ble_eq_true rfl) (hk_kd ?_)
        refine ivX9_377 rfl (ct_wasOnTrip hT hT3 (nI k) _ _) dX9_isFitting_121 (hk_lt (by decide)) rfl rfl rfl (by decide) ⟨by decide, by decide⟩ (Nat.le_of_ble_eq_true rfl) (hk_kd ?_)
        refine hk_if_eq (tgt := 131) dX9_isFitting_124 (by decide) (fun c124 => ?_) (fun c124 => ?_)
        · rw [bI_0] at c124
          refine hk_iconst (v := 0) dX9_isFitting_131 (by decide) ?_
          exact hk_ireturn dX9_isFitting_132 rfl rfl (by decide) ⟨by first | exact bI_r1 (by unfold FitC; rw [e1, ek]; exact ⟨c51, c67, Classical.not_not.mp c99, Classical.not_not.mp c124⟩) | exact bI_r0 (by unfold FitC; rw [e1, ek]; exact fun q => c51 q.1) | exact bI_r0 (by unfold FitC; rw [e1, ek]; exact fun q => q.2.1 c67) | exact bI_r0 (by unfold FitC; rw [e1, ek]; exact fun q => c99 q.2.2.1) | exact bI_r0 (by unfold FitC; rw [e1, ek]; exact fun q => c124 q.2.2.2), rfl⟩
        · rw [bI_0] at c124
          refine hk_iconst (v := 1) dX9_isFitting_127 (by decide) ?_
          refine hk_goto (tgt := 132) dX9_isFitting_128 (by decide) ?_
          exact hk_ireturn dX9_isFitting_132 rfl rfl (by decide) ⟨by first | exact bI_r1 (by unfold FitC; rw [e1, ek]; exact ⟨c51, c67, Classical.not_not.mp c99, Classical.not_not.mp c124⟩) | exact bI_r0 (by unfold FitC; rw [e1, ek]; exact fun q => c51 q.1) | exact bI_r0 (by unfold FitC; rw [e1, ek]; exact fun q => q.2.1 c67) | exact bI_r0 (by unfold FitC; rw [e1, ek]; exact fun q => c99 q.2.2.1) | exact bI_r0 (by unfold FitC; rw [e1, ek]; exact fun q => c124 q.2.2.2), rfl⟩
end OA
