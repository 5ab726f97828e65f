/-! WAYS: the reference finds how far -/
section FFx
variable {L nC nS : Nat} {m m0 m1 m2 : Nat → Nat → Int32} {z : Nat → Nat}
set_option maxRecDepth 20000 in
set_option maxHeartbeats 2000000 in
theorem lp_misShut (hS : m 37 11 = nI nS) (hS6 : nS ≤ 60) (hg : GS m nC nS) (hC : nC ≤ 24) {s k : Nat} (hs : s < nS) (u : Int32) (hk : m 46 s = nI k) (hk4 : k ≤ 4) (i : Nat) (hi : i ≤ k) : hk_WP MX10_isShut 0 0 0 0 0 5 [some (.ref 37), some (.int (nI s)), some (.int u), some (.int (bI (∃ j, j < i ∧ (fun j => ¬ u < m 44 (4 * s + j) ∧ u < m 45 (4 * s + j)) j))), some (.int (nI i))] [] (hk_h L m) (fun r h' => r = some (.int (bI (¬ opn m s u))) ∧ h' = hk_h L m) := by
  have ek : (m 46 s).toNatClampNeg = k := by rw [hk, nI_clamp (by omega)]
  refine hk_iload dX10_isShut_5 rfl ?_
  refine hk_aload_n dX10_isShut_7 rfl rfl ?_
  refine gfX10_34 rfl dX10_isShut_8 (hk_lt (by decide)) rfl rfl ?_
  refine hk_iload_n dX10_isShut_11 rfl rfl ?_
  refine hk_ian dX10_isShut_12 (by decide) (fun _ => rfl) rfl (by omega) (by decide) ?_
  refine hk_icmp_ge (tgt := 62) dX10_isShut_13 (by decide) (fun c13 => ?_) (fun c13 => ?_)
  · rw [hk, nI_leI (by omega) (by omega)] at c13
    refine hk_iload_n dX10_isShut_62 rfl rfl ?_
    exact hk_ireturn dX10_isShut_63 rfl bI_nar (by decide) ⟨by rw [show i = k by omega]; exact congrArg (fun x => some (Value.int x)) (bI_c (by unfold opn; rw [ek, Classical.not_not])), rfl⟩
  · rw [hk, nI_leI (by omega) (by omega)] at c13
    refine hk_iload_n dX10_isShut_16 rfl rfl ?_
    refine hk_if_ne (tgt := 50) dX10_isShut_17 (by decide) (fun c17 => ?_) (fun c17 => ?_)
    · rw [bI_0] at c17
      refine hk_iconst (v := 1) dX10_isShut_50 (by decide) ?_
      refine hk_goto (tgt := 55) dX10_isShut_51 (by decide) ?_
      refine hk_istore_n dX10_isShut_55 rfl (by decide) rfl ?_
      refine hk_iinc (v := nI (i + 1)) dX10_isShut_56 rfl (nI_1 i) (by decide) rfl ?_
      refine hk_goto (tgt := 5) dX10_isShut_59 (by decide) ?_
      have hlt : i < k := by omega
      have hs2 := lp_misShut hS hS6 hg hC hs u hk hk4 (i + 1) (by omega)
      first
      | (rw [bI_t (P := ∃ j, j < i + 1 ∧ (fun j => ¬ u < m 44 (4 * s + j) ∧ u < m 45 (4 * s + j)) j) (exS.mpr (Or.inl (Classical.not_not.mp c17)))] at hs2; exact hs2)
      | (rw [bI_t (P := ∃ j, j < i + 1 ∧ (fun j => ¬ u < m 44 (4 * s + j) ∧ u < m 45 (4 * s + j)) j) (exS.mpr (Or.inr ⟨c32, Int32.not_le.mp c47⟩))] at hs2; exact hs2)
      | (rw [bI_f (P := ∃ j, j < i + 1 ∧ (fun j => ¬ u < m 44 (4 * s + j) ∧ u < m 45 (4 * s + j)) j) (fun q => (exS.mp q).elim c17 (fun q => q.1 c32))] at hs2; exact hs2)
      | (rw [bI_f (P := ∃ j, j < i + 1 ∧ (fun j => ¬ u < m 44 (4 * s + j) ∧ u < m 45 (4 * s + j)) j) (fun q => (exS.mp q).elim c17 (fun q => absurd c47 (Int32.not_le.mpr q.2)))] at hs2; exact hs2)
    · rw [bI_0] at c17
      refine hk_iload_n dX10_isShut_20 rfl rfl ?_
      refine hk_aload_n dX10_isShut_21 rfl rfl ?_
      refine gfX10_28 rfl dX10_isShut_22 (hk_lt (by decide)) rfl rfl ?_
      refine hk_iconst (v := 4) dX10_isShut_25 (by decide) ?_
      refine hk_iload_n dX10_isShut_26 rfl rfl ?_
      refine hk_imul dX10_isShut_27 ?_
      refine hk_iload dX10_isShut_28 rfl ?_
      refine hk_iadd dX10_isShut_30 ?_
      refine hk_ian dX10_isShut_31 (by decide) (fun _ => rfl) (by rw [show (4 : Int32) = nI 4 from rfl, nI_mul, nI_add]) (by omega) (by decide) ?_
      refine hk_icmp_lt (tgt := 54) dX10_isShut_32 (by decide) (fun c32 => ?_) (fun c32 => ?_)
      · refine hk_iconst (v := 0) dX10_isShut_54 (by decide) ?_
        refine hk_istore_n dX10_isShut_55 rfl (by decide) rfl ?_
        refine hk_iinc (v := nI (i + 1)) dX10_isShut_56 rfl (nI_1 i) (by decide) rfl ?_
        refine hk_goto (tgt := 5) dX10_isShut_59 (by decide) ?_
        have hlt : i < k := by omega
        have hs2 := lp_misShut hS hS6 hg hC hs u hk hk4 (i + 1) (by omega)
        first
        | (rw [bI_t (P := ∃ j, j < i + 1 ∧ (fun j => ¬ u < m 44 (4 * s + j) ∧ u < m 45 (4 * s + j)) j) (exS.mpr (Or.inl (Classical.not_not.mp c17)))] at hs2; exact hs2)
        | (rw [bI_t (P := ∃ j, j < i + 1 ∧ (fun j => ¬ u < m 44 (4 * s + j) ∧ u < m 45 (4 * s + j)) j) (exS.mpr (Or.inr ⟨c32, Int32.not_le.mp c47⟩))] at hs2; exact hs2)
        | (rw [bI_f (P := ∃ j, j < i + 1 ∧ (fun j => ¬ u < m 44 (4 * s + j) ∧ u < m 45 (4 * s + j)) j) (fun q => (exS.mp q).elim c17 (fun q => q.1 c32))] at hs2; exact hs2)
        | (rw [bI_f (P := ∃ j, j < i + 1 ∧ (fun j => ¬ u < m 44 (4 * s + j) ∧ u < m 45 (4 * s + j)) j) (fun q => (exS.mp q).elim c17 (fun q => absurd c47 (Int32.not_le.mpr q.2)))] at hs2; exact hs2)
      · refine hk_iload_n dX10_isShut_35 rfl rfl ?_
        refine hk_aload_n dX10_isShut_36 rfl rfl ?_
        refine gfX10_31 rfl dX10_isShut_37 (hk_lt (by decide)) rfl rfl ?_
        refine hk_iconst (v := 4) dX10_isShut_40 (by decide) ?_
        refine hk_iload_n dX10_isShut_41 rfl rfl ?_
        refine hk_imul dX10_isShut_42 ?_
        refine hk_iload dX10_isShut_43 rfl ?_
        refine hk_iadd dX10_isShut_45 ?_
        refine hk_ian dX10_isShut_46 (by decide) (fun _ => rfl) (by rw [show (4 : Int32) = nI 4 from rfl, nI_mul, nI_add]) (by omega) (by decide) ?_
        refine hk_icmp_ge (tgt := 54) dX10_isShut_47 (by decide) (fun c47 => ?_) (fun c47 => ?_)
        · refine hk_iconst (v := 0) dX10_isShut_54 (by decide) ?_
          refine hk_istore_n dX10_isShut_55 rfl (by decide) rfl ?_
          refine hk_iinc (v := nI (i + 1)) dX10_isShut_56 rfl (nI_1 i) (by decide) rfl ?_
          refine hk_goto (tgt := 5) dX10_isShut_59 (by decide) ?_
          have hlt : i < k := by omega
          have hs2 := lp_misShut hS hS6 hg hC hs u hk hk4 (i + 1) (by omega)
          first
          | (rw [bI_t (P := ∃ j, j < i + 1 ∧ (fun j => ¬ u < m 44 (4 * s + j) ∧ u < m 45 (4 * s + j)) j) (exS.mpr (Or.inl (Classical.not_not.mp c17)))] at hs2; exact hs2)
          | (rw [bI_t (P := ∃ j, j < i + 1 ∧ (fun j => ¬ u < m 44 (4 * s + j) ∧ u < m 45 (4 * s + j)) j) (exS.mpr (Or.inr ⟨c32, Int32.not_le.mp c47⟩))] at hs2; exact hs2)
          | (rw [bI_f (P := ∃ j, j < i + 1 ∧ (fun j => ¬ u < m 44 (4 * s + j) ∧ u < m 45 (4 * s + j)) j) (fun q => (exS.mp q).elim c17 (fun q => q.1 c32))] at hs2; exact hs2)
          | (rw [bI_f (P := ∃ j, j < i + 1 ∧ (fun j => ¬ u < m 44 (4 * s + j) ∧ u < m 45 (4 * s + j)) j) (fun q => (exS.mp q).elim c17 (fun q => absurd c47 (Int32.not_le.mpr q.2)))] at hs2; exact hs2)
        · refine hk_iconst (v := 1) dX10_isShut_50 (by decide) ?_
          refine hk_goto (tgt := 55) dX10_isShut_51 (by decide) ?_
          refine hk_istore_n dX10_isShut_55 rfl (by decide) rfl ?_
          refine hk_iinc (v := nI (i + 1)) dX10_isShut_56 rfl (nI_1 i) (by decide) rfl ?_
          refine hk_goto (tgt := 5) dX10_isShut_59 (by decide) ?_
          have hlt : i < k := by omega
          have hs2 := lp_misShut hS hS6 hg hC hs u hk hk4 (i + 1) (by omega)
          first
          | (rw [bI_t (P := ∃ j, j < i + 1 ∧ (fun j => ¬ u < m 44 (4 * s + j) ∧ u < m 45 (4 * s + j)) j) (exS.mpr (Or.inl (Classical.not_not.mp c17)))] at hs2; exact hs2)
          | (rw [bI_t (P := ∃ j, j < i + 1 ∧ (fun j => ¬ u < m 44 (4 * s + j) ∧ u < m 45 (4 * s + j)) j) (exS.mpr (Or.inr ⟨c32, Int32.not_le.mp c47⟩))] at hs2; exact hs2)
          | (rw [bI_f (P := ∃ j, j < i + 1 ∧ (fun j => ¬ u < m 44 (4 * s + j) ∧ u < m 45 (4 * s + j)) j) (fun q => (exS.mp q).elim c17 (fun q => q.1 c32))] at hs2; exact hs2)
          | (rw [bI_f (P := ∃ j, j < i + 1 ∧ (fun j => ¬ u < m 44 (4 * s + j) ∧ u < m 45 (4 * s + j)) j) (fun q => (exS.mp q).elim c17 (fun q => absurd c47 (Int32.not_le.mpr q.2)))] at hs2; exact hs2)
termination_by k - i
decreasing_by all_goals omega
set_option maxRecDepth 20000 in
set_option maxHeartbeats 2000000 in
theorem md_isShut (hS : m 37 11 = nI nS) (hS6 : nS ≤ 60) (hg : GS m nC nS) (hC : nC ≤ 24) {s : Nat} (hs : s < nS) (u : Int32) : hk_Cd MX10_isShut 0 0 0 [.ref 37, .int (nI s), .int u] (hk_h L m) (some (.int (bI (¬ opn m s u)))) (hk_h L m) := by
  obtain ⟨_, _, _, _, _, _, _, _, k, e1, e2, e3, e4⟩ := GS.g hg u hs hC
  refine hk_ofWP (by decide) (by simp [Value.category]) (Nat.le_of_ble_eq_true rfl) ?_
  show hk_WP _ _ _ _ _ _ _ [some (.ref 37), some (.int (nI s)), some (.int u), none, none] [] _ _
  refine hk_iconst (v := 0) dX10_isShut_0 (by decide) ?_
  refine hk_istore_n dX10_isShut_1 rfl (by decide) rfl ?_
  refine hk_iconst (v := 0) dX10_isShut_2 (by decide) ?_
  refine hk_istore dX10_isShut_3 (by decide) rfl ?_
  have hs2 := lp_misShut (L := L) hS hS6 hg hC hs u e2 e3 0 (Nat.zero_le _)
  rw [bI_f (P := ∃ j, j < 0 ∧ (fun j => ¬ u < m 44 (4 * s + j) ∧ u < m 45 (4 * s + j)) j) (fun ⟨j, hj, _⟩ => absurd hj (Nat.not_lt_zero _))] at hs2
  exact hs2
set_option maxRecDepth 20000 in
set_option maxHeartbeats 2000000 in
theorem md_come {c : Nat} (hc : c < 24) (y b : Int32) : hk_Cd MX10_come 0 0 0 [.ref 37, .int (nI c), .int y, .int b] (hk_h L m) (some (.int (bI (y < m 47 c ∨ (y = m 47 c ∧ b < m 48 c))))) (hk_h L (cI (y < m 47 c ∨ (y = m 47 c ∧ b < m 48 c)) (hk_w (hk_w m 47 c y) 48 c b) m)) := by
  refine hk_ofWP (by decide) (by simp [Value.category]) (Nat.le_of_ble_eq_true rfl) ?_
  show hk_WP _ _ _ _ _ _ _ [some (.ref 37), some (.int (nI c)), some (.int y), some (.int b), none] [] _ _
  refine hk_iload_n dX10_come_0 rfl rfl ?_
  refine hk_aload_n dX10_come_1 rfl rfl ?_
  refine gfX10_37 rfl dX10_come_2 (hk_lt (by decide)) rfl rfl ?_
  refine hk_iload_n dX10_come_5 rfl rfl ?_
  refine hk_ian dX10_come_6 (by decide) (fun _ => rfl) rfl (by omega) (by decide) ?_
  refine hk_icmp_lt (tgt := 30) dX10_come_7 (by decide) (fun c7 => ?_) (fun c7 => ?_)
  · refine hk_iconst (v := 1) dX10_come_30 (by decide) ?_
    refine hk_goto (tgt := 35) dX10_come_31 (by decide) ?_
    refine hk_istore dX10_come_35 (by decide) rfl ?_
    refine hk_iload dX10_come_37 rfl ?_
    refine hk_if_eq (tgt := 56) dX10_come_39 (by decide) (fun c39 => absurd c39 (by decide)) (fun _ => ?_)
    refine hk_aload_n dX10_come_42 rfl rfl ?_
    refine gfX10_37 rfl dX10_come_43 (hk_lt (by decide)) rfl rfl ?_
    refine hk_iload_n dX10_come_46 rfl rfl ?_
    refine hk_iload_n dX10_come_47 rfl rfl ?_
    refine hk_isn dX10_come_48 (by decide) (fun _ => rfl) rfl (by omega) (by decide) ?_
    refine hk_aload_n dX10_come_49 rfl rfl ?_
    refine gfX10_40 rfl dX10_come_50 (hk_lt (by decide)) rfl rfl ?_
    refine hk_iload_n dX10_come_53 rfl rfl ?_
    refine hk_iload_n dX10_come_54 rfl rfl ?_
    refine hk_isn dX10_come_55 (by decide) (fun _ => rfl) rfl (by omega) (by decide) ?_
    refine hk_iload dX10_come_56 rfl ?_
    exact hk_ireturn dX10_come_58 rfl rfl (by decide) (by first | exact ⟨bI_r1 (Or.inl c7), cI_h1 (Or.inl c7)⟩ | exact ⟨bI_r1 (Or.inr ⟨c17, Int32.not_le.mp c27⟩), cI_h1 (Or.inr ⟨c17, Int32.not_le.mp c27⟩)⟩ | exact ⟨bI_r0 (fun q => q.elim c7 (fun q => c17 q.1)), cI_h0 (fun q => q.elim c7 (fun q => c17 q.1))⟩ | exact ⟨bI_r0 (fun q => q.elim c7 (fun q => absurd c27 (Int32.not_le.mpr q.2))), cI_h0 (fun q => q.elim c7 (fun q => absurd c27 (Int32.not_le.mpr q.2)))⟩)
  · refine hk_iload_n dX10_come_10 rfl rfl ?_
    refine hk_aload_n dX10_come_11 rfl rfl ?_
    refine gfX10_37 rfl dX10_come_12 (hk_lt (by decide)) rfl rfl ?_
    refine hk_iload_n dX10_come_15 rfl rfl ?_
    refine hk_ian dX10_come_16 (by decide) (fun _ => rfl) rfl (by omega) (by decide) ?_
    refine hk_icmp_ne (tgt := 34) dX10_come_17 (by decide) (fun c17 => ?_) (fun c17 => ?_)
    · refine hk_iconst (v := 0) dX10_come_34 (by decide) ?_
      refine hk_istore dX10_come_35 (by decide) rfl ?_
      refine hk_iload dX10_come_37 rfl ?_
      refine hk_if_eq (tgt := 56) dX10_come_39 (by decide) (fun _ => ?_) (fun c39 => absurd (by decide) c39)
      refine hk_iload dX10_come_56 rfl ?_
      exact hk_ireturn dX10_come_58 rfl rfl (by decide) (by first | exact ⟨bI_r1 (Or.inl c7), cI_h1 (Or.inl c7)⟩ | exact ⟨bI_r1 (Or.inr ⟨c17, Int32.not_le.mp c27⟩), cI_h1 (Or.inr ⟨c17, Int32.not_le.mp c27⟩)⟩ | exact ⟨bI_r0 (fun q => q.elim c7 (fun q => c17 q.1)), cI_h0 (fun q => q.elim c7 (fun q => c17 q.1))⟩ | exact ⟨bI_r0 (fun q => q.elim c7 (fun q => absurd c27 (Int32.not_le.mpr q.2))), cI_h0 (fun q => q.elim c7 (fun q => absurd c27 (Int32.not_le.mpr q.2)))⟩)
    · refine hk_iload_n dX10_come_20 rfl rfl ?_
      refine hk_aload_n dX10_come_21 rfl rfl ?_
      refine gfX10_40 rfl dX10_come_22 (hk_lt (by decide)) rfl rfl ?_
      refine hk_iload_n dX10_come_25 rfl rfl ?_
      refine hk_ian dX10_come_26 (by decide) (fun _ => rfl) rfl (by omega) (by decide) ?_
      refine hk_icmp_ge (tgt := 34) dX10_come_27 (by decide) (fun c27 => ?_) (fun c27 => ?_)
      · refine hk_iconst (v := 0) dX10_come_34 (by decide) ?_
        refine hk_istore dX10_come_35 (by decide) rfl ?_
        refine hk_iload dX10_come_37 rfl ?_
        refine hk_if_eq (tgt := 56) dX10_come_39 (by decide) (fun _ => ?_) (fun c39 => absurd (by decide) c39)
        refine hk_iload dX10_come_56 rfl ?_
        exact hk_ireturn dX10_come_58 rfl rfl (by decide) (by first | exact ⟨bI_r1 (Or.inl c7), cI_h1 (Or.inl c7)⟩ | exact ⟨bI_r1 (Or.inr ⟨c17, Int32.not_le.mp c27⟩), cI_h1 (Or.inr ⟨c17, Int32.not_le.mp c27⟩)⟩ | exact ⟨bI_r0 (fun q => q.elim c7 (fun q => c17 q.1)), cI_h0 (fun q => q.elim c7 (fun q => c17 q.1))⟩ | exact ⟨bI_r0 (fun q => q.elim c7 (fun q => absurd c27 (Int32.not_le.mpr q.2))), cI_h0 (fun q => q.elim c7 (fun q => absurd c27 (Int32.not_le.mpr q.2)))⟩)
      · refine hk_iconst (v := 1) dX10_come_30 (by decide) ?_
        refine hk_goto (tgt := 35) dX10_come_31 (by decide) ?_
        refine hk_istore dX10_come_35 (by decide) rfl ?_
        refine hk_iload dX10_come_37 rfl ?_
        refine hk_if_eq (tgt := 56) dX10_come_39 (by decide) (fun c39 => absurd c39 (by decide)) (fun _ => ?_)
        refine hk_aload_n dX10_come_42 rfl rfl ?_
        refine gfX10_37 rfl dX10_come_43 (hk_lt (by decide)) rfl rfl ?_
        refine hk_iload_n dX10_come_46 rfl rfl ?_
        refine hk_iload_n dX10_come_47 rfl rfl ?_
        refine hk_isn dX10_come_48 (by decide) (fun _ => rfl) rfl (by omega) (by decide) ?_
        refine hk_aload_n dX10_come_49 rfl rfl ?_
        refine gfX10_40 rfl dX10_come_50 (hk_lt (by decide)) rfl rfl ?_
        refine hk_iload_n dX10_come_53 rfl rfl ?_
        refine hk_iload_n dX10_come_54 rfl rfl ?_
        refine hk_isn dX10_come_55 (by decide) (fun _ => rfl) rfl (by omega) (by decide) ?_
        refine hk_iload dX10_come_56 rfl ?_
        exact hk_ireturn dX10_come_58 rfl rfl (by decide) (by first | exact ⟨bI_r1 (Or.inl c7), cI_h1 (Or.inl c7)⟩ | exact ⟨bI_r1 (Or.inr ⟨c17, Int32.not_le.mp c27⟩), cI_h1 (Or.inr ⟨c17, Int32.not_le.mp c27⟩)⟩ | exact ⟨bI_r0 (fun q => q.elim c7 (fun q => c17 q.1)), cI_h0 (fun q => q.elim c7 (fun q => c17 q.1))⟩ | exact ⟨bI_r0 (fun q => q.elim c7 (fun q => absurd c27 (Int32.not_le.mpr q.2))), cI_h0 (fun q => q.elim c7 (fun q => absurd c27 (Int32.not_le.mpr q.2)))⟩)
/-- the reference's pairs are y and b: attained, or none -/
def RX (m0 : Nat → Nat → Int32) (nC nS : Nat) (u : Int32) (t : Nat) (y b : Nat → Nat) (m1 : Nat → Nat → Int32) : Prop := (∀ a, a ≠ 47 → a ≠ 48 → m1 a = m0 a) ∧ (∀ c, c < nC → m1 47 c = nI (y c) ∧ m1 48 c = nI (b c)) ∧ (y t = 0 ∧ b t = 0) ∧ ∀ c, (y c = 1000000000 ∧ b c = 0) ∨ (y c < 1000000000 ∧ ∃ k, Wp (GG m0 nS u) t k c (y c) (b c))
theorem RX.b {u : Int32} {t : Nat} {y b : Nat → Nat} (h : RX m0 nC nS u t y b m1) (g : GM (GG m0 nS u) nC) (c : Nat) : y c ≤ 1000000000 ∧ b c ≤ y c := by
  rcases h.2.2.2 c with ⟨q1, q2⟩ | ⟨q, k, w⟩
  · omega
  · have := Wp_b g k c _ _ w
    omega
def mz (y b : Nat → Nat) : Nat → Nat := fun c => y c * 10000000000 + b c
theorem sN_le2 {f g : Nat → Nat} : ∀ n, (∀ i, i < n → f i ≤ g i) → sN f n ≤ sN g n
  | 0, _ => Nat.le_refl _
  | n + 1, h => by
    have := sN_le2 n (fun i hi => h i (by omega))
    have h2 := h n (Nat.lt_succ_self n)
    show sN f n + f n ≤ sN g n + g n
    omega
theorem sN_lt2 {f g : Nat → Nat} {a : Nat} : ∀ n, (∀ i, i < n → f i ≤ g i) → a < n → f a < g a → sN f n < sN g n
  | 0, _, h, _ => absurd h (Nat.not_lt_zero _)
  | n + 1, h, ha, hl => by
    show sN f n + f n < sN g n + g n
    have h2 := h n (Nat.lt_succ_self n)
    by_cases e : a = n
    · subst e
      have := sN_le2 a (fun i hi => h i (by omega))
      omega
    · have := sN_lt2 n (fun i hi => h i (by omega)) (by omega : a < n) hl
      omega
theorem rx_come {u : Int32} {t a n s : Nat} {y b : Nat → Nat} (hg : GS m0 nC nS) (hC : nC ≤ 24) (hX : RX m0 nC nS u t y b m1) (e : EG (GG m0 nS u) s a n) (hn : y n < 1000000000) : hk_Ct MX10_come 0 0 0 [.ref 37, .int (nI a), .int (nI (y n) + nI (gY (GG m0 nS u) s)), .int (nI (b n) + nI (gZ (GG m0 nS u) s))] (hk_h L m1) (fun r h => ∃ (f : Prop) (y' b' : Nat → Nat) (m2 : Nat → Nat → Int32), r = some (.int (bI f)) ∧ h = hk_h L m2 ∧ RX m0 nC nS u t y' b' m2 ∧ lx (y' a) (b' a) (y n + gY (GG m0 nS u) s) (b n + gZ (GG m0 nS u) s) ∧ (¬ f → y' = y ∧ b' = b) ∧ (f → sN (mz y' b') nC < sN (mz y b) nC)) := by
  have g := GS.gm hg u hC
  have hs := g.2 s e.1
  have ha : a < nC := by rcases e.2.2 with ⟨q, _⟩ | ⟨_, q⟩ <;> omega
  obtain ⟨h1, h2, h3, h4⟩ := id hX
  have hbn := hX.b g n
  have hba := hX.b g a
  have := md_come (L := L) (m := m1) (show a < 24 by omega) (nI (y n) + nI (gY (GG m0 nS u) s)) (nI (b n) + nI (gZ (GG m0 nS u) s))
  rw [nI_add, nI_add] at this ⊢
  refine hk_imp ?_ this
  rintro r h ⟨rfl, rfl⟩
  have hiff : (nI (y n + gY (GG m0 nS u) s) < m1 47 a ∨ (nI (y n + gY (GG m0 nS u) s) = m1 47 a ∧ nI (b n + gZ (GG m0 nS u) s) < m1 48 a)) ↔ (y n + gY (GG m0 nS u) s < y a ∨ (y n + gY (GG m0 nS u) s = y a ∧ b n + gZ (GG m0 nS u) s < b a)) := by
    rw [(h2 a ha).1, (h2 a ha).2, nI_ltI (by omega) (by omega), nI_eq (by omega) (by omega), nI_ltI (by omega) (by omega)]
  by_cases hl : y n + gY (GG m0 nS u) s < y a ∨ (y n + gY (GG m0 nS u) s = y a ∧ b n + gZ (GG m0 nS u) s < b a)
  · rw [cI_t (hiff.mpr hl)]
    have hya : y n + gY (GG m0 nS u) s < 1000000000 := by
      rcases h4 a with ⟨q1, q2⟩ | ⟨q, _⟩ <;> omega
    refine ⟨_, xu y a (y n + gY (GG m0 nS u) s), xu b a (b n + gZ (GG m0 nS u) s), _, rfl, rfl, ⟨fun c q1 q2 => ?_, fun c hc => ?_, ?_, fun c => ?_⟩, ?_, fun q => absurd (hiff.mpr hl) q, fun _ => ?_⟩
    · rw [hk_wo q2, hk_wo q1]; exact h1 c q1 q2
    · by_cases hca : c = a
      · subst hca
        rw [hk_w_ne (by decide), hk_w_eq, hk_w_eq, xu_e, xu_e]; exact ⟨rfl, rfl⟩
      · rw [hk_w_ne (by decide), hk_w_off hca, hk_w_off hca, hk_w_ne (by decide), xu_n hca, xu_n hca]; exact h2 c hc
    · by_cases hta : t = a
      · subst hta; omega
      · rw [xu_n hta, xu_n hta]; exact h3
    · by_cases hca : c = a
      · subst hca
        rw [xu_e, xu_e]
        right
        refine ⟨hya, ?_⟩
        rcases h4 n with ⟨q1, q2⟩ | ⟨_, k, w⟩
        · omega
        · exact ⟨k + 1, s, n, y n, b n, e, w, rfl, rfl⟩
      · rw [xu_n hca, xu_n hca]; exact h4 c
    · rw [xu_e, xu_e]; exact Or.inr ⟨rfl, Nat.le_refl _⟩
    · have hlt : mz (xu y a (y n + gY (GG m0 nS u) s)) (xu b a (b n + gZ (GG m0 nS u) s)) a < mz y b a := by
        unfold mz
        rw [xu_e, xu_e]
        omega
      refine sN_lt2 nC (fun c hc => ?_) ha hlt
      by_cases hca : c = a
      · subst hca; exact Nat.le_of_lt hlt
      · unfold mz; rw [xu_n hca, xu_n hca]; exact Nat.le_refl _
  · rw [cI_f (fun q => hl (hiff.mp q))]
    refine ⟨_, y, b, _, rfl, rfl, hX, ?_, fun _ => ⟨rfl, rfl⟩, fun q => absurd (hiff.mp q) hl⟩
    unfold lx
    omega
/-- between two streets of a round -/
def FI (m0 : Nat → Nat → Int32) (nC nS : Nat) (u : Int32) (t : Nat) (y0 b0 : Nat → Nat) (s : Nat) (f : Prop) (y b : Nat → Nat) (m1 : Nat → Nat → Int32) : Prop := RX m0 nC nS u t y b m1 ∧ (¬ f → y = y0 ∧ b = b0 ∧ ∀ s', s' < s → ∀ c n, EG (GG m0 nS u) s' c n → y n < 1000000000 → lx (y c) (b c) (y n + gY (GG m0 nS u) s') (b n + gZ (GG m0 nS u) s')) ∧ (f → sN (mz y b) nC < sN (mz y0 b0) nC)
theorem lx_dec {f1 : Prop} {y b y' b' : Nat → Nat} {X : Nat} (h1 : ¬ f1 → y' = y ∧ b' = b) (h2 : f1 → sN (mz y' b') nC < sN (mz y b) nC) (h3 : sN (mz y b) nC ≤ X) : sN (mz y' b') nC ≤ X := by
  by_cases h : f1
  · have := h2 h; omega
  · obtain ⟨rfl, rfl⟩ := h1 h; exact h3
set_option maxRecDepth 20000 in
set_option maxHeartbeats 2000000 in
theorem lq_findFar (hS : m0 37 11 = nI nS) (hS6 : nS ≤ 60) (hg : GS m0 nC nS) (hC : nC ≤ 24) {u : Int32} {t : Nat} {y0 b0 : Nat → Nat} {Q : Option Value → hk_H → Prop} {s : Nat} (hs : s < nS) (hop : opn m0 s u) (ih : ∀ (f : Prop) (y b : Nat → Nat) (m1 : Nat → Nat → Int32), FI m0 nC nS u t y0 b0 (s + 1) f y b m1 → hk_WP MX10_findFar 1 0 0 0 0 51 [some (.ref 37), some (.int (nI t)), some (.int u), some (.int (bI f)), some (.int (nI (s + 1)))] [] (hk_h L m1) Q) (f : Prop) (y b : Nat → Nat) (m1 : Nat → Nat → Int32) (hX : RX m0 nC nS u t y b m1) (hA : ¬ f → y = y0 ∧ b = b0 ∧ (∀ s', s' < s → ∀ c n, EG (GG m0 nS u) s' c n → y n < 1000000000 → lx (y c) (b c) (y n + gY (GG m0 nS u) s') (b n + gZ (GG m0 nS u) s')) ∧ (y (gA (GG m0 nS u) s) < 1000000000 → lx (y (gB (GG m0 nS u) s)) (b (gB (GG m0 nS u) s)) (y (gA (GG m0 nS u) s) + gY (GG m0 nS u) s) (b (gA (GG m0 nS u) s) + gZ (GG m0 nS u) s))) (hA2 : f → sN (mz y b) nC < sN (mz y0 b0) nC) : hk_WP MX10_findFar 1 0 0 0 0 151 [some (.ref 37), some (.int (nI t)), some (.int u), some (.int (bI f)), some (.int (nI s))] [] (hk_h L m1) Q := by
  have g := GS.gm hg u hC
  obtain ⟨w1, w2, w3, w4, w5, _⟩ := GS.g hg u hs hC
  obtain ⟨h1, h2, h3, h4⟩ := id hX
  have k40 : m1 40 s = nI (gA (GG m0 nS u) s) := by rw [h1 40 (by decide) (by decide)]; exact w1
  have k41 : m1 41 s = nI (gB (GG m0 nS u) s) := by rw [h1 41 (by decide) (by decide)]; exact w2
  have k42 : m1 42 s = nI (gY (GG m0 nS u) s) := by rw [h1 42 (by decide) (by decide)]; exact w3
  have k43 : m1 43 s = nI (gZ (GG m0 nS u) s) := by rw [h1 43 (by decide) (by decide)]; exact w4
  have kA := h2 (gA (GG m0 nS u) s) w5.1
  have kB := h2 (gB (GG m0 nS u) s) w5.2.1
  have bA := hX.b g (gA (GG m0 nS u) s)
  have bB := hX.b g (gB (GG m0 nS u) s)
  have eAB : EG (GG m0 nS u) s (gA (GG m0 nS u) s) (gB (GG m0 nS u) s) := ⟨hs, hop, Or.inl ⟨rfl, rfl⟩⟩
  refine hk_aload_n dX10_findFar_151 rfl rfl ?_
  refine gfX10_37 rfl dX10_findFar_152 (hk_lt (by decide)) rfl rfl ?_
  refine hk_aload_n dX10_findFar_155 rfl rfl ?_
  refine gfX10_19 rfl dX10_findFar_156 (hk_lt (by decide)) rfl rfl ?_
  refine hk_iload dX10_findFar_159 rfl ?_
  refine hk_ian dX10_findFar_161 (by decide) (fun _ => rfl) rfl (by omega) (by decide) ?_
  refine hk_ian dX10_findFar_162 (by decide) (fun _ => rfl) k41 (by omega) (by decide) ?_
  rw [kB.1]
  refine hk_ldc dX10_findFar_163 hk_k10_226 ?_
  refine hk_icmp_ge (tgt := 232) dX10_findFar_165 (by decide) (fun c165 => ?_) (fun c165 => ?_)
  · rw [show (1000000000 : Int32) = nI 1000000000 from rfl, nI_leI (by decide) (by omega)] at c165
    refine hk_iinc (v := nI (s + 1)) dX10_findFar_232 rfl (nI_1 s) (by decide) rfl ?_
    refine hk_goto (tgt := 51) dX10_findFar_235 (by decide) ?_
    first
    | (refine (show hk_WP _ _ _ _ _ _ _ [some (.ref 37), some (.int (nI t)), some (.int u), some (.int (bI f)), some (.int (nI (s + 1)))] _ _ _ from ih f y b m1 ⟨hX, fun hf => ?_, hA2⟩)
       obtain ⟨a1, a2, a3, a4⟩ := hA hf
       exact ⟨a1, a2, fun s' hs' c n ec hn => by
         rcases Nat.lt_succ_iff_lt_or_eq.mp hs' with h | h
         · exact a3 s' h c n ec hn
         · subst h
           rcases ec.2.2 with ⟨k1, k2⟩ | ⟨k1, k2⟩
           · subst k1; subst k2; omega
           · subst k1; subst k2; exact a4 hn⟩)
    | (have hq1 : f1 := Classical.not_not.mp (fun q => c219 (bI_f q))
       have hs2 := ih True y1 b1 m2 ⟨hX1, fun hf => absurd trivial hf, fun _ => by
         have hle : sN (mz y b) nC ≤ sN (mz y0 b0) nC := by
           by_cases hf : f
           · exact Nat.le_of_lt (hA2 hf)
           · obtain ⟨rfl, rfl, _⟩ := hA hf; exact Nat.le_refl _
         have := d3 hq1
         omega⟩
       rw [bI_t trivial] at hs2
       exact hs2)
    | (have hq1 : ¬ f1 := fun q => by rw [bI_t q] at c219; revert c219; decide
       have hf : ¬ f := bI_0.mp c223
       obtain ⟨rfl, rfl⟩ := d2 hq1
       obtain ⟨a1, a2, a3, a4⟩ := hA hf
       have hs2 := ih False y1 b1 m2 ⟨hX1, fun _ => ⟨a1, a2, fun s' hs' c n ec hn => by
         rcases Nat.lt_succ_iff_lt_or_eq.mp hs' with h | h
         · exact a3 s' h c n ec hn
         · subst h
           rcases ec.2.2 with ⟨k1, k2⟩ | ⟨k1, k2⟩
           · subst k1; subst k2; exact d1
           · subst k1; subst k2; exact a4 hn⟩, fun q => absurd q (fun q => q)⟩
       rw [bI_f (fun q => q)] at hs2
       exact hs2)
    | (have hq1 : ¬ f1 := fun q => by rw [bI_t q] at c219; revert c219; decide
       have hf : f := Classical.not_not.mp (fun q => c223 (bI_f q))
       obtain ⟨rfl, rfl⟩ := d2 hq1
       have hs2 := ih True y1 b1 m2 ⟨hX1, fun hf => absurd trivial hf, fun _ => hA2 hf⟩
       rw [bI_t trivial] at hs2
       exact hs2)
  · rw [show (1000000000 : Int32) = nI 1000000000 from rfl, nI_leI (by decide) (by omega)] at c165
    refine hk_aload_n dX10_findFar_168 rfl rfl ?_
    refine hk_aload_n dX10_findFar_169 rfl rfl ?_
    refine gfX10_16 rfl dX10_findFar_170 (hk_lt (by decide)) rfl rfl ?_
    refine hk_iload dX10_findFar_173 rfl ?_
    refine hk_ian dX10_findFar_175 (by decide) (fun _ => rfl) rfl (by omega) (by decide) ?_
    rw [k40]
    refine hk_aload_n dX10_findFar_176 rfl rfl ?_
    refine gfX10_37 rfl dX10_findFar_177 (hk_lt (by decide)) rfl rfl ?_
    refine hk_aload_n dX10_findFar_180 rfl rfl ?_
    refine gfX10_19 rfl dX10_findFar_181 (hk_lt (by decide)) rfl rfl ?_
    refine hk_iload dX10_findFar_184 rfl ?_
    refine hk_ian dX10_findFar_186 (by decide) (fun _ => rfl) rfl (by omega) (by decide) ?_
    refine hk_ian dX10_findFar_187 (by decide) (fun _ => rfl) k41 (by omega) (by decide) ?_
    rw [kB.1]
    refine hk_aload_n dX10_findFar_188 rfl rfl ?_
    refine gfX10_22 rfl dX10_findFar_189 (hk_lt (by decide)) rfl rfl ?_
    refine hk_iload dX10_findFar_192 rfl ?_
    refine hk_ian dX10_findFar_194 (by decide) (fun _ => rfl) rfl (by omega) (by decide) ?_
    rw [k42]
    refine hk_iadd dX10_findFar_195 ?_
    refine hk_aload_n dX10_findFar_196 rfl rfl ?_
    refine gfX10_40 rfl dX10_findFar_197 (hk_lt (by decide)) rfl rfl ?_
    refine hk_aload_n dX10_findFar_200 rfl rfl ?_
    refine gfX10_19 rfl dX10_findFar_201 (hk_lt (by decide)) rfl rfl ?_
    refine hk_iload dX10_findFar_204 rfl ?_
    refine hk_ian dX10_findFar_206 (by decide) (fun _ => rfl) rfl (by omega) (by decide) ?_
    refine hk_ian dX10_findFar_207 (by decide) (fun _ => rfl) k41 (by omega) (by decide) ?_
    rw [kB.2]
    refine hk_aload_n dX10_findFar_208 rfl rfl ?_
    refine gfX10_25 rfl dX10_findFar_209 (hk_lt (by decide)) rfl rfl ?_
    refine hk_iload dX10_findFar_212 rfl ?_
    refine hk_ian dX10_findFar_214 (by decide) (fun _ => rfl) rfl (by omega) (by decide) ?_
    rw [k43]
    refine hk_iadd dX10_findFar_215 ?_
    refine ivX10_231 rfl (rx_come hg hC hX eAB (by omega)) dX10_findFar_216 (hk_lt (by decide)) rfl rfl rfl (by decide) ⟨by decide, by decide⟩ (Nat.le_of_ble_eq_true rfl) (fun r h1 hq => ?_)
    obtain ⟨f1, y1, b1, m2, rfl, rfl, hX1, d1, d2, d3⟩ := hq
    refine hk_if_ne (tgt := 226) dX10_findFar_219 (by decide) (fun c219 => ?_) (fun c219 => ?_)
    · refine hk_iconst (v := 1) dX10_findFar_226 (by decide) ?_
      refine hk_goto (tgt := 231) dX10_findFar_227 (by decide) ?_
      refine hk_istore_n dX10_findFar_231 rfl (by decide) rfl ?_
      refine hk_iinc (v := nI (s + 1)) dX10_findFar_232 rfl (nI_1 s) (by decide) rfl ?_
      refine hk_goto (tgt := 51) dX10_findFar_235 (by decide) ?_
      first
      | (refine (show hk_WP _ _ _ _ _ _ _ [some (.ref 37), some (.int (nI t)), some (.int u), some (.int (bI f)), some (.int (nI (s + 1)))] _ _ _ from ih f y b m1 ⟨hX, fun hf => ?_, hA2⟩)
         obtain ⟨a1, a2, a3, a4⟩ := hA hf
         exact ⟨a1, a2, fun s' hs' c n ec hn => by
           rcases Nat.lt_succ_iff_lt_or_eq.mp hs' with h | h
           · exact a3 s' h c n ec hn
           · subst h
             rcases ec.2.2 with ⟨k1, k2⟩ | ⟨k1, k2⟩
             · subst k1; subst k2; omega
             · subst k1; subst k2; exact a4 hn⟩)
      | (have hq1 : f1 := Classical.not_not.mp (fun q => c219 (bI_f q))
         have hs2 := ih True y1 b1 m2 ⟨hX1, fun hf => absurd trivial hf, fun _ => by
           have hle : sN (mz y b) nC ≤ sN (mz y0 b0) nC := by
             by_cases hf : f
             · exact Nat.le_of_lt (hA2 hf)
             · obtain ⟨rfl, rfl, _⟩ := hA hf; exact Nat.le_refl _
           have := d3 hq1
           omega⟩
         rw [bI_t trivial] at hs2
         exact hs2)
      | (have hq1 : ¬ f1 := fun q => by rw [bI_t q] at c219; revert c219; decide
         have hf : ¬ f := bI_0.mp c223
         obtain ⟨rfl, rfl⟩ := d2 hq1
         obtain ⟨a1, a2, a3, a4⟩ := hA hf
         have hs2 := ih False y1 b1 m2 ⟨hX1, fun _ => ⟨a1, a2, fun s' hs' c n ec hn => by
           rcases Nat.lt_succ_iff_lt_or_eq.mp hs' with h | h
           · exact a3 s' h c n ec hn
           · subst h
             rcases ec.2.2 with ⟨k1, k2⟩ | ⟨k1, k2⟩
             · subst k1; subst k2; exact d1
             · subst k1; subst k2; exact a4 hn⟩, fun q => absurd q (fun q => q)⟩
         rw [bI_f (fun q => q)] at hs2
         exact hs2)
      | (have hq1 : ¬ f1 := fun q => by rw [bI_t q] at c219; revert c219; decide
         have hf : f := Classical.not_not.mp (fun q => c223 (bI_f q))
         obtain ⟨rfl, rfl⟩ := d2 hq1
         have hs2 := ih True y1 b1 m2 ⟨hX1, fun hf => absurd trivial hf, fun _ => hA2 hf⟩
         rw [bI_t trivial] at hs2
         exact hs2)
    · refine hk_iload_n dX10_findFar_222 rfl rfl ?_
      refine hk_if_eq (tgt := 230) dX10_findFar_223 (by decide) (fun c223 => ?_) (fun c223 => ?_)
      · refine hk_iconst (v := 0) dX10_findFar_230 (by decide) ?_
        refine hk_istore_n dX10_findFar_231 rfl (by decide) rfl ?_
        refine hk_iinc (v := nI (s + 1)) dX10_findFar_232 rfl (nI_1 s) (by decide) rfl ?_
        refine hk_goto (tgt := 51) dX10_findFar_235 (by decide) ?_
        first
        | (refine (show hk_WP _ _ _ _ _ _ _ [some (.ref 37), some (.int (nI t)), some (.int u), some (.int (bI f)), some (.int (nI (s + 1)))] _ _ _ from ih f y b m1 ⟨hX, fun hf => ?_, hA2⟩)
           obtain ⟨a1, a2, a3, a4⟩ := hA hf
           exact ⟨a1, a2, fun s' hs' c n ec hn => by
             rcases Nat.lt_succ_iff_lt_or_eq.mp hs' with h | h
             · exact a3 s' h c n ec hn
             · subst h
               rcases ec.2.2 with ⟨k1, k2⟩ | ⟨k1, k2⟩
               · subst k1; subst k2; omega
               · subst k1; subst k2; exact a4 hn⟩)
        | (have hq1 : f1 := Classical.not_not.mp (fun q => c219 (bI_f q))
           have hs2 := ih True y1 b1 m2 ⟨hX1, fun hf => absurd trivial hf, fun _ => by
             have hle : sN (mz y b) nC ≤ sN (mz y0 b0) nC := by
               by_cases hf : f
               · exact Nat.le_of_lt (hA2 hf)
               · obtain ⟨rfl, rfl, _⟩ := hA hf; exact Nat.le_refl _
             have := d3 hq1
             omega⟩
           rw [bI_t trivial] at hs2
           exact hs2)
        | (have hq1 : ¬ f1 := fun q => by rw [bI_t q] at c219; revert c219; decide
           have hf : ¬ f := bI_0.mp c223
           obtain ⟨rfl, rfl⟩ := d2 hq1
           obtain ⟨a1, a2, a3, a4⟩ := hA hf
           have hs2 := ih False y1 b1 m2 ⟨hX1, fun _ => ⟨a1, a2, fun s' hs' c n ec hn => by
             rcases Nat.lt_succ_iff_lt_or_eq.mp hs' with h | h
             · exact a3 s' h c n ec hn
             · subst h
               rcases ec.2.2 with ⟨k1, k2⟩ | ⟨k1, k2⟩
               · subst k1; subst k2; exact d1
               · subst k1; subst k2; exact a4 hn⟩, fun q => absurd q (fun q => q)⟩
           rw [bI_f (fun q => q)] at hs2
           exact hs2)
        | (have hq1 : ¬ f1 := fun q => by rw [bI_t q] at c219; revert c219; decide
           have hf : f := Classical.not_not.mp (fun q => c223 (bI_f q))
           obtain ⟨rfl, rfl⟩ := d2 hq1
           have hs2 := ih True y1 b1 m2 ⟨hX1, fun hf => absurd trivial hf, fun _ => hA2 hf⟩
           rw [bI_t trivial] at hs2
           exact hs2)
      · refine hk_iconst (v := 1) dX10_findFar_226 (by decide) ?_
        refine hk_goto (tgt := 231) dX10_findFar_227 (by decide) ?_
        refine hk_istore_n dX10_findFar_231 rfl (by decide) rfl ?_
        refine hk_iinc (v := nI (s + 1)) dX10_findFar_232 rfl (nI_1 s) (by decide) rfl ?_
        refine hk_goto (tgt := 51) dX10_findFar_235 (by decide) ?_
        first
        | (refine (show hk_WP _ _ _ _ _ _ _ [some (.ref 37), some (.int (nI t)), some (.int u), some (.int (bI f)), some (.int (nI (s + 1)))] _ _ _ from ih f y b m1 ⟨hX, fun hf => ?_, hA2⟩)
           obtain ⟨a1, a2, a3, a4⟩ := hA hf
           exact ⟨a1, a2, fun s' hs' c n ec hn => by
             rcases Nat.lt_succ_iff_lt_or_eq.mp hs' with h | h
             · exact a3 s' h c n ec hn
             · subst h
               rcases ec.2.2 with ⟨k1, k2⟩ | ⟨k1, k2⟩
               · subst k1; subst k2; omega
               · subst k1; subst k2; exact a4 hn⟩)
        | (have hq1 : f1 := Classical.not_not.mp (fun q => c219 (bI_f q))
           have hs2 := ih True y1 b1 m2 ⟨hX1, fun hf => absurd trivial hf, fun _ => by
             have hle : sN (mz y b) nC ≤ sN (mz y0 b0) nC := by
               by_cases hf : f
               · exact Nat.le_of_lt (hA2 hf)
               · obtain ⟨rfl, rfl, _⟩ := hA hf; exact Nat.le_refl _
             have := d3 hq1
             omega⟩
           rw [bI_t trivial] at hs2
           exact hs2)
        | (have hq1 : ¬ f1 := fun q => by rw [bI_t q] at c219; revert c219; decide
           have hf : ¬ f := bI_0.mp c223
           obtain ⟨rfl, rfl⟩ := d2 hq1
           obtain ⟨a1, a2, a3, a4⟩ := hA hf
           have hs2 := ih False y1 b1 m2 ⟨hX1, fun _ => ⟨a1, a2, fun s' hs' c n ec hn => by
             rcases Nat.lt_succ_iff_lt_or_eq.mp hs' with h | h
             · exact a3 s' h c n ec hn
             · subst h
               rcases ec.2.2 with ⟨k1, k2⟩ | ⟨k1, k2⟩
               · subst k1; subst k2; exact d1
               · subst k1; subst k2; exact a4 hn⟩, fun q => absurd q (fun q => q)⟩
           rw [bI_f (fun q => q)] at hs2
           exact hs2)
        | (have hq1 : ¬ f1 := fun q => by rw [bI_t q] at c219; revert c219; decide
           have hf : f := Classical.not_not.mp (fun q => c223 (bI_f q))
           obtain ⟨rfl, rfl⟩ := d2 hq1
           have hs2 := ih True y1 b1 m2 ⟨hX1, fun hf => absurd trivial hf, fun _ => hA2 hf⟩
           rw [bI_t trivial] at hs2
           exact hs2)
set_option maxRecDepth 20000 in
set_option maxHeartbeats 2000000 in
theorem lp_findFar1 (hS : m0 37 11 = nI nS) (hS6 : nS ≤ 60) (hg : GS m0 nC nS) (hC : nC ≤ 24) {u : Int32} {t : Nat} {y0 b0 : Nat → Nat} {Q : Option Value → hk_H → Prop} (kk : ∀ (f : Prop) (y b : Nat → Nat) (m1 : Nat → Nat → Int32) (l4 : Option Value), FI m0 nC nS u t y0 b0 nS f y b m1 → hk_WP MX10_findFar 1 0 0 0 0 42 [some (.ref 37), some (.int (nI t)), some (.int u), some (.int (bI f)), l4] [] (hk_h L m1) Q) (s : Nat) (hs0 : s ≤ nS) : ∀ (f : Prop) (y b : Nat → Nat) (m1 : Nat → Nat → Int32), FI m0 nC nS u t y0 b0 s f y b m1 → hk_WP MX10_findFar 1 0 0 0 0 51 [some (.ref 37), some (.int (nI t)), some (.int u), some (.int (bI f)), some (.int (nI s))] [] (hk_h L m1) Q := by
  intro f y b m1 hI
  obtain ⟨hX, hI2, hI3⟩ := id hI
  have e11 : m1 37 11 = nI nS := by rw [hX.1 37 (by decide) (by decide)]; exact hS
  have hg1 : GS m1 nC nS := by
    unfold GS
    rw [hX.1 3 (by decide) (by decide), hX.1 40 (by decide) (by decide), hX.1 41 (by decide) (by decide), hX.1 42 (by decide) (by decide), hX.1 43 (by decide) (by decide), hX.1 44 (by decide) (by decide), hX.1 45 (by decide) (by decide), hX.1 46 (by decide) (by decide)]
    exact hg
  have hop1 : opn m1 = opn m0 := by
    unfold opn
    rw [hX.1 44 (by decide) (by decide), hX.1 45 (by decide) (by decide), hX.1 46 (by decide) (by decide)]
  refine hk_iload dX10_findFar_51 rfl ?_
  refine hk_aload_n dX10_findFar_53 rfl rfl ?_
  refine gfX10_216 rfl dX10_findFar_54 (hk_lt (by decide)) rfl rfl ?_
  refine hk_icmp_ge (tgt := 238) dX10_findFar_57 (by decide) (fun c57 => ?_) (fun c57 => ?_)
  · rw [e11, nI_leI (by omega) (by omega)] at c57
    have hsn : s = nS := by omega
    subst hsn
    refine hk_goto (tgt := 42) dX10_findFar_238 (by decide) ?_
    exact kk f y b m1 _ hI
  · rw [e11, nI_leI (by omega) (by omega)] at c57
    have hs : s < nS := by omega
    refine hk_aload_n dX10_findFar_60 rfl rfl ?_
    refine hk_iload dX10_findFar_61 rfl ?_
    refine hk_iload_n dX10_findFar_63 rfl rfl ?_
    refine ivX10_227 rfl (md_isShut e11 hS6 hg1 hC hs u) dX10_findFar_64 (hk_lt (by decide)) rfl rfl rfl (by decide) ⟨by decide, by decide⟩ (Nat.le_of_ble_eq_true rfl) (hk_kd ?_)
    rw [hop1]
    refine hk_if_ne (tgt := 232) dX10_findFar_67 (by decide) (fun c67 => ?_) (fun c67 => ?_)
    · rw [bI_0] at c67
      refine hk_iinc (v := nI (s + 1)) dX10_findFar_232 rfl (nI_1 s) (by decide) rfl ?_
      refine hk_goto (tgt := 51) dX10_findFar_235 (by decide) ?_
      have ihs : s + 1 ≤ nS := hs
      refine lp_findFar1 hS hS6 hg hC kk (s + 1) ihs f y b m1 ⟨hX, fun hf => ?_, hI3⟩
      obtain ⟨a1, a2, a3⟩ := hI2 hf
      refine ⟨a1, a2, fun s' hs' c n ec hn => ?_⟩
      rcases Nat.lt_succ_iff_lt_or_eq.mp hs' with h | h
      · exact a3 s' h c n ec hn
      · subst h; exact absurd ec.2.1 (fun q => c67 (fun w => w q))
    · rw [bI_0] at c67
      have hop : opn m0 s u := Classical.byContradiction (fun q => by first | exact c67 q | exact absurd c67 (bI_0.not.mpr (fun w => w q)))
      have g := GS.gm hg u hC
      obtain ⟨w1, w2, w3, w4, w5, _⟩ := GS.g hg u hs hC
      obtain ⟨h1, h2, h3, h4⟩ := id hX
      have k40 : m1 40 s = nI (gA (GG m0 nS u) s) := by rw [h1 40 (by decide) (by decide)]; exact w1
      have k41 : m1 41 s = nI (gB (GG m0 nS u) s) := by rw [h1 41 (by decide) (by decide)]; exact w2
      have k42 : m1 42 s = nI (gY (GG m0 nS u) s) := by rw [h1 42 (by decide) (by decide)]; exact w3
      have k43 : m1 43 s = nI (gZ (GG m0 nS u) s) := by rw [h1 43 (by decide) (by decide)]; exact w4
      have kA := h2 (gA (GG m0 nS u) s) w5.1
      have kB := h2 (gB (GG m0 nS u) s) w5.2.1
      have bA := hX.b g (gA (GG m0 nS u) s)
      have bB := hX.b g (gB (GG m0 nS u) s)
      have eAB : EG (GG m0 nS u) s (gA (GG m0 nS u) s) (gB (GG m0 nS u) s) := ⟨hs, hop, Or.inl ⟨rfl, rfl⟩⟩
      refine hk_aload_n dX10_findFar_70 rfl rfl ?_
      refine gfX10_37 rfl dX10_findFar_71 (hk_lt (by decide)) rfl rfl ?_
      refine hk_aload_n dX10_findFar_74 rfl rfl ?_
      refine gfX10_16 rfl dX10_findFar_75 (hk_lt (by decide)) rfl rfl ?_
      refine hk_iload dX10_findFar_78 rfl ?_
      refine hk_ian dX10_findFar_80 (by decide) (fun _ => rfl) rfl (by omega) (by decide) ?_
      refine hk_ian dX10_findFar_81 (by decide) (fun _ => rfl) k40 (by omega) (by decide) ?_
      rw [kA.1]
      refine hk_ldc dX10_findFar_82 hk_k10_226 ?_
      refine hk_icmp_ge (tgt := 151) dX10_findFar_84 (by decide) (fun c84 => ?_) (fun c84 => ?_)
      · rw [show (1000000000 : Int32) = nI 1000000000 from rfl, nI_leI (by decide) (by omega)] at c84
        have ihs : s + 1 ≤ nS := hs
        have ih := lp_findFar1 hS hS6 hg hC kk (s + 1) ihs
        first
        | (refine lq_findFar hS hS6 hg hC hs hop ih f y b m1 hX (fun hf => ?_) hI3
           obtain ⟨a1, a2, a3⟩ := hI2 hf
           exact ⟨a1, a2, a3, fun hn => by omega⟩)
        | (have hq1 : f1 := Classical.not_not.mp (fun q => c138 (bI_f q))
           have hs2 := lq_findFar hS hS6 hg hC hs hop ih True y1 b1 m2 hX1 (fun hf => absurd trivial hf) (fun _ => by
             have hle : sN (mz y b) nC ≤ sN (mz y0 b0) nC := by
               by_cases hf : f
               · exact Nat.le_of_lt (hI3 hf)
               · obtain ⟨rfl, rfl, _⟩ := hI2 hf; exact Nat.le_refl _
             have := d3 hq1
             omega)
           rw [bI_t trivial] at hs2
           exact hs2)
        | (have hq1 : ¬ f1 := fun q => by rw [bI_t q] at c138; revert c138; decide
           have hf : ¬ f := bI_0.mp c142
           obtain ⟨rfl, rfl⟩ := d2 hq1
           obtain ⟨a1, a2, a3⟩ := hI2 hf
           have hs2 := lq_findFar hS hS6 hg hC hs hop ih False y1 b1 m2 hX1 (fun _ => ⟨a1, a2, a3, fun _ => d1⟩) (fun q => absurd q (fun q => q))
           rw [bI_f (fun q => q)] at hs2
           exact hs2)
        | (have hq1 : ¬ f1 := fun q => by rw [bI_t q] at c138; revert c138; decide
           have hf : f := Classical.not_not.mp (fun q => c142 (bI_f q))
           obtain ⟨rfl, rfl⟩ := d2 hq1
           have hs2 := lq_findFar hS hS6 hg hC hs hop ih True y1 b1 m2 hX1 (fun hf => absurd trivial hf) (fun _ => hI3 hf)
           rw [bI_t trivial] at hs2
           exact hs2)
      · rw [show (1000000000 : Int32) = nI 1000000000 from rfl, nI_leI (by decide) (by omega)] at c84
        refine hk_aload_n dX10_findFar_87 rfl rfl ?_
        refine hk_aload_n dX10_findFar_88 rfl rfl ?_
        refine gfX10_19 rfl dX10_findFar_89 (hk_lt (by decide)) rfl rfl ?_
        refine hk_iload dX10_findFar_92 rfl ?_
        refine hk_ian dX10_findFar_94 (by decide) (fun _ => rfl) rfl (by omega) (by decide) ?_
        rw [k41]
        refine hk_aload_n dX10_findFar_95 rfl rfl ?_
        refine gfX10_37 rfl dX10_findFar_96 (hk_lt (by decide)) rfl rfl ?_
        refine hk_aload_n dX10_findFar_99 rfl rfl ?_
        refine gfX10_16 rfl dX10_findFar_100 (hk_lt (by decide)) rfl rfl ?_
        refine hk_iload dX10_findFar_103 rfl ?_
        refine hk_ian dX10_findFar_105 (by decide) (fun _ => rfl) rfl (by omega) (by decide) ?_
        refine hk_ian dX10_findFar_106 (by decide) (fun _ => rfl) k40 (by omega) (by decide) ?_
        rw [kA.1]
        refine hk_aload_n dX10_findFar_107 rfl rfl ?_
        refine gfX10_22 rfl dX10_findFar_108 (hk_lt (by decide)) rfl rfl ?_
        refine hk_iload dX10_findFar_111 rfl ?_
        refine hk_ian dX10_findFar_113 (by decide) (fun _ => rfl) rfl (by omega) (by decide) ?_
        rw [k42]
        refine hk_iadd dX10_findFar_114 ?_
        refine hk_aload_n dX10_findFar_115 rfl rfl ?_
        refine gfX10_40 rfl dX10_findFar_116 (hk_lt (by decide)) rfl rfl ?_
        refine hk_aload_n dX10_findFar_119 rfl rfl ?_
        refine gfX10_16 rfl dX10_findFar_120 (hk_lt (by decide)) rfl rfl ?_
        refine hk_iload dX10_findFar_123 rfl ?_
        refine hk_ian dX10_findFar_125 (by decide) (fun _ => rfl) rfl (by omega) (by decide) ?_
        refine hk_ian dX10_findFar_126 (by decide) (fun _ => rfl) k40 (by omega) (by decide) ?_
        rw [kA.2]
        refine hk_aload_n dX10_findFar_127 rfl rfl ?_
        refine gfX10_25 rfl dX10_findFar_128 (hk_lt (by decide)) rfl rfl ?_
        refine hk_iload dX10_findFar_131 rfl ?_
        refine hk_ian dX10_findFar_133 (by decide) (fun _ => rfl) rfl (by omega) (by decide) ?_
        rw [k43]
        refine hk_iadd dX10_findFar_134 ?_
        refine ivX10_231 rfl (rx_come hg hC hX eAB.sym (by omega)) dX10_findFar_135 (hk_lt (by decide)) rfl rfl rfl (by decide) ⟨by decide, by decide⟩ (Nat.le_of_ble_eq_true rfl) (fun r h1 hq => ?_)
        obtain ⟨f1, y1, b1, m2, rfl, rfl, hX1, d1, d2, d3⟩ := hq
        refine hk_if_ne (tgt := 145) dX10_findFar_138 (by decide) (fun c138 => ?_) (fun c138 => ?_)
        · refine hk_iconst (v := 1) dX10_findFar_145 (by decide) ?_
          refine hk_goto (tgt := 150) dX10_findFar_146 (by decide) ?_
          refine hk_istore_n dX10_findFar_150 rfl (by decide) rfl ?_
          have ihs : s + 1 ≤ nS := hs
          have ih := lp_findFar1 hS hS6 hg hC kk (s + 1) ihs
          first
          | (refine lq_findFar hS hS6 hg hC hs hop ih f y b m1 hX (fun hf => ?_) hI3
             obtain ⟨a1, a2, a3⟩ := hI2 hf
             exact ⟨a1, a2, a3, fun hn => by omega⟩)
          | (have hq1 : f1 := Classical.not_not.mp (fun q => c138 (bI_f q))
             have hs2 := lq_findFar hS hS6 hg hC hs hop ih True y1 b1 m2 hX1 (fun hf => absurd trivial hf) (fun _ => by
               have hle : sN (mz y b) nC ≤ sN (mz y0 b0) nC := by
                 by_cases hf : f
                 · exact Nat.le_of_lt (hI3 hf)
                 · obtain ⟨rfl, rfl, _⟩ := hI2 hf; exact Nat.le_refl _
               have := d3 hq1
               omega)
             rw [bI_t trivial] at hs2
             exact hs2)
          | (have hq1 : ¬ f1 := fun q => by rw [bI_t q] at c138; revert c138; decide
             have hf : ¬ f := bI_0.mp c142
             obtain ⟨rfl, rfl⟩ := d2 hq1
             obtain ⟨a1, a2, a3⟩ := hI2 hf
             have hs2 := lq_findFar hS hS6 hg hC hs hop ih False y1 b1 m2 hX1 (fun _ => ⟨a1, a2, a3, fun _ => d1⟩) (fun q => absurd q (fun q => q))
             rw [bI_f (fun q => q)] at hs2
             exact hs2)
          | (have hq1 : ¬ f1 := fun q => by rw [bI_t q] at c138; revert c138; decide
             have hf : f := Classical.not_not.mp (fun q => c142 (bI_f q))
             obtain ⟨rfl, rfl⟩ := d2 hq1
             have hs2 := lq_findFar hS hS6 hg hC hs hop ih True y1 b1 m2 hX1 (fun hf => absurd trivial hf) (fun _ => hI3 hf)
             rw [bI_t trivial] at hs2
             exact hs2)
        · refine hk_iload_n dX10_findFar_141 rfl rfl ?_
          refine hk_if_eq (tgt := 149) dX10_findFar_142 (by decide) (fun c142 => ?_) (fun c142 => ?_)
          · refine hk_iconst (v := 0) dX10_findFar_149 (by decide) ?_
            refine hk_istore_n dX10_findFar_150 rfl (by decide) rfl ?_
            have ihs : s + 1 ≤ nS := hs
            have ih := lp_findFar1 hS hS6 hg hC kk (s + 1) ihs
            first
            | (refine lq_findFar hS hS6 hg hC hs hop ih f y b m1 hX (fun hf => ?_) hI3
               obtain ⟨a1, a2, a3⟩ := hI2 hf
               exact ⟨a1, a2, a3, fun hn => by omega⟩)
            | (have hq1 : f1 := Classical.not_not.mp (fun q => c138 (bI_f q))
               have hs2 := lq_findFar hS hS6 hg hC hs hop ih True y1 b1 m2 hX1 (fun hf => absurd trivial hf) (fun _ => by
                 have hle : sN (mz y b) nC ≤ sN (mz y0 b0) nC := by
                   by_cases hf : f
                   · exact Nat.le_of_lt (hI3 hf)
                   · obtain ⟨rfl, rfl, _⟩ := hI2 hf; exact Nat.le_refl _
                 have := d3 hq1
                 omega)
               rw [bI_t trivial] at hs2
               exact hs2)
            | (have hq1 : ¬ f1 := fun q => by rw [bI_t q] at c138; revert c138; decide
               have hf : ¬ f := bI_0.mp c142
               obtain ⟨rfl, rfl⟩ := d2 hq1
               obtain ⟨a1, a2, a3⟩ := hI2 hf
               have hs2 := lq_findFar hS hS6 hg hC hs hop ih False y1 b1 m2 hX1 (fun _ => ⟨a1, a2, a3, fun _ => d1⟩) (fun q => absurd q (fun q => q))
               rw [bI_f (fun q => q)] at hs2
               exact hs2)
            | (have hq1 : ¬ f1 := fun q => by rw [bI_t q] at c138; revert c138; decide
               have hf : f := Classical.not_not.mp (fun q => c142 (bI_f q))
               obtain ⟨rfl, rfl⟩ := d2 hq1
               have hs2 := lq_findFar hS hS6 hg hC hs hop ih True y1 b1 m2 hX1 (fun hf => absurd trivial hf) (fun _ => hI3 hf)
               rw [bI_t trivial] at hs2
               exact hs2)
          · refine hk_iconst (v := 1) dX10_findFar_145 (by decide) ?_
            refine hk_goto (tgt := 150) dX10_findFar_146 (by decide) ?_
            refine hk_istore_n dX10_findFar_150 rfl (by decide) rfl ?_
            have ihs : s + 1 ≤ nS := hs
            have ih := lp_findFar1 hS hS6 hg hC kk (s + 1) ihs
            first
            | (refine lq_findFar hS hS6 hg hC hs hop ih f y b m1 hX (fun hf => ?_) hI3
               obtain ⟨a1, a2, a3⟩ := hI2 hf
               exact ⟨a1, a2, a3, fun hn => by omega⟩)
            | (have hq1 : f1 := Classical.not_not.mp (fun q => c138 (bI_f q))
               have hs2 := lq_findFar hS hS6 hg hC hs hop ih True y1 b1 m2 hX1 (fun hf => absurd trivial hf) (fun _ => by
                 have hle : sN (mz y b) nC ≤ sN (mz y0 b0) nC := by
                   by_cases hf : f
                   · exact Nat.le_of_lt (hI3 hf)
                   · obtain ⟨rfl, rfl, _⟩ := hI2 hf; exact Nat.le_refl _
                 have := d3 hq1
                 omega)
               rw [bI_t trivial] at hs2
               exact hs2)
            | (have hq1 : ¬ f1 := fun q => by rw [bI_t q] at c138; revert c138; decide
               have hf : ¬ f := bI_0.mp c142
               obtain ⟨rfl, rfl⟩ := d2 hq1
               obtain ⟨a1, a2, a3⟩ := hI2 hf
               have hs2 := lq_findFar hS hS6 hg hC hs hop ih False y1 b1 m2 hX1 (fun _ => ⟨a1, a2, a3, fun _ => d1⟩) (fun q => absurd q (fun q => q))
               rw [bI_f (fun q => q)] at hs2
               exact hs2)
            | (have hq1 : ¬ f1 := fun q => by rw [bI_t q] at c138; revert c138; decide
               have hf : f := Classical.not_not.mp (fun q => c142 (bI_f q))
               obtain ⟨rfl, rfl⟩ := d2 hq1
               have hs2 := lq_findFar hS hS6 hg hC hs hop ih True y1 b1 m2 hX1 (fun hf => absurd trivial hf) (fun _ => hI3 hf)
               rw [bI_t trivial] at hs2
               exact hs2)
termination_by nS - s
decreasing_by all_goals omega
/-- the reference's pairs are the least ones -/
def FX (m0 : Nat → Nat → Int32) (nC nS : Nat) (u : Int32) (t : Nat) (m2 : Nat → Nat → Int32) : Prop := (∀ a, a ≠ 47 → a ≠ 48 → m2 a = m0 a) ∧ ∀ c, c < nC → (RC (GG m0 nS u) t c → m2 47 c = nI (DD (GG m0 nS u) t c / 100) ∧ m2 48 c = nI (DD (GG m0 nS u) t c % 100)) ∧ (¬ RC (GG m0 nS u) t c → m2 47 c = nI 1000000000)
theorem FX_of {u : Int32} {t : Nat} {y b : Nat → Nat} (hg : GS m0 nC nS) (hC : nC ≤ 24) (hX : RX m0 nC nS u t y b m1) (he : ∀ s c n, EG (GG m0 nS u) s c n → y n < 1000000000 → lx (y c) (b c) (y n + gY (GG m0 nS u) s) (b n + gZ (GG m0 nS u) s)) : FX m0 nC nS u t m1 := by
  have g := GS.gm hg u hC
  have hf := fixR g hX.2.2.1 (fun c => by
    rcases hX.2.2.2 c with q | q
    · exact Or.inl q.1
    · exact Or.inr q) he
  refine ⟨hX.1, fun c hc => ⟨fun h => ?_, fun h => ?_⟩⟩
  · obtain ⟨h1, h2, h3⟩ := (hf c).1 h
    rw [(hX.2.1 c hc).1, (hX.2.1 c hc).2, h2]
    exact ⟨by congr 1; omega, by congr 1; omega⟩
  · rw [(hX.2.1 c hc).1, (hf c).2 h]
theorem lp_findFar {u : Int32} {t : Nat} (hS : m0 37 11 = nI nS) (hS6 : nS ≤ 60) (hg : GS m0 nC nS) (hC : nC ≤ 24) : ∀ (d : Nat) (y b : Nat → Nat) (f : Prop) (m1 : Nat → Nat → Int32) (l4 : Option Value), sN (mz y b) nC = d → RX m0 nC nS u t y b m1 → (¬ f → ∀ s c n, EG (GG m0 nS u) s c n → y n < 1000000000 → lx (y c) (b c) (y n + gY (GG m0 nS u) s) (b n + gZ (GG m0 nS u) s)) → hk_WP MX10_findFar 1 0 0 0 0 42 [some (.ref 37), some (.int (nI t)), some (.int u), some (.int (bI f)), l4] [] (hk_h L m1) (fun r h => ∃ m2, r = none ∧ h = hk_h L m2 ∧ FX m0 nC nS u t m2) := by
  intro d
  induction d using Nat.strongRecOn with
  | ind d ih =>
    intro y b f m1 l4 hd hX hfix
    refine hk_iload_n dX10_findFar_42 rfl rfl ?_
    refine hk_if_eq (tgt := 241) dX10_findFar_43 (by decide) (fun c43 => ?_) (fun c43 => ?_)
    · rw [bI_0] at c43
      exact hk_return dX10_findFar_241 rfl (by decide) ⟨m1, rfl, rfl, FX_of hg hC hX (hfix c43)⟩
    · refine hk_iconst (v := 0) dX10_findFar_46 (by decide) ?_
      refine hk_istore_n dX10_findFar_47 rfl (by decide) rfl ?_
      refine hk_iconst (v := 0) dX10_findFar_48 (by decide) ?_
      refine hk_istore dX10_findFar_49 (by decide) rfl ?_
      have hs := lp_findFar1 (L := L) (u := u) (t := t) (y0 := y) (b0 := b) (Q := (fun r h => ∃ m2, r = none ∧ h = hk_h L m2 ∧ FX m0 nC nS u t m2)) hS hS6 hg hC (fun f' y' b' m' l4' hI => ?_) 0 (Nat.zero_le _) False y b m1 ⟨hX, fun _ => ⟨rfl, rfl, fun s' hs' => absurd hs' (Nat.not_lt_zero _)⟩, fun q => absurd q (fun q => q)⟩
      rotate_left
      · by_cases hf : f'
        · exact ih _ (by rw [← hd]; exact hI.2.2 hf) y' b' f' m' l4' rfl hI.1 (fun q => absurd hf q)
        · obtain ⟨rfl, rfl, h3⟩ := hI.2.1 hf
          have hret : hk_WP MX10_findFar 1 0 0 0 0 42 [some (.ref 37), some (.int (nI t)), some (.int u), some (.int (bI f')), l4'] [] (hk_h L m') (fun r h => ∃ m2, r = none ∧ h = hk_h L m2 ∧ FX m0 nC nS u t m2) := by
            refine hk_iload_n dX10_findFar_42 rfl rfl ?_
            refine hk_if_eq (tgt := 241) dX10_findFar_43 (by decide) (fun _ => ?_) (fun q => absurd (bI_f hf) q)
            exact hk_return dX10_findFar_241 rfl (by decide) ⟨m', rfl, rfl, FX_of hg hC hI.1 (fun s c n e => h3 s (by have := e.1; have h9 : gN (GG m0 nS u) = nS := rfl; omega) c n e)⟩
          exact hret
      rw [bI_f (fun q => q)] at hs
      exact hs
set_option maxRecDepth 20000 in
set_option maxHeartbeats 2000000 in
theorem lp_findFar0 {u : Int32} {t : Nat} (hS : m0 37 11 = nI nS) (hS6 : nS ≤ 60) (hg : GS m0 nC nS) (hC : nC ≤ 24) (hn : m0 37 3 = nI nC) (ht : t < nC) (c : Nat) (hc : c ≤ nC) (m1 : Nat → Nat → Int32) (hI : (∀ a, a ≠ 47 → a ≠ 48 → m1 a = m0 a) ∧ ∀ c', c' < c → m1 47 c' = nI (if c' = t then 0 else 1000000000) ∧ m1 48 c' = nI 0) (l4 : Option Value) : hk_WP MX10_findFar 1 0 0 0 0 2 [some (.ref 37), some (.int (nI t)), some (.int u), some (.int (nI c)), l4] [] (hk_h L m1) (fun r h => ∃ m2, r = none ∧ h = hk_h L m2 ∧ FX m0 nC nS u t m2) := by
  have e3 : m1 37 3 = nI nC := by rw [hI.1 37 (by decide) (by decide)]; exact hn
  refine hk_iload_n dX10_findFar_2 rfl rfl ?_
  refine hk_aload_n dX10_findFar_3 rfl rfl ?_
  refine gfX10_198 rfl dX10_findFar_4 (hk_lt (by decide)) rfl rfl ?_
  refine hk_icmp_ge (tgt := 40) dX10_findFar_7 (by decide) (fun c7 => ?_) (fun c7 => ?_)
  · rw [e3, nI_leI (by omega) (by omega)] at c7
    refine hk_iconst (v := 1) dX10_findFar_40 (by decide) ?_
    refine hk_istore_n dX10_findFar_41 rfl (by decide) rfl ?_
    have hcn : c = nC := by omega
    have hs := lp_findFar (L := L) (u := u) (t := t) hS hS6 hg hC _ (fun c => if c < nC ∧ c = t then 0 else 1000000000) (fun _ => 0) True m1 l4 rfl ⟨hI.1, fun c' hc' => ?_, ⟨if_pos ⟨ht, rfl⟩, rfl⟩, fun c => ?_⟩ (fun q => absurd trivial q)
    rotate_left
    · obtain ⟨h1, h2⟩ := hI.2 c' (by omega)
      refine ⟨?_, h2⟩
      rw [h1]
      by_cases e : c' = t
      · rw [if_pos e]; exact congrArg nI (if_pos ⟨hc', e⟩).symm
      · rw [if_neg e]; exact congrArg nI (if_neg (fun q => e q.2)).symm
    · by_cases e : c < nC ∧ c = t
      · right
        show (if c < nC ∧ c = t then 0 else 1000000000) < _ ∧ ∃ k, Wp _ _ k c (if c < nC ∧ c = t then 0 else 1000000000) 0
        rw [if_pos e]
        exact ⟨by decide, 0, e.2, rfl, rfl⟩
      · left; exact ⟨if_neg e, rfl⟩
    rw [bI_t trivial] at hs
    exact hs
  · rw [e3, nI_leI (by omega) (by omega)] at c7
    refine hk_aload_n dX10_findFar_10 rfl rfl ?_
    refine gfX10_37 rfl dX10_findFar_11 (hk_lt (by decide)) rfl rfl ?_
    refine hk_iload_n dX10_findFar_14 rfl rfl ?_
    refine hk_iload_n dX10_findFar_15 rfl rfl ?_
    refine hk_iload_n dX10_findFar_16 rfl rfl ?_
    refine hk_icmp_ne (tgt := 24) dX10_findFar_17 (by decide) (fun c17 => ?_) (fun c17 => ?_)
    · rw [nI_eq (by omega) (by omega)] at c17
      refine hk_ldc dX10_findFar_24 hk_k10_226 ?_
      refine hk_isn dX10_findFar_26 (by decide) (fun _ => rfl) rfl (by omega) (by decide) ?_
      refine hk_aload_n dX10_findFar_27 rfl rfl ?_
      refine gfX10_40 rfl dX10_findFar_28 (hk_lt (by decide)) rfl rfl ?_
      refine hk_iload_n dX10_findFar_31 rfl rfl ?_
      refine hk_iconst (v := 0) dX10_findFar_32 (by decide) ?_
      refine hk_isn dX10_findFar_33 (by decide) (fun _ => rfl) rfl (by omega) (by decide) ?_
      refine hk_iinc (v := nI (c + 1)) dX10_findFar_34 rfl (nI_1 c) (by decide) rfl ?_
      refine hk_goto (tgt := 2) dX10_findFar_37 (by decide) ?_
      have hlt : c < nC := by omega
      have hx2 : ∀ v, v = nI (if c = t then 0 else 1000000000) → ∀ c', c' < c + 1 → hk_w (hk_w m1 47 c v) 48 c 0 47 c' = nI (if c' = t then 0 else 1000000000) ∧ hk_w (hk_w m1 47 c v) 48 c 0 48 c' = nI 0 := fun v hv c' hc' => by
        by_cases e : c' = c
        · subst e; rw [hk_w_ne (by decide), hk_w_eq, hk_w_eq, hv]; exact ⟨rfl, rfl⟩
        · rw [hk_w_ne (by decide), hk_w_off e, hk_w_off e, hk_w_ne (by decide)]; exact hI.2 c' (by omega)
      exact lp_findFar0 hS hS6 hg hC hn ht (c + 1) (by omega) _ ⟨fun a h1 h2 => by rw [hk_wo h2, hk_wo h1]; exact hI.1 a h1 h2, hx2 _ (by first | (rw [if_pos c17]; rfl) | (rw [if_neg c17]; rfl))⟩ _
    · rw [nI_eq (by omega) (by omega)] at c17
      refine hk_iconst (v := 0) dX10_findFar_20 (by decide) ?_
      refine hk_goto (tgt := 26) dX10_findFar_21 (by decide) ?_
      refine hk_isn dX10_findFar_26 (by decide) (fun _ => rfl) rfl (by omega) (by decide) ?_
      refine hk_aload_n dX10_findFar_27 rfl rfl ?_
      refine gfX10_40 rfl dX10_findFar_28 (hk_lt (by decide)) rfl rfl ?_
      refine hk_iload_n dX10_findFar_31 rfl rfl ?_
      refine hk_iconst (v := 0) dX10_findFar_32 (by decide) ?_
      refine hk_isn dX10_findFar_33 (by decide) (fun _ => rfl) rfl (by omega) (by decide) ?_
      refine hk_iinc (v := nI (c + 1)) dX10_findFar_34 rfl (nI_1 c) (by decide) rfl ?_
      refine hk_goto (tgt := 2) dX10_findFar_37 (by decide) ?_
      have hlt : c < nC := by omega
      have hx2 : ∀ v, v = nI (if c = t then 0 else 1000000000) → ∀ c', c' < c + 1 → hk_w (hk_w m1 47 c v) 48 c 0 47 c' = nI (if c' = t then 0 else 1000000000) ∧ hk_w (hk_w m1 47 c v) 48 c 0 48 c' = nI 0 := fun v hv c' hc' => by
        by_cases e : c' = c
        · subst e; rw [hk_w_ne (by decide), hk_w_eq, hk_w_eq, hv]; exact ⟨rfl, rfl⟩
        · rw [hk_w_ne (by decide), hk_w_off e, hk_w_off e, hk_w_ne (by decide)]; exact hI.2 c' (by omega)
      exact lp_findFar0 hS hS6 hg hC hn ht (c + 1) (by omega) _ ⟨fun a h1 h2 => by rw [hk_wo h2, hk_wo h1]; exact hI.1 a h1 h2, hx2 _ (by first | (rw [if_pos c17]; rfl) | (rw [if_neg c17]; rfl))⟩ _
termination_by nC - c
decreasing_by all_goals omega
set_option maxRecDepth 20000 in
set_option maxHeartbeats 2000000 in
theorem md_findFar (hS : m0 37 11 = nI nS) (hS6 : nS ≤ 60) (hg : GS m0 nC nS) (hC : nC ≤ 24) (hn : m0 37 3 = nI nC) (u : Int32) {t : Nat} (ht : t < nC) : hk_Ct MX10_findFar 1 0 0 [.ref 37, .int (nI t), .int u] (hk_h L m0) (fun r h => ∃ m2, r = none ∧ h = hk_h L m2 ∧ FX m0 nC nS u t m2) := by
  refine hk_ofWP (by decide) (by simp [Value.category]) (Nat.le_of_ble_eq_true rfl) ?_
  show hk_WP _ _ _ _ _ _ _ [some (.ref 37), some (.int (nI t)), some (.int u), none, none] [] _ _
  refine hk_iconst (v := 0) dX10_findFar_0 (by decide) ?_
  refine hk_istore_n dX10_findFar_1 rfl (by decide) rfl ?_
  exact lp_findFar0 hS hS6 hg hC hn ht 0 (Nat.zero_le _) m0 ⟨fun _ _ _ => rfl, fun c' hc' => absurd hc' (Nat.not_lt_zero _)⟩ _
set_option maxRecDepth 20000 in
set_option maxHeartbeats 2000000 in
theorem md_yardsOf (hS : m0 37 11 = nI nS) (hS6 : nS ≤ 60) (hg : GS m0 nC nS) (hC : nC ≤ 24) (hn : m0 37 3 = nI nC) (u : Int32) {t c : Nat} (ht : t < nC) (hc : c < nC) : hk_Ct MX10_yardsOf 2 0 0 [.ref 37, .int (nI c), .int (nI t), .int u] (hk_h L m0) (fun r h => ∃ m2, r = some (.int (yv (GG m0 nS u) t c)) ∧ h = hk_h L m2 ∧ FX m0 nC nS u t m2) := by
  have g := GS.gm hg u hC
  refine hk_ofWP (by decide) (by simp [Value.category]) (Nat.le_of_ble_eq_true rfl) ?_
  show hk_WP _ _ _ _ _ _ _ [some (.ref 37), some (.int (nI c)), some (.int (nI t)), some (.int u)] [] _ _
  refine hk_aload_n dX10_yardsOf_0 rfl rfl ?_
  refine hk_iload_n dX10_yardsOf_1 rfl rfl ?_
  refine hk_iload_n dX10_yardsOf_2 rfl rfl ?_
  refine ivX10_234 rfl (md_findFar hS hS6 hg hC hn u ht) dX10_yardsOf_3 (hk_lt (by decide)) rfl rfl rfl (by decide) ⟨by decide, by decide⟩ (Nat.le_of_ble_eq_true rfl) (fun r h1 hq => ?_)
  obtain ⟨m3, rfl, rfl, hF⟩ := hq
  obtain ⟨f1, f2⟩ := hF.2 c hc
  refine hk_aload_n dX10_yardsOf_6 rfl rfl ?_
  refine gfX10_37 rfl dX10_yardsOf_7 (hk_lt (by decide)) rfl rfl ?_
  refine hk_iload_n dX10_yardsOf_10 rfl rfl ?_
  refine hk_ian dX10_yardsOf_11 (by decide) (fun _ => rfl) rfl (by omega) (by decide) ?_
  refine hk_ldc dX10_yardsOf_12 hk_k10_226 ?_
  refine hk_icmp_ge (tgt := 26) dX10_yardsOf_14 (by decide) (fun c14 => ?_) (fun c14 => ?_)
  · refine hk_bipush (v := (-5)) dX10_yardsOf_26 (by decide) ?_
    exact hk_ireturn dX10_yardsOf_28 rfl rfl (by decide) (by
      by_cases hr : RC (GG m0 nS u) t c
      · have hd := DD_lt g hr
        rw [(f1 hr).1] at c14
        try rw [(f1 hr).1]
        rw [show (1000000000 : Int32) = nI 1000000000 from rfl, nI_leI (by decide) (by omega)] at c14
        first
        | (exfalso; omega)
        | exact ⟨m3, by unfold yv; rw [cI_t hr], rfl, hF⟩
      · rw [f2 hr] at c14
        first
        | exact absurd (by decide) c14
        | exact ⟨m3, by unfold yv; rw [cI_f hr], rfl, hF⟩)
  · refine hk_aload_n dX10_yardsOf_17 rfl rfl ?_
    refine gfX10_37 rfl dX10_yardsOf_18 (hk_lt (by decide)) rfl rfl ?_
    refine hk_iload_n dX10_yardsOf_21 rfl rfl ?_
    refine hk_ian dX10_yardsOf_22 (by decide) (fun _ => rfl) rfl (by omega) (by decide) ?_
    refine hk_goto (tgt := 28) dX10_yardsOf_23 (by decide) ?_
    exact hk_ireturn dX10_yardsOf_28 rfl rfl (by decide) (by
      by_cases hr : RC (GG m0 nS u) t c
      · have hd := DD_lt g hr
        rw [(f1 hr).1] at c14
        try rw [(f1 hr).1]
        rw [show (1000000000 : Int32) = nI 1000000000 from rfl, nI_leI (by decide) (by omega)] at c14
        first
        | (exfalso; omega)
        | exact ⟨m3, by unfold yv; rw [cI_t hr], rfl, hF⟩
      · rw [f2 hr] at c14
        first
        | exact absurd (by decide) c14
        | exact ⟨m3, by unfold yv; rw [cI_f hr], rfl, hF⟩)
end FFx
