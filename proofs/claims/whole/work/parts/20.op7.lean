section O7
variable {L : Nat} {m : Nat → Nat → Int32} {z : Nat → Nat}
set_option maxRecDepth 20000 in
set_option maxHeartbeats 2000000 in
theorem ct_stand_no {nC : Nat} (hC : m 1 0 = nI nC) (c n : Int32) (h : ¬ (inR c nC ∧ ¬ n < 1 ∧ ¬ 10 < n)) : hk_Cd MX9_stand 3 0 0 [.ref 0, .int c, .int n] (hk_h L m) (some (.int (-1))) (hk_h L m) := by
  refine hk_ofWP (by decide) (by simp [Value.category]) (Nat.le_of_ble_eq_true rfl) ?_
  show hk_WP _ _ _ _ _ _ _ [some (.ref 0), some (.int c), some (.int n)] [] _ _
  refine hk_aload_n dX9_stand_0 rfl rfl ?_
  refine gfX9_16 rfl dX9_stand_1 (hk_lt (by decide)) rfl rfl ?_
  refine hk_iload_n dX9_stand_4 rfl rfl ?_
  refine ivX9_59 rfl (ct_isCorner hC c) dX9_stand_5 (hk_lt (by decide)) rfl rfl rfl (by decide) ⟨by decide, by decide⟩ (Nat.le_of_ble_eq_true rfl) (hk_kd ?_)
  refine hk_if_eq (tgt := 22) dX9_stand_8 (by decide) (fun c8 => ?_) (fun c8 => ?_)
  · rw [bI_0] at c8
    refine hk_iconst (v := (-1)) dX9_stand_22 (by decide) ?_
    exact hk_ireturn dX9_stand_23 rfl rfl (by decide) ⟨rfl, rfl⟩
  · rw [bI_0] at c8
    refine hk_iload_n dX9_stand_11 rfl rfl ?_
    refine hk_iconst (v := 1) dX9_stand_12 (by decide) ?_
    refine hk_icmp_lt (tgt := 22) dX9_stand_13 (by decide) (fun c13 => ?_) (fun c13 => ?_)
    · refine hk_iconst (v := (-1)) dX9_stand_22 (by decide) ?_
      exact hk_ireturn dX9_stand_23 rfl rfl (by decide) ⟨rfl, rfl⟩
    · refine hk_iload_n dX9_stand_16 rfl rfl ?_
      refine hk_bipush (v := 10) dX9_stand_17 (by decide) ?_
      refine hk_icmp_le (tgt := 24) dX9_stand_19 (by decide) (fun c19 => ?_) (fun c19 => ?_)
      · exact absurd (by grind) h
      · refine hk_iconst (v := (-1)) dX9_stand_22 (by decide) ?_
        exact hk_ireturn dX9_stand_23 rfl rfl (by decide) ⟨rfl, rfl⟩
set_option maxRecDepth 20000 in
set_option maxHeartbeats 2000000 in
theorem ct_stand_full {nC : Nat} (hC : m 1 0 = nI nC) (hD : m 13 3 = nI 12) (c n : Int32) (h : inR c nC ∧ ¬ n < 1 ∧ ¬ 10 < n) : hk_Cd MX9_stand 3 0 0 [.ref 0, .int c, .int n] (hk_h L m) (some (.int (-2))) (hk_h L m) := by
  refine hk_ofWP (by decide) (by simp [Value.category]) (Nat.le_of_ble_eq_true rfl) ?_
  show hk_WP _ _ _ _ _ _ _ [some (.ref 0), some (.int c), some (.int n)] [] _ _
  refine hk_aload_n dX9_stand_0 rfl rfl ?_
  refine gfX9_16 rfl dX9_stand_1 (hk_lt (by decide)) rfl rfl ?_
  refine hk_iload_n dX9_stand_4 rfl rfl ?_
  refine ivX9_59 rfl (ct_isCorner hC c) dX9_stand_5 (hk_lt (by decide)) rfl rfl rfl (by decide) ⟨by decide, by decide⟩ (Nat.le_of_ble_eq_true rfl) (hk_kd ?_)
  refine hk_if_eq (tgt := 22) dX9_stand_8 (by decide) (fun c8 => ?_) (fun c8 => ?_)
  · rw [bI_0] at c8
    exfalso; grind
  · rw [bI_0] at c8
    refine hk_iload_n dX9_stand_11 rfl rfl ?_
    refine hk_iconst (v := 1) dX9_stand_12 (by decide) ?_
    refine hk_icmp_lt (tgt := 22) dX9_stand_13 (by decide) (fun c13 => ?_) (fun c13 => ?_)
    · exfalso; grind
    · refine hk_iload_n dX9_stand_16 rfl rfl ?_
      refine hk_bipush (v := 10) dX9_stand_17 (by decide) ?_
      refine hk_icmp_le (tgt := 24) dX9_stand_19 (by decide) (fun c19 => ?_) (fun c19 => ?_)
      · refine hk_aload_n dX9_stand_24 rfl rfl ?_
        refine gfX9_23 rfl dX9_stand_25 (hk_lt (by decide)) rfl rfl ?_
        refine hk_iload_n dX9_stand_28 rfl rfl ?_
        refine hk_iload_n dX9_stand_29 rfl rfl ?_
        refine ivX9_130 rfl (ct_addStand_full hD _ _) dX9_stand_30 (hk_lt (by decide)) rfl rfl rfl (by decide) ⟨by decide, by decide⟩ (Nat.le_of_ble_eq_true rfl) (hk_kd ?_)
        exact hk_ireturn dX9_stand_33 rfl rfl (by decide) ⟨rfl, rfl⟩
      · exfalso; grind
set_option maxRecDepth 20000 in
set_option maxHeartbeats 2000000 in
theorem ct_stand {nC : Nat} (hC : m 1 0 = nI nC) {D : Nat} (hD : m 13 3 = nI D) (hD12 : D < 12) (c n : Int32) (h : inR c nC ∧ ¬ n < 1 ∧ ¬ 10 < n) : hk_Cd MX9_stand 3 0 0 [.ref 0, .int c, .int n] (hk_h L m) (some (.int (nI D))) (hk_h L (hk_w (hk_w (hk_w m 13 3 (nI (D + 1))) 14 (D * 13 + 0) c) 14 (D * 13 + 1) n)) := by
  refine hk_ofWP (by decide) (by simp [Value.category]) (Nat.le_of_ble_eq_true rfl) ?_
  show hk_WP _ _ _ _ _ _ _ [some (.ref 0), some (.int c), some (.int n)] [] _ _
  refine hk_aload_n dX9_stand_0 rfl rfl ?_
  refine gfX9_16 rfl dX9_stand_1 (hk_lt (by decide)) rfl rfl ?_
  refine hk_iload_n dX9_stand_4 rfl rfl ?_
  refine ivX9_59 rfl (ct_isCorner hC c) dX9_stand_5 (hk_lt (by decide)) rfl rfl rfl (by decide) ⟨by decide, by decide⟩ (Nat.le_of_ble_eq_true rfl) (hk_kd ?_)
  refine hk_if_eq (tgt := 22) dX9_stand_8 (by decide) (fun c8 => ?_) (fun c8 => ?_)
  · rw [bI_0] at c8
    exfalso; grind
  · rw [bI_0] at c8
    refine hk_iload_n dX9_stand_11 rfl rfl ?_
    refine hk_iconst (v := 1) dX9_stand_12 (by decide) ?_
    refine hk_icmp_lt (tgt := 22) dX9_stand_13 (by decide) (fun c13 => ?_) (fun c13 => ?_)
    · exfalso; grind
    · refine hk_iload_n dX9_stand_16 rfl rfl ?_
      refine hk_bipush (v := 10) dX9_stand_17 (by decide) ?_
      refine hk_icmp_le (tgt := 24) dX9_stand_19 (by decide) (fun c19 => ?_) (fun c19 => ?_)
      · refine hk_aload_n dX9_stand_24 rfl rfl ?_
        refine gfX9_23 rfl dX9_stand_25 (hk_lt (by decide)) rfl rfl ?_
        refine hk_iload_n dX9_stand_28 rfl rfl ?_
        refine hk_iload_n dX9_stand_29 rfl rfl ?_
        refine ivX9_130 rfl (ct_addStand hD hD12 _ _) dX9_stand_30 (hk_lt (by decide)) rfl rfl rfl (by decide) ⟨by decide, by decide⟩ (Nat.le_of_ble_eq_true rfl) (hk_kd ?_)
        exact hk_ireturn dX9_stand_33 rfl rfl (by decide) ⟨rfl, rfl⟩
      · exfalso; grind
set_option maxRecDepth 20000 in
set_option maxHeartbeats 2000000 in
theorem md_stand_no {nC : Nat} (hC : m 37 3 = nI nC) (c n : Int32) (h : ¬ (inR c nC ∧ ¬ n < 1 ∧ ¬ 10 < n)) : hk_Cd MX10_stand 1 0 0 [.ref 37, .int c, .int n] (hk_h L m) (some (.int (-1))) (hk_h L m) := by
  refine hk_ofWP (by decide) (by simp [Value.category]) (Nat.le_of_ble_eq_true rfl) ?_
  show hk_WP _ _ _ _ _ _ _ [some (.ref 37), some (.int c), some (.int n)] [] _ _
  refine hk_aload_n dX10_stand_0 rfl rfl ?_
  refine hk_iload_n dX10_stand_1 rfl rfl ?_
  refine ivX10_212 rfl (md_isCorner hC c) dX10_stand_2 (hk_lt (by decide)) rfl rfl rfl (by decide) ⟨by decide, by decide⟩ (Nat.le_of_ble_eq_true rfl) (hk_kd ?_)
  refine hk_if_eq (tgt := 18) dX10_stand_5 (by decide) (fun c5 => ?_) (fun c5 => ?_)
  · rw [bI_0] at c5
    refine hk_iconst (v := (-1)) dX10_stand_18 (by decide) ?_
    exact hk_ireturn dX10_stand_19 rfl rfl (by decide) ⟨rfl, rfl⟩
  · rw [bI_0] at c5
    refine hk_iload_n dX10_stand_8 rfl rfl ?_
    refine hk_iconst (v := 1) dX10_stand_9 (by decide) ?_
    refine hk_bipush (v := 10) dX10_stand_10 (by decide) ?_
    refine ivX10_208 rfl (ct_within n 1 10) dX10_stand_12 rfl rfl (by decide) ⟨by decide, by decide⟩ (Nat.le_of_ble_eq_true rfl) (hk_kd ?_)
    refine hk_if_ne (tgt := 20) dX10_stand_15 (by decide) (fun c15 => ?_) (fun c15 => ?_)
    · rw [bI_0] at c15
      exact absurd (by grind) h
    · rw [bI_0] at c15
      refine hk_iconst (v := (-1)) dX10_stand_18 (by decide) ?_
      exact hk_ireturn dX10_stand_19 rfl rfl (by decide) ⟨rfl, rfl⟩
set_option maxRecDepth 20000 in
set_option maxHeartbeats 2000000 in
theorem md_stand_full {nC : Nat} (hC : m 37 3 = nI nC) {D : Nat} (hD : m 37 35 = nI D) (hf : D = 12) (c n : Int32) (h : inR c nC ∧ ¬ n < 1 ∧ ¬ 10 < n) : hk_Cd MX10_stand 1 0 0 [.ref 37, .int c, .int n] (hk_h L m) (some (.int (-2))) (hk_h L m) := by
  refine hk_ofWP (by decide) (by simp [Value.category]) (Nat.le_of_ble_eq_true rfl) ?_
  show hk_WP _ _ _ _ _ _ _ [some (.ref 37), some (.int c), some (.int n)] [] _ _
  refine hk_aload_n dX10_stand_0 rfl rfl ?_
  refine hk_iload_n dX10_stand_1 rfl rfl ?_
  refine ivX10_212 rfl (md_isCorner hC c) dX10_stand_2 (hk_lt (by decide)) rfl rfl rfl (by decide) ⟨by decide, by decide⟩ (Nat.le_of_ble_eq_true rfl) (hk_kd ?_)
  refine hk_if_eq (tgt := 18) dX10_stand_5 (by decide) (fun c5 => ?_) (fun c5 => ?_)
  · rw [bI_0] at c5
    exfalso; grind
  · rw [bI_0] at c5
    refine hk_iload_n dX10_stand_8 rfl rfl ?_
    refine hk_iconst (v := 1) dX10_stand_9 (by decide) ?_
    refine hk_bipush (v := 10) dX10_stand_10 (by decide) ?_
    refine ivX10_208 rfl (ct_within n 1 10) dX10_stand_12 rfl rfl (by decide) ⟨by decide, by decide⟩ (Nat.le_of_ble_eq_true rfl) (hk_kd ?_)
    refine hk_if_ne (tgt := 20) dX10_stand_15 (by decide) (fun c15 => ?_) (fun c15 => ?_)
    · rw [bI_0] at c15
      refine hk_aload_n dX10_stand_20 rfl rfl ?_
      refine gfX10_204 rfl dX10_stand_21 (hk_lt (by decide)) rfl rfl ?_
      refine hk_bipush (v := 12) dX10_stand_24 (by decide) ?_
      refine hk_icmp_ne (tgt := 32) dX10_stand_26 (by decide) (fun c26 => absurd (by rw [hD, hf]; rfl) c26) (fun _ => ?_)
      refine hk_bipush (v := (-2)) dX10_stand_29 (by decide) ?_
      exact hk_ireturn dX10_stand_31 rfl rfl (by decide) ⟨rfl, rfl⟩
    · rw [bI_0] at c15
      exfalso; grind
set_option maxRecDepth 20000 in
set_option maxHeartbeats 2000000 in
theorem md_stand {nC : Nat} (hC : m 37 3 = nI nC) {D : Nat} (hD : m 37 35 = nI D) (hf : D < 12) (c n : Int32) (h : inR c nC ∧ ¬ n < 1 ∧ ¬ 10 < n) : hk_Cd MX10_stand 1 0 0 [.ref 37, .int c, .int n] (hk_h L m) (some (.int (nI D))) (hk_h L (hk_w (hk_w (hk_w m 62 D c) 63 D n) 37 35 (nI (D + 1)))) := by
  refine hk_ofWP (by decide) (by simp [Value.category]) (Nat.le_of_ble_eq_true rfl) ?_
  show hk_WP _ _ _ _ _ _ _ [some (.ref 37), some (.int c), some (.int n)] [] _ _
  refine hk_aload_n dX10_stand_0 rfl rfl ?_
  refine hk_iload_n dX10_stand_1 rfl rfl ?_
  refine ivX10_212 rfl (md_isCorner hC c) dX10_stand_2 (hk_lt (by decide)) rfl rfl rfl (by decide) ⟨by decide, by decide⟩ (Nat.le_of_ble_eq_true rfl) (hk_kd ?_)
  refine hk_if_eq (tgt := 18) dX10_stand_5 (by decide) (fun c5 => ?_) (fun c5 => ?_)
  · rw [bI_0] at c5
    exfalso; grind
  · rw [bI_0] at c5
    refine hk_iload_n dX10_stand_8 rfl rfl ?_
    refine hk_iconst (v := 1) dX10_stand_9 (by decide) ?_
    refine hk_bipush (v := 10) dX10_stand_10 (by decide) ?_
    refine ivX10_208 rfl (ct_within n 1 10) dX10_stand_12 rfl rfl (by decide) ⟨by decide, by decide⟩ (Nat.le_of_ble_eq_true rfl) (hk_kd ?_)
    refine hk_if_ne (tgt := 20) dX10_stand_15 (by decide) (fun c15 => ?_) (fun c15 => ?_)
    · rw [bI_0] at c15
      refine hk_aload_n dX10_stand_20 rfl rfl ?_
      refine gfX10_204 rfl dX10_stand_21 (hk_lt (by decide)) rfl rfl ?_
      refine hk_bipush (v := 12) dX10_stand_24 (by decide) ?_
      refine hk_icmp_ne (tgt := 32) dX10_stand_26 (by decide) (fun _ => ?_) (fun c26 => absurd c26 (by rw [hD, show (12 : Int32) = nI 12 from rfl, nI_eq (by omega) (by decide)]; omega))
      refine hk_aload_n dX10_stand_32 rfl rfl ?_
      refine gfX10_82 rfl dX10_stand_33 (hk_lt (by decide)) rfl rfl ?_
      refine hk_aload_n dX10_stand_36 rfl rfl ?_
      refine gfX10_204 rfl dX10_stand_37 (hk_lt (by decide)) rfl rfl ?_
      refine hk_iload_n dX10_stand_40 rfl rfl ?_
      refine hk_isn dX10_stand_41 (by decide) (fun _ => rfl) hD (by omega) (by decide) ?_
      refine hk_aload_n dX10_stand_42 rfl rfl ?_
      refine gfX10_85 rfl dX10_stand_43 (hk_lt (by decide)) rfl rfl ?_
      refine hk_aload_n dX10_stand_46 rfl rfl ?_
      refine gfX10_204 rfl dX10_stand_47 (hk_lt (by decide)) rfl rfl ?_
      refine hk_iload_n dX10_stand_50 rfl rfl ?_
      refine hk_isn (j := D) dX10_stand_51 (by decide) (fun _ => rfl) (by simp [hk_wo, hD]) (by omega) (by decide) ?_
      refine hk_aload_n dX10_stand_52 rfl rfl ?_
      refine hk_dup dX10_stand_53 rfl ?_
      refine gfX10_204 rfl dX10_stand_54 (hk_lt (by decide)) rfl rfl ?_
      refine hk_iconst (v := 1) dX10_stand_57 (by decide) ?_
      refine hk_iadd dX10_stand_58 ?_
      refine pfX10_204 rfl dX10_stand_59 (hk_lt (by decide)) rfl (Nat.le_of_ble_eq_true rfl) (hk_st (j := 35) rfl ?_)
      rw [show hk_w _ _ _ _ _ _ + 1 = nI (D + 1) by simp [hk_wo, hD, nI_1]]
      refine hk_aload_n dX10_stand_62 rfl rfl ?_
      refine gfX10_204 rfl dX10_stand_63 (hk_lt (by decide)) rfl rfl ?_
      refine hk_iconst (v := 1) dX10_stand_66 (by decide) ?_
      refine hk_isub dX10_stand_67 ?_
      exact hk_ireturn dX10_stand_68 rfl rfl (by decide) ⟨by simp [hk_wt, upd, nI_pred], rfl⟩
    · rw [bI_0] at c15
      exfalso; grind
theorem GCo_d {nC nK a b now : Nat} {t pl ho st lo sta co th go sd sd' : Nat → Int32} (h : GCo nC nK a now t pl ho st lo sta co th go sd) (hab : a ≤ b) (hs : ∀ s, s < a → sd' (s * 13) = sd (s * 13)) : GCo nC nK b now t pl ho st lo sta co th go sd' := by
  refine ⟨fun c hc => ?_, h.2⟩
  obtain ⟨h1, h2, h3, h4, h5, h6, h7, h8, h9, h10, h11, h12⟩ := h.1 c hc
  refine ⟨h1, h2, h3, h4, h5, h6, h7, h8, h9, fun q => ?_, fun q => ?_, h12⟩
  · obtain ⟨s, k1, k2, k3⟩ := h10 q
    exact ⟨s, by omega, k2, by rw [hs s k1]; exact k3⟩
  · obtain ⟨k0, k⟩ := h11 q
    refine ⟨k0, k.imp id (fun ⟨s, k1, k2, k3⟩ => ⟨s, by omega, k2, by rw [hs s k1]; exact k3⟩)⟩
theorem op_stand (hI : Inv L z m) (c n : Int32) : OpOK L m MX9_stand MX10_stand [.int c, .int n] := by
  obtain ⟨g0, ⟨⟨a0, a1, a2, a3, a4, a5, a6, a7, a8, a9, a10, a11, a12, a13⟩, ⟨b0, b1, b2, b3, b4, b5, b6, b7, b8, b9, b10, b11, b12⟩, ⟨c0, c1, c2, c3, c4, c5, c6, c7, c8, c9, c10, c11, c12⟩⟩, g2, g3, g4, g5, g6, g7, g8, g9, g10, g11, g12, g13, g14⟩ := id hI
  by_cases h : inR c (z 0) ∧ ¬ n < 1 ∧ ¬ 10 < n
  · by_cases hf : z 3 = 12
    · exact ⟨3, 0, 0, 1, -2, L, m, m, z, by decide, by decide, by decide, by decide, ct_stand_full a0 (hf ▸ a3) c n h, md_stand_full b0 b3 hf c n h, hI⟩
    · refine ⟨3, 0, 0, 1, nI (z 3), L, _, _, up z 3 (z 3 + 1), by decide, by decide, by decide, by decide, ct_stand a0 a3 (by omega) c n h, md_stand (nC := z 0) (by simpa [hk_wo, hk_wt] using b0) (by simpa [hk_wo, hk_wt] using b3) (by omega) c n h, ?_⟩
      obtain ⟨j, hj, ej⟩ := inR_of h.1 (by omega)
      obtain ⟨u, hu, eu⟩ := nI_of2 (M := 10) (n := 10) rfl (x := n) (fun q => h.2.1 (by rw [i32_lt] at q ⊢; have : (1 : Int32).toInt = 1 := rfl; have : (0 : Int32).toInt = 0 := rfl; omega)) (Int32.not_lt.mp h.2.2)
      have hu1 : 1 ≤ u := by
        rcases Nat.eq_zero_or_pos u with q | q
        · rw [eu, q] at h; exact absurd (by decide) h.2.1
        · exact q
      refine ⟨g0, ⟨?_, ?_, ?_⟩, ?_, ?_, ?_, ?_, ?_, ?_, ?_, ?_, ?_, ?_, ?_, ?_, ?_⟩
      · simp [hk_wo, hk_wt, hk_w99, up, upd, a0, a1, a2, a3, a4, a5, a6, a7, a8, a9, a10, a11, a12, a13]
      · simp [hk_wo, hk_wt, hk_w99, up, upd, b0, b1, b2, b3, b4, b5, b6, b7, b8, b9, b10, b11, b12]
      · first | (simp [up]; omega) | omega
      · simpa [hk_wo, hk_wt, hk_w99, up, upd] using g2
      · simpa [hk_wo, hk_wt, hk_w99, up, upd] using g3
      · simpa [hk_wo, hk_wt, hk_w99, up, upd] using g4
      · refine GCo_d (a := z 3) (by simpa [hk_wo, hk_wt, up] using g5) (by simp [up]) (fun s hs => ?_)
        simp (disch := decide) only [hk_w_at, hk_w_ne]
        repeat rw [if_neg (by omega)]
      · simpa [hk_wo, hk_wt, hk_w99, up, upd] using g6
      · refine ⟨fun s hs => ?_, fun s hs hs2 => ?_⟩
        · simp only [up, if_true] at hs
          by_cases hsn : s = z 3
          · subst hsn
            have hz := g7.2 (z 3) (Nat.le_refl _) (by omega)
            refine ⟨by simp [hk_wo, hk_wt, upd], by simp [hk_wo, hk_wt, upd], by simp [hk_wo, hk_wt, upd, hz], j, u, 0, by simp [hk_wo, hk_wt, upd, ej], by simpa [up] using hj, by simp [hk_wo, hk_wt, upd, eu], hu1, hu, by simp [hk_wo, hk_wt, upd, hz]; rfl, Nat.zero_le _, fun i hi => absurd hi (Nat.not_lt_zero _), fun i j h1 h2 => absurd h2 (Nat.not_lt_zero _), fun c hc h1 h4 => ?_⟩
            simp only [hk_wo, hk_wt, upd, up, ne_eq, Nat.reduceEqDiff, not_false_eq_true, if_false] at hc h1 h4
            have hr := g5.1 c (by simpa using hc)
            have q1 : m 10 (c * 8) = 1 := by simpa [hk_wo, hk_wt, upd] using h1
            obtain ⟨s, k1, k2, k3⟩ := hr.2.2.2.2.2.2.2.2.2.1 (hr.1 ▸ q1)
            have q4 : m 10 (c * 8 + 4) = nI (z 3) := by simpa [hk_wo, hk_wt, upd] using h4
            rw [q4, nI_eq (by omega) (by omega)] at k2
            omega
          · obtain ⟨e1, e2, e3, x, p, q, k1, k2, k3, k4, k5, k6, k7, k8, k9, k10⟩ := g7.1 s (by omega)
            have hh : ∀ k, k < 13 → (hk_w (hk_w (hk_w m 13 3 (nI ((z 3) + 1))) 14 ((z 3) * 13 + 0) c) 14 ((z 3) * 13 + 1) n) 14 (s * 13 + k) = m 14 (s * 13 + k) := fun k hk => by
              simp (disch := decide) only [hk_w_at, hk_w_ne]
              repeat rw [if_neg (by omega)]
            have hh0 := hh 0 (by decide)
            simp only [Nat.add_zero] at hh0
            refine ⟨?_, ?_, ?_, x, p, q, by simpa [hk_wo, hk_wt, upd, hsn] using k1, by simpa [up] using k2, by simpa [hk_wo, hk_wt, upd, hsn] using k3, k4, k5, by simpa [hk_wo, hk_wt, upd, hsn] using k6, k7, fun i hi => ⟨?_, ?_⟩, ?_, ?_⟩
            · simp (disch := decide) only [hk_w_at, hk_w_ne]
              repeat rw [if_neg (by omega)]
              exact e1
            · simp (disch := decide) only [hk_w_at, hk_w_ne]
              repeat rw [if_neg (by omega)]
              exact e2
            · simp (disch := decide) only [hk_w_at, hk_w_ne]
              repeat rw [if_neg (by omega)]
              exact e3
            · simp (disch := decide) only [hk_w_at, hk_w_ne]
              repeat rw [if_neg (by omega)]
              exact (k8 i hi).1
            · simpa [hk_wo, hk_wt, upd, up] using (k8 i hi).2
            · simpa [hk_wo, hk_wt, upd] using k9
            · simpa [hk_wo, hk_wt, upd, up] using k10
        · simp only [up, if_true] at hs
          have := g7.2 s (by omega) hs2
          constructor
          · simp (disch := decide) only [hk_w_at, hk_w_ne]
            repeat rw [if_neg (by omega)]
            exact this.1
          · simpa [hk_wo, hk_wt, upd] using this.2
      · simpa [hk_wo, hk_wt, hk_w99, up, upd] using g8
      · simpa [hk_wo, hk_wt, hk_w99, up, upd] using g9
      · simpa [hk_wo, hk_wt, hk_w99, up, upd] using g10
      · simpa [hk_wo, hk_wt, hk_w99, up, upd] using g11
      · simpa [hk_wo, hk_wt, hk_w99, up, upd] using g12
      · simpa [hk_wo, hk_wt, hk_w99, up, upd] using g13
      · simpa [hk_wo, hk_wt, hk_w99, up, upd] using g14
  · exact ⟨3, 0, 0, 1, -1, L, m, m, z, by decide, by decide, by decide, by decide, ct_stand_no a0 c n h, md_stand_no b0 c n h, hI⟩
set_option maxRecDepth 20000 in
set_option maxHeartbeats 2000000 in
theorem ct_lost_no (s p a b : Int32) (h : ¬ (inR s 10 ∧ inR p 14641 ∧ inR a 720000 ∧ inR b 720000 ∧ ¬ b < a)) : hk_Cd MX9_lost 3 0 0 [.ref 0, .int s, .int p, .int a, .int b] (hk_h L m) (some (.int (-1))) (hk_h L m) := by
  have l1 : nI 10 = 10 := rfl
  have l2 : nI 14641 = 14641 := rfl
  refine hk_ofWP (by decide) (by simp [Value.category]) (Nat.le_of_ble_eq_true rfl) ?_
  show hk_WP _ _ _ _ _ _ _ [some (.ref 0), some (.int s), some (.int p), some (.int a), some (.int b)] [] _ _
  refine hk_iload_n dX9_lost_0 rfl rfl ?_
  refine hk_if_lt (tgt := 21) dX9_lost_1 (by decide) (fun c1 => ?_) (fun c1 => ?_)
  · refine hk_iconst (v := (-1)) dX9_lost_21 (by decide) ?_
    exact hk_ireturn dX9_lost_22 rfl rfl (by decide) ⟨rfl, rfl⟩
  · refine hk_iload_n dX9_lost_4 rfl rfl ?_
    refine hk_bipush (v := 10) dX9_lost_5 (by decide) ?_
    refine hk_icmp_ge (tgt := 21) dX9_lost_7 (by decide) (fun c7 => ?_) (fun c7 => ?_)
    · refine hk_iconst (v := (-1)) dX9_lost_21 (by decide) ?_
      exact hk_ireturn dX9_lost_22 rfl rfl (by decide) ⟨rfl, rfl⟩
    · refine hk_iload_n dX9_lost_10 rfl rfl ?_
      refine hk_if_lt (tgt := 21) dX9_lost_11 (by decide) (fun c11 => ?_) (fun c11 => ?_)
      · refine hk_iconst (v := (-1)) dX9_lost_21 (by decide) ?_
        exact hk_ireturn dX9_lost_22 rfl rfl (by decide) ⟨rfl, rfl⟩
      · refine hk_iload_n dX9_lost_14 rfl rfl ?_
        refine hk_sipush (v := 14641) dX9_lost_15 (by decide) ?_
        refine hk_icmp_lt (tgt := 23) dX9_lost_18 (by decide) (fun c18 => ?_) (fun c18 => ?_)
        · refine hk_iload_n dX9_lost_23 rfl rfl ?_
          refine ivX9_85 rfl (ct_isMinute a) dX9_lost_24 rfl rfl (by decide) ⟨by decide, by decide⟩ (Nat.le_of_ble_eq_true rfl) (hk_kd ?_)
          refine hk_if_eq (tgt := 44) dX9_lost_27 (by decide) (fun c27 => ?_) (fun c27 => ?_)
          · rw [bI_0] at c27
            refine hk_iconst (v := (-1)) dX9_lost_44 (by decide) ?_
            exact hk_ireturn dX9_lost_45 rfl rfl (by decide) ⟨rfl, rfl⟩
          · rw [bI_0] at c27
            refine hk_iload dX9_lost_30 rfl ?_
            refine ivX9_85 rfl (ct_isMinute b) dX9_lost_32 rfl rfl (by decide) ⟨by decide, by decide⟩ (Nat.le_of_ble_eq_true rfl) (hk_kd ?_)
            refine hk_if_eq (tgt := 44) dX9_lost_35 (by decide) (fun c35 => ?_) (fun c35 => ?_)
            · rw [bI_0] at c35
              refine hk_iconst (v := (-1)) dX9_lost_44 (by decide) ?_
              exact hk_ireturn dX9_lost_45 rfl rfl (by decide) ⟨rfl, rfl⟩
            · rw [bI_0] at c35
              refine hk_iload_n dX9_lost_38 rfl rfl ?_
              refine hk_iload dX9_lost_39 rfl ?_
              refine hk_icmp_le (tgt := 46) dX9_lost_41 (by decide) (fun c41 => ?_) (fun c41 => ?_)
              · exact absurd (by grind) h
              · refine hk_iconst (v := (-1)) dX9_lost_44 (by decide) ?_
                exact hk_ireturn dX9_lost_45 rfl rfl (by decide) ⟨rfl, rfl⟩
        · refine hk_iconst (v := (-1)) dX9_lost_21 (by decide) ?_
          exact hk_ireturn dX9_lost_22 rfl rfl (by decide) ⟨rfl, rfl⟩
set_option maxRecDepth 20000 in
set_option maxHeartbeats 2000000 in
theorem ct_lost_full (hN : m 33 3 = nI 60) (s p a b : Int32) (h : inR s 10 ∧ inR p 14641 ∧ inR a 720000 ∧ inR b 720000 ∧ ¬ b < a) : hk_Cd MX9_lost 3 0 0 [.ref 0, .int s, .int p, .int a, .int b] (hk_h L m) (some (.int (-2))) (hk_h L m) := by
  have l1 : nI 10 = 10 := rfl
  have l2 : nI 14641 = 14641 := rfl
  refine hk_ofWP (by decide) (by simp [Value.category]) (Nat.le_of_ble_eq_true rfl) ?_
  show hk_WP _ _ _ _ _ _ _ [some (.ref 0), some (.int s), some (.int p), some (.int a), some (.int b)] [] _ _
  refine hk_iload_n dX9_lost_0 rfl rfl ?_
  refine hk_if_lt (tgt := 21) dX9_lost_1 (by decide) (fun c1 => ?_) (fun c1 => ?_)
  · exfalso; grind
  · refine hk_iload_n dX9_lost_4 rfl rfl ?_
    refine hk_bipush (v := 10) dX9_lost_5 (by decide) ?_
    refine hk_icmp_ge (tgt := 21) dX9_lost_7 (by decide) (fun c7 => ?_) (fun c7 => ?_)
    · exfalso; grind
    · refine hk_iload_n dX9_lost_10 rfl rfl ?_
      refine hk_if_lt (tgt := 21) dX9_lost_11 (by decide) (fun c11 => ?_) (fun c11 => ?_)
      · exfalso; grind
      · refine hk_iload_n dX9_lost_14 rfl rfl ?_
        refine hk_sipush (v := 14641) dX9_lost_15 (by decide) ?_
        refine hk_icmp_lt (tgt := 23) dX9_lost_18 (by decide) (fun c18 => ?_) (fun c18 => ?_)
        · refine hk_iload_n dX9_lost_23 rfl rfl ?_
          refine ivX9_85 rfl (ct_isMinute a) dX9_lost_24 rfl rfl (by decide) ⟨by decide, by decide⟩ (Nat.le_of_ble_eq_true rfl) (hk_kd ?_)
          refine hk_if_eq (tgt := 44) dX9_lost_27 (by decide) (fun c27 => ?_) (fun c27 => ?_)
          · rw [bI_0] at c27
            exfalso; grind
          · rw [bI_0] at c27
            refine hk_iload dX9_lost_30 rfl ?_
            refine ivX9_85 rfl (ct_isMinute b) dX9_lost_32 rfl rfl (by decide) ⟨by decide, by decide⟩ (Nat.le_of_ble_eq_true rfl) (hk_kd ?_)
            refine hk_if_eq (tgt := 44) dX9_lost_35 (by decide) (fun c35 => ?_) (fun c35 => ?_)
            · rw [bI_0] at c35
              exfalso; grind
            · rw [bI_0] at c35
              refine hk_iload_n dX9_lost_38 rfl rfl ?_
              refine hk_iload dX9_lost_39 rfl ?_
              refine hk_icmp_le (tgt := 46) dX9_lost_41 (by decide) (fun c41 => ?_) (fun c41 => ?_)
              · refine hk_aload_n dX9_lost_46 rfl rfl ?_
                refine gfX9_51 rfl dX9_lost_47 (hk_lt (by decide)) rfl rfl ?_
                refine hk_iload_n dX9_lost_50 rfl rfl ?_
                refine hk_iload_n dX9_lost_51 rfl rfl ?_
                refine hk_iload_n dX9_lost_52 rfl rfl ?_
                refine hk_iload dX9_lost_53 rfl ?_
                refine ivX9_278 rfl (ct_addLost_full hN _ _ _ _) dX9_lost_55 (hk_lt (by decide)) rfl rfl rfl (by decide) ⟨by decide, by decide⟩ (Nat.le_of_ble_eq_true rfl) (hk_kd ?_)
                exact hk_ireturn dX9_lost_58 rfl rfl (by decide) ⟨rfl, rfl⟩
              · exfalso; grind
        · exfalso; grind
set_option maxRecDepth 20000 in
set_option maxHeartbeats 2000000 in
theorem ct_lost {n : Nat} (hN : m 33 3 = nI n) (hN2 : n < 60) (s p a b : Int32) (h : inR s 10 ∧ inR p 14641 ∧ inR a 720000 ∧ inR b 720000 ∧ ¬ b < a) : hk_Cd MX9_lost 3 0 0 [.ref 0, .int s, .int p, .int a, .int b] (hk_h L m) (some (.int (nI n))) (hk_h L (hk_w (hk_w (hk_w (hk_w (hk_w m 33 3 (nI (n + 1))) 34 (n * 4 + 0) s) 34 (n * 4 + 1) p) 34 (n * 4 + 2) a) 34 (n * 4 + 3) b)) := by
  have l1 : nI 10 = 10 := rfl
  have l2 : nI 14641 = 14641 := rfl
  refine hk_ofWP (by decide) (by simp [Value.category]) (Nat.le_of_ble_eq_true rfl) ?_
  show hk_WP _ _ _ _ _ _ _ [some (.ref 0), some (.int s), some (.int p), some (.int a), some (.int b)] [] _ _
  refine hk_iload_n dX9_lost_0 rfl rfl ?_
  refine hk_if_lt (tgt := 21) dX9_lost_1 (by decide) (fun c1 => ?_) (fun c1 => ?_)
  · exfalso; grind
  · refine hk_iload_n dX9_lost_4 rfl rfl ?_
    refine hk_bipush (v := 10) dX9_lost_5 (by decide) ?_
    refine hk_icmp_ge (tgt := 21) dX9_lost_7 (by decide) (fun c7 => ?_) (fun c7 => ?_)
    · exfalso; grind
    · refine hk_iload_n dX9_lost_10 rfl rfl ?_
      refine hk_if_lt (tgt := 21) dX9_lost_11 (by decide) (fun c11 => ?_) (fun c11 => ?_)
      · exfalso; grind
      · refine hk_iload_n dX9_lost_14 rfl rfl ?_
        refine hk_sipush (v := 14641) dX9_lost_15 (by decide) ?_
        refine hk_icmp_lt (tgt := 23) dX9_lost_18 (by decide) (fun c18 => ?_) (fun c18 => ?_)
        · refine hk_iload_n dX9_lost_23 rfl rfl ?_
          refine ivX9_85 rfl (ct_isMinute a) dX9_lost_24 rfl rfl (by decide) ⟨by decide, by decide⟩ (Nat.le_of_ble_eq_true rfl) (hk_kd ?_)
          refine hk_if_eq (tgt := 44) dX9_lost_27 (by decide) (fun c27 => ?_) (fun c27 => ?_)
          · rw [bI_0] at c27
            exfalso; grind
          · rw [bI_0] at c27
            refine hk_iload dX9_lost_30 rfl ?_
            refine ivX9_85 rfl (ct_isMinute b) dX9_lost_32 rfl rfl (by decide) ⟨by decide, by decide⟩ (Nat.le_of_ble_eq_true rfl) (hk_kd ?_)
            refine hk_if_eq (tgt := 44) dX9_lost_35 (by decide) (fun c35 => ?_) (fun c35 => ?_)
            · rw [bI_0] at c35
              exfalso; grind
            · rw [bI_0] at c35
              refine hk_iload_n dX9_lost_38 rfl rfl ?_
              refine hk_iload dX9_lost_39 rfl ?_
              refine hk_icmp_le (tgt := 46) dX9_lost_41 (by decide) (fun c41 => ?_) (fun c41 => ?_)
              · refine hk_aload_n dX9_lost_46 rfl rfl ?_
                refine gfX9_51 rfl dX9_lost_47 (hk_lt (by decide)) rfl rfl ?_
                refine hk_iload_n dX9_lost_50 rfl rfl ?_
                refine hk_iload_n dX9_lost_51 rfl rfl ?_
                refine hk_iload_n dX9_lost_52 rfl rfl ?_
                refine hk_iload dX9_lost_53 rfl ?_
                refine ivX9_278 rfl (ct_addLost hN hN2 _ _ _ _) dX9_lost_55 (hk_lt (by decide)) rfl rfl rfl (by decide) ⟨by decide, by decide⟩ (Nat.le_of_ble_eq_true rfl) (hk_kd ?_)
                exact hk_ireturn dX9_lost_58 rfl rfl (by decide) ⟨rfl, rfl⟩
              · exfalso; grind
        · exfalso; grind
set_option maxRecDepth 20000 in
set_option maxHeartbeats 2000000 in
theorem md_lost_no (s p a b : Int32) (h : ¬ (inR s 10 ∧ inR p 14641 ∧ inR a 720000 ∧ inR b 720000 ∧ ¬ b < a)) : hk_Cd MX10_lost 2 0 0 [.ref 37, .int s, .int p, .int a, .int b] (hk_h L m) (some (.int (-1))) (hk_h L m) := by
  refine hk_ofWP (by decide) (by simp [Value.category]) (Nat.le_of_ble_eq_true rfl) ?_
  show hk_WP _ _ _ _ _ _ _ [some (.ref 37), some (.int s), some (.int p), some (.int a), some (.int b)] [] _ _
  refine hk_iload_n dX10_lost_0 rfl rfl ?_
  refine hk_iconst (v := 0) dX10_lost_1 (by decide) ?_
  refine hk_bipush (v := 9) dX10_lost_2 (by decide) ?_
  refine ivX10_208 rfl (ct_within s 0 9) dX10_lost_4 rfl rfl (by decide) ⟨by decide, by decide⟩ (Nat.le_of_ble_eq_true rfl) (hk_kd ?_)
  refine hk_if_eq (tgt := 42) dX10_lost_7 (by decide) (fun c7 => ?_) (fun c7 => ?_)
  · rw [bI_0, show (9 : Int32) = nI 9 from rfl, inR_w (by decide)] at c7
    refine hk_iconst (v := (-1)) dX10_lost_42 (by decide) ?_
    exact hk_ireturn dX10_lost_43 rfl rfl (by decide) ⟨rfl, rfl⟩
  · rw [bI_0, show (9 : Int32) = nI 9 from rfl, inR_w (by decide)] at c7
    refine hk_iload_n dX10_lost_10 rfl rfl ?_
    refine hk_iconst (v := 0) dX10_lost_11 (by decide) ?_
    refine hk_sipush (v := 14640) dX10_lost_12 (by decide) ?_
    refine ivX10_208 rfl (ct_within p 0 14640) dX10_lost_15 rfl rfl (by decide) ⟨by decide, by decide⟩ (Nat.le_of_ble_eq_true rfl) (hk_kd ?_)
    refine hk_if_eq (tgt := 42) dX10_lost_18 (by decide) (fun c18 => ?_) (fun c18 => ?_)
    · rw [bI_0, show (14640 : Int32) = nI 14640 from rfl, inR_w (by decide)] at c18
      refine hk_iconst (v := (-1)) dX10_lost_42 (by decide) ?_
      exact hk_ireturn dX10_lost_43 rfl rfl (by decide) ⟨rfl, rfl⟩
    · rw [bI_0, show (14640 : Int32) = nI 14640 from rfl, inR_w (by decide)] at c18
      refine hk_iload_n dX10_lost_21 rfl rfl ?_
      refine ivX10_220 rfl (md_isMinute a) dX10_lost_22 rfl rfl (by decide) ⟨by decide, by decide⟩ (Nat.le_of_ble_eq_true rfl) (hk_kd ?_)
      refine hk_if_eq (tgt := 42) dX10_lost_25 (by decide) (fun c25 => ?_) (fun c25 => ?_)
      · rw [bI_0] at c25
        refine hk_iconst (v := (-1)) dX10_lost_42 (by decide) ?_
        exact hk_ireturn dX10_lost_43 rfl rfl (by decide) ⟨rfl, rfl⟩
      · rw [bI_0] at c25
        refine hk_iload dX10_lost_28 rfl ?_
        refine ivX10_220 rfl (md_isMinute b) dX10_lost_30 rfl rfl (by decide) ⟨by decide, by decide⟩ (Nat.le_of_ble_eq_true rfl) (hk_kd ?_)
        refine hk_if_eq (tgt := 42) dX10_lost_33 (by decide) (fun c33 => ?_) (fun c33 => ?_)
        · rw [bI_0] at c33
          refine hk_iconst (v := (-1)) dX10_lost_42 (by decide) ?_
          exact hk_ireturn dX10_lost_43 rfl rfl (by decide) ⟨rfl, rfl⟩
        · rw [bI_0] at c33
          refine hk_iload_n dX10_lost_36 rfl rfl ?_
          refine hk_iload dX10_lost_37 rfl ?_
          refine hk_icmp_le (tgt := 44) dX10_lost_39 (by decide) (fun c39 => ?_) (fun c39 => ?_)
          · exact absurd (by grind) h
          · refine hk_iconst (v := (-1)) dX10_lost_42 (by decide) ?_
            exact hk_ireturn dX10_lost_43 rfl rfl (by decide) ⟨rfl, rfl⟩
set_option maxRecDepth 20000 in
set_option maxHeartbeats 2000000 in
theorem md_lost_full {n : Nat} (hN : m 37 73 = nI n) (hf : n = 60) (s p a b : Int32) (h : inR s 10 ∧ inR p 14641 ∧ inR a 720000 ∧ inR b 720000 ∧ ¬ b < a) : hk_Cd MX10_lost 2 0 0 [.ref 37, .int s, .int p, .int a, .int b] (hk_h L m) (some (.int (-2))) (hk_h L m) := by
  refine hk_ofWP (by decide) (by simp [Value.category]) (Nat.le_of_ble_eq_true rfl) ?_
  show hk_WP _ _ _ _ _ _ _ [some (.ref 37), some (.int s), some (.int p), some (.int a), some (.int b)] [] _ _
  refine hk_iload_n dX10_lost_0 rfl rfl ?_
  refine hk_iconst (v := 0) dX10_lost_1 (by decide) ?_
  refine hk_bipush (v := 9) dX10_lost_2 (by decide) ?_
  refine ivX10_208 rfl (ct_within s 0 9) dX10_lost_4 rfl rfl (by decide) ⟨by decide, by decide⟩ (Nat.le_of_ble_eq_true rfl) (hk_kd ?_)
  refine hk_if_eq (tgt := 42) dX10_lost_7 (by decide) (fun c7 => ?_) (fun c7 => ?_)
  · rw [bI_0, show (9 : Int32) = nI 9 from rfl, inR_w (by decide)] at c7
    exfalso; grind
  · rw [bI_0, show (9 : Int32) = nI 9 from rfl, inR_w (by decide)] at c7
    refine hk_iload_n dX10_lost_10 rfl rfl ?_
    refine hk_iconst (v := 0) dX10_lost_11 (by decide) ?_
    refine hk_sipush (v := 14640) dX10_lost_12 (by decide) ?_
    refine ivX10_208 rfl (ct_within p 0 14640) dX10_lost_15 rfl rfl (by decide) ⟨by decide, by decide⟩ (Nat.le_of_ble_eq_true rfl) (hk_kd ?_)
    refine hk_if_eq (tgt := 42) dX10_lost_18 (by decide) (fun c18 => ?_) (fun c18 => ?_)
    · rw [bI_0, show (14640 : Int32) = nI 14640 from rfl, inR_w (by decide)] at c18
      exfalso; grind
    · rw [bI_0, show (14640 : Int32) = nI 14640 from rfl, inR_w (by decide)] at c18
      refine hk_iload_n dX10_lost_21 rfl rfl ?_
      refine ivX10_220 rfl (md_isMinute a) dX10_lost_22 rfl rfl (by decide) ⟨by decide, by decide⟩ (Nat.le_of_ble_eq_true rfl) (hk_kd ?_)
      refine hk_if_eq (tgt := 42) dX10_lost_25 (by decide) (fun c25 => ?_) (fun c25 => ?_)
      · rw [bI_0] at c25
        exfalso; grind
      · rw [bI_0] at c25
        refine hk_iload dX10_lost_28 rfl ?_
        refine ivX10_220 rfl (md_isMinute b) dX10_lost_30 rfl rfl (by decide) ⟨by decide, by decide⟩ (Nat.le_of_ble_eq_true rfl) (hk_kd ?_)
        refine hk_if_eq (tgt := 42) dX10_lost_33 (by decide) (fun c33 => ?_) (fun c33 => ?_)
        · rw [bI_0] at c33
          exfalso; grind
        · rw [bI_0] at c33
          refine hk_iload_n dX10_lost_36 rfl rfl ?_
          refine hk_iload dX10_lost_37 rfl ?_
          refine hk_icmp_le (tgt := 44) dX10_lost_39 (by decide) (fun c39 => ?_) (fun c39 => ?_)
          · refine hk_aload_n dX10_lost_44 rfl rfl ?_
            refine gfX10_401 rfl dX10_lost_45 (hk_lt (by decide)) rfl rfl ?_
            refine hk_bipush (v := 60) dX10_lost_48 (by decide) ?_
            refine hk_icmp_ne (tgt := 56) dX10_lost_50 (by decide) (fun c50 => absurd (by rw [hN, hf]; rfl) c50) (fun _ => ?_)
            refine hk_bipush (v := (-2)) dX10_lost_53 (by decide) ?_
            exact hk_ireturn dX10_lost_55 rfl rfl (by decide) ⟨rfl, rfl⟩
          · exfalso; grind
set_option maxRecDepth 20000 in
set_option maxHeartbeats 2000000 in
theorem md_lost {n : Nat} (hN : m 37 73 = nI n) (hf : n < 60) (s p a b : Int32) (h : inR s 10 ∧ inR p 14641 ∧ inR a 720000 ∧ inR b 720000 ∧ ¬ b < a) : hk_Cd MX10_lost 2 0 0 [.ref 37, .int s, .int p, .int a, .int b] (hk_h L m) (some (.int (nI n))) (hk_h L (hk_w (hk_w (hk_w (hk_w (hk_w m 92 n s) 93 n p) 94 n a) 95 n b) 37 73 (nI (n + 1)))) := by
  refine hk_ofWP (by decide) (by simp [Value.category]) (Nat.le_of_ble_eq_true rfl) ?_
  show hk_WP _ _ _ _ _ _ _ [some (.ref 37), some (.int s), some (.int p), some (.int a), some (.int b)] [] _ _
  refine hk_iload_n dX10_lost_0 rfl rfl ?_
  refine hk_iconst (v := 0) dX10_lost_1 (by decide) ?_
  refine hk_bipush (v := 9) dX10_lost_2 (by decide) ?_
  refine ivX10_208 rfl (ct_within s 0 9) dX10_lost_4 rfl rfl (by decide) ⟨by decide, by decide⟩ (Nat.le_of_ble_eq_true rfl) (hk_kd ?_)
  refine hk_if_eq (tgt := 42) dX10_lost_7 (by decide) (fun c7 => ?_) (fun c7 => ?_)
  · rw [bI_0, show (9 : Int32) = nI 9 from rfl, inR_w (by decide)] at c7
    exfalso; grind
  · rw [bI_0, show (9 : Int32) = nI 9 from rfl, inR_w (by decide)] at c7
    refine hk_iload_n dX10_lost_10 rfl rfl ?_
    refine hk_iconst (v := 0) dX10_lost_11 (by decide) ?_
    refine hk_sipush (v := 14640) dX10_lost_12 (by decide) ?_
    refine ivX10_208 rfl (ct_within p 0 14640) dX10_lost_15 rfl rfl (by decide) ⟨by decide, by decide⟩ (Nat.le_of_ble_eq_true rfl) (hk_kd ?_)
    refine hk_if_eq (tgt := 42) dX10_lost_18 (by decide) (fun c18 => ?_) (fun c18 => ?_)
    · rw [bI_0, show (14640 : Int32) = nI 14640 from rfl, inR_w (by decide)] at c18
      exfalso; grind
    · rw [bI_0, show (14640 : Int32) = nI 14640 from rfl, inR_w (by decide)] at c18
      refine hk_iload_n dX10_lost_21 rfl rfl ?_
      refine ivX10_220 rfl (md_isMinute a) dX10_lost_22 rfl rfl (by decide) ⟨by decide, by decide⟩ (Nat.le_of_ble_eq_true rfl) (hk_kd ?_)
      refine hk_if_eq (tgt := 42) dX10_lost_25 (by decide) (fun c25 => ?_) (fun c25 => ?_)
      · rw [bI_0] at c25
        exfalso; grind
      · rw [bI_0] at c25
        refine hk_iload dX10_lost_28 rfl ?_
        refine ivX10_220 rfl (md_isMinute b) dX10_lost_30 rfl rfl (by decide) ⟨by decide, by decide⟩ (Nat.le_of_ble_eq_true rfl) (hk_kd ?_)
        refine hk_if_eq (tgt := 42) dX10_lost_33 (by decide) (fun c33 => ?_) (fun c33 => ?_)
        · rw [bI_0] at c33
          exfalso; grind
        · rw [bI_0] at c33
          refine hk_iload_n dX10_lost_36 rfl rfl ?_
          refine hk_iload dX10_lost_37 rfl ?_
          refine hk_icmp_le (tgt := 44) dX10_lost_39 (by decide) (fun c39 => ?_) (fun c39 => ?_)
          · refine hk_aload_n dX10_lost_44 rfl rfl ?_
            refine gfX10_401 rfl dX10_lost_45 (hk_lt (by decide)) rfl rfl ?_
            refine hk_bipush (v := 60) dX10_lost_48 (by decide) ?_
            refine hk_icmp_ne (tgt := 56) dX10_lost_50 (by decide) (fun _ => ?_) (fun c50 => absurd c50 (by rw [hN, show (60 : Int32) = nI 60 from rfl, nI_eq (by omega) (by decide)]; omega))
            refine hk_aload_n dX10_lost_56 rfl rfl ?_
            refine gfX10_173 rfl dX10_lost_57 (hk_lt (by decide)) rfl rfl ?_
            refine hk_aload_n dX10_lost_60 rfl rfl ?_
            refine gfX10_401 rfl dX10_lost_61 (hk_lt (by decide)) rfl rfl ?_
            refine hk_iload_n dX10_lost_64 rfl rfl ?_
            refine hk_isn dX10_lost_65 (by decide) (fun _ => rfl) hN (by omega) (by decide) ?_
            refine hk_aload_n dX10_lost_66 rfl rfl ?_
            refine gfX10_176 rfl dX10_lost_67 (hk_lt (by decide)) rfl rfl ?_
            refine hk_aload_n dX10_lost_70 rfl rfl ?_
            refine gfX10_401 rfl dX10_lost_71 (hk_lt (by decide)) rfl rfl ?_
            refine hk_iload_n dX10_lost_74 rfl rfl ?_
            refine hk_isn (j := n) dX10_lost_75 (by decide) (fun _ => rfl) (by simp [hk_wo, hN]) (by omega) (by decide) ?_
            refine hk_aload_n dX10_lost_76 rfl rfl ?_
            refine gfX10_179 rfl dX10_lost_77 (hk_lt (by decide)) rfl rfl ?_
            refine hk_aload_n dX10_lost_80 rfl rfl ?_
            refine gfX10_401 rfl dX10_lost_81 (hk_lt (by decide)) rfl rfl ?_
            refine hk_iload_n dX10_lost_84 rfl rfl ?_
            refine hk_isn (j := n) dX10_lost_85 (by decide) (fun _ => rfl) (by simp [hk_wo, hN]) (by omega) (by decide) ?_
            refine hk_aload_n dX10_lost_86 rfl rfl ?_
            refine gfX10_182 rfl dX10_lost_87 (hk_lt (by decide)) rfl rfl ?_
            refine hk_aload_n dX10_lost_90 rfl rfl ?_
            refine gfX10_401 rfl dX10_lost_91 (hk_lt (by decide)) rfl rfl ?_
            refine hk_iload dX10_lost_94 rfl ?_
            refine hk_isn (j := n) dX10_lost_96 (by decide) (fun _ => rfl) (by simp [hk_wo, hN]) (by omega) (by decide) ?_
            refine hk_aload_n dX10_lost_97 rfl rfl ?_
            refine hk_dup dX10_lost_98 rfl ?_
            refine gfX10_401 rfl dX10_lost_99 (hk_lt (by decide)) rfl rfl ?_
            refine hk_iconst (v := 1) dX10_lost_102 (by decide) ?_
            refine hk_iadd dX10_lost_103 ?_
            refine pfX10_401 rfl dX10_lost_104 (hk_lt (by decide)) rfl (Nat.le_of_ble_eq_true rfl) (hk_st (j := 73) rfl ?_)
            rw [show hk_w _ _ _ _ _ _ + 1 = nI (n + 1) by simp [hk_wo, hN, nI_1]]
            refine hk_aload_n dX10_lost_107 rfl rfl ?_
            refine gfX10_401 rfl dX10_lost_108 (hk_lt (by decide)) rfl rfl ?_
            refine hk_iconst (v := 1) dX10_lost_111 (by decide) ?_
            refine hk_isub dX10_lost_112 ?_
            exact hk_ireturn dX10_lost_113 rfl rfl (by decide) ⟨by simp [hk_wt, upd, nI_pred], rfl⟩
          · exfalso; grind
theorem op_lost (hI : Inv L z m) (s p a b : Int32) : OpOK L m MX9_lost MX10_lost [.int s, .int p, .int a, .int b] := by
  obtain ⟨g0, ⟨⟨a0, a1, a2, a3, a4, a5, a6, a7, a8, a9, a10, a11, a12, a13⟩, ⟨b0, b1, b2, b3, b4, b5, b6, b7, b8, b9, b10, b11, b12⟩, ⟨c0, c1, c2, c3, c4, c5, c6, c7, c8, c9, c10, c11, c12⟩⟩, g2, g3, g4, g5, g6, g7, g8, g9, g10, g11, g12, g13, g14⟩ := id hI
  by_cases h : inR s 10 ∧ inR p 14641 ∧ inR a 720000 ∧ inR b 720000 ∧ ¬ b < a
  · by_cases hf : z 10 = 60
    · exact ⟨3, 0, 0, 2, -2, L, m, m, z, by decide, by decide, by decide, by decide, ct_lost_full (hf ▸ a10) s p a b h, md_lost_full b10 hf s p a b h, hI⟩
    · refine ⟨3, 0, 0, 2, nI (z 10), L, _, _, up z 10 (z 10 + 1), by decide, by decide, by decide, by decide, ct_lost a10 (by omega) s p a b h, md_lost (n := z 10) (by simpa [hk_wo, hk_wt] using b10) (by omega) s p a b h, ?_⟩
      refine ⟨g0, ⟨?_, ?_, ?_⟩, ?_, ?_, ?_, ?_, ?_, ?_, ?_, ?_, ?_, ?_, ?_, ?_, ?_⟩
      · simp [hk_wo, hk_wt, hk_w99, up, upd, a0, a1, a2, a3, a4, a5, a6, a7, a8, a9, a10, a11, a12, a13]
      · simp [hk_wo, hk_wt, hk_w99, up, upd, b0, b1, b2, b3, b4, b5, b6, b7, b8, b9, b10, b11, b12]
      · first | (simp [up]; omega) | omega
      · simpa [hk_wo, hk_wt, hk_w99, up, upd] using g2
      · simpa [hk_wo, hk_wt, hk_w99, up, upd] using g3
      · simpa [hk_wo, hk_wt, hk_w99, up, upd] using g4
      · simpa [hk_wo, hk_wt, hk_w99, up, upd] using g5
      · simpa [hk_wo, hk_wt, hk_w99, up, upd] using g6
      · simpa [hk_wo, hk_wt, hk_w99, up, upd] using g7
      · simpa [hk_wo, hk_wt, hk_w99, up, upd] using g8
      · simpa [hk_wo, hk_wt, hk_w99, up, upd] using g9
      · simpa [hk_wo, hk_wt, hk_w99, up, upd] using g10
      · simpa [hk_wo, hk_wt, hk_w99, up, upd] using g11
      · simpa [hk_wo, hk_wt, hk_w99, up, upd] using g12
      · refine fun i hi => ?_
        simp only [up, if_true] at hi
        by_cases hin : i = z 10
        · subst hin
          simp [hk_wo, hk_wt, upd]
        · have := g13 i (by omega)
          refine ⟨?_, ?_, ?_, ?_⟩ <;> (simp [hk_wo, hk_wt, upd, hin, this]) <;> (repeat rw [if_neg (by omega)])
      · simpa [hk_wo, hk_wt, hk_w99, up, upd] using g14
  · exact ⟨3, 0, 0, 2, -1, L, m, m, z, by decide, by decide, by decide, by decide, ct_lost_no s p a b h, md_lost_no s p a b h, hI⟩
set_option maxRecDepth 20000 in
set_option maxHeartbeats 2000000 in
theorem ct_found_no {K : Nat} (hK : m 9 3 = nI K) (hK30 : K ≤ 30) (s c : Int32) (h : ¬ (inR s 10 ∧ inR c K)) : hk_Cd MX9_found 3 0 0 [.ref 0, .int s, .int c] (hk_h L m) (some (.int (-1))) (hk_h L m) := by
  have l1 : nI 10 = 10 := rfl
  refine hk_ofWP (by decide) (by simp [Value.category]) (Nat.le_of_ble_eq_true rfl) ?_
  show hk_WP _ _ _ _ _ _ _ [some (.ref 0), some (.int s), some (.int c)] [] _ _
  refine hk_iload_n dX9_found_0 rfl rfl ?_
  refine hk_if_lt (tgt := 24) dX9_found_1 (by decide) (fun c1 => ?_) (fun c1 => ?_)
  · refine hk_iconst (v := (-1)) dX9_found_24 (by decide) ?_
    exact hk_ireturn dX9_found_25 rfl rfl (by decide) ⟨rfl, rfl⟩
  · refine hk_iload_n dX9_found_4 rfl rfl ?_
    refine hk_bipush (v := 10) dX9_found_5 (by decide) ?_
    refine hk_icmp_ge (tgt := 24) dX9_found_7 (by decide) (fun c7 => ?_) (fun c7 => ?_)
    · refine hk_iconst (v := (-1)) dX9_found_24 (by decide) ?_
      exact hk_ireturn dX9_found_25 rfl rfl (by decide) ⟨rfl, rfl⟩
    · refine hk_aload_n dX9_found_10 rfl rfl ?_
      refine gfX9_23 rfl dX9_found_11 (hk_lt (by decide)) rfl rfl ?_
      refine gfX9_112 rfl dX9_found_14 (hk_lt (by decide)) rfl rfl ?_
      refine hk_iload_n dX9_found_17 rfl rfl ?_
      refine ivX9_71 rfl (ct_has tb9 hK30 hK c) dX9_found_18 (hk_lt (by decide)) rfl rfl rfl (by decide) ⟨by decide, by decide⟩ (Nat.le_of_ble_eq_true rfl) (hk_kd ?_)
      refine hk_if_ne (tgt := 26) dX9_found_21 (by decide) (fun c21 => ?_) (fun c21 => ?_)
      · rw [bI_0] at c21
        exact absurd (by grind) h
      · rw [bI_0] at c21
        refine hk_iconst (v := (-1)) dX9_found_24 (by decide) ?_
        exact hk_ireturn dX9_found_25 rfl rfl (by decide) ⟨rfl, rfl⟩
set_option maxRecDepth 20000 in
set_option maxHeartbeats 2000000 in
theorem ct_found_full {K : Nat} (hK : m 9 3 = nI K) (hK30 : K ≤ 30) (hN : m 35 3 = nI 60) (s c : Int32) (h : inR s 10 ∧ inR c K) : hk_Cd MX9_found 3 0 0 [.ref 0, .int s, .int c] (hk_h L m) (some (.int (-2))) (hk_h L m) := by
  have l1 : nI 10 = 10 := rfl
  refine hk_ofWP (by decide) (by simp [Value.category]) (Nat.le_of_ble_eq_true rfl) ?_
  show hk_WP _ _ _ _ _ _ _ [some (.ref 0), some (.int s), some (.int c)] [] _ _
  refine hk_iload_n dX9_found_0 rfl rfl ?_
  refine hk_if_lt (tgt := 24) dX9_found_1 (by decide) (fun c1 => ?_) (fun c1 => ?_)
  · exfalso; grind
  · refine hk_iload_n dX9_found_4 rfl rfl ?_
    refine hk_bipush (v := 10) dX9_found_5 (by decide) ?_
    refine hk_icmp_ge (tgt := 24) dX9_found_7 (by decide) (fun c7 => ?_) (fun c7 => ?_)
    · exfalso; grind
    · refine hk_aload_n dX9_found_10 rfl rfl ?_
      refine gfX9_23 rfl dX9_found_11 (hk_lt (by decide)) rfl rfl ?_
      refine gfX9_112 rfl dX9_found_14 (hk_lt (by decide)) rfl rfl ?_
      refine hk_iload_n dX9_found_17 rfl rfl ?_
      refine ivX9_71 rfl (ct_has tb9 hK30 hK c) dX9_found_18 (hk_lt (by decide)) rfl rfl rfl (by decide) ⟨by decide, by decide⟩ (Nat.le_of_ble_eq_true rfl) (hk_kd ?_)
      refine hk_if_ne (tgt := 26) dX9_found_21 (by decide) (fun c21 => ?_) (fun c21 => ?_)
      · rw [bI_0] at c21
        refine hk_aload_n dX9_found_26 rfl rfl ?_
        refine gfX9_51 rfl dX9_found_27 (hk_lt (by decide)) rfl rfl ?_
        refine hk_iload_n dX9_found_30 rfl rfl ?_
        refine hk_iload_n dX9_found_31 rfl rfl ?_
        refine hk_aload_n dX9_found_32 rfl rfl ?_
        refine gfX9_7 rfl dX9_found_33 (hk_lt (by decide)) rfl rfl ?_
        refine ivX9_281 rfl (ct_addFound_full hN _ _ _) dX9_found_36 (hk_lt (by decide)) rfl rfl rfl (by decide) ⟨by decide, by decide⟩ (Nat.le_of_ble_eq_true rfl) (hk_kd ?_)
        exact hk_ireturn dX9_found_39 rfl rfl (by decide) ⟨rfl, rfl⟩
      · rw [bI_0] at c21
        exfalso; grind
set_option maxRecDepth 20000 in
set_option maxHeartbeats 2000000 in
theorem ct_found {K : Nat} (hK : m 9 3 = nI K) (hK30 : K ≤ 30) {n : Nat} (hN : m 35 3 = nI n) (hN2 : n < 60) (s c : Int32) (h : inR s 10 ∧ inR c K) : hk_Cd MX9_found 3 0 0 [.ref 0, .int s, .int c] (hk_h L m) (some (.int (nI n))) (hk_h L (hk_w (hk_w (hk_w (hk_w m 35 3 (nI (n + 1))) 36 (n * 3 + 0) s) 36 (n * 3 + 1) c) 36 (n * 3 + 2) (m 0 0))) := by
  have l1 : nI 10 = 10 := rfl
  refine hk_ofWP (by decide) (by simp [Value.category]) (Nat.le_of_ble_eq_true rfl) ?_
  show hk_WP _ _ _ _ _ _ _ [some (.ref 0), some (.int s), some (.int c)] [] _ _
  refine hk_iload_n dX9_found_0 rfl rfl ?_
  refine hk_if_lt (tgt := 24) dX9_found_1 (by decide) (fun c1 => ?_) (fun c1 => ?_)
  · exfalso; grind
  · refine hk_iload_n dX9_found_4 rfl rfl ?_
    refine hk_bipush (v := 10) dX9_found_5 (by decide) ?_
    refine hk_icmp_ge (tgt := 24) dX9_found_7 (by decide) (fun c7 => ?_) (fun c7 => ?_)
    · exfalso; grind
    · refine hk_aload_n dX9_found_10 rfl rfl ?_
      refine gfX9_23 rfl dX9_found_11 (hk_lt (by decide)) rfl rfl ?_
      refine gfX9_112 rfl dX9_found_14 (hk_lt (by decide)) rfl rfl ?_
      refine hk_iload_n dX9_found_17 rfl rfl ?_
      refine ivX9_71 rfl (ct_has tb9 hK30 hK c) dX9_found_18 (hk_lt (by decide)) rfl rfl rfl (by decide) ⟨by decide, by decide⟩ (Nat.le_of_ble_eq_true rfl) (hk_kd ?_)
      refine hk_if_ne (tgt := 26) dX9_found_21 (by decide) (fun c21 => ?_) (fun c21 => ?_)
      · rw [bI_0] at c21
        refine hk_aload_n dX9_found_26 rfl rfl ?_
        refine gfX9_51 rfl dX9_found_27 (hk_lt (by decide)) rfl rfl ?_
        refine hk_iload_n dX9_found_30 rfl rfl ?_
        refine hk_iload_n dX9_found_31 rfl rfl ?_
        refine hk_aload_n dX9_found_32 rfl rfl ?_
        refine gfX9_7 rfl dX9_found_33 (hk_lt (by decide)) rfl rfl ?_
        refine ivX9_281 rfl (ct_addFound hN hN2 _ _ _) dX9_found_36 (hk_lt (by decide)) rfl rfl rfl (by decide) ⟨by decide, by decide⟩ (Nat.le_of_ble_eq_true rfl) (hk_kd ?_)
        exact hk_ireturn dX9_found_39 rfl rfl (by decide) ⟨rfl, rfl⟩
      · rw [bI_0] at c21
        exfalso; grind
set_option maxRecDepth 20000 in
set_option maxHeartbeats 2000000 in
theorem md_found_no {K : Nat} (hK : m 37 26 = nI K) (s c : Int32) (h : ¬ (inR s 10 ∧ inR c K)) : hk_Cd MX10_found 1 0 0 [.ref 37, .int s, .int c] (hk_h L m) (some (.int (-1))) (hk_h L m) := by
  refine hk_ofWP (by decide) (by simp [Value.category]) (Nat.le_of_ble_eq_true rfl) ?_
  show hk_WP _ _ _ _ _ _ _ [some (.ref 37), some (.int s), some (.int c)] [] _ _
  refine hk_iload_n dX10_found_0 rfl rfl ?_
  refine hk_iconst (v := 0) dX10_found_1 (by decide) ?_
  refine hk_bipush (v := 9) dX10_found_2 (by decide) ?_
  refine ivX10_208 rfl (ct_within s 0 9) dX10_found_4 rfl rfl (by decide) ⟨by decide, by decide⟩ (Nat.le_of_ble_eq_true rfl) (hk_kd ?_)
  refine hk_if_eq (tgt := 18) dX10_found_7 (by decide) (fun c7 => ?_) (fun c7 => ?_)
  · rw [bI_0, show (9 : Int32) = nI 9 from rfl, inR_w (by decide)] at c7
    refine hk_iconst (v := (-1)) dX10_found_18 (by decide) ?_
    exact hk_ireturn dX10_found_19 rfl rfl (by decide) ⟨rfl, rfl⟩
  · rw [bI_0, show (9 : Int32) = nI 9 from rfl, inR_w (by decide)] at c7
    refine hk_aload_n dX10_found_10 rfl rfl ?_
    refine hk_iload_n dX10_found_11 rfl rfl ?_
    refine ivX10_255 rfl (md_isCoach hK c) dX10_found_12 (hk_lt (by decide)) rfl rfl rfl (by decide) ⟨by decide, by decide⟩ (Nat.le_of_ble_eq_true rfl) (hk_kd ?_)
    refine hk_if_ne (tgt := 20) dX10_found_15 (by decide) (fun c15 => ?_) (fun c15 => ?_)
    · rw [bI_0] at c15
      exact absurd (by grind) h
    · rw [bI_0] at c15
      refine hk_iconst (v := (-1)) dX10_found_18 (by decide) ?_
      exact hk_ireturn dX10_found_19 rfl rfl (by decide) ⟨rfl, rfl⟩
set_option maxRecDepth 20000 in
set_option maxHeartbeats 2000000 in
theorem md_found_full {K : Nat} (hK : m 37 26 = nI K) {n : Nat} (hN : m 37 77 = nI n) (hf : n = 60) (s c : Int32) (h : inR s 10 ∧ inR c K) : hk_Cd MX10_found 1 0 0 [.ref 37, .int s, .int c] (hk_h L m) (some (.int (-2))) (hk_h L m) := by
  refine hk_ofWP (by decide) (by simp [Value.category]) (Nat.le_of_ble_eq_true rfl) ?_
  show hk_WP _ _ _ _ _ _ _ [some (.ref 37), some (.int s), some (.int c)] [] _ _
  refine hk_iload_n dX10_found_0 rfl rfl ?_
  refine hk_iconst (v := 0) dX10_found_1 (by decide) ?_
  refine hk_bipush (v := 9) dX10_found_2 (by decide) ?_
  refine ivX10_208 rfl (ct_within s 0 9) dX10_found_4 rfl rfl (by decide) ⟨by decide, by decide⟩ (Nat.le_of_ble_eq_true rfl) (hk_kd ?_)
  refine hk_if_eq (tgt := 18) dX10_found_7 (by decide) (fun c7 => ?_) (fun c7 => ?_)
  · rw [bI_0, show (9 : Int32) = nI 9 from rfl, inR_w (by decide)] at c7
    exfalso; grind
  · rw [bI_0, show (9 : Int32) = nI 9 from rfl, inR_w (by decide)] at c7
    refine hk_aload_n dX10_found_10 rfl rfl ?_
    refine hk_iload_n dX10_found_11 rfl rfl ?_
    refine ivX10_255 rfl (md_isCoach hK c) dX10_found_12 (hk_lt (by decide)) rfl rfl rfl (by decide) ⟨by decide, by decide⟩ (Nat.le_of_ble_eq_true rfl) (hk_kd ?_)
    refine hk_if_ne (tgt := 20) dX10_found_15 (by decide) (fun c15 => ?_) (fun c15 => ?_)
    · rw [bI_0] at c15
      refine hk_aload_n dX10_found_20 rfl rfl ?_
      refine gfX10_404 rfl dX10_found_21 (hk_lt (by decide)) rfl rfl ?_
      refine hk_bipush (v := 60) dX10_found_24 (by decide) ?_
      refine hk_icmp_ne (tgt := 32) dX10_found_26 (by decide) (fun c26 => absurd (by rw [hN, hf]; rfl) c26) (fun _ => ?_)
      refine hk_bipush (v := (-2)) dX10_found_29 (by decide) ?_
      exact hk_ireturn dX10_found_31 rfl rfl (by decide) ⟨rfl, rfl⟩
    · rw [bI_0] at c15
      exfalso; grind
set_option maxRecDepth 20000 in
set_option maxHeartbeats 2000000 in
theorem md_found {K : Nat} (hK : m 37 26 = nI K) {n : Nat} (hN : m 37 77 = nI n) (hf : n < 60) (s c : Int32) (h : inR s 10 ∧ inR c K) : hk_Cd MX10_found 1 0 0 [.ref 37, .int s, .int c] (hk_h L m) (some (.int (nI n))) (hk_h L (hk_w (hk_w (hk_w (hk_w m 96 n s) 97 n c) 98 n (m 37 0)) 37 77 (nI (n + 1)))) := by
  refine hk_ofWP (by decide) (by simp [Value.category]) (Nat.le_of_ble_eq_true rfl) ?_
  show hk_WP _ _ _ _ _ _ _ [some (.ref 37), some (.int s), some (.int c)] [] _ _
  refine hk_iload_n dX10_found_0 rfl rfl ?_
  refine hk_iconst (v := 0) dX10_found_1 (by decide) ?_
  refine hk_bipush (v := 9) dX10_found_2 (by decide) ?_
  refine ivX10_208 rfl (ct_within s 0 9) dX10_found_4 rfl rfl (by decide) ⟨by decide, by decide⟩ (Nat.le_of_ble_eq_true rfl) (hk_kd ?_)
  refine hk_if_eq (tgt := 18) dX10_found_7 (by decide) (fun c7 => ?_) (fun c7 => ?_)
  · rw [bI_0, show (9 : Int32) = nI 9 from rfl, inR_w (by decide)] at c7
    exfalso; grind
  · rw [bI_0, show (9 : Int32) = nI 9 from rfl, inR_w (by decide)] at c7
    refine hk_aload_n dX10_found_10 rfl rfl ?_
    refine hk_iload_n dX10_found_11 rfl rfl ?_
    refine ivX10_255 rfl (md_isCoach hK c) dX10_found_12 (hk_lt (by decide)) rfl rfl rfl (by decide) ⟨by decide, by decide⟩ (Nat.le_of_ble_eq_true rfl) (hk_kd ?_)
    refine hk_if_ne (tgt := 20) dX10_found_15 (by decide) (fun c15 => ?_) (fun c15 => ?_)
    · rw [bI_0] at c15
      refine hk_aload_n dX10_found_20 rfl rfl ?_
      refine gfX10_404 rfl dX10_found_21 (hk_lt (by decide)) rfl rfl ?_
      refine hk_bipush (v := 60) dX10_found_24 (by decide) ?_
      refine hk_icmp_ne (tgt := 32) dX10_found_26 (by decide) (fun _ => ?_) (fun c26 => absurd c26 (by rw [hN, show (60 : Int32) = nI 60 from rfl, nI_eq (by omega) (by decide)]; omega))
      refine hk_aload_n dX10_found_32 rfl rfl ?_
      refine gfX10_185 rfl dX10_found_33 (hk_lt (by decide)) rfl rfl ?_
      refine hk_aload_n dX10_found_36 rfl rfl ?_
      refine gfX10_404 rfl dX10_found_37 (hk_lt (by decide)) rfl rfl ?_
      refine hk_iload_n dX10_found_40 rfl rfl ?_
      refine hk_isn dX10_found_41 (by decide) (fun _ => rfl) hN (by omega) (by decide) ?_
      refine hk_aload_n dX10_found_42 rfl rfl ?_
      refine gfX10_188 rfl dX10_found_43 (hk_lt (by decide)) rfl rfl ?_
      refine hk_aload_n dX10_found_46 rfl rfl ?_
      refine gfX10_404 rfl dX10_found_47 (hk_lt (by decide)) rfl rfl ?_
      refine hk_iload_n dX10_found_50 rfl rfl ?_
      refine hk_isn (j := n) dX10_found_51 (by decide) (fun _ => rfl) (by simp [hk_wo, hN]) (by omega) (by decide) ?_
      refine hk_aload_n dX10_found_52 rfl rfl ?_
      refine gfX10_191 rfl dX10_found_53 (hk_lt (by decide)) rfl rfl ?_
      refine hk_aload_n dX10_found_56 rfl rfl ?_
      refine gfX10_404 rfl dX10_found_57 (hk_lt (by decide)) rfl rfl ?_
      refine hk_aload_n dX10_found_60 rfl rfl ?_
      refine gfX10_194 rfl dX10_found_61 (hk_lt (by decide)) rfl rfl ?_
      refine hk_isn (j := n) dX10_found_64 (by decide) (fun _ => rfl) (by simp [hk_wo, hN]) (by omega) (by decide) ?_
      refine hk_aload_n dX10_found_65 rfl rfl ?_
      refine hk_dup dX10_found_66 rfl ?_
      refine gfX10_404 rfl dX10_found_67 (hk_lt (by decide)) rfl rfl ?_
      refine hk_iconst (v := 1) dX10_found_70 (by decide) ?_
      refine hk_iadd dX10_found_71 ?_
      refine pfX10_404 rfl dX10_found_72 (hk_lt (by decide)) rfl (Nat.le_of_ble_eq_true rfl) (hk_st (j := 77) rfl ?_)
      rw [show hk_w _ _ _ _ _ _ + 1 = nI (n + 1) by simp [hk_wo, hN, nI_1]]
      refine hk_aload_n dX10_found_75 rfl rfl ?_
      refine gfX10_404 rfl dX10_found_76 (hk_lt (by decide)) rfl rfl ?_
      refine hk_iconst (v := 1) dX10_found_79 (by decide) ?_
      refine hk_isub dX10_found_80 ?_
      exact hk_ireturn dX10_found_81 rfl rfl (by decide) ⟨by simp [hk_wt, upd, nI_pred], rfl⟩
    · rw [bI_0] at c15
      exfalso; grind
theorem op_found (hI : Inv L z m) (s c : Int32) : OpOK L m MX9_found MX10_found [.int s, .int c] := by
  obtain ⟨g0, ⟨⟨a0, a1, a2, a3, a4, a5, a6, a7, a8, a9, a10, a11, a12, a13⟩, ⟨b0, b1, b2, b3, b4, b5, b6, b7, b8, b9, b10, b11, b12⟩, ⟨c0, c1, c2, c3, c4, c5, c6, c7, c8, c9, c10, c11, c12⟩⟩, g2, g3, g4, g5, g6, g7, g8, g9, g10, g11, g12, g13, g14⟩ := id hI
  by_cases h : inR s 10 ∧ inR c (z 2)
  · by_cases hf : z 11 = 60
    · exact ⟨3, 0, 0, 1, -2, L, m, m, z, by decide, by decide, by decide, by decide, ct_found_full a2 c2 (hf ▸ a11) s c h, md_found_full b2 b11 hf s c h, hI⟩
    · obtain ⟨k, hk, ek⟩ := inR_of h.2 (by omega)
      refine ⟨3, 0, 0, 1, nI (z 11), L, _, _, up z 11 (z 11 + 1), by decide, by decide, by decide, by decide, ct_found a2 c2 a11 (by omega) s c h, md_found (K := z 2) (n := z 11) (by simpa [hk_wo, hk_wt] using b2) (by simpa [hk_wo, hk_wt] using b11) (by omega) s c h, ?_⟩
      refine ⟨g0, ⟨?_, ?_, ?_⟩, ?_, ?_, ?_, ?_, ?_, ?_, ?_, ?_, ?_, ?_, ?_, ?_, ?_⟩
      · simp [hk_wo, hk_wt, hk_w99, up, upd, a0, a1, a2, a3, a4, a5, a6, a7, a8, a9, a10, a11, a12, a13]
      · simp [hk_wo, hk_wt, hk_w99, up, upd, b0, b1, b2, b3, b4, b5, b6, b7, b8, b9, b10, b11, b12]
      · first | (simp [up]; omega) | omega
      · simpa [hk_wo, hk_wt, hk_w99, up, upd] using g2
      · simpa [hk_wo, hk_wt, hk_w99, up, upd] using g3
      · simpa [hk_wo, hk_wt, hk_w99, up, upd] using g4
      · simpa [hk_wo, hk_wt, hk_w99, up, upd] using g5
      · simpa [hk_wo, hk_wt, hk_w99, up, upd] using g6
      · simpa [hk_wo, hk_wt, hk_w99, up, upd] using g7
      · simpa [hk_wo, hk_wt, hk_w99, up, upd] using g8
      · simpa [hk_wo, hk_wt, hk_w99, up, upd] using g9
      · simpa [hk_wo, hk_wt, hk_w99, up, upd] using g10
      · simpa [hk_wo, hk_wt, hk_w99, up, upd] using g11
      · simpa [hk_wo, hk_wt, hk_w99, up, upd] using g12
      · simpa [hk_wo, hk_wt, hk_w99, up, upd] using g13
      · refine fun i hi => ?_
        simp only [up, if_true] at hi
        by_cases hin : i = z 11
        · subst hin
          refine ⟨by simp [hk_wo, hk_wt, upd], by simp [hk_wo, hk_wt, upd], by simp [hk_wo, hk_wt, upd, a8, b8], k, by simp [hk_wo, hk_wt, upd, ek], by simpa [up] using hk⟩
        · have := g14 i (by omega)
          refine ⟨?_, ?_, ?_, ?_⟩
          · (simp [hk_wo, hk_wt, upd, hin, this]) <;> (repeat rw [if_neg (by omega)])
          · (simp [hk_wo, hk_wt, upd, hin, this]) <;> (repeat rw [if_neg (by omega)])
          · (simp [hk_wo, hk_wt, upd, hin, this]) <;> (repeat rw [if_neg (by omega)])
          · simpa [hk_wo, hk_wt, upd, hin, up] using this.2.2.2
  · exact ⟨3, 0, 0, 1, -1, L, m, m, z, by decide, by decide, by decide, by decide, ct_found_no a2 c2 s c h, md_found_no b2 s c h, hI⟩
end O7
