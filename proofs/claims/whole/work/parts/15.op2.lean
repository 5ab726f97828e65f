section O2
variable {L : Nat} {m : Nat → Nat → Int32} {z : Nat → Nat}
set_option maxRecDepth 20000 in
set_option maxHeartbeats 2000000 in
theorem ct_tellSun {i : Nat} (hi : i < 12) (r s : Int32) : hk_Cd MX0_tellSun 0 0 0 [.ref 1, .int (nI i), .int r, .int s] (hk_h L m) none (hk_h L (hk_w (hk_w m 4 i r) 5 i s)) := by
  refine hk_ofWP (by decide) (by simp [Value.category]) (Nat.le_of_ble_eq_true rfl) ?_
  show hk_WP _ _ _ _ _ _ _ [some (.ref 1), some (.int (nI i)), some (.int r), some (.int s)] [] _ _
  refine hk_iload_n dX0_tellSun_0 rfl rfl ?_
  refine hk_if_lt (tgt := 24) dX0_tellSun_1 (by decide) (fun c1 => absurd c1 (nI_pos (by omega))) (fun _ => ?_)
  refine hk_iload_n dX0_tellSun_4 rfl rfl ?_
  refine hk_bipush (v := 12) dX0_tellSun_5 (by decide) ?_
  refine hk_icmp_ge (tgt := 24) dX0_tellSun_7 (by decide) (fun c7 => absurd c7 (nI_ge hi (by decide))) (fun _ => ?_)
  refine hk_aload_n dX0_tellSun_10 rfl rfl ?_
  refine gfX0_20 rfl dX0_tellSun_11 (hk_lt (by decide)) rfl rfl ?_
  refine hk_iload_n dX0_tellSun_14 rfl rfl ?_
  refine hk_iload_n dX0_tellSun_15 rfl rfl ?_
  refine hk_is dX0_tellSun_16 (by decide) (fun _ => rfl) (vp_in_nI hi (by decide)) ?_
  refine hk_aload_n dX0_tellSun_17 rfl rfl ?_
  refine gfX0_24 rfl dX0_tellSun_18 (hk_lt (by decide)) rfl rfl ?_
  refine hk_iload_n dX0_tellSun_21 rfl rfl ?_
  refine hk_iload_n dX0_tellSun_22 rfl rfl ?_
  refine hk_is dX0_tellSun_23 (by decide) (fun _ => rfl) (vp_in_nI hi (by decide)) ?_
  exact hk_return dX0_tellSun_24 rfl (by decide) ⟨rfl, by rw [nI_clamp (by omega)]⟩
set_option maxRecDepth 20000 in
set_option maxHeartbeats 2000000 in
theorem ct_sun_no (mo r s : Int32) (h : ¬ (inR mo 12 ∧ ¬ r < 0 ∧ ¬ s < r ∧ ¬ 1440 < s)) : hk_Cd MX9_sun 1 0 0 [.ref 0, .int mo, .int r, .int s] (hk_h L m) (some (.int (-1))) (hk_h L m) := by
  refine hk_ofWP (by decide) (by simp [Value.category]) (Nat.le_of_ble_eq_true rfl) ?_
  show hk_WP _ _ _ _ _ _ _ [some (.ref 0), some (.int mo), some (.int r), some (.int s)] [] _ _
  refine hk_iload_n dX9_sun_0 rfl rfl ?_
  refine hk_if_lt (tgt := 26) dX9_sun_1 (by decide) (fun c1 => ?_) (fun c1 => ?_)
  · refine hk_iconst (v := (-1)) dX9_sun_26 (by decide) ?_
    exact hk_ireturn dX9_sun_27 rfl rfl (by decide) ⟨rfl, rfl⟩
  · refine hk_iload_n dX9_sun_4 rfl rfl ?_
    refine hk_bipush (v := 12) dX9_sun_5 (by decide) ?_
    refine hk_icmp_ge (tgt := 26) dX9_sun_7 (by decide) (fun c7 => ?_) (fun c7 => ?_)
    · rw [show (12 : Int32) = nI 12 from rfl] at c7
      refine hk_iconst (v := (-1)) dX9_sun_26 (by decide) ?_
      exact hk_ireturn dX9_sun_27 rfl rfl (by decide) ⟨rfl, rfl⟩
    · rw [show (12 : Int32) = nI 12 from rfl] at c7
      refine hk_iload_n dX9_sun_10 rfl rfl ?_
      refine hk_if_lt (tgt := 26) dX9_sun_11 (by decide) (fun c11 => ?_) (fun c11 => ?_)
      · refine hk_iconst (v := (-1)) dX9_sun_26 (by decide) ?_
        exact hk_ireturn dX9_sun_27 rfl rfl (by decide) ⟨rfl, rfl⟩
      · refine hk_iload_n dX9_sun_14 rfl rfl ?_
        refine hk_iload_n dX9_sun_15 rfl rfl ?_
        refine hk_icmp_gt (tgt := 26) dX9_sun_16 (by decide) (fun c16 => ?_) (fun c16 => ?_)
        · refine hk_iconst (v := (-1)) dX9_sun_26 (by decide) ?_
          exact hk_ireturn dX9_sun_27 rfl rfl (by decide) ⟨rfl, rfl⟩
        · refine hk_iload_n dX9_sun_19 rfl rfl ?_
          refine hk_sipush (v := 1440) dX9_sun_20 (by decide) ?_
          refine hk_icmp_le (tgt := 28) dX9_sun_23 (by decide) (fun c23 => ?_) (fun c23 => ?_)
          · exact absurd (by grind) h
          · refine hk_iconst (v := (-1)) dX9_sun_26 (by decide) ?_
            exact hk_ireturn dX9_sun_27 rfl rfl (by decide) ⟨rfl, rfl⟩
set_option maxRecDepth 20000 in
set_option maxHeartbeats 2000000 in
theorem ct_sun {i : Nat} (hi : i < 12) (r s : Int32) (h : ¬ r < 0 ∧ ¬ s < r ∧ ¬ 1440 < s) : hk_Cd MX9_sun 1 0 0 [.ref 0, .int (nI i), .int r, .int s] (hk_h L m) (some (.int 1)) (hk_h L (hk_w (hk_w m 4 i r) 5 i s)) := by
  refine hk_ofWP (by decide) (by simp [Value.category]) (Nat.le_of_ble_eq_true rfl) ?_
  show hk_WP _ _ _ _ _ _ _ [some (.ref 0), some (.int (nI i)), some (.int r), some (.int s)] [] _ _
  refine hk_iload_n dX9_sun_0 rfl rfl ?_
  refine hk_if_lt (tgt := 26) dX9_sun_1 (by decide) (fun c1 => absurd c1 (nI_pos (by omega))) (fun _ => ?_)
  refine hk_iload_n dX9_sun_4 rfl rfl ?_
  refine hk_bipush (v := 12) dX9_sun_5 (by decide) ?_
  refine hk_icmp_ge (tgt := 26) dX9_sun_7 (by decide) (fun c7 => absurd c7 (nI_ge hi (by decide))) (fun _ => ?_)
  refine hk_iload_n dX9_sun_10 rfl rfl ?_
  refine hk_if_lt (tgt := 26) dX9_sun_11 (by decide) (fun c11 => absurd c11 h.1) (fun _ => ?_)
  refine hk_iload_n dX9_sun_14 rfl rfl ?_
  refine hk_iload_n dX9_sun_15 rfl rfl ?_
  refine hk_icmp_gt (tgt := 26) dX9_sun_16 (by decide) (fun c16 => absurd c16 h.2.1) (fun _ => ?_)
  refine hk_iload_n dX9_sun_19 rfl rfl ?_
  refine hk_sipush (v := 1440) dX9_sun_20 (by decide) ?_
  refine hk_icmp_le (tgt := 28) dX9_sun_23 (by decide) (fun _ => ?_) (fun c23 => absurd (Int32.not_lt.mp h.2.2) c23)
  refine hk_aload_n dX9_sun_28 rfl rfl ?_
  refine gfX9_16 rfl dX9_sun_29 (hk_lt (by decide)) rfl rfl ?_
  refine hk_iload_n dX9_sun_32 rfl rfl ?_
  refine hk_iload_n dX9_sun_33 rfl rfl ?_
  refine hk_iload_n dX9_sun_34 rfl rfl ?_
  refine ivX9_81 rfl (ct_tellSun hi r s) dX9_sun_35 (hk_lt (by decide)) rfl rfl rfl (by decide) ⟨by decide, by decide⟩ (Nat.le_of_ble_eq_true rfl) (hk_kv ?_)
  refine hk_iconst (v := 1) dX9_sun_38 (by decide) ?_
  exact hk_ireturn dX9_sun_39 rfl rfl (by decide) ⟨rfl, rfl⟩
set_option maxRecDepth 20000 in
set_option maxHeartbeats 2000000 in
theorem md_sun_no (mo r s : Int32) (h : ¬ (inR mo 12 ∧ ¬ r < 0 ∧ ¬ s < r ∧ ¬ 1440 < s)) : hk_Cd MX10_sun 1 0 0 [.ref 37, .int mo, .int r, .int s] (hk_h L m) (some (.int (-1))) (hk_h L m) := by
  refine hk_ofWP (by decide) (by simp [Value.category]) (Nat.le_of_ble_eq_true rfl) ?_
  show hk_WP _ _ _ _ _ _ _ [some (.ref 37), some (.int mo), some (.int r), some (.int s)] [] _ _
  refine hk_iload_n dX10_sun_0 rfl rfl ?_
  refine hk_iconst (v := 0) dX10_sun_1 (by decide) ?_
  refine hk_bipush (v := 11) dX10_sun_2 (by decide) ?_
  refine ivX10_208 rfl (ct_within mo 0 11) dX10_sun_4 rfl rfl (by decide) ⟨by decide, by decide⟩ (Nat.le_of_ble_eq_true rfl) (hk_kd ?_)
  refine hk_if_eq (tgt := 26) dX10_sun_7 (by decide) (fun c7 => ?_) (fun c7 => ?_)
  · rw [bI_0, show (11 : Int32) = nI 11 from rfl, inR_w (by decide)] at c7
    refine hk_iconst (v := (-1)) dX10_sun_26 (by decide) ?_
    exact hk_ireturn dX10_sun_27 rfl rfl (by decide) ⟨rfl, rfl⟩
  · rw [bI_0, show (11 : Int32) = nI 11 from rfl, inR_w (by decide)] at c7
    refine hk_iload_n dX10_sun_10 rfl rfl ?_
    refine hk_if_lt (tgt := 26) dX10_sun_11 (by decide) (fun c11 => ?_) (fun c11 => ?_)
    · refine hk_iconst (v := (-1)) dX10_sun_26 (by decide) ?_
      exact hk_ireturn dX10_sun_27 rfl rfl (by decide) ⟨rfl, rfl⟩
    · refine hk_iload_n dX10_sun_14 rfl rfl ?_
      refine hk_iload_n dX10_sun_15 rfl rfl ?_
      refine hk_icmp_gt (tgt := 26) dX10_sun_16 (by decide) (fun c16 => ?_) (fun c16 => ?_)
      · refine hk_iconst (v := (-1)) dX10_sun_26 (by decide) ?_
        exact hk_ireturn dX10_sun_27 rfl rfl (by decide) ⟨rfl, rfl⟩
      · refine hk_iload_n dX10_sun_19 rfl rfl ?_
        refine hk_sipush (v := 1440) dX10_sun_20 (by decide) ?_
        refine hk_icmp_le (tgt := 28) dX10_sun_23 (by decide) (fun c23 => ?_) (fun c23 => ?_)
        · exact absurd (by grind) h
        · refine hk_iconst (v := (-1)) dX10_sun_26 (by decide) ?_
          exact hk_ireturn dX10_sun_27 rfl rfl (by decide) ⟨rfl, rfl⟩
set_option maxRecDepth 20000 in
set_option maxHeartbeats 2000000 in
theorem md_sun {i : Nat} (hi : i < 12) (r s : Int32) (h : ¬ r < 0 ∧ ¬ s < r ∧ ¬ 1440 < s) : hk_Cd MX10_sun 1 0 0 [.ref 37, .int (nI i), .int r, .int s] (hk_h L m) (some (.int 1)) (hk_h L (hk_w (hk_w m 38 i r) 39 i s)) := by
  refine hk_ofWP (by decide) (by simp [Value.category]) (Nat.le_of_ble_eq_true rfl) ?_
  show hk_WP _ _ _ _ _ _ _ [some (.ref 37), some (.int (nI i)), some (.int r), some (.int s)] [] _ _
  refine hk_iload_n dX10_sun_0 rfl rfl ?_
  refine hk_iconst (v := 0) dX10_sun_1 (by decide) ?_
  refine hk_bipush (v := 11) dX10_sun_2 (by decide) ?_
  refine ivX10_208 rfl (ct_within _ 0 11) dX10_sun_4 rfl rfl (by decide) ⟨by decide, by decide⟩ (Nat.le_of_ble_eq_true rfl) (hk_kd ?_)
  refine hk_if_eq (tgt := 26) dX10_sun_7 (by decide) (fun c7 => absurd c7 (by rw [bI_0, show (11 : Int32) = nI 11 from rfl, inR_w (by decide)]; exact fun q => q (inR_nI hi (by decide)))) (fun _ => ?_)
  refine hk_iload_n dX10_sun_10 rfl rfl ?_
  refine hk_if_lt (tgt := 26) dX10_sun_11 (by decide) (fun c11 => absurd c11 h.1) (fun _ => ?_)
  refine hk_iload_n dX10_sun_14 rfl rfl ?_
  refine hk_iload_n dX10_sun_15 rfl rfl ?_
  refine hk_icmp_gt (tgt := 26) dX10_sun_16 (by decide) (fun c16 => absurd c16 h.2.1) (fun _ => ?_)
  refine hk_iload_n dX10_sun_19 rfl rfl ?_
  refine hk_sipush (v := 1440) dX10_sun_20 (by decide) ?_
  refine hk_icmp_le (tgt := 28) dX10_sun_23 (by decide) (fun _ => ?_) (fun c23 => absurd (Int32.not_lt.mp h.2.2) c23)
  refine hk_aload_n dX10_sun_28 rfl rfl ?_
  refine gfX10_7 rfl dX10_sun_29 (hk_lt (by decide)) rfl rfl ?_
  refine hk_iload_n dX10_sun_32 rfl rfl ?_
  refine hk_iload_n dX10_sun_33 rfl rfl ?_
  refine hk_is dX10_sun_34 (by decide) (fun _ => rfl) (vp_in_nI hi (by decide)) ?_
  refine hk_aload_n dX10_sun_35 rfl rfl ?_
  refine gfX10_13 rfl dX10_sun_36 (hk_lt (by decide)) rfl rfl ?_
  refine hk_iload_n dX10_sun_39 rfl rfl ?_
  refine hk_iload_n dX10_sun_40 rfl rfl ?_
  refine hk_is dX10_sun_41 (by decide) (fun _ => rfl) (vp_in_nI hi (by decide)) ?_
  refine hk_iconst (v := 1) dX10_sun_42 (by decide) ?_
  exact hk_ireturn dX10_sun_43 rfl rfl (by decide) ⟨rfl, by rw [nI_clamp (by omega)]⟩
theorem op_sun (hI : Inv L z m) (mo r s : Int32) : OpOK L m MX9_sun MX10_sun [.int mo, .int r, .int s] := by
  by_cases h : inR mo 12 ∧ ¬ r < 0 ∧ ¬ s < r ∧ ¬ 1440 < s
  · obtain ⟨g0, ⟨⟨a0, a1, a2, a3, a4, a5, a6, a7, a8, a9, a10, a11, a12, a13⟩, ⟨b0, b1, b2, b3, b4, b5, b6, b7, b8, b9, b10, b11, b12⟩, ⟨c0, c1, c2, c3, c4, c5, c6, c7, c8, c9, c10, c11, c12⟩⟩, g2, g3, g4, g5, g6, g7, g8, g9, g10, g11, g12, g13, g14⟩ := id hI
    obtain ⟨i, hi, rfl⟩ := inR_of h.1 (by decide)
    refine ⟨1, 0, 0, 1, 1, L, _, _, z, by decide, by decide, by decide, by decide, ct_sun hi r s h.2, md_sun hi r s h.2, ?_⟩
    refine ⟨g0, ⟨?_, ?_, ?_⟩, ?_, ?_, ?_, ?_, ?_, ?_, ?_, ?_, ?_, ?_, ?_, ?_, ?_⟩
    · simp [hk_wo, hk_wt, hk_w99, up, upd, a0, a1, a2, a3, a4, a5, a6, a7, a8, a9, a10, a11, a12, a13]
    · simp [hk_wo, hk_wt, hk_w99, up, upd, b0, b1, b2, b3, b4, b5, b6, b7, b8, b9, b10, b11, b12]
    · first | (simp [up]; omega) | omega
    · simpa [hk_wo, hk_wt, hk_w99, up, upd] using g2
    · refine fun j hj => ?_
      have := g3 j hj
      by_cases hji : j = i <;> simp [hk_wo, hk_wt, upd, hji, this]
    · simpa [hk_wo, hk_wt, hk_w99, up, upd] using g4
    · simpa [hk_wo, hk_wt, hk_w99, up, upd] using g5
    · simpa [hk_wo, hk_wt, hk_w99, up, upd] using g6
    · simpa [hk_wo, hk_wt, hk_w99, up, upd] using g7
    · simpa [hk_wo, hk_wt, hk_w99, up, upd] using g8
    · simpa [hk_wo, hk_wt, hk_w99, up, upd] using g9
    · simpa [hk_wo, hk_wt, hk_w99, up, upd] using g10
    · simpa [hk_wo, hk_wt, hk_w99, up, upd] using g11
    · simpa [hk_wo, hk_wt, hk_w99, up, upd] using g12
    · simpa [hk_wo, hk_wt, hk_w99, up, upd] using g13
    · simpa [hk_wo, hk_wt, hk_w99, up, upd] using g14
  · exact ⟨1, 0, 0, 1, -1, L, m, m, z, by decide, by decide, by decide, by decide, ct_sun_no mo r s h, md_sun_no mo r s h, hI⟩
/-- what count tells -/
def ctv (z : Nat → Nat) (w : Int32) : Int32 := if w = 0 then nI (z 0) else if w = 1 then nI (z 1) else if w = 2 then nI (z 2) else if w = 3 then nI (z 3) else if w = 4 then nI (z 4) else if w = 5 then nI (z 5) else if w = 6 then nI (z 6) else if w = 7 then nI (z 7) else if w = 8 then nI (z 8) else if w = 9 then nI (z 9) else if w = 10 then nI (z 10) else if w = 11 then nI (z 11) else if w = 12 then nI (z 12) else -1
theorem hk_out0_12 {x : Int32} (h0 : ¬ x = 0) (h1 : ¬ x = 1) (h2 : ¬ x = 2) (h3 : ¬ x = 3) (h4 : ¬ x = 4) (h5 : ¬ x = 5) (h6 : ¬ x = 6) (h7 : ¬ x = 7) (h8 : ¬ x = 8) (h9 : ¬ x = 9) (h10 : ¬ x = 10) (h11 : ¬ x = 11) (h12 : ¬ x = 12) : x.toInt < 0 ∨ 12 < x.toInt := by
  simp only [i32_eq, show (0 : Int32).toInt = 0 from rfl, show (1 : Int32).toInt = 1 from rfl, show (2 : Int32).toInt = 2 from rfl, show (3 : Int32).toInt = 3 from rfl, show (4 : Int32).toInt = 4 from rfl, show (5 : Int32).toInt = 5 from rfl, show (6 : Int32).toInt = 6 from rfl, show (7 : Int32).toInt = 7 from rfl, show (8 : Int32).toInt = 8 from rfl, show (9 : Int32).toInt = 9 from rfl, show (10 : Int32).toInt = 10 from rfl, show (11 : Int32).toInt = 11 from rfl, show (12 : Int32).toInt = 12 from rfl] at h0 h1 h2 h3 h4 h5 h6 h7 h8 h9 h10 h11 h12
  omega
theorem hk_out0_8 {x : Int32} (h0 : ¬ x = 0) (h1 : ¬ x = 1) (h2 : ¬ x = 2) (h3 : ¬ x = 3) (h4 : ¬ x = 4) (h5 : ¬ x = 5) (h6 : ¬ x = 6) (h7 : ¬ x = 7) (h8 : ¬ x = 8) : x.toInt < 0 ∨ 8 < x.toInt := by
  simp only [i32_eq, show (0 : Int32).toInt = 0 from rfl, show (1 : Int32).toInt = 1 from rfl, show (2 : Int32).toInt = 2 from rfl, show (3 : Int32).toInt = 3 from rfl, show (4 : Int32).toInt = 4 from rfl, show (5 : Int32).toInt = 5 from rfl, show (6 : Int32).toInt = 6 from rfl, show (7 : Int32).toInt = 7 from rfl, show (8 : Int32).toInt = 8 from rfl] at h0 h1 h2 h3 h4 h5 h6 h7 h8
  omega
theorem hk_out0_5 {x : Int32} (h0 : ¬ x = 0) (h1 : ¬ x = 1) (h2 : ¬ x = 2) (h3 : ¬ x = 3) (h4 : ¬ x = 4) (h5 : ¬ x = 5) : x.toInt < 0 ∨ 5 < x.toInt := by
  simp only [i32_eq, show (0 : Int32).toInt = 0 from rfl, show (1 : Int32).toInt = 1 from rfl, show (2 : Int32).toInt = 2 from rfl, show (3 : Int32).toInt = 3 from rfl, show (4 : Int32).toInt = 4 from rfl, show (5 : Int32).toInt = 5 from rfl] at h0 h1 h2 h3 h4 h5
  omega
theorem hk_out0_4 {x : Int32} (h0 : ¬ x = 0) (h1 : ¬ x = 1) (h2 : ¬ x = 2) (h3 : ¬ x = 3) (h4 : ¬ x = 4) : x.toInt < 0 ∨ 4 < x.toInt := by
  simp only [i32_eq, show (0 : Int32).toInt = 0 from rfl, show (1 : Int32).toInt = 1 from rfl, show (2 : Int32).toInt = 2 from rfl, show (3 : Int32).toInt = 3 from rfl, show (4 : Int32).toInt = 4 from rfl] at h0 h1 h2 h3 h4
  omega
theorem hk_out0_3 {x : Int32} (h0 : ¬ x = 0) (h1 : ¬ x = 1) (h2 : ¬ x = 2) (h3 : ¬ x = 3) : x.toInt < 0 ∨ 3 < x.toInt := by
  simp only [i32_eq, show (0 : Int32).toInt = 0 from rfl, show (1 : Int32).toInt = 1 from rfl, show (2 : Int32).toInt = 2 from rfl, show (3 : Int32).toInt = 3 from rfl] at h0 h1 h2 h3
  omega
set_option maxRecDepth 20000 in
set_option maxHeartbeats 2000000 in
theorem ct_count (hI : Inv L z m) (w : Int32) : hk_Cd MX9_count 0 0 0 [.ref 0, .int w] (hk_h L m) (some (.int (ctv z w))) (hk_h L m) := by
  obtain ⟨g0, ⟨⟨a0, a1, a2, a3, a4, a5, a6, a7, a8, a9, a10, a11, a12, a13⟩, ⟨b0, b1, b2, b3, b4, b5, b6, b7, b8, b9, b10, b11, b12⟩, ⟨c0, c1, c2, c3, c4, c5, c6, c7, c8, c9, c10, c11, c12⟩⟩, g2, g3, g4, g5, g6, g7, g8, g9, g10, g11, g12, g13, g14⟩ := id hI
  refine hk_ofWP (by decide) (by simp [Value.category]) (Nat.le_of_ble_eq_true rfl) ?_
  show hk_WP _ _ _ _ _ _ _ [some (.ref 0), some (.int w)] [] _ _
  refine hk_iload_n dX9_count_0 rfl rfl ?_
  by_cases e0 : w = 0
  · subst e0
    refine hk_tableIn (tgt := 68) dX9_count_1 (by decide) (by decide) rfl (by decide) ?_
    refine hk_aload_n dX9_count_68 rfl rfl ?_
    refine gfX9_16 rfl dX9_count_69 (hk_lt (by decide)) rfl rfl ?_
    refine gfX9_326 rfl dX9_count_72 (hk_lt (by decide)) rfl rfl ?_
    exact hk_ireturn dX9_count_75 rfl rfl (by decide) ⟨by first | simp [ctv, e0, e1, e2, e3, e4, e5, e6, e7, e8, e9, e10, e11, e12] | simp [ctv, a0, a1, a2, a3, a4, a5, a6, a7, a8, a9, a10, a11, a12], rfl⟩
  by_cases e1 : w = 1
  · subst e1
    refine hk_tableIn (tgt := 76) dX9_count_1 (by decide) (by decide) rfl (by decide) ?_
    refine hk_aload_n dX9_count_76 rfl rfl ?_
    refine gfX9_16 rfl dX9_count_77 (hk_lt (by decide)) rfl rfl ?_
    refine gfX9_67 rfl dX9_count_80 (hk_lt (by decide)) rfl rfl ?_
    refine gfX9_136 rfl dX9_count_83 (hk_lt (by decide)) rfl rfl ?_
    exact hk_ireturn dX9_count_86 rfl rfl (by decide) ⟨by first | simp [ctv, e0, e1, e2, e3, e4, e5, e6, e7, e8, e9, e10, e11, e12] | simp [ctv, a0, a1, a2, a3, a4, a5, a6, a7, a8, a9, a10, a11, a12], rfl⟩
  by_cases e2 : w = 2
  · subst e2
    refine hk_tableIn (tgt := 87) dX9_count_1 (by decide) (by decide) rfl (by decide) ?_
    refine hk_aload_n dX9_count_87 rfl rfl ?_
    refine gfX9_23 rfl dX9_count_88 (hk_lt (by decide)) rfl rfl ?_
    refine gfX9_112 rfl dX9_count_91 (hk_lt (by decide)) rfl rfl ?_
    refine gfX9_136 rfl dX9_count_94 (hk_lt (by decide)) rfl rfl ?_
    exact hk_ireturn dX9_count_97 rfl rfl (by decide) ⟨by first | simp [ctv, e0, e1, e2, e3, e4, e5, e6, e7, e8, e9, e10, e11, e12] | simp [ctv, a0, a1, a2, a3, a4, a5, a6, a7, a8, a9, a10, a11, a12], rfl⟩
  by_cases e3 : w = 3
  · subst e3
    refine hk_tableIn (tgt := 98) dX9_count_1 (by decide) (by decide) rfl (by decide) ?_
    refine hk_aload_n dX9_count_98 rfl rfl ?_
    refine gfX9_23 rfl dX9_count_99 (hk_lt (by decide)) rfl rfl ?_
    refine gfX9_133 rfl dX9_count_102 (hk_lt (by decide)) rfl rfl ?_
    refine gfX9_136 rfl dX9_count_105 (hk_lt (by decide)) rfl rfl ?_
    exact hk_ireturn dX9_count_108 rfl rfl (by decide) ⟨by first | simp [ctv, e0, e1, e2, e3, e4, e5, e6, e7, e8, e9, e10, e11, e12] | simp [ctv, a0, a1, a2, a3, a4, a5, a6, a7, a8, a9, a10, a11, a12], rfl⟩
  by_cases e4 : w = 4
  · subst e4
    refine hk_tableIn (tgt := 109) dX9_count_1 (by decide) (by decide) rfl (by decide) ?_
    refine hk_aload_n dX9_count_109 rfl rfl ?_
    refine gfX9_30 rfl dX9_count_110 (hk_lt (by decide)) rfl rfl ?_
    refine gfX9_329 rfl dX9_count_113 (hk_lt (by decide)) rfl rfl ?_
    exact hk_ireturn dX9_count_116 rfl rfl (by decide) ⟨by first | simp [ctv, e0, e1, e2, e3, e4, e5, e6, e7, e8, e9, e10, e11, e12] | simp [ctv, a0, a1, a2, a3, a4, a5, a6, a7, a8, a9, a10, a11, a12], rfl⟩
  by_cases e5 : w = 5
  · subst e5
    refine hk_tableIn (tgt := 117) dX9_count_1 (by decide) (by decide) rfl (by decide) ?_
    refine hk_aload_n dX9_count_117 rfl rfl ?_
    refine gfX9_37 rfl dX9_count_118 (hk_lt (by decide)) rfl rfl ?_
    refine gfX9_215 rfl dX9_count_121 (hk_lt (by decide)) rfl rfl ?_
    refine gfX9_136 rfl dX9_count_124 (hk_lt (by decide)) rfl rfl ?_
    exact hk_ireturn dX9_count_127 rfl rfl (by decide) ⟨by first | simp [ctv, e0, e1, e2, e3, e4, e5, e6, e7, e8, e9, e10, e11, e12] | simp [ctv, a0, a1, a2, a3, a4, a5, a6, a7, a8, a9, a10, a11, a12], rfl⟩
  by_cases e6 : w = 6
  · subst e6
    refine hk_tableIn (tgt := 128) dX9_count_1 (by decide) (by decide) rfl (by decide) ?_
    refine hk_aload_n dX9_count_128 rfl rfl ?_
    refine gfX9_37 rfl dX9_count_129 (hk_lt (by decide)) rfl rfl ?_
    refine gfX9_255 rfl dX9_count_132 (hk_lt (by decide)) rfl rfl ?_
    refine gfX9_136 rfl dX9_count_135 (hk_lt (by decide)) rfl rfl ?_
    exact hk_ireturn dX9_count_138 rfl rfl (by decide) ⟨by first | simp [ctv, e0, e1, e2, e3, e4, e5, e6, e7, e8, e9, e10, e11, e12] | simp [ctv, a0, a1, a2, a3, a4, a5, a6, a7, a8, a9, a10, a11, a12], rfl⟩
  by_cases e7 : w = 7
  · subst e7
    refine hk_tableIn (tgt := 139) dX9_count_1 (by decide) (by decide) rfl (by decide) ?_
    refine hk_aload_n dX9_count_139 rfl rfl ?_
    refine gfX9_44 rfl dX9_count_140 (hk_lt (by decide)) rfl rfl ?_
    refine gfX9_265 rfl dX9_count_143 (hk_lt (by decide)) rfl rfl ?_
    refine gfX9_136 rfl dX9_count_146 (hk_lt (by decide)) rfl rfl ?_
    exact hk_ireturn dX9_count_149 rfl rfl (by decide) ⟨by first | simp [ctv, e0, e1, e2, e3, e4, e5, e6, e7, e8, e9, e10, e11, e12] | simp [ctv, a0, a1, a2, a3, a4, a5, a6, a7, a8, a9, a10, a11, a12], rfl⟩
  by_cases e8 : w = 8
  · subst e8
    refine hk_tableIn (tgt := 150) dX9_count_1 (by decide) (by decide) rfl (by decide) ?_
    refine hk_aload_n dX9_count_150 rfl rfl ?_
    refine gfX9_7 rfl dX9_count_151 (hk_lt (by decide)) rfl rfl ?_
    exact hk_ireturn dX9_count_154 rfl rfl (by decide) ⟨by first | simp [ctv, e0, e1, e2, e3, e4, e5, e6, e7, e8, e9, e10, e11, e12] | simp [ctv, a0, a1, a2, a3, a4, a5, a6, a7, a8, a9, a10, a11, a12], rfl⟩
  by_cases e9 : w = 9
  · subst e9
    refine hk_tableIn (tgt := 155) dX9_count_1 (by decide) (by decide) rfl (by decide) ?_
    refine hk_aload_n dX9_count_155 rfl rfl ?_
    refine gfX9_30 rfl dX9_count_156 (hk_lt (by decide)) rfl rfl ?_
    refine gfX9_172 rfl dX9_count_159 (hk_lt (by decide)) rfl rfl ?_
    refine gfX9_332 rfl dX9_count_162 (hk_lt (by decide)) rfl rfl ?_
    exact hk_ireturn dX9_count_165 rfl rfl (by decide) ⟨by first | simp [ctv, e0, e1, e2, e3, e4, e5, e6, e7, e8, e9, e10, e11, e12] | simp [ctv, a0, a1, a2, a3, a4, a5, a6, a7, a8, a9, a10, a11, a12], rfl⟩
  by_cases e10 : w = 10
  · subst e10
    refine hk_tableIn (tgt := 166) dX9_count_1 (by decide) (by decide) rfl (by decide) ?_
    refine hk_aload_n dX9_count_166 rfl rfl ?_
    refine gfX9_51 rfl dX9_count_167 (hk_lt (by decide)) rfl rfl ?_
    refine gfX9_284 rfl dX9_count_170 (hk_lt (by decide)) rfl rfl ?_
    refine gfX9_136 rfl dX9_count_173 (hk_lt (by decide)) rfl rfl ?_
    exact hk_ireturn dX9_count_176 rfl rfl (by decide) ⟨by first | simp [ctv, e0, e1, e2, e3, e4, e5, e6, e7, e8, e9, e10, e11, e12] | simp [ctv, a0, a1, a2, a3, a4, a5, a6, a7, a8, a9, a10, a11, a12], rfl⟩
  by_cases e11 : w = 11
  · subst e11
    refine hk_tableIn (tgt := 177) dX9_count_1 (by decide) (by decide) rfl (by decide) ?_
    refine hk_aload_n dX9_count_177 rfl rfl ?_
    refine gfX9_51 rfl dX9_count_178 (hk_lt (by decide)) rfl rfl ?_
    refine gfX9_293 rfl dX9_count_181 (hk_lt (by decide)) rfl rfl ?_
    refine gfX9_136 rfl dX9_count_184 (hk_lt (by decide)) rfl rfl ?_
    exact hk_ireturn dX9_count_187 rfl rfl (by decide) ⟨by first | simp [ctv, e0, e1, e2, e3, e4, e5, e6, e7, e8, e9, e10, e11, e12] | simp [ctv, a0, a1, a2, a3, a4, a5, a6, a7, a8, a9, a10, a11, a12], rfl⟩
  by_cases e12 : w = 12
  · subst e12
    refine hk_tableIn (tgt := 188) dX9_count_1 (by decide) (by decide) rfl (by decide) ?_
    refine hk_aload_n dX9_count_188 rfl rfl ?_
    refine gfX9_23 rfl dX9_count_189 (hk_lt (by decide)) rfl rfl ?_
    refine gfX9_335 rfl dX9_count_192 (hk_lt (by decide)) rfl rfl ?_
    refine gfX9_136 rfl dX9_count_195 (hk_lt (by decide)) rfl rfl ?_
    exact hk_ireturn dX9_count_198 rfl rfl (by decide) ⟨by first | simp [ctv, e0, e1, e2, e3, e4, e5, e6, e7, e8, e9, e10, e11, e12] | simp [ctv, a0, a1, a2, a3, a4, a5, a6, a7, a8, a9, a10, a11, a12], rfl⟩
  refine hk_tableOut (tgt := 199) dX9_count_1 (hk_out0_12 e0 e1 e2 e3 e4 e5 e6 e7 e8 e9 e10 e11 e12) (by decide) ?_
  refine hk_iconst (v := (-1)) dX9_count_199 (by decide) ?_
  exact hk_ireturn dX9_count_200 rfl rfl (by decide) ⟨by first | simp [ctv, e0, e1, e2, e3, e4, e5, e6, e7, e8, e9, e10, e11, e12] | simp [ctv, a0, a1, a2, a3, a4, a5, a6, a7, a8, a9, a10, a11, a12], rfl⟩
set_option maxRecDepth 20000 in
set_option maxHeartbeats 2000000 in
theorem md_count (hI : Inv L z m) (w : Int32) : hk_Cd MX10_count 0 0 0 [.ref 37, .int w] (hk_h L m) (some (.int (ctv z w))) (hk_h L m) := by
  obtain ⟨g0, ⟨⟨a0, a1, a2, a3, a4, a5, a6, a7, a8, a9, a10, a11, a12, a13⟩, ⟨b0, b1, b2, b3, b4, b5, b6, b7, b8, b9, b10, b11, b12⟩, ⟨c0, c1, c2, c3, c4, c5, c6, c7, c8, c9, c10, c11, c12⟩⟩, g2, g3, g4, g5, g6, g7, g8, g9, g10, g11, g12, g13, g14⟩ := id hI
  refine hk_ofWP (by decide) (by simp [Value.category]) (Nat.le_of_ble_eq_true rfl) ?_
  show hk_WP _ _ _ _ _ _ _ [some (.ref 37), some (.int w)] [] _ _
  refine hk_iload_n dX10_count_0 rfl rfl ?_
  by_cases e0 : w = 0
  · subst e0
    refine hk_tableIn (tgt := 68) dX10_count_1 (by decide) (by decide) rfl (by decide) ?_
    refine hk_aload_n dX10_count_68 rfl rfl ?_
    refine gfX10_198 rfl dX10_count_69 (hk_lt (by decide)) rfl rfl ?_
    exact hk_ireturn dX10_count_72 rfl rfl (by decide) ⟨by first | simp [ctv, e0, e1, e2, e3, e4, e5, e6, e7, e8, e9, e10, e11, e12] | simp [ctv, b0, b1, b2, b3, b4, b5, b6, b7, b8, b9, b10, b11, b12], rfl⟩
  by_cases e1 : w = 1
  · subst e1
    refine hk_tableIn (tgt := 73) dX10_count_1 (by decide) (by decide) rfl (by decide) ?_
    refine hk_aload_n dX10_count_73 rfl rfl ?_
    refine gfX10_216 rfl dX10_count_74 (hk_lt (by decide)) rfl rfl ?_
    exact hk_ireturn dX10_count_77 rfl rfl (by decide) ⟨by first | simp [ctv, e0, e1, e2, e3, e4, e5, e6, e7, e8, e9, e10, e11, e12] | simp [ctv, b0, b1, b2, b3, b4, b5, b6, b7, b8, b9, b10, b11, b12], rfl⟩
  by_cases e2 : w = 2
  · subst e2
    refine hk_tableIn (tgt := 78) dX10_count_1 (by decide) (by decide) rfl (by decide) ?_
    refine hk_aload_n dX10_count_78 rfl rfl ?_
    refine gfX10_201 rfl dX10_count_79 (hk_lt (by decide)) rfl rfl ?_
    exact hk_ireturn dX10_count_82 rfl rfl (by decide) ⟨by first | simp [ctv, e0, e1, e2, e3, e4, e5, e6, e7, e8, e9, e10, e11, e12] | simp [ctv, b0, b1, b2, b3, b4, b5, b6, b7, b8, b9, b10, b11, b12], rfl⟩
  by_cases e3 : w = 3
  · subst e3
    refine hk_tableIn (tgt := 83) dX10_count_1 (by decide) (by decide) rfl (by decide) ?_
    refine hk_aload_n dX10_count_83 rfl rfl ?_
    refine gfX10_204 rfl dX10_count_84 (hk_lt (by decide)) rfl rfl ?_
    exact hk_ireturn dX10_count_87 rfl rfl (by decide) ⟨by first | simp [ctv, e0, e1, e2, e3, e4, e5, e6, e7, e8, e9, e10, e11, e12] | simp [ctv, b0, b1, b2, b3, b4, b5, b6, b7, b8, b9, b10, b11, b12], rfl⟩
  by_cases e4 : w = 4
  · subst e4
    refine hk_tableIn (tgt := 88) dX10_count_1 (by decide) (by decide) rfl (by decide) ?_
    refine hk_aload_n dX10_count_88 rfl rfl ?_
    refine gfX10_339 rfl dX10_count_89 (hk_lt (by decide)) rfl rfl ?_
    exact hk_ireturn dX10_count_92 rfl rfl (by decide) ⟨by first | simp [ctv, e0, e1, e2, e3, e4, e5, e6, e7, e8, e9, e10, e11, e12] | simp [ctv, b0, b1, b2, b3, b4, b5, b6, b7, b8, b9, b10, b11, b12], rfl⟩
  by_cases e5 : w = 5
  · subst e5
    refine hk_tableIn (tgt := 93) dX10_count_1 (by decide) (by decide) rfl (by decide) ?_
    refine hk_aload_n dX10_count_93 rfl rfl ?_
    refine gfX10_287 rfl dX10_count_94 (hk_lt (by decide)) rfl rfl ?_
    exact hk_ireturn dX10_count_97 rfl rfl (by decide) ⟨by first | simp [ctv, e0, e1, e2, e3, e4, e5, e6, e7, e8, e9, e10, e11, e12] | simp [ctv, b0, b1, b2, b3, b4, b5, b6, b7, b8, b9, b10, b11, b12], rfl⟩
  by_cases e6 : w = 6
  · subst e6
    refine hk_tableIn (tgt := 98) dX10_count_1 (by decide) (by decide) rfl (by decide) ?_
    refine hk_aload_n dX10_count_98 rfl rfl ?_
    refine gfX10_370 rfl dX10_count_99 (hk_lt (by decide)) rfl rfl ?_
    exact hk_ireturn dX10_count_102 rfl rfl (by decide) ⟨by first | simp [ctv, e0, e1, e2, e3, e4, e5, e6, e7, e8, e9, e10, e11, e12] | simp [ctv, b0, b1, b2, b3, b4, b5, b6, b7, b8, b9, b10, b11, b12], rfl⟩
  by_cases e7 : w = 7
  · subst e7
    refine hk_tableIn (tgt := 103) dX10_count_1 (by decide) (by decide) rfl (by decide) ?_
    refine hk_aload_n dX10_count_103 rfl rfl ?_
    refine gfX10_392 rfl dX10_count_104 (hk_lt (by decide)) rfl rfl ?_
    exact hk_ireturn dX10_count_107 rfl rfl (by decide) ⟨by first | simp [ctv, e0, e1, e2, e3, e4, e5, e6, e7, e8, e9, e10, e11, e12] | simp [ctv, b0, b1, b2, b3, b4, b5, b6, b7, b8, b9, b10, b11, b12], rfl⟩
  by_cases e8 : w = 8
  · subst e8
    refine hk_tableIn (tgt := 108) dX10_count_1 (by decide) (by decide) rfl (by decide) ?_
    refine hk_aload_n dX10_count_108 rfl rfl ?_
    refine gfX10_194 rfl dX10_count_109 (hk_lt (by decide)) rfl rfl ?_
    exact hk_ireturn dX10_count_112 rfl rfl (by decide) ⟨by first | simp [ctv, e0, e1, e2, e3, e4, e5, e6, e7, e8, e9, e10, e11, e12] | simp [ctv, b0, b1, b2, b3, b4, b5, b6, b7, b8, b9, b10, b11, b12], rfl⟩
  by_cases e9 : w = 9
  · subst e9
    refine hk_tableIn (tgt := 113) dX10_count_1 (by decide) (by decide) rfl (by decide) ?_
    refine hk_aload_n dX10_count_113 rfl rfl ?_
    refine gfX10_293 rfl dX10_count_114 (hk_lt (by decide)) rfl rfl ?_
    exact hk_ireturn dX10_count_117 rfl rfl (by decide) ⟨by first | simp [ctv, e0, e1, e2, e3, e4, e5, e6, e7, e8, e9, e10, e11, e12] | simp [ctv, b0, b1, b2, b3, b4, b5, b6, b7, b8, b9, b10, b11, b12], rfl⟩
  by_cases e10 : w = 10
  · subst e10
    refine hk_tableIn (tgt := 118) dX10_count_1 (by decide) (by decide) rfl (by decide) ?_
    refine hk_aload_n dX10_count_118 rfl rfl ?_
    refine gfX10_401 rfl dX10_count_119 (hk_lt (by decide)) rfl rfl ?_
    exact hk_ireturn dX10_count_122 rfl rfl (by decide) ⟨by first | simp [ctv, e0, e1, e2, e3, e4, e5, e6, e7, e8, e9, e10, e11, e12] | simp [ctv, b0, b1, b2, b3, b4, b5, b6, b7, b8, b9, b10, b11, b12], rfl⟩
  by_cases e11 : w = 11
  · subst e11
    refine hk_tableIn (tgt := 123) dX10_count_1 (by decide) (by decide) rfl (by decide) ?_
    refine hk_aload_n dX10_count_123 rfl rfl ?_
    refine gfX10_404 rfl dX10_count_124 (hk_lt (by decide)) rfl rfl ?_
    exact hk_ireturn dX10_count_127 rfl rfl (by decide) ⟨by first | simp [ctv, e0, e1, e2, e3, e4, e5, e6, e7, e8, e9, e10, e11, e12] | simp [ctv, b0, b1, b2, b3, b4, b5, b6, b7, b8, b9, b10, b11, b12], rfl⟩
  by_cases e12 : w = 12
  · subst e12
    refine hk_tableIn (tgt := 128) dX10_count_1 (by decide) (by decide) rfl (by decide) ?_
    refine hk_aload_n dX10_count_128 rfl rfl ?_
    refine gfX10_252 rfl dX10_count_129 (hk_lt (by decide)) rfl rfl ?_
    exact hk_ireturn dX10_count_132 rfl rfl (by decide) ⟨by first | simp [ctv, e0, e1, e2, e3, e4, e5, e6, e7, e8, e9, e10, e11, e12] | simp [ctv, b0, b1, b2, b3, b4, b5, b6, b7, b8, b9, b10, b11, b12], rfl⟩
  refine hk_tableOut (tgt := 133) dX10_count_1 (hk_out0_12 e0 e1 e2 e3 e4 e5 e6 e7 e8 e9 e10 e11 e12) (by decide) ?_
  refine hk_iconst (v := (-1)) dX10_count_133 (by decide) ?_
  exact hk_ireturn dX10_count_134 rfl rfl (by decide) ⟨by first | simp [ctv, e0, e1, e2, e3, e4, e5, e6, e7, e8, e9, e10, e11, e12] | simp [ctv, b0, b1, b2, b3, b4, b5, b6, b7, b8, b9, b10, b11, b12], rfl⟩
theorem op_count (hI : Inv L z m) (w : Int32) : OpOK L m MX9_count MX10_count [.int w] :=
  ⟨0, 0, 0, 0, _, L, m, m, z, by decide, by decide, by decide, by decide, ct_count hI w, md_count hI w, hI⟩
end O2
