/-! why: both -/
section CCx
variable {L nC nS nK nD : Nat} {m m0 m1 m2 : Nat → Nat → Int32} {z : Nat → Nat}
theorem WV_k (s : SCR m m1) {N c n : Nat} {ah yd bad wt pe ni : Int32} : WV m1 L N c n ah yd bad wt pe ni = WV m L N c n ah yd bad wt pe ni := by
  have e10 : m1 10 = m 10 := s.a (by decide)
  have e12 : m1 12 = m 12 := s.a (by decide)
  have elq : ∀ k d x, LQ m1 k d x L = LQ m k d x L := fun k d x => by unfold LQ; rw [s.a (a := 69) (by decide), s.a (a := 70) (by decide), s.a (a := 71) (by decide)]
  have elv : LV m1 = LV m := by funext i; unfold LV; rw [s.a (a := 67) (by decide), s.a (a := 68) (by decide)]
  unfold WV hol wq
  rw [e10, e12, elq, elv]
abbrev okOrd (n : Nat) (a b w : Int32) : Prop := inR a n ∧ inR b n ∧ a ≠ b ∧ okLoad (w / 1000) (rm w 1000)
set_option maxRecDepth 20000 in
set_option maxHeartbeats 2000000 in
theorem ct_why_no (hI : Inv L z m) (c f t w : Int32) (hno : ¬ (tg m 9 8 (z 2) c 0 = 1 ∧ okOrd (z 0) f t w)) : hk_Cd MX9_why 6 0 0 [.ref 0, .int c, .int f, .int t, .int w] (hk_h L m) (some (.int (-1))) (hk_h L m) := by
  obtain ⟨g0, ⟨⟨a0, a1, a2, a3, a4, a5, a6, a7, a8, a9, a10, a11, a12, a13⟩, ⟨b0, b1, b2, b3, b4, b5, b6, b7, b8, b9, b10, b11, b12⟩, ⟨c0, c1, c2, c3, c4, c5, c6, c7, c8, c9, c10, c11, c12⟩⟩, g2, g3, g4, g5, g6, g7, g8, g9, g10, g11, g12, g13, g14⟩ := id hI
  refine hk_ofWP (by decide) (by simp [Value.category]) (Nat.le_of_ble_eq_true rfl) ?_
  show hk_WP _ _ _ _ _ _ _ [some (.ref 0), some (.int c), some (.int f), some (.int t), some (.int w), none] [] _ _
  refine hk_aload_n dX9_why_0 rfl rfl ?_
  refine gfX9_23 rfl dX9_why_1 (hk_lt (by decide)) rfl rfl ?_
  refine hk_iload_n dX9_why_4 rfl rfl ?_
  refine ivX9_231 rfl (ct_isStanding a2 c2 _) dX9_why_5 (hk_lt (by decide)) rfl rfl rfl (by decide) ⟨by decide, by decide⟩ (Nat.le_of_ble_eq_true rfl) (hk_kd ?_)
  refine hk_if_eq (tgt := 22) dX9_why_8 (by decide) (fun c8 => ?_) (fun c8 => ?_)
  · rw [bI_0] at c8
    refine hk_iconst (v := (-1)) dX9_why_22 (by decide) ?_
    exact hk_ireturn dX9_why_23 rfl rfl (by decide) ⟨rfl, rfl⟩
  · rw [bI_0] at c8
    refine hk_aload_n dX9_why_11 rfl rfl ?_
    refine hk_iload_n dX9_why_12 rfl rfl ?_
    refine hk_iload_n dX9_why_13 rfl rfl ?_
    refine hk_iload dX9_why_14 rfl ?_
    refine ivX9_208 rfl (ct_isOrder a0 _ _ _) dX9_why_16 (hk_lt (by decide)) rfl rfl rfl (by decide) ⟨by decide, by decide⟩ (Nat.le_of_ble_eq_true rfl) (hk_kd ?_)
    refine hk_if_ne (tgt := 24) dX9_why_19 (by decide) (fun c19 => ?_) (fun c19 => ?_)
    · rw [bI_0] at c19
      exact absurd ⟨Classical.not_not.mp c8, Classical.not_not.mp c19⟩ hno
    · rw [bI_0] at c19
      refine hk_iconst (v := (-1)) dX9_why_22 (by decide) ?_
      exact hk_ireturn dX9_why_23 rfl rfl (by decide) ⟨rfl, rfl⟩
set_option maxRecDepth 20000 in
set_option maxHeartbeats 2000000 in
theorem ct_why_nw1 (hI : Inv L z m) {c f t s a : Nat} {w : Int32} (hc : c < z 2) (h1' : m 10 (c * 8) = 1) (h4' : m 10 (c * 8 + 4) = nI s) (hs : s < z 3) (ha : a < z 0) (hp : m 14 (s * 13) = nI a) (hf : f < z 0) (ht : t < z 0) (ho : okOrd (z 0) (nI f) (nI t) w) (hR : ¬ RC (GG m (z 1) (nI (z 8))) f t) : hk_Ct MX9_why 6 0 0 [.ref 0, .int (nI c), .int (nI f), .int (nI t), .int w] (hk_h L m) (fun r h => ∃ m1, r = some (.int (-5)) ∧ h = hk_h L m1 ∧ SCR m m1) := by
  obtain ⟨g0, ⟨⟨a0, a1, a2, a3, a4, a5, a6, a7, a8, a9, a10, a11, a12, a13⟩, ⟨b0, b1, b2, b3, b4, b5, b6, b7, b8, b9, b10, b11, b12⟩, ⟨c0, c1, c2, c3, c4, c5, c6, c7, c8, c9, c10, c11, c12⟩⟩, g2, g3, g4, g5, g6, g7, g8, g9, g10, g11, g12, g13, g14⟩ := id hI
  obtain ⟨h1, h2, h3, h4, h5, h6, h7⟩ := Inv_gs hI
  refine hk_ofWP (by decide) (by simp [Value.category]) (Nat.le_of_ble_eq_true rfl) ?_
  show hk_WP _ _ _ _ _ _ _ [some (.ref 0), some (.int (nI c)), some (.int (nI f)), some (.int (nI t)), some (.int w), none] [] _ _
  refine hk_aload_n dX9_why_0 rfl rfl ?_
  refine gfX9_23 rfl dX9_why_1 (hk_lt (by decide)) rfl rfl ?_
  refine hk_iload_n dX9_why_4 rfl rfl ?_
  refine ivX9_231 rfl (ct_isStanding a2 c2 _) dX9_why_5 (hk_lt (by decide)) rfl rfl rfl (by decide) ⟨by decide, by decide⟩ (Nat.le_of_ble_eq_true rfl) (hk_kd ?_)
  refine hk_if_eq (tgt := 22) dX9_why_8 (by decide) (fun c8 => absurd c8 (fun e => bI_0.mp e ((tg_in2 (c := 0) (j := 0) rfl (by omega) (by decide) hc (by decide)).trans h1'))) (fun _ => ?_)
  refine hk_aload_n dX9_why_11 rfl rfl ?_
  refine hk_iload_n dX9_why_12 rfl rfl ?_
  refine hk_iload_n dX9_why_13 rfl rfl ?_
  refine hk_iload dX9_why_14 rfl ?_
  refine ivX9_208 rfl (ct_isOrder a0 _ _ _) dX9_why_16 (hk_lt (by decide)) rfl rfl rfl (by decide) ⟨by decide, by decide⟩ (Nat.le_of_ble_eq_true rfl) (hk_kd ?_)
  refine hk_if_ne (tgt := 24) dX9_why_19 (by decide) (fun _ => ?_) (fun c19 => absurd c19 (fun e => bI_0.mp e ho))
  refine hk_aload_n dX9_why_24 rfl rfl ?_
  refine gfX9_23 rfl dX9_why_25 (hk_lt (by decide)) rfl rfl ?_
  refine gfX9_112 rfl dX9_why_28 (hk_lt (by decide)) rfl rfl ?_
  refine hk_iload_n dX9_why_31 rfl rfl ?_
  refine hk_iconst (v := 4) dX9_why_32 (by decide) ?_
  refine ivX9_124 rfl (ct_geti tb9 c2 a2 rfl hc (j := 4) (by decide)) dX9_why_33 (hk_lt (by decide)) rfl rfl rfl (by decide) ⟨by decide, by decide⟩ (Nat.le_of_ble_eq_true rfl) (hk_kd ?_)
  rw [h4']
  refine hk_istore dX9_why_36 (by decide) rfl ?_
  refine hk_aload_n dX9_why_38 rfl rfl ?_
  refine hk_iload_n dX9_why_39 rfl rfl ?_
  refine hk_iload_n dX9_why_40 rfl rfl ?_
  refine hk_iload dX9_why_41 rfl ?_
  refine ivX9_212 rfl (ct_draftTrip_nw hI hf ht w hR) dX9_why_43 (hk_lt (by decide)) rfl rfl rfl (by decide) ⟨by decide, by decide⟩ (Nat.le_of_ble_eq_true rfl) (fun r h1 hq => ?_)
  obtain ⟨m1, rfl, rfl, hS⟩ := hq
  refine hk_if_eq (tgt := 58) dX9_why_46 (by decide) (fun _ => ?_) (fun c46 => absurd rfl c46)
  refine hk_bipush (v := (-5)) dX9_why_58 (by decide) ?_
  exact hk_ireturn dX9_why_60 rfl rfl (by decide) ⟨m1, rfl, rfl, hS⟩
set_option maxRecDepth 20000 in
set_option maxHeartbeats 2000000 in
theorem ct_why_nw2 (hI : Inv L z m) {c f t s a : Nat} {w : Int32} (hc : c < z 2) (h1' : m 10 (c * 8) = 1) (h4' : m 10 (c * 8 + 4) = nI s) (hs : s < z 3) (ha : a < z 0) (hp : m 14 (s * 13) = nI a) (hf : f < z 0) (ht : t < z 0) (ho : okOrd (z 0) (nI f) (nI t) w) (hR : RC (GG m (z 1) (nI (z 8))) f t) (hR2 : ¬ RC (GG m (z 1) (nI (z 8))) f a) : hk_Ct MX9_why 6 0 0 [.ref 0, .int (nI c), .int (nI f), .int (nI t), .int w] (hk_h L m) (fun r h => ∃ m1, r = some (.int (-5)) ∧ h = hk_h L m1 ∧ SCR m m1) := by
  obtain ⟨g0, ⟨⟨a0, a1, a2, a3, a4, a5, a6, a7, a8, a9, a10, a11, a12, a13⟩, ⟨b0, b1, b2, b3, b4, b5, b6, b7, b8, b9, b10, b11, b12⟩, ⟨c0, c1, c2, c3, c4, c5, c6, c7, c8, c9, c10, c11, c12⟩⟩, g2, g3, g4, g5, g6, g7, g8, g9, g10, g11, g12, g13, g14⟩ := id hI
  obtain ⟨h1, h2, h3, h4, h5, h6, h7⟩ := Inv_gs hI
  refine hk_ofWP (by decide) (by simp [Value.category]) (Nat.le_of_ble_eq_true rfl) ?_
  show hk_WP _ _ _ _ _ _ _ [some (.ref 0), some (.int (nI c)), some (.int (nI f)), some (.int (nI t)), some (.int w), none] [] _ _
  refine hk_aload_n dX9_why_0 rfl rfl ?_
  refine gfX9_23 rfl dX9_why_1 (hk_lt (by decide)) rfl rfl ?_
  refine hk_iload_n dX9_why_4 rfl rfl ?_
  refine ivX9_231 rfl (ct_isStanding a2 c2 _) dX9_why_5 (hk_lt (by decide)) rfl rfl rfl (by decide) ⟨by decide, by decide⟩ (Nat.le_of_ble_eq_true rfl) (hk_kd ?_)
  refine hk_if_eq (tgt := 22) dX9_why_8 (by decide) (fun c8 => absurd c8 (fun e => bI_0.mp e ((tg_in2 (c := 0) (j := 0) rfl (by omega) (by decide) hc (by decide)).trans h1'))) (fun _ => ?_)
  refine hk_aload_n dX9_why_11 rfl rfl ?_
  refine hk_iload_n dX9_why_12 rfl rfl ?_
  refine hk_iload_n dX9_why_13 rfl rfl ?_
  refine hk_iload dX9_why_14 rfl ?_
  refine ivX9_208 rfl (ct_isOrder a0 _ _ _) dX9_why_16 (hk_lt (by decide)) rfl rfl rfl (by decide) ⟨by decide, by decide⟩ (Nat.le_of_ble_eq_true rfl) (hk_kd ?_)
  refine hk_if_ne (tgt := 24) dX9_why_19 (by decide) (fun _ => ?_) (fun c19 => absurd c19 (fun e => bI_0.mp e ho))
  refine hk_aload_n dX9_why_24 rfl rfl ?_
  refine gfX9_23 rfl dX9_why_25 (hk_lt (by decide)) rfl rfl ?_
  refine gfX9_112 rfl dX9_why_28 (hk_lt (by decide)) rfl rfl ?_
  refine hk_iload_n dX9_why_31 rfl rfl ?_
  refine hk_iconst (v := 4) dX9_why_32 (by decide) ?_
  refine ivX9_124 rfl (ct_geti tb9 c2 a2 rfl hc (j := 4) (by decide)) dX9_why_33 (hk_lt (by decide)) rfl rfl rfl (by decide) ⟨by decide, by decide⟩ (Nat.le_of_ble_eq_true rfl) (hk_kd ?_)
  rw [h4']
  refine hk_istore dX9_why_36 (by decide) rfl ?_
  refine hk_aload_n dX9_why_38 rfl rfl ?_
  refine hk_iload_n dX9_why_39 rfl rfl ?_
  refine hk_iload_n dX9_why_40 rfl rfl ?_
  refine hk_iload dX9_why_41 rfl ?_
  refine ivX9_212 rfl (ct_draftTrip hI hf ht w hR) dX9_why_43 (hk_lt (by decide)) rfl rfl rfl (by decide) ⟨by decide, by decide⟩ (Nat.le_of_ble_eq_true rfl) (fun r h1 hq => ?_)
  obtain ⟨m1, rfl, rfl, hDR, hDT⟩ := hq
  refine hk_if_eq (tgt := 58) dX9_why_46 (by decide) (fun c46 => absurd c46 (by decide)) (fun _ => ?_)
  refine hk_aload_n dX9_why_49 rfl rfl ?_
  refine hk_iload dX9_why_50 rfl ?_
  refine ivX9_234 rfl (ct_yardsToCaller hI hDR.w hs ha hp) dX9_why_52 (hk_lt (by decide)) rfl rfl rfl (by decide) ⟨by decide, by decide⟩ (Nat.le_of_ble_eq_true rfl) (hk_kd ?_)
  refine hk_if_ge (tgt := 61) dX9_why_55 (by decide) (fun c55 => absurd c55 (Int32.not_le.mpr ((yv_0 (GS.gm h4 _ h5)).mpr hR2))) (fun _ => ?_)
  refine hk_bipush (v := (-5)) dX9_why_58 (by decide) ?_
  exact hk_ireturn dX9_why_60 rfl rfl (by decide) ⟨m1, rfl, rfl, hDR.1⟩
set_option maxRecDepth 20000 in
set_option maxHeartbeats 2000000 in
theorem ct_why_ok (hI : Inv L z m) {c f t s a : Nat} {w : Int32} (hc : c < z 2) (h1' : m 10 (c * 8) = 1) (h4' : m 10 (c * 8 + 4) = nI s) (hs : s < z 3) (ha : a < z 0) (hp : m 14 (s * 13) = nI a) (hf : f < z 0) (ht : t < z 0) (ho : okOrd (z 0) (nI f) (nI t) w) (hR : RC (GG m (z 1) (nI (z 8))) f t) (hR2 : RC (GG m (z 1) (nI (z 8))) f a) : hk_Ct MX9_why 6 0 0 [.ref 0, .int (nI c), .int (nI f), .int (nI t), .int w] (hk_h L m) (fun r h => ∃ m1, r = some (.int (WV m L (z 12) c (z 8) (((nI (DD (GG m (z 1) (nI (z 8))) f a / 100)) + 109) / 110) (nI (DD (GG m (z 1) (nI (z 8))) f t / 100)) (nI (DD (GG m (z 1) (nI (z 8))) f t % 100)) (rm w 1000) (w / 1000) (bI (ngt (m 4) (m 5) (z 8))))) ∧ h = hk_h L m1 ∧ SCR m m1) := by
  obtain ⟨g0, ⟨⟨a0, a1, a2, a3, a4, a5, a6, a7, a8, a9, a10, a11, a12, a13⟩, ⟨b0, b1, b2, b3, b4, b5, b6, b7, b8, b9, b10, b11, b12⟩, ⟨c0, c1, c2, c3, c4, c5, c6, c7, c8, c9, c10, c11, c12⟩⟩, g2, g3, g4, g5, g6, g7, g8, g9, g10, g11, g12, g13, g14⟩ := id hI
  obtain ⟨h1, h2, h3, h4, h5, h6, h7⟩ := Inv_gs hI
  have eyv : yv (GG m (z 1) (nI (z 8))) f a = (nI (DD (GG m (z 1) (nI (z 8))) f a / 100)) := by unfold yv; exact if_pos hR2
  have hDb := DDb (u := nI (z 8)) (GS.gm h4 _ h5) (t := f) (c := a)
  refine hk_ofWP (by decide) (by simp [Value.category]) (Nat.le_of_ble_eq_true rfl) ?_
  show hk_WP _ _ _ _ _ _ _ [some (.ref 0), some (.int (nI c)), some (.int (nI f)), some (.int (nI t)), some (.int w), none] [] _ _
  refine hk_aload_n dX9_why_0 rfl rfl ?_
  refine gfX9_23 rfl dX9_why_1 (hk_lt (by decide)) rfl rfl ?_
  refine hk_iload_n dX9_why_4 rfl rfl ?_
  refine ivX9_231 rfl (ct_isStanding a2 c2 _) dX9_why_5 (hk_lt (by decide)) rfl rfl rfl (by decide) ⟨by decide, by decide⟩ (Nat.le_of_ble_eq_true rfl) (hk_kd ?_)
  refine hk_if_eq (tgt := 22) dX9_why_8 (by decide) (fun c8 => absurd c8 (fun e => bI_0.mp e ((tg_in2 (c := 0) (j := 0) rfl (by omega) (by decide) hc (by decide)).trans h1'))) (fun _ => ?_)
  refine hk_aload_n dX9_why_11 rfl rfl ?_
  refine hk_iload_n dX9_why_12 rfl rfl ?_
  refine hk_iload_n dX9_why_13 rfl rfl ?_
  refine hk_iload dX9_why_14 rfl ?_
  refine ivX9_208 rfl (ct_isOrder a0 _ _ _) dX9_why_16 (hk_lt (by decide)) rfl rfl rfl (by decide) ⟨by decide, by decide⟩ (Nat.le_of_ble_eq_true rfl) (hk_kd ?_)
  refine hk_if_ne (tgt := 24) dX9_why_19 (by decide) (fun _ => ?_) (fun c19 => absurd c19 (fun e => bI_0.mp e ho))
  refine hk_aload_n dX9_why_24 rfl rfl ?_
  refine gfX9_23 rfl dX9_why_25 (hk_lt (by decide)) rfl rfl ?_
  refine gfX9_112 rfl dX9_why_28 (hk_lt (by decide)) rfl rfl ?_
  refine hk_iload_n dX9_why_31 rfl rfl ?_
  refine hk_iconst (v := 4) dX9_why_32 (by decide) ?_
  refine ivX9_124 rfl (ct_geti tb9 c2 a2 rfl hc (j := 4) (by decide)) dX9_why_33 (hk_lt (by decide)) rfl rfl rfl (by decide) ⟨by decide, by decide⟩ (Nat.le_of_ble_eq_true rfl) (hk_kd ?_)
  rw [h4']
  refine hk_istore dX9_why_36 (by decide) rfl ?_
  refine hk_aload_n dX9_why_38 rfl rfl ?_
  refine hk_iload_n dX9_why_39 rfl rfl ?_
  refine hk_iload_n dX9_why_40 rfl rfl ?_
  refine hk_iload dX9_why_41 rfl ?_
  refine ivX9_212 rfl (ct_draftTrip hI hf ht w hR) dX9_why_43 (hk_lt (by decide)) rfl rfl rfl (by decide) ⟨by decide, by decide⟩ (Nat.le_of_ble_eq_true rfl) (fun r h1 hq => ?_)
  obtain ⟨m1, rfl, rfl, hDR, hDT⟩ := hq
  refine hk_if_eq (tgt := 58) dX9_why_46 (by decide) (fun c46 => absurd c46 (by decide)) (fun _ => ?_)
  refine hk_aload_n dX9_why_49 rfl rfl ?_
  refine hk_iload dX9_why_50 rfl ?_
  refine ivX9_234 rfl (ct_yardsToCaller hI hDR.w hs ha hp) dX9_why_52 (hk_lt (by decide)) rfl rfl rfl (by decide) ⟨by decide, by decide⟩ (Nat.le_of_ble_eq_true rfl) (hk_kd ?_)
  rw [eyv]
  refine hk_if_ge (tgt := 61) dX9_why_55 (by decide) (fun _ => ?_) (fun c55 => absurd (Int32.not_lt.mp (nI_pos (by omega))) c55)
  refine hk_aload_n dX9_why_61 rfl rfl ?_
  refine hk_iload_n dX9_why_62 rfl rfl ?_
  refine hk_iload dX9_why_63 rfl ?_
  refine ivX9_237 rfl (ct_whyNot hI hDR.w hDT hc hs ha hp hR2) dX9_why_65 (hk_lt (by decide)) rfl rfl rfl (by decide) ⟨by decide, by decide⟩ (Nat.le_of_ble_eq_true rfl) (fun r h1 hq => ?_)
  obtain ⟨m2, rfl, rfl, hD⟩ := hq
  exact hk_ireturn dX9_why_68 rfl rfl (by decide) ⟨m2, rfl, rfl, (hDR.k hD.1).1⟩
set_option maxRecDepth 20000 in
set_option maxHeartbeats 2000000 in
theorem md_why_no1 (hI : Inv L z m) {c f t w : Int32} (hno : ¬ inR c (z 2)) : hk_Cd MX10_why 72 0 0 [.ref 37, .int c, .int f, .int t, .int w] (hk_h L m) (some (.int (-1))) (hk_h L m) := by
  obtain ⟨g0, ⟨⟨a0, a1, a2, a3, a4, a5, a6, a7, a8, a9, a10, a11, a12, a13⟩, ⟨b0, b1, b2, b3, b4, b5, b6, b7, b8, b9, b10, b11, b12⟩, ⟨c0, c1, c2, c3, c4, c5, c6, c7, c8, c9, c10, c11, c12⟩⟩, g2, g3, g4, g5, g6, g7, g8, g9, g10, g11, g12, g13, g14⟩ := id hI
  refine hk_ofWP (by decide) (by simp [Value.category]) (Nat.le_of_ble_eq_true rfl) ?_
  show hk_WP _ _ _ _ _ _ _ [some (.ref 37), some (.int c), some (.int f), some (.int t), some (.int w), none, none, none] [] _ _
  refine hk_aload_n dX10_why_0 rfl rfl ?_
  refine hk_iload_n dX10_why_1 rfl rfl ?_
  refine ivX10_255 rfl (md_isCoach b2 _) dX10_why_2 (hk_lt (by decide)) rfl rfl rfl (by decide) ⟨by decide, by decide⟩ (Nat.le_of_ble_eq_true rfl) (hk_kd ?_)
  refine hk_if_eq (tgt := 29) dX10_why_5 (by decide) (fun _ => ?_) (fun c5 => absurd (bI_f hno) c5)
  refine hk_iconst (v := (-1)) dX10_why_29 (by decide) ?_
  exact hk_ireturn dX10_why_30 rfl rfl (by decide) ⟨rfl, rfl⟩
set_option maxRecDepth 20000 in
set_option maxHeartbeats 2000000 in
theorem md_why_no2 (hI : Inv L z m) {c : Nat} {f t w : Int32} (hc : c < z 2) (hno : ¬ (m 55 c = 1 ∧ okOrd (z 0) f t w)) : hk_Cd MX10_why 72 0 0 [.ref 37, .int (nI c), .int f, .int t, .int w] (hk_h L m) (some (.int (-1))) (hk_h L m) := by
  obtain ⟨g0, ⟨⟨a0, a1, a2, a3, a4, a5, a6, a7, a8, a9, a10, a11, a12, a13⟩, ⟨b0, b1, b2, b3, b4, b5, b6, b7, b8, b9, b10, b11, b12⟩, ⟨c0, c1, c2, c3, c4, c5, c6, c7, c8, c9, c10, c11, c12⟩⟩, g2, g3, g4, g5, g6, g7, g8, g9, g10, g11, g12, g13, g14⟩ := id hI
  refine hk_ofWP (by decide) (by simp [Value.category]) (Nat.le_of_ble_eq_true rfl) ?_
  show hk_WP _ _ _ _ _ _ _ [some (.ref 37), some (.int (nI c)), some (.int f), some (.int t), some (.int w), none, none, none] [] _ _
  refine hk_aload_n dX10_why_0 rfl rfl ?_
  refine hk_iload_n dX10_why_1 rfl rfl ?_
  refine ivX10_255 rfl (md_isCoach b2 _) dX10_why_2 (hk_lt (by decide)) rfl rfl rfl (by decide) ⟨by decide, by decide⟩ (Nat.le_of_ble_eq_true rfl) (hk_kd ?_)
  refine hk_if_eq (tgt := 29) dX10_why_5 (by decide) (fun c5 => absurd c5 (fun e => bI_0.mp e (inR_nI hc (by omega)))) (fun _ => ?_)
  refine hk_aload_n dX10_why_8 rfl rfl ?_
  refine gfX10_61 rfl dX10_why_9 (hk_lt (by decide)) rfl rfl ?_
  refine hk_iload_n dX10_why_12 rfl rfl ?_
  refine hk_ian dX10_why_13 (by decide) (fun _ => rfl) rfl (by omega) (by decide) ?_
  refine hk_iconst (v := 1) dX10_why_14 (by decide) ?_
  refine hk_icmp_ne (tgt := 29) dX10_why_15 (by decide) (fun c15 => ?_) (fun c15 => ?_)
  · refine hk_iconst (v := (-1)) dX10_why_29 (by decide) ?_
    exact hk_ireturn dX10_why_30 rfl rfl (by decide) ⟨rfl, rfl⟩
  · refine hk_aload_n dX10_why_18 rfl rfl ?_
    refine hk_iload_n dX10_why_19 rfl rfl ?_
    refine hk_iload_n dX10_why_20 rfl rfl ?_
    refine hk_iload dX10_why_21 rfl ?_
    refine ivX10_373 rfl (md_mayBeCalled b0 _ _ _) dX10_why_23 (hk_lt (by decide)) rfl rfl rfl (by decide) ⟨by decide, by decide⟩ (Nat.le_of_ble_eq_true rfl) (hk_kd ?_)
    refine hk_if_ne (tgt := 31) dX10_why_26 (by decide) (fun c26 => ?_) (fun c26 => ?_)
    · rw [bI_0] at c26
      refine absurd ⟨c15, ?_⟩ hno
      obtain ⟨k1, k2, k3, k4⟩ := Classical.not_not.mp c26
      exact ⟨k1, k2, k3, (okCall_iff w).mp k4⟩
    · rw [bI_0] at c26
      refine hk_iconst (v := (-1)) dX10_why_29 (by decide) ?_
      exact hk_ireturn dX10_why_30 rfl rfl (by decide) ⟨rfl, rfl⟩
set_option maxRecDepth 20000 in
set_option maxHeartbeats 2000000 in
theorem md_why_nw (hI : Inv L z m) {c f t a : Nat} {w : Int32} (hc : c < z 2) (h1' : m 55 c = 1) (ha : a < z 0) (hp : m 56 c = nI a) (hf : f < z 0) (ht : t < z 0) (ho : okOrd (z 0) (nI f) (nI t) w) (hR : ¬ (RC (GG m (z 1) (nI (z 8))) f t ∧ RC (GG m (z 1) (nI (z 8))) f a)) : hk_Ct MX10_why 72 0 0 [.ref 37, .int (nI c), .int (nI f), .int (nI t), .int w] (hk_h L m) (fun r h => ∃ m1, r = some (.int (-5)) ∧ h = hk_h L m1 ∧ SCR m m1) := by
  obtain ⟨g0, ⟨⟨a0, a1, a2, a3, a4, a5, a6, a7, a8, a9, a10, a11, a12, a13⟩, ⟨b0, b1, b2, b3, b4, b5, b6, b7, b8, b9, b10, b11, b12⟩, ⟨c0, c1, c2, c3, c4, c5, c6, c7, c8, c9, c10, c11, c12⟩⟩, g2, g3, g4, g5, g6, g7, g8, g9, g10, g11, g12, g13, g14⟩ := id hI
  obtain ⟨h1, h2, h3, h4, h5, h6, h7⟩ := Inv_gs hI
  have gm := GS.gm h4 (nI (z 8)) h5
  refine hk_ofWP (by decide) (by simp [Value.category]) (Nat.le_of_ble_eq_true rfl) ?_
  show hk_WP _ _ _ _ _ _ _ [some (.ref 37), some (.int (nI c)), some (.int (nI f)), some (.int (nI t)), some (.int w), none, none, none] [] _ _
  refine hk_aload_n dX10_why_0 rfl rfl ?_
  refine hk_iload_n dX10_why_1 rfl rfl ?_
  refine ivX10_255 rfl (md_isCoach b2 _) dX10_why_2 (hk_lt (by decide)) rfl rfl rfl (by decide) ⟨by decide, by decide⟩ (Nat.le_of_ble_eq_true rfl) (hk_kd ?_)
  refine hk_if_eq (tgt := 29) dX10_why_5 (by decide) (fun c5 => absurd c5 (fun e => bI_0.mp e (inR_nI hc (by omega)))) (fun _ => ?_)
  refine hk_aload_n dX10_why_8 rfl rfl ?_
  refine gfX10_61 rfl dX10_why_9 (hk_lt (by decide)) rfl rfl ?_
  refine hk_iload_n dX10_why_12 rfl rfl ?_
  refine hk_ian dX10_why_13 (by decide) (fun _ => rfl) rfl (by omega) (by decide) ?_
  refine hk_iconst (v := 1) dX10_why_14 (by decide) ?_
  refine hk_icmp_ne (tgt := 29) dX10_why_15 (by decide) (fun c15 => absurd h1' c15) (fun _ => ?_)
  refine hk_aload_n dX10_why_18 rfl rfl ?_
  refine hk_iload_n dX10_why_19 rfl rfl ?_
  refine hk_iload_n dX10_why_20 rfl rfl ?_
  refine hk_iload dX10_why_21 rfl ?_
  refine ivX10_373 rfl (md_mayBeCalled b0 _ _ _) dX10_why_23 (hk_lt (by decide)) rfl rfl rfl (by decide) ⟨by decide, by decide⟩ (Nat.le_of_ble_eq_true rfl) (hk_kd ?_)
  refine hk_if_ne (tgt := 31) dX10_why_26 (by decide) (fun _ => ?_) (fun c26 => absurd c26 (fun e => bI_0.mp e ⟨ho.1, ho.2.1, ho.2.2.1, (okCall_iff w).mpr ho.2.2.2⟩))
  refine hk_aload_n dX10_why_31 rfl rfl ?_
  refine hk_iload_n dX10_why_32 rfl rfl ?_
  refine hk_iload_n dX10_why_33 rfl rfl ?_
  refine hk_aload_n dX10_why_34 rfl rfl ?_
  refine gfX10_194 rfl dX10_why_35 (hk_lt (by decide)) rfl rfl ?_
  rw [b8]
  refine ivX10_241 rfl (md_yardsOf h2 h3 h4 h5 h7 (nI (z 8)) ht hf) dX10_why_38 (hk_lt (by decide)) rfl rfl rfl (by decide) ⟨by decide, by decide⟩ (Nat.le_of_ble_eq_true rfl) (fun r h1 hq => ?_)
  obtain ⟨m1, rfl, rfl, hF⟩ := hq
  have hI1 := Inv_scr hI hF.scr
  obtain ⟨i1, i2, i3, i4, i5, i6, i7⟩ := Inv_gs hI1
  refine hk_istore dX10_why_41 (by decide) rfl ?_
  refine hk_aload_n dX10_why_43 rfl rfl ?_
  refine gfX10_40 rfl dX10_why_44 (hk_lt (by decide)) rfl rfl ?_
  refine hk_iload_n dX10_why_47 rfl rfl ?_
  refine hk_ian dX10_why_48 (by decide) (fun _ => rfl) rfl (by omega) (by decide) ?_
  refine hk_istore dX10_why_49 (by decide) rfl ?_
  refine hk_aload_n dX10_why_51 rfl rfl ?_
  refine hk_aload_n dX10_why_52 rfl rfl ?_
  refine gfX10_64 rfl dX10_why_53 (hk_lt (by decide)) rfl rfl ?_
  refine hk_iload_n dX10_why_56 rfl rfl ?_
  refine hk_ian dX10_why_57 (by decide) (fun _ => rfl) rfl (by omega) (by decide) ?_
  rw [show m1 56 c = nI a by rw [hF.1 56 (by decide) (by decide)]; exact hp]
  refine hk_iload_n dX10_why_58 rfl rfl ?_
  refine hk_aload_n dX10_why_59 rfl rfl ?_
  refine gfX10_194 rfl dX10_why_60 (hk_lt (by decide)) rfl rfl ?_
  rw [show m1 37 0 = nI (z 8) by rw [hF.1 37 (by decide) (by decide)]; exact b8]
  refine ivX10_241 rfl (md_yardsOf i2 i3 i4 i5 i7 (nI (z 8)) hf ha) dX10_why_63 (hk_lt (by decide)) rfl rfl rfl (by decide) ⟨by decide, by decide⟩ (Nat.le_of_ble_eq_true rfl) (fun r h1 hq => ?_)
  obtain ⟨m2, rfl, rfl, hF2⟩ := hq
  have hI2 := Inv_scr hI1 hF2.scr
  refine hk_istore dX10_why_66 (by decide) rfl ?_
  refine hk_iload dX10_why_68 rfl ?_
  refine hk_if_lt (tgt := 78) dX10_why_70 (by decide) (fun c70 => ?_) (fun c70 => ?_)
  · rw [yv_0 gm] at c70
    refine hk_bipush (v := (-5)) dX10_why_78 (by decide) ?_
    refine hk_goto (tgt := 101) dX10_why_80 (by decide) ?_
    exact hk_ireturn dX10_why_101 rfl rfl (by decide) ⟨m2, rfl, rfl, hF.scr.t hF2.scr⟩
  · rw [yv_0 gm] at c70
    refine hk_iload dX10_why_73 rfl ?_
    refine hk_if_ge (tgt := 83) dX10_why_75 (by decide) (fun c75 => ?_) (fun c75 => ?_)
    · rw [← Int32.not_lt, yv_0 (GS.gm i4 _ i5), hF.scr.gg] at c75
      exact absurd ⟨Classical.not_not.mp (fun e => c70 (fun k => e (RC_rev k))), Classical.not_not.mp c75⟩ hR
    · rw [← Int32.not_lt, yv_0 (GS.gm i4 _ i5), hF.scr.gg] at c75
      refine hk_bipush (v := (-5)) dX10_why_78 (by decide) ?_
      refine hk_goto (tgt := 101) dX10_why_80 (by decide) ?_
      exact hk_ireturn dX10_why_101 rfl rfl (by decide) ⟨m2, rfl, rfl, hF.scr.t hF2.scr⟩
set_option maxRecDepth 20000 in
set_option maxHeartbeats 2000000 in
theorem md_why_ok (hI : Inv L z m) {c f t a : Nat} {w : Int32} (hc : c < z 2) (h1' : m 55 c = 1) (ha : a < z 0) (hp : m 56 c = nI a) (hf : f < z 0) (ht : t < z 0) (ho : okOrd (z 0) (nI f) (nI t) w) (hR : RC (GG m (z 1) (nI (z 8))) f t) (hR2 : RC (GG m (z 1) (nI (z 8))) f a) : hk_Ct MX10_why 72 0 0 [.ref 37, .int (nI c), .int (nI f), .int (nI t), .int w] (hk_h L m) (fun r h => ∃ m1, r = some (.int (WV m L (z 12) c (z 8) (((nI (DD (GG m (z 1) (nI (z 8))) f a / 100)) + 109) / 110) (nI (DD (GG m (z 1) (nI (z 8))) f t / 100)) (nI (DD (GG m (z 1) (nI (z 8))) f t % 100)) (rm w 1000) (w / 1000) (bI (ngt (m 4) (m 5) (z 8))))) ∧ h = hk_h L m1 ∧ SCR m m1) := by
  obtain ⟨g0, ⟨⟨a0, a1, a2, a3, a4, a5, a6, a7, a8, a9, a10, a11, a12, a13⟩, ⟨b0, b1, b2, b3, b4, b5, b6, b7, b8, b9, b10, b11, b12⟩, ⟨c0, c1, c2, c3, c4, c5, c6, c7, c8, c9, c10, c11, c12⟩⟩, g2, g3, g4, g5, g6, g7, g8, g9, g10, g11, g12, g13, g14⟩ := id hI
  obtain ⟨h1, h2, h3, h4, h5, h6, h7⟩ := Inv_gs hI
  have gm := GS.gm h4 (nI (z 8)) h5
  have eyv : yv (GG m (z 1) (nI (z 8))) t f = (nI (DD (GG m (z 1) (nI (z 8))) f t / 100)) := by rw [DD_rev (t := f) (c := t)]; unfold yv; exact if_pos (RC_rev hR)
  have hDb := DDb (u := nI (z 8)) gm (t := f) (c := t)
  have hDb2 := DDb (u := nI (z 8)) gm (t := f) (c := a)
  refine hk_ofWP (by decide) (by simp [Value.category]) (Nat.le_of_ble_eq_true rfl) ?_
  show hk_WP _ _ _ _ _ _ _ [some (.ref 37), some (.int (nI c)), some (.int (nI f)), some (.int (nI t)), some (.int w), none, none, none] [] _ _
  refine hk_aload_n dX10_why_0 rfl rfl ?_
  refine hk_iload_n dX10_why_1 rfl rfl ?_
  refine ivX10_255 rfl (md_isCoach b2 _) dX10_why_2 (hk_lt (by decide)) rfl rfl rfl (by decide) ⟨by decide, by decide⟩ (Nat.le_of_ble_eq_true rfl) (hk_kd ?_)
  refine hk_if_eq (tgt := 29) dX10_why_5 (by decide) (fun c5 => absurd c5 (fun e => bI_0.mp e (inR_nI hc (by omega)))) (fun _ => ?_)
  refine hk_aload_n dX10_why_8 rfl rfl ?_
  refine gfX10_61 rfl dX10_why_9 (hk_lt (by decide)) rfl rfl ?_
  refine hk_iload_n dX10_why_12 rfl rfl ?_
  refine hk_ian dX10_why_13 (by decide) (fun _ => rfl) rfl (by omega) (by decide) ?_
  refine hk_iconst (v := 1) dX10_why_14 (by decide) ?_
  refine hk_icmp_ne (tgt := 29) dX10_why_15 (by decide) (fun c15 => absurd h1' c15) (fun _ => ?_)
  refine hk_aload_n dX10_why_18 rfl rfl ?_
  refine hk_iload_n dX10_why_19 rfl rfl ?_
  refine hk_iload_n dX10_why_20 rfl rfl ?_
  refine hk_iload dX10_why_21 rfl ?_
  refine ivX10_373 rfl (md_mayBeCalled b0 _ _ _) dX10_why_23 (hk_lt (by decide)) rfl rfl rfl (by decide) ⟨by decide, by decide⟩ (Nat.le_of_ble_eq_true rfl) (hk_kd ?_)
  refine hk_if_ne (tgt := 31) dX10_why_26 (by decide) (fun _ => ?_) (fun c26 => absurd c26 (fun e => bI_0.mp e ⟨ho.1, ho.2.1, ho.2.2.1, (okCall_iff w).mpr ho.2.2.2⟩))
  refine hk_aload_n dX10_why_31 rfl rfl ?_
  refine hk_iload_n dX10_why_32 rfl rfl ?_
  refine hk_iload_n dX10_why_33 rfl rfl ?_
  refine hk_aload_n dX10_why_34 rfl rfl ?_
  refine gfX10_194 rfl dX10_why_35 (hk_lt (by decide)) rfl rfl ?_
  rw [b8]
  refine ivX10_241 rfl (md_yardsOf h2 h3 h4 h5 h7 (nI (z 8)) ht hf) dX10_why_38 (hk_lt (by decide)) rfl rfl rfl (by decide) ⟨by decide, by decide⟩ (Nat.le_of_ble_eq_true rfl) (fun r h1 hq => ?_)
  obtain ⟨m1, rfl, rfl, hF⟩ := hq
  have hI1 := Inv_scr hI hF.scr
  obtain ⟨i1, i2, i3, i4, i5, i6, i7⟩ := Inv_gs hI1
  rw [eyv]
  refine hk_istore dX10_why_41 (by decide) rfl ?_
  refine hk_aload_n dX10_why_43 rfl rfl ?_
  refine gfX10_40 rfl dX10_why_44 (hk_lt (by decide)) rfl rfl ?_
  refine hk_iload_n dX10_why_47 rfl rfl ?_
  refine hk_ian dX10_why_48 (by decide) (fun _ => rfl) rfl (by omega) (by decide) ?_
  rw [show m1 48 f = nI (DD (GG m (z 1) (nI (z 8))) f t % 100) by rw [DD_rev (t := f) (c := t)]; exact ((hF.2 f hf).1 (RC_rev hR)).2]
  refine hk_istore dX10_why_49 (by decide) rfl ?_
  refine hk_aload_n dX10_why_51 rfl rfl ?_
  refine hk_aload_n dX10_why_52 rfl rfl ?_
  refine gfX10_64 rfl dX10_why_53 (hk_lt (by decide)) rfl rfl ?_
  refine hk_iload_n dX10_why_56 rfl rfl ?_
  refine hk_ian dX10_why_57 (by decide) (fun _ => rfl) rfl (by omega) (by decide) ?_
  rw [show m1 56 c = nI a by rw [hF.1 56 (by decide) (by decide)]; exact hp]
  refine hk_iload_n dX10_why_58 rfl rfl ?_
  refine hk_aload_n dX10_why_59 rfl rfl ?_
  refine gfX10_194 rfl dX10_why_60 (hk_lt (by decide)) rfl rfl ?_
  rw [show m1 37 0 = nI (z 8) by rw [hF.1 37 (by decide) (by decide)]; exact b8]
  refine ivX10_241 rfl (md_yardsOf i2 i3 i4 i5 i7 (nI (z 8)) hf ha) dX10_why_63 (hk_lt (by decide)) rfl rfl rfl (by decide) ⟨by decide, by decide⟩ (Nat.le_of_ble_eq_true rfl) (fun r h1 hq => ?_)
  obtain ⟨m2, rfl, rfl, hF2⟩ := hq
  have hI2 := Inv_scr hI1 hF2.scr
  rw [hF.scr.gg, show yv (GG m (z 1) (nI (z 8))) f a = (nI (DD (GG m (z 1) (nI (z 8))) f a / 100)) by unfold yv; exact if_pos hR2]
  refine hk_istore dX10_why_66 (by decide) rfl ?_
  refine hk_iload dX10_why_68 rfl ?_
  refine hk_if_lt (tgt := 78) dX10_why_70 (by decide) (fun c70 => absurd c70 (nI_pos (by omega))) (fun _ => ?_)
  refine hk_iload dX10_why_73 rfl ?_
  refine hk_if_ge (tgt := 83) dX10_why_75 (by decide) (fun _ => ?_) (fun c75 => absurd (Int32.not_lt.mp (nI_pos (by omega))) c75)
  refine hk_aload_n dX10_why_83 rfl rfl ?_
  refine hk_iload_n dX10_why_84 rfl rfl ?_
  refine hk_iload_n dX10_why_85 rfl rfl ?_
  refine hk_iload_n dX10_why_86 rfl rfl ?_
  refine hk_iload dX10_why_87 rfl ?_
  refine hk_iload dX10_why_89 rfl ?_
  refine ivX10_277 rfl (md_minutesOf _) dX10_why_91 rfl rfl (by decide) ⟨by decide, by decide⟩ (Nat.le_of_ble_eq_true rfl) (hk_kd ?_)
  refine hk_iload dX10_why_94 rfl ?_
  refine hk_iload dX10_why_96 rfl ?_
  refine ivX10_376 rfl (md_whyNot hI2 hc) dX10_why_98 (hk_lt (by decide)) rfl rfl rfl (by decide) ⟨by decide, by decide⟩ (Nat.le_of_ble_eq_true rfl) (fun r h1 hq => ?_)
  obtain ⟨m3, rfl, rfl, hS3⟩ := hq
  rw [WV_k hF2.scr, WV_k hF.scr, hF2.scr.a (a := 4) (by decide), hF.scr.a (a := 4) (by decide), hF2.scr.a (a := 5) (by decide), hF.scr.a (a := 5) (by decide)]
  exact hk_ireturn dX10_why_101 rfl rfl (by decide) ⟨m3, rfl, rfl, (hF.scr.t hF2.scr).t hS3.scr⟩
theorem op_why (hI : Inv L z m) (c f t w : Int32) : OpE L m MX9_why MX10_why [.int c, .int f, .int t, .int w] := by
  obtain ⟨g0, ⟨⟨a0, a1, a2, a3, a4, a5, a6, a7, a8, a9, a10, a11, a12, a13⟩, ⟨b0, b1, b2, b3, b4, b5, b6, b7, b8, b9, b10, b11, b12⟩, ⟨c0, c1, c2, c3, c4, c5, c6, c7, c8, c9, c10, c11, c12⟩⟩, g2, g3, g4, g5, g6, g7, g8, g9, g10, g11, g12, g13, g14⟩ := id hI
  by_cases hcr : inR c (z 2)
  · obtain ⟨c, hc, rfl⟩ := inR_of hcr (by omega)
    have etg : tg m 9 8 (z 2) (nI c) 0 = m 10 (c * 8) := tg_in2 (c := 0) (j := 0) rfl (by omega) (by decide) hc (by decide)
    obtain ⟨e1, e2, _, _, _, _, ⟨_, a, _, _, _, _, k3, k4, _⟩, _, _, d3, _⟩ := g5.1 c hc
    by_cases hok : m 55 c = 1 ∧ okOrd (z 0) f t w
    · obtain ⟨h55, ho⟩ := hok
      obtain ⟨s, hs, q4, qs⟩ := d3 h55
      obtain ⟨f, hf, rfl⟩ := inR_of ho.1 (by omega)
      obtain ⟨t, ht, rfl⟩ := inR_of ho.2.1 (by omega)
      have hp : m 14 (s * 13) = nI a := by rw [← qs]; exact k3
      by_cases hR : RC (GG m (z 1) (nI (z 8))) f t
      · by_cases hR2 : RC (GG m (z 1) (nI (z 8))) f a
        · refine OpE.of (d1 := 6) (d2 := 72) hI (by decide) (by decide) (ct_why_ok hI hc (e1.trans h55) q4 hs k4 hp hf ht ho hR hR2) (fun m1 hI1 s1 => ?_)
          have hm := md_why_ok hI1 hc (by rw [s1.a (a := 55) (by decide)]; exact h55) k4 (by rw [s1.a (a := 56) (by decide)]; exact k3) hf ht ho (by rw [s1.gg]; exact hR) (by rw [s1.gg]; exact hR2)
          rw [WV_k s1, s1.gg, s1.a (a := 4) (by decide), s1.a (a := 5) (by decide)] at hm
          exact hm
        · refine OpE.of (d1 := 6) (d2 := 72) hI (by decide) (by decide) (ct_why_nw2 hI hc (e1.trans h55) q4 hs k4 hp hf ht ho hR hR2) (fun m1 hI1 s1 => ?_)
          exact md_why_nw hI1 hc (by rw [s1.a (a := 55) (by decide)]; exact h55) k4 (by rw [s1.a (a := 56) (by decide)]; exact k3) hf ht ho (by rw [s1.gg]; exact fun q => hR2 q.2)
      · refine OpE.of (d1 := 6) (d2 := 72) hI (by decide) (by decide) (ct_why_nw1 hI hc (e1.trans h55) q4 hs k4 hp hf ht ho hR) (fun m1 hI1 s1 => ?_)
        exact md_why_nw hI1 hc (by rw [s1.a (a := 55) (by decide)]; exact h55) k4 (by rw [s1.a (a := 56) (by decide)]; exact k3) hf ht ho (by rw [s1.gg]; exact fun q => hR q.1)
    · exact OpOK.e ⟨6, 0, 0, 72, -1, L, m, m, z, by decide, by decide, by decide, by decide, ct_why_no hI _ f t w (by rw [etg, e1]; exact hok), md_why_no2 hI hc hok, hI⟩
  · refine OpOK.e ⟨6, 0, 0, 72, -1, L, m, m, z, by decide, by decide, by decide, by decide, ct_why_no hI c f t w (fun q => ?_), md_why_no1 hI hcr, hI⟩
    have q1 := q.1
    unfold tg at q1
    by_cases k : ¬ c < 0 ∧ ¬ nI (z 2) ≤ c ∧ ¬ (0 : Int32) < 0 ∧ ¬ nI 8 ≤ 0
    · exact hcr ⟨k.1, k.2.1⟩
    · rw [if_neg k] at q1; exact absurd q1 (by decide)
end CCx
