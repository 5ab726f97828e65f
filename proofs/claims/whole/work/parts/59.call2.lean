/-! call: the class's, whole -/
section CGz
variable {L nC nS nK nD : Nat} {m m0 m1 m2 : Nat → Nat → Int32} {z : Nat → Nat}
set_option maxRecDepth 20000 in
set_option maxHeartbeats 2000000 in
theorem ct_call_no (hI : Inv L z m) (f t w : Int32) (hno : ¬ okOrd (z 0) f t w) : hk_Cd MX9_call 7 0 0 [.ref 0, .int f, .int t, .int w] (hk_h L m) (some (.int (-1))) (hk_h L m) := by
  obtain ⟨g0, ⟨⟨a0, a1, a2, a3, a4, a5, a6, a7, a8, a9, a10, a11, a12, a13⟩, ⟨b0, b1, b2, b3, b4, b5, b6, b7, b8, b9, b10, b11, b12⟩, ⟨c0, c1, c2, c3, c4, c5, c6, c7, c8, c9, c10, c11, c12⟩⟩, g2, g3, g4, g5, g6, g7, g8, g9, g10, g11, g12, g13, g14⟩ := id hI
  refine hk_ofWP (by decide) (by simp [Value.category]) (Nat.le_of_ble_eq_true rfl) ?_
  show hk_WP _ _ _ _ _ _ _ [some (.ref 0), some (.int f), some (.int t), some (.int w), none, none, none] [] _ _
  refine hk_aload_n dX9_call_0 rfl rfl ?_
  refine hk_iload_n dX9_call_1 rfl rfl ?_
  refine hk_iload_n dX9_call_2 rfl rfl ?_
  refine hk_iload_n dX9_call_3 rfl rfl ?_
  refine ivX9_208 rfl (ct_isOrder a0 _ _ _) dX9_call_4 (hk_lt (by decide)) rfl rfl rfl (by decide) ⟨by decide, by decide⟩ (Nat.le_of_ble_eq_true rfl) (hk_kd ?_)
  refine hk_if_ne (tgt := 12) dX9_call_7 (by decide) (fun c7 => ?_) (fun c7 => ?_)
  · rw [bI_0] at c7
    exact absurd (Classical.not_not.mp c7) hno
  · rw [bI_0] at c7
    refine hk_iconst (v := (-1)) dX9_call_10 (by decide) ?_
    exact hk_ireturn dX9_call_11 rfl rfl (by decide) ⟨rfl, rfl⟩
set_option maxRecDepth 20000 in
set_option maxHeartbeats 2000000 in
theorem ct_call_nw (hI : Inv L z m) {f t : Nat} {w : Int32} (hf : f < z 0) (ht : t < z 0) (ho : okOrd (z 0) (nI f) (nI t) w) (hR : ¬ RC (GG m (z 1) (nI (z 8))) f t) : hk_Ct MX9_call 7 0 0 [.ref 0, .int (nI f), .int (nI t), .int w] (hk_h L m) (fun r h => ∃ m1, r = some (.int (-5)) ∧ h = hk_h L m1 ∧ SCR m m1) := by
  obtain ⟨g0, ⟨⟨a0, a1, a2, a3, a4, a5, a6, a7, a8, a9, a10, a11, a12, a13⟩, ⟨b0, b1, b2, b3, b4, b5, b6, b7, b8, b9, b10, b11, b12⟩, ⟨c0, c1, c2, c3, c4, c5, c6, c7, c8, c9, c10, c11, c12⟩⟩, g2, g3, g4, g5, g6, g7, g8, g9, g10, g11, g12, g13, g14⟩ := id hI
  obtain ⟨h1, h2, h3, h4, h5, h6, h7⟩ := Inv_gs hI
  refine hk_ofWP (by decide) (by simp [Value.category]) (Nat.le_of_ble_eq_true rfl) ?_
  show hk_WP _ _ _ _ _ _ _ [some (.ref 0), some (.int (nI f)), some (.int (nI t)), some (.int w), none, none, none] [] _ _
  refine hk_aload_n dX9_call_0 rfl rfl ?_
  refine hk_iload_n dX9_call_1 rfl rfl ?_
  refine hk_iload_n dX9_call_2 rfl rfl ?_
  refine hk_iload_n dX9_call_3 rfl rfl ?_
  refine ivX9_208 rfl (ct_isOrder a0 _ _ _) dX9_call_4 (hk_lt (by decide)) rfl rfl rfl (by decide) ⟨by decide, by decide⟩ (Nat.le_of_ble_eq_true rfl) (hk_kd ?_)
  refine hk_if_ne (tgt := 12) dX9_call_7 (by decide) (fun _ => ?_) (fun c7 => absurd c7 (fun e => bI_0.mp e ho))
  refine hk_aload_n dX9_call_12 rfl rfl ?_
  refine hk_iload_n dX9_call_13 rfl rfl ?_
  refine hk_iload_n dX9_call_14 rfl rfl ?_
  refine hk_iload_n dX9_call_15 rfl rfl ?_
  refine ivX9_212 rfl (ct_draftTrip_nw hI hf ht w hR) dX9_call_16 (hk_lt (by decide)) rfl rfl rfl (by decide) ⟨by decide, by decide⟩ (Nat.le_of_ble_eq_true rfl) (fun r h1 hq => ?_)
  obtain ⟨m1, rfl, rfl, hS⟩ := hq
  refine hk_if_ne (tgt := 25) dX9_call_19 (by decide) (fun c19 => absurd rfl c19) (fun _ => ?_)
  refine hk_bipush (v := (-5)) dX9_call_22 (by decide) ?_
  exact hk_ireturn dX9_call_24 rfl rfl (by decide) ⟨m1, rfl, rfl, hS⟩
set_option maxRecDepth 20000 in
set_option maxHeartbeats 2000000 in
theorem ct_call_full (hI : Inv L z m) {f t : Nat} {w : Int32} (hf : f < z 0) (ht : t < z 0) (ho : okOrd (z 0) (nI f) (nI t) w) (hR : RC (GG m (z 1) (nI (z 8))) f t) (hF : z 5 = 300) : hk_Ct MX9_call 7 0 0 [.ref 0, .int (nI f), .int (nI t), .int w] (hk_h L m) (fun r h => ∃ m1, r = some (.int (-2)) ∧ h = hk_h L m1 ∧ SCR m m1) := by
  obtain ⟨g0, ⟨⟨a0, a1, a2, a3, a4, a5, a6, a7, a8, a9, a10, a11, a12, a13⟩, ⟨b0, b1, b2, b3, b4, b5, b6, b7, b8, b9, b10, b11, b12⟩, ⟨c0, c1, c2, c3, c4, c5, c6, c7, c8, c9, c10, c11, c12⟩⟩, g2, g3, g4, g5, g6, g7, g8, g9, g10, g11, g12, g13, g14⟩ := id hI
  obtain ⟨h1, h2, h3, h4, h5, h6, h7⟩ := Inv_gs hI
  refine hk_ofWP (by decide) (by simp [Value.category]) (Nat.le_of_ble_eq_true rfl) ?_
  show hk_WP _ _ _ _ _ _ _ [some (.ref 0), some (.int (nI f)), some (.int (nI t)), some (.int w), none, none, none] [] _ _
  refine hk_aload_n dX9_call_0 rfl rfl ?_
  refine hk_iload_n dX9_call_1 rfl rfl ?_
  refine hk_iload_n dX9_call_2 rfl rfl ?_
  refine hk_iload_n dX9_call_3 rfl rfl ?_
  refine ivX9_208 rfl (ct_isOrder a0 _ _ _) dX9_call_4 (hk_lt (by decide)) rfl rfl rfl (by decide) ⟨by decide, by decide⟩ (Nat.le_of_ble_eq_true rfl) (hk_kd ?_)
  refine hk_if_ne (tgt := 12) dX9_call_7 (by decide) (fun _ => ?_) (fun c7 => absurd c7 (fun e => bI_0.mp e ho))
  refine hk_aload_n dX9_call_12 rfl rfl ?_
  refine hk_iload_n dX9_call_13 rfl rfl ?_
  refine hk_iload_n dX9_call_14 rfl rfl ?_
  refine hk_iload_n dX9_call_15 rfl rfl ?_
  refine ivX9_212 rfl (ct_draftTrip hI hf ht w hR) dX9_call_16 (hk_lt (by decide)) rfl rfl rfl (by decide) ⟨by decide, by decide⟩ (Nat.le_of_ble_eq_true rfl) (fun r h1 hq => ?_)
  obtain ⟨m1, rfl, rfl, hDR, hDT⟩ := hq
  have e23 : m1 23 3 = nI (z 5) := by rw [hDR.1.a (a := 23) (by decide)]; exact a5
  refine hk_if_ne (tgt := 25) dX9_call_19 (by decide) (fun _ => ?_) (fun c19 => absurd c19 (by decide))
  refine hk_aload_n dX9_call_25 rfl rfl ?_
  refine gfX9_37 rfl dX9_call_26 (hk_lt (by decide)) rfl rfl ?_
  refine gfX9_215 rfl dX9_call_29 (hk_lt (by decide)) rfl rfl ?_
  refine ivX9_218 rfl (ct_isFull (m := m1) tb23 c5 e23) dX9_call_32 (hk_lt (by decide)) rfl rfl rfl (by decide) ⟨by decide, by decide⟩ (Nat.le_of_ble_eq_true rfl) (hk_kd ?_)
  rw [if_pos (show nI 300 ≤ nI (z 5) by rw [hF]; exact Int32.le_refl _)]
  refine hk_if_eq (tgt := 41) dX9_call_35 (by decide) (fun c35 => absurd c35 (by decide)) (fun _ => ?_)
  refine hk_bipush (v := (-2)) dX9_call_38 (by decide) ?_
  exact hk_ireturn dX9_call_40 rfl rfl (by decide) ⟨m1, rfl, rfl, hDR.1⟩
set_option maxRecDepth 20000 in
set_option maxHeartbeats 2000000 in
theorem ct_call_ok (hI : Inv L z m) {f t : Nat} {w : Int32} (hf : f < z 0) (ht : t < z 0) (ho : okOrd (z 0) (nI f) (nI t) w) (hR : RC (GG m (z 1) (nI (z 8))) f t) (hT3 : z 5 < 300) (LVc LVr : Nat → (Nat → Nat → Int32) → Nat → Nat → Int32) (hLV : ∀ c, c < z 2 → LVP L (z 0) (z 2) (z 3) m c (LVc c) (LVr c)) : hk_Ct MX9_call 7 0 0 [.ref 0, .int (nI f), .int (nI t), .int w] (hk_h L m) (fun r h => ∃ m2, DRW m (z 1) (z 8) f m2 ∧ DT m (z 1) (z 8) f t w m2 ∧ RFc m (z 6) (z 8) f t (ouc (RK m (z 1) (z 8) f) (KK m (z 1) (z 8) f) (GR m L z f t w) (z 3) (z 3) none).2 m2 ∧ (((ouc (RK m (z 1) (z 8) f) (KK m (z 1) (z 8) f) (GR m L z f t w) (z 3) (z 3) none).1 = none ∧ r = some (.int (-3)) ∧ h = hk_h L m2) ∨ ∃ s1 c1, (ouc (RK m (z 1) (z 8) f) (KK m (z 1) (z 8) f) (GR m L z f t w) (z 3) (z 3) none).1 = some (s1, c1) ∧ s1 < z 3 ∧ RK m (z 1) (z 8) f s1 ∧ (∃ i, i < rq m s1 ∧ rwn m s1 i = c1) ∧ DCS m z f t w s1 c1 m2 ∧ r = some (.int (nI (z 5))) ∧ h = hk_h L (snd9 (LVc c1) m2 c1 t (z 5) (m2 26 5)))) := by
  obtain ⟨g0, ⟨⟨a0, a1, a2, a3, a4, a5, a6, a7, a8, a9, a10, a11, a12, a13⟩, ⟨b0, b1, b2, b3, b4, b5, b6, b7, b8, b9, b10, b11, b12⟩, ⟨c0, c1, c2, c3, c4, c5, c6, c7, c8, c9, c10, c11, c12⟩⟩, g2, g3, g4, g5, g6, g7, g8, g9, g10, g11, g12, g13, g14⟩ := id hI
  obtain ⟨h1, h2, h3, h4, h5, h6, h7⟩ := Inv_gs hI
  refine hk_ofWP (by decide) (by simp [Value.category]) (Nat.le_of_ble_eq_true rfl) ?_
  show hk_WP _ _ _ _ _ _ _ [some (.ref 0), some (.int (nI f)), some (.int (nI t)), some (.int w), none, none, none] [] _ _
  refine hk_aload_n dX9_call_0 rfl rfl ?_
  refine hk_iload_n dX9_call_1 rfl rfl ?_
  refine hk_iload_n dX9_call_2 rfl rfl ?_
  refine hk_iload_n dX9_call_3 rfl rfl ?_
  refine ivX9_208 rfl (ct_isOrder a0 _ _ _) dX9_call_4 (hk_lt (by decide)) rfl rfl rfl (by decide) ⟨by decide, by decide⟩ (Nat.le_of_ble_eq_true rfl) (hk_kd ?_)
  refine hk_if_ne (tgt := 12) dX9_call_7 (by decide) (fun _ => ?_) (fun c7 => absurd c7 (fun e => bI_0.mp e ho))
  refine hk_aload_n dX9_call_12 rfl rfl ?_
  refine hk_iload_n dX9_call_13 rfl rfl ?_
  refine hk_iload_n dX9_call_14 rfl rfl ?_
  refine hk_iload_n dX9_call_15 rfl rfl ?_
  refine ivX9_212 rfl (ct_draftTrip hI hf ht w hR) dX9_call_16 (hk_lt (by decide)) rfl rfl rfl (by decide) ⟨by decide, by decide⟩ (Nat.le_of_ble_eq_true rfl) (fun r h1 hq => ?_)
  obtain ⟨m1, rfl, rfl, hDR, hDT⟩ := hq
  have e23 : m1 23 3 = nI (z 5) := by rw [hDR.1.a (a := 23) (by decide)]; exact a5
  refine hk_if_ne (tgt := 25) dX9_call_19 (by decide) (fun _ => ?_) (fun c19 => absurd c19 (by decide))
  refine hk_aload_n dX9_call_25 rfl rfl ?_
  refine gfX9_37 rfl dX9_call_26 (hk_lt (by decide)) rfl rfl ?_
  refine gfX9_215 rfl dX9_call_29 (hk_lt (by decide)) rfl rfl ?_
  refine ivX9_218 rfl (ct_isFull (m := m1) tb23 c5 e23) dX9_call_32 (hk_lt (by decide)) rfl rfl rfl (by decide) ⟨by decide, by decide⟩ (Nat.le_of_ble_eq_true rfl) (hk_kd ?_)
  rw [if_neg (show ¬ nI 300 ≤ nI (z 5) by rw [nI_leI (by omega) (by omega)]; omega)]
  refine hk_if_eq (tgt := 41) dX9_call_35 (by decide) (fun _ => ?_) (fun c35 => absurd rfl c35)
  refine hk_aload_n dX9_call_41 rfl rfl ?_
  refine hk_iconst (v := (-1)) dX9_call_42 (by decide) ?_
  refine ivX9_222 rfl (ct_saaN hI hDR.w) dX9_call_43 (hk_lt (by decide)) rfl rfl rfl (by decide) ⟨by decide, by decide⟩ (Nat.le_of_ble_eq_true rfl) (hk_kd ?_)
  refine hk_istore dX9_call_46 (by decide) rfl ?_
  refine hk_iconst (v := 0) dX9_call_48 (by decide) ?_
  refine hk_istore dX9_call_49 (by decide) rfl ?_
  have hx := lp_call hI hT3 LVc LVr hLV 0 (Nat.zero_le _) none [] m1 none hDR.w hDT ⟨by rw [hDR.1.a (a := 27) (by decide), a6]; congr 1; show z 6 = min 300 (z 6 + 0); omega, fun j k _ _ => by rw [hDR.1.a (a := 28) (by decide)], fun j hj => absurd hj (Nat.not_lt_zero _)⟩
  simp only [Nat.sub_zero, List.nil_append] at hx
  exact hx
end CGz
