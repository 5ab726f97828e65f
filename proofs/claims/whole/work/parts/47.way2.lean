/-! way: the reference's, and both -/
section WZx
variable {L nC nS : Nat} {m m0 m1 m2 : Nat → Nat → Int32} {z : Nat → Nat}
set_option maxRecDepth 20000 in
set_option maxHeartbeats 2000000 in
theorem lp_findWay1 {u : Int32} {t a c : Nat} (g : GM (GG m nS u) nC) (hS6 : nS ≤ 60) (hF : FW m nC nS u t m2) (hc : c < nC) (hR : RC (GG m nS u) t c) {Q : Option Value → hk_H → Prop} (kk : ∀ l6 l7 : Option Value, hk_WP MX10_findWay 1 0 0 0 0 170 [some (.ref 37), some (.int (nI a)), some (.int (nI t)), some (.int u), some (.int (nI c)), some (.int (mi (fun n => ∃ s, EG (GG m nS u) s c n ∧ DD (GG m nS u) t n + cs (GG m nS u) s = DD (GG m nS u) t c))), l6, l7] [] (hk_h L m2) Q) (s : Nat) (hs0 : s ≤ nS) (l7 : Option Value) : hk_WP MX10_findWay 1 0 0 0 0 27 [some (.ref 37), some (.int (nI a)), some (.int (nI t)), some (.int u), some (.int (nI c)), some (.int (mi (CS (GG m nS u) t c s))), some (.int (nI s)), l7] [] (hk_h L m2) Q := by
  refine hk_iload dX10_findWay_27 rfl ?_
  refine hk_aload_n dX10_findWay_29 rfl rfl ?_
  refine gfX10_216 rfl dX10_findWay_30 (hk_lt (by decide)) rfl rfl ?_
  refine hk_icmp_ge (tgt := 170) dX10_findWay_33 (by decide) (fun c33 => ?_) (fun c33 => ?_)
  · rw [hF.1, nI_leI (by omega) (by omega)] at c33
    have hsn : s = nS := by omega
    subst hsn
    have hk := kk (some (.int (nI s))) l7
    rw [← CS_all] at hk
    exact hk
  · rw [hF.1, nI_leI (by omega) (by omega)] at c33
    have hs : s < nS := by omega
    have ih := lp_findWay1 g hS6 hF hc hR kk (s + 1) (by omega)
    have hne : gA (GG m nS u) s ≠ gB (GG m nS u) s := by
      obtain ⟨_, _, _, _, a, b, y, w, k, g1, g2, _, _, _, g6, g7, g8, _⟩ := hF.2.1.1 s hs
      have hC24 := g.1
      have ea : gA (GG m2 nS u) s = a := by show (m2 40 s).toNatClampNeg = a; rw [g1, nI_clamp (by omega)]
      have eb : gB (GG m2 nS u) s = b := by show (m2 41 s).toNatClampNeg = b; rw [g2, nI_clamp (by omega)]
      rw [← hF.2.2.1, ea, eb]; exact g8
    by_cases hop : opn m s u
    · by_cases hac : gA (GG m nS u) s = c
      · exact lq_findWayB g hS6 hF hc hR hs ih hop hac (by rw [← hac]; exact hne) _
      · by_cases hbc : gB (GG m nS u) s = c
        · exact lq_findWayC g hS6 hF hc hR hs ih hop hac hbc (fun q => hac q.symm) _
        · exact lq_findWayD g hS6 hF hc hR hs ih hac hbc _
    · exact lq_findWayA g hS6 hF hc hR hs ih hop () _
termination_by nS - s
decreasing_by all_goals omega
set_option maxRecDepth 20000 in
set_option maxHeartbeats 2000000 in
theorem lq_findNext {u : Int32} {t a i : Nat} (hi : i + 1 ≤ ln (GG m nS u) t a) (hl : ln (GG m nS u) t a < 24) (hw : WS (GG m nS u) t a m1 i m2) (ih : ∀ (m3 : Nat → Nat → Int32) (l5 l6 l7 : Option Value), WS (GG m nS u) t a m1 (i + 1) m3 → hk_WP MX10_findWay 1 0 0 0 0 15 [some (.ref 37), some (.int (nI a)), some (.int (nI t)), some (.int u), some (.int (nI (pt (GG m nS u) t a (i + 1)))), l5, l6, l7] [] (hk_h L m3) (fun r h => ∃ m3, r = none ∧ h = hk_h L m3 ∧ WS (GG m nS u) t a m1 (ln (GG m nS u) t a) m3)) (l4 l6 l7 : Option Value) : hk_WP MX10_findWay 1 0 0 0 0 170 [some (.ref 37), some (.int (nI a)), some (.int (nI t)), some (.int u), l4, some (.int (nI (pt (GG m nS u) t a (i + 1)))), l6, l7] [] (hk_h L m2) (fun r h => ∃ m3, r = none ∧ h = hk_h L m3 ∧ WS (GG m nS u) t a m1 (ln (GG m nS u) t a) m3) := by
  refine hk_iload dX10_findWay_170 rfl ?_
  refine hk_istore dX10_findWay_172 (by decide) rfl ?_
  refine hk_aload_n dX10_findWay_174 rfl rfl ?_
  refine gfX10_43 rfl dX10_findWay_175 (hk_lt (by decide)) rfl rfl ?_
  refine hk_aload_n dX10_findWay_178 rfl rfl ?_
  refine gfX10_238 rfl dX10_findWay_179 (hk_lt (by decide)) rfl rfl ?_
  refine hk_iload dX10_findWay_182 rfl ?_
  refine hk_isn dX10_findWay_184 (by decide) (fun _ => rfl) hw.2.2.1 (by omega) (by decide) ?_
  refine hk_aload_n dX10_findWay_185 rfl rfl ?_
  refine hk_dup dX10_findWay_186 rfl ?_
  refine gfX10_238 rfl dX10_findWay_187 (hk_lt (by decide)) rfl rfl ?_
  refine hk_iconst (v := 1) dX10_findWay_190 (by decide) ?_
  refine hk_iadd dX10_findWay_191 ?_
  refine pfX10_238 rfl dX10_findWay_192 (hk_lt (by decide)) rfl (Nat.le_of_ble_eq_true rfl) (hk_st (j := 15) rfl ?_)
  rw [show hk_w m2 49 (i + 1) (nI (pt (GG m nS u) t a (i + 1))) 37 15 + 1 = nI (i + 1 + 1) by rw [hk_w_ne (by decide), hw.2.2.1, nI_1]]
  refine hk_goto (tgt := 15) dX10_findWay_195 (by decide) ?_
  refine ih _ _ _ _ ⟨fun q h1 h2 => by rw [hk_wo h1, hk_wo h2]; exact hw.1 q h1 h2, fun j hj => by rw [hk_w_off hj, hk_w_ne (by decide)]; exact hw.2.1 j hj, hk_w_eq, fun j hj => ?_⟩
  rw [hk_w_ne (by decide)]
  by_cases e : j = i + 1
  · subst e; exact hk_w_eq
  · rw [hk_w_off e]; exact hw.2.2.2 j (by omega)
set_option maxRecDepth 20000 in
set_option maxHeartbeats 2000000 in
theorem lp_findWay (hS : m 37 11 = nI nS) (hS6 : nS ≤ 60) (hg : GS m nC nS) (hC : nC ≤ 24) {u : Int32} {t a : Nat} (hF : FX m nC nS u t m1) (ht : t < nC) (ha : a < nC) (hR : RC (GG m nS u) t a) (i : Nat) (hi : i ≤ ln (GG m nS u) t a) (m2 : Nat → Nat → Int32) (hw : WS (GG m nS u) t a m1 i m2) (l5 l6 l7 : Option Value) : hk_WP MX10_findWay 1 0 0 0 0 15 [some (.ref 37), some (.int (nI a)), some (.int (nI t)), some (.int u), some (.int (nI (pt (GG m nS u) t a i))), l5, l6, l7] [] (hk_h L m2) (fun r h => ∃ m3, r = none ∧ h = hk_h L m3 ∧ WS (GG m nS u) t a m1 (ln (GG m nS u) t a) m3) := by
  have g := GS.gm hg u hC
  have hl := ln_lt g hR ha
  obtain ⟨p1, p2, p3⟩ := pt_ok g hR ha i (fun j hj => ln_no j (by omega))
  have hFW := FW_of hS hg hF hw
  refine hk_iload dX10_findWay_15 rfl ?_
  refine hk_iload_n dX10_findWay_17 rfl rfl ?_
  refine hk_icmp_eq (tgt := 198) dX10_findWay_18 (by decide) (fun c18 => ?_) (fun c18 => ?_)
  · rw [nI_eq (by omega) (by omega)] at c18
    exact hk_return dX10_findWay_198 rfl (by decide) ⟨m2, rfl, rfl, by rw [show ln (GG m nS u) t a = i from Classical.byContradiction (fun e => ln_no i (by omega) c18)]; exact hw⟩
  · rw [nI_eq (by omega) (by omega)] at c18
    refine hk_iconst (v := (-1)) dX10_findWay_21 (by decide) ?_
    refine hk_istore dX10_findWay_22 (by decide) rfl ?_
    refine hk_iconst (v := 0) dX10_findWay_24 (by decide) ?_
    refine hk_istore dX10_findWay_25 (by decide) rfl ?_
    have hlt : i < ln (GG m nS u) t a := Nat.lt_of_le_of_ne hi (fun e => c18 (e ▸ ln_t g hR ha))
    have ih := fun m3 l5 l6 l7 hw => lp_findWay hS hS6 hg hC hF ht ha hR (i + 1) hlt m3 hw l5 l6 l7
    have hs2 := lp_findWay1 (L := L) (a := a) g hS6 hFW p2 p1 (fun l6 l7 => by
      rw [mi_nx g p1 c18]
      exact lq_findNext hlt hl hw ih _ l6 l7) 0 (Nat.zero_le _) l7
    rw [mi_n (fun j _ => fun ⟨s', h, _⟩ => absurd h (Nat.not_lt_zero _))] at hs2
    exact hs2
termination_by 24 - i
decreasing_by all_goals omega
set_option maxRecDepth 20000 in
set_option maxHeartbeats 2000000 in
theorem md_findWay (hS : m 37 11 = nI nS) (hS6 : nS ≤ 60) (hg : GS m nC nS) (hC : nC ≤ 24) {u : Int32} {t a : Nat} (hF : FX m nC nS u t m1) (ht : t < nC) (ha : a < nC) (hR : RC (GG m nS u) t a) : hk_Ct MX10_findWay 1 0 0 [.ref 37, .int (nI a), .int (nI t), .int u] (hk_h L m1) (fun r h => ∃ m3, r = none ∧ h = hk_h L m3 ∧ WS (GG m nS u) t a m1 (ln (GG m nS u) t a) m3) := by
  refine hk_ofWP (by decide) (by simp [Value.category]) (Nat.le_of_ble_eq_true rfl) ?_
  show hk_WP _ _ _ _ _ _ _ [some (.ref 37), some (.int (nI a)), some (.int (nI t)), some (.int u), none, none, none, none] [] _ _
  refine hk_aload_n dX10_findWay_0 rfl rfl ?_
  refine gfX10_43 rfl dX10_findWay_1 (hk_lt (by decide)) rfl rfl ?_
  refine hk_iconst (v := 0) dX10_findWay_4 (by decide) ?_
  refine hk_iload_n dX10_findWay_5 rfl rfl ?_
  refine hk_isn (j := 0) dX10_findWay_6 (by decide) (fun _ => rfl) rfl (by decide) (by decide) ?_
  refine hk_aload_n dX10_findWay_7 rfl rfl ?_
  refine hk_iconst (v := 1) dX10_findWay_8 (by decide) ?_
  refine pfX10_238 rfl dX10_findWay_9 (hk_lt (by decide)) rfl (Nat.le_of_ble_eq_true rfl) (hk_st (j := 15) rfl ?_)
  refine hk_iload_n dX10_findWay_12 rfl rfl ?_
  refine hk_istore dX10_findWay_13 (by decide) rfl ?_
  exact lp_findWay hS hS6 hg hC hF ht ha hR 0 (Nat.zero_le _) _ ⟨fun q h1 h2 => by rw [hk_wo h1, hk_wo h2], fun j hj => by rw [hk_w_off hj, hk_w_ne (by decide)], hk_w_eq, fun j hj => by
    have e : j = 0 := by omega
    subst e
    rw [hk_w_ne (by decide), hk_w_eq]; rfl⟩ _ _ _
set_option maxRecDepth 20000 in
set_option maxHeartbeats 2000000 in
theorem md_way_no (hn : m 37 3 = nI nC) (a b u : Int32) (h : ¬ (inR a nC ∧ inR b nC ∧ inR u 720000)) : hk_Cd MX10_way 3 0 0 [.ref 37, .int a, .int b, .int u] (hk_h L m) (some (.int (-1))) (hk_h L m) := by
  refine hk_ofWP (by decide) (by simp [Value.category]) (Nat.le_of_ble_eq_true rfl) ?_
  show hk_WP _ _ _ _ _ _ _ [some (.ref 37), some (.int a), some (.int b), some (.int u), none, none] [] _ _
  refine hk_aload_n dX10_way_0 rfl rfl ?_
  refine hk_iload_n dX10_way_1 rfl rfl ?_
  refine ivX10_212 rfl (md_isCorner hn a) dX10_way_2 (hk_lt (by decide)) rfl rfl rfl (by decide) ⟨by decide, by decide⟩ (Nat.le_of_ble_eq_true rfl) (hk_kd ?_)
  refine hk_if_eq (tgt := 23) dX10_way_5 (by decide) (fun c5 => ?_) (fun c5 => ?_)
  · rw [bI_0] at c5
    refine hk_iconst (v := (-1)) dX10_way_23 (by decide) ?_
    exact hk_ireturn dX10_way_24 rfl rfl (by decide) ⟨rfl, rfl⟩
  · rw [bI_0] at c5
    refine hk_aload_n dX10_way_8 rfl rfl ?_
    refine hk_iload_n dX10_way_9 rfl rfl ?_
    refine ivX10_212 rfl (md_isCorner hn b) dX10_way_10 (hk_lt (by decide)) rfl rfl rfl (by decide) ⟨by decide, by decide⟩ (Nat.le_of_ble_eq_true rfl) (hk_kd ?_)
    refine hk_if_eq (tgt := 23) dX10_way_13 (by decide) (fun c13 => ?_) (fun c13 => ?_)
    · rw [bI_0] at c13
      refine hk_iconst (v := (-1)) dX10_way_23 (by decide) ?_
      exact hk_ireturn dX10_way_24 rfl rfl (by decide) ⟨rfl, rfl⟩
    · rw [bI_0] at c13
      refine hk_iload_n dX10_way_16 rfl rfl ?_
      refine ivX10_220 rfl (md_isMinute u) dX10_way_17 rfl rfl (by decide) ⟨by decide, by decide⟩ (Nat.le_of_ble_eq_true rfl) (hk_kd ?_)
      refine hk_if_ne (tgt := 25) dX10_way_20 (by decide) (fun c20 => ?_) (fun c20 => ?_)
      · rw [bI_0] at c20
        exact absurd ⟨Classical.not_not.mp c5, Classical.not_not.mp c13, Classical.not_not.mp c20⟩ h
      · rw [bI_0] at c20
        refine hk_iconst (v := (-1)) dX10_way_23 (by decide) ?_
        exact hk_ireturn dX10_way_24 rfl rfl (by decide) ⟨rfl, rfl⟩
set_option maxRecDepth 20000 in
set_option maxHeartbeats 2000000 in
theorem md_way_nw (hS : m 37 11 = nI nS) (hS6 : nS ≤ 60) (hg : GS m nC nS) (hC : nC ≤ 24) (hn : m 37 3 = nI nC) (u : Int32) (hu : inR u 720000) {t a : Nat} (ht : t < nC) (ha : a < nC) (hR : ¬ RC (GG m nS u) t a) : hk_Ct MX10_way 3 0 0 [.ref 37, .int (nI a), .int (nI t), .int u] (hk_h L m) (fun r h => ∃ m1, r = some (.int (-5)) ∧ h = hk_h L m1 ∧ FX m nC nS u t m1) := by
  refine hk_ofWP (by decide) (by simp [Value.category]) (Nat.le_of_ble_eq_true rfl) ?_
  show hk_WP _ _ _ _ _ _ _ [some (.ref 37), some (.int (nI a)), some (.int (nI t)), some (.int u), none, none] [] _ _
  refine hk_aload_n dX10_way_0 rfl rfl ?_
  refine hk_iload_n dX10_way_1 rfl rfl ?_
  refine ivX10_212 rfl (md_isCorner hn _) dX10_way_2 (hk_lt (by decide)) rfl rfl rfl (by decide) ⟨by decide, by decide⟩ (Nat.le_of_ble_eq_true rfl) (hk_kd ?_)
  refine hk_if_eq (tgt := 23) dX10_way_5 (by decide) (fun c5 => absurd c5 (fun e => bI_0.mp e (inR_nI ha (by omega)))) (fun _ => ?_)
  refine hk_aload_n dX10_way_8 rfl rfl ?_
  refine hk_iload_n dX10_way_9 rfl rfl ?_
  refine ivX10_212 rfl (md_isCorner hn _) dX10_way_10 (hk_lt (by decide)) rfl rfl rfl (by decide) ⟨by decide, by decide⟩ (Nat.le_of_ble_eq_true rfl) (hk_kd ?_)
  refine hk_if_eq (tgt := 23) dX10_way_13 (by decide) (fun c13 => absurd c13 (fun e => bI_0.mp e (inR_nI ht (by omega)))) (fun _ => ?_)
  refine hk_iload_n dX10_way_16 rfl rfl ?_
  refine ivX10_220 rfl (md_isMinute u) dX10_way_17 rfl rfl (by decide) ⟨by decide, by decide⟩ (Nat.le_of_ble_eq_true rfl) (hk_kd ?_)
  refine hk_if_ne (tgt := 25) dX10_way_20 (by decide) (fun _ => ?_) (fun c20 => absurd c20 (fun e => bI_0.mp e hu))
  refine hk_aload_n dX10_way_25 rfl rfl ?_
  refine hk_iload_n dX10_way_26 rfl rfl ?_
  refine hk_iload_n dX10_way_27 rfl rfl ?_
  refine hk_iload_n dX10_way_28 rfl rfl ?_
  refine ivX10_241 rfl (md_yardsOf hS hS6 hg hC hn u ht ha) dX10_way_29 (hk_lt (by decide)) rfl rfl rfl (by decide) ⟨by decide, by decide⟩ (Nat.le_of_ble_eq_true rfl) (fun r h1 hq => ?_)
  obtain ⟨m1, rfl, rfl, hF⟩ := hq
  refine hk_istore dX10_way_32 (by decide) rfl ?_
  refine hk_iload dX10_way_34 rfl ?_
  refine hk_if_ge (tgt := 42) dX10_way_36 (by decide) (fun c36 => absurd c36 (Int32.not_le.mpr ((yv_0 (GS.gm hg u hC)).mpr hR))) (fun _ => ?_)
  refine hk_bipush (v := (-5)) dX10_way_39 (by decide) ?_
  exact hk_ireturn dX10_way_41 rfl rfl (by decide) ⟨m1, rfl, rfl, hF⟩
set_option maxRecDepth 20000 in
set_option maxHeartbeats 2000000 in
theorem lp_told {m3 : Nat → Nat → Int32} {u : Int32} {t a : Nat} (hl : ln (GG m nS u) t a < 24) (hw : WS (GG m nS u) t a m1 (ln (GG m nS u) t a) m3) (k : Nat) (hk : k ≤ ln (GG m nS u) t a + 1) (m4 : Nat → Nat → Int32) (hI : (∀ q, q ≠ 50 → m4 q = m3 q) ∧ ∀ j, j < k → m4 50 j = nI (pt (GG m nS u) t a j)) : hk_WP MX10_way 3 0 0 0 0 52 [some (.ref 37), some (.int (nI a)), some (.int (nI t)), some (.int u), some (.int (nI (DD (GG m nS u) t a / 100))), some (.int (nI k))] [] (hk_h L m4) (fun r h => ∃ m4, r = some (.int (nI (DD (GG m nS u) t a / 100))) ∧ h = hk_h L m4 ∧ (∀ q, q ≠ 37 → q ≠ 50 → m4 q = m3 q) ∧ (∀ j, j ≠ 17 → m4 37 j = m3 37 j) ∧ m4 37 17 = nI (ln (GG m nS u) t a + 1) ∧ ∀ j, j < ln (GG m nS u) t a + 1 → m4 50 j = nI (pt (GG m nS u) t a j)) := by
  have e15 : m4 37 15 = nI (ln (GG m nS u) t a + 1) := by rw [hI.1 37 (by decide)]; exact hw.2.2.1
  have e49 : m4 49 = m3 49 := hI.1 49 (by decide)
  refine hk_iload dX10_way_52 rfl ?_
  refine hk_aload_n dX10_way_54 rfl rfl ?_
  refine gfX10_238 rfl dX10_way_55 (hk_lt (by decide)) rfl rfl ?_
  refine hk_icmp_ge (tgt := 81) dX10_way_58 (by decide) (fun c58 => ?_) (fun c58 => ?_)
  · rw [e15, nI_leI (by omega) (by omega)] at c58
    refine hk_aload_n dX10_way_81 rfl rfl ?_
    refine hk_aload_n dX10_way_82 rfl rfl ?_
    refine gfX10_238 rfl dX10_way_83 (hk_lt (by decide)) rfl rfl ?_
    refine pfX10_249 rfl dX10_way_86 (hk_lt (by decide)) rfl (Nat.le_of_ble_eq_true rfl) (hk_st (j := 17) rfl ?_)
    rw [e15]
    refine hk_iload dX10_way_89 rfl ?_
    exact hk_ireturn dX10_way_91 rfl rfl (by decide) ⟨_, rfl, rfl, fun q h1 h2 => by rw [hk_wo h1]; exact hI.1 q h2, fun j hj => by rw [hk_w_off hj, hI.1 37 (by decide)], hk_w_eq, fun j hj => by rw [hk_w_ne (by decide)]; exact hI.2 j (by omega)⟩
  · rw [e15, nI_leI (by omega) (by omega)] at c58
    refine hk_aload_n dX10_way_61 rfl rfl ?_
    refine gfX10_46 rfl dX10_way_62 (hk_lt (by decide)) rfl rfl ?_
    refine hk_iload dX10_way_65 rfl ?_
    refine hk_aload_n dX10_way_67 rfl rfl ?_
    refine gfX10_43 rfl dX10_way_68 (hk_lt (by decide)) rfl rfl ?_
    refine hk_iload dX10_way_71 rfl ?_
    refine hk_ian dX10_way_73 (by decide) (fun _ => rfl) rfl (by omega) (by decide) ?_
    refine hk_isn dX10_way_74 (by decide) (fun _ => rfl) rfl (by omega) (by decide) ?_
    refine hk_iinc (v := nI (k + 1)) dX10_way_75 rfl (nI_1 k) (by decide) rfl ?_
    refine hk_goto (tgt := 52) dX10_way_78 (by decide) ?_
    have hlt : k < ln (GG m nS u) t a + 1 := by omega
    refine lp_told hl hw (k + 1) hlt _ ⟨fun q h => by rw [hk_wo h]; exact hI.1 q h, fun j hj => ?_⟩
    by_cases e : j = k
    · subst e; rw [hk_w_eq, e49]; exact hw.2.2.2 j hlt
    · rw [hk_w_off e]; exact hI.2 j (by omega)
termination_by 25 - k
decreasing_by all_goals omega
set_option maxRecDepth 20000 in
set_option maxHeartbeats 2000000 in
theorem md_way (hS : m 37 11 = nI nS) (hS6 : nS ≤ 60) (hg : GS m nC nS) (hC : nC ≤ 24) (hn : m 37 3 = nI nC) (u : Int32) (hu : inR u 720000) {t a : Nat} (ht : t < nC) (ha : a < nC) (hR : RC (GG m nS u) t a) : hk_Ct MX10_way 3 0 0 [.ref 37, .int (nI a), .int (nI t), .int u] (hk_h L m) (fun r h => ∃ m1 m3 m4, r = some (.int (nI (DD (GG m nS u) t a / 100))) ∧ h = hk_h L m4 ∧ FX m nC nS u t m1 ∧ WS (GG m nS u) t a m1 (ln (GG m nS u) t a) m3 ∧ (∀ q, q ≠ 37 → q ≠ 50 → m4 q = m3 q) ∧ (∀ j, j ≠ 17 → m4 37 j = m3 37 j) ∧ m4 37 17 = nI (ln (GG m nS u) t a + 1) ∧ ∀ j, j < ln (GG m nS u) t a + 1 → m4 50 j = nI (pt (GG m nS u) t a j)) := by
  refine hk_ofWP (by decide) (by simp [Value.category]) (Nat.le_of_ble_eq_true rfl) ?_
  show hk_WP _ _ _ _ _ _ _ [some (.ref 37), some (.int (nI a)), some (.int (nI t)), some (.int u), none, none] [] _ _
  refine hk_aload_n dX10_way_0 rfl rfl ?_
  refine hk_iload_n dX10_way_1 rfl rfl ?_
  refine ivX10_212 rfl (md_isCorner hn _) dX10_way_2 (hk_lt (by decide)) rfl rfl rfl (by decide) ⟨by decide, by decide⟩ (Nat.le_of_ble_eq_true rfl) (hk_kd ?_)
  refine hk_if_eq (tgt := 23) dX10_way_5 (by decide) (fun c5 => absurd c5 (fun e => bI_0.mp e (inR_nI ha (by omega)))) (fun _ => ?_)
  refine hk_aload_n dX10_way_8 rfl rfl ?_
  refine hk_iload_n dX10_way_9 rfl rfl ?_
  refine ivX10_212 rfl (md_isCorner hn _) dX10_way_10 (hk_lt (by decide)) rfl rfl rfl (by decide) ⟨by decide, by decide⟩ (Nat.le_of_ble_eq_true rfl) (hk_kd ?_)
  refine hk_if_eq (tgt := 23) dX10_way_13 (by decide) (fun c13 => absurd c13 (fun e => bI_0.mp e (inR_nI ht (by omega)))) (fun _ => ?_)
  refine hk_iload_n dX10_way_16 rfl rfl ?_
  refine ivX10_220 rfl (md_isMinute u) dX10_way_17 rfl rfl (by decide) ⟨by decide, by decide⟩ (Nat.le_of_ble_eq_true rfl) (hk_kd ?_)
  refine hk_if_ne (tgt := 25) dX10_way_20 (by decide) (fun _ => ?_) (fun c20 => absurd c20 (fun e => bI_0.mp e hu))
  refine hk_aload_n dX10_way_25 rfl rfl ?_
  refine hk_iload_n dX10_way_26 rfl rfl ?_
  refine hk_iload_n dX10_way_27 rfl rfl ?_
  refine hk_iload_n dX10_way_28 rfl rfl ?_
  refine ivX10_241 rfl (md_yardsOf hS hS6 hg hC hn u ht ha) dX10_way_29 (hk_lt (by decide)) rfl rfl rfl (by decide) ⟨by decide, by decide⟩ (Nat.le_of_ble_eq_true rfl) (fun r h1 hq => ?_)
  obtain ⟨m1, rfl, rfl, hF⟩ := hq
  refine hk_istore dX10_way_32 (by decide) rfl ?_
  refine hk_iload dX10_way_34 rfl ?_
  refine hk_if_ge (tgt := 42) dX10_way_36 (by decide) (fun _ => ?_) (fun c36 => absurd (Int32.not_lt.mp (fun q => (yv_0 (GS.gm hg u hC)).mp q hR)) c36)
  refine hk_aload_n dX10_way_42 rfl rfl ?_
  refine hk_iload_n dX10_way_43 rfl rfl ?_
  refine hk_iload_n dX10_way_44 rfl rfl ?_
  refine hk_iload_n dX10_way_45 rfl rfl ?_
  refine ivX10_245 rfl (md_findWay hS hS6 hg hC hF ht ha hR) dX10_way_46 (hk_lt (by decide)) rfl rfl rfl (by decide) ⟨by decide, by decide⟩ (Nat.le_of_ble_eq_true rfl) (fun r h1 hq => ?_)
  obtain ⟨m3, rfl, rfl, hw⟩ := hq
  refine hk_iconst (v := 0) dX10_way_49 (by decide) ?_
  refine hk_istore dX10_way_50 (by decide) rfl ?_
  rw [show yv (GG m nS u) t a = nI (DD (GG m nS u) t a / 100) from cI_t hR]
  exact hk_conseq (fun r h q => by
    obtain ⟨m4, q1, q2, q3⟩ := q
    exact ⟨m1, m3, m4, q1, q2, hF, hw, q3⟩) (lp_told (ln_lt (GS.gm hg u hC) hR ha) hw 0 (Nat.zero_le _) m3 ⟨fun _ _ => rfl, fun j hj => absurd hj (Nat.not_lt_zero _)⟩)
theorem FX.scr {u : Int32} {t : Nat} (h : FX m nC nS u t m1) : SCR m m1 := ⟨fun a _ _ _ _ _ _ _ _ h47 h48 _ _ => h.1 a h47 h48, fun j _ => by rw [h.1 3 (by decide) (by decide)], by rw [h.1 16 (by decide) (by decide)], fun j _ _ _ _ _ _ => by rw [h.1 37 (by decide) (by decide)]⟩
theorem Inv_gs (hI : Inv L z m) : m 2 3 = nI (z 1) ∧ m 37 11 = nI (z 1) ∧ z 1 ≤ 60 ∧ GS m (z 0) (z 1) ∧ z 0 ≤ 24 ∧ m 1 0 = nI (z 0) ∧ m 37 3 = nI (z 0) := by
  obtain ⟨g0, ⟨⟨a0, a1, a2, a3, a4, a5, a6, a7, a8, a9, a10, a11, a12, a13⟩, ⟨b0, b1, b2, b3, b4, b5, b6, b7, b8, b9, b10, b11, b12⟩, ⟨c0, c1, c2, c3, c4, c5, c6, c7, c8, c9, c10, c11, c12⟩⟩, g2, g3, g4, g5, g6, g7, g8, g9, g10, g11, g12, g13, g14⟩ := id hI
  exact ⟨a1, b1, c1, g2, c0, a0, b0⟩
/-- steps alone are told anew -/
theorem Inv_way {m4 : Nat → Nat → Int32} {k : Nat} (hI : Inv L z m) (h1 : ∀ q, q ≠ 1 → q ≠ 3 → q ≠ 6 → q ≠ 7 → q ≠ 37 → q ≠ 47 → q ≠ 48 → q ≠ 49 → q ≠ 50 → m4 q = m q) (h2 : ∀ j, j % 13 ≠ 3 → m4 3 j = m 3 j) (h3 : ∀ j, j ≠ 6 → m4 1 j = m 1 j) (h4 : ∀ j, j ≠ 15 → j ≠ 17 → m4 37 j = m 37 j) (hk : k ≤ 24) (h5 : m4 1 6 = nI k) (h6 : m4 37 17 = nI k) (h7 : ∀ j, j < k → m4 7 j = m4 50 j) : Inv L z m4 := by
  have hmm : Inv L z (fun a => if a = 1 then m4 1 else if a = 7 then m4 7 else if a = 50 then m4 50 else if a = 37 then (fun j => if j = 17 then m4 37 17 else m 37 j) else m a) := by
    obtain ⟨g0, ⟨a, b, c⟩, g2, g3, g4, g5, g6, g7, g8, g9, g10, g11, g12, g13, g14⟩ := hI
    refine ⟨g0, ⟨⟨(h3 0 (by decide)).trans a.1, a.2⟩, b, c⟩, g2, g3, ⟨h5.trans h6.symm, k, h5, hk, h7⟩, g5, g6, g7, g8, ?_, g10, g11, g12, g13, g14⟩
    have e : (fun k => (fun a => if a = 1 then m4 1 else if a = 7 then m4 7 else if a = 50 then m4 50 else if a = 37 then (fun j => if j = 17 then m4 37 17 else m 37 j) else m a) (99 + k)) = fun k => m (99 + k) := by
      funext k
      show (if 99 + k = 1 then _ else if 99 + k = 7 then _ else if 99 + k = 50 then _ else if 99 + k = 37 then _ else m (99 + k)) = _
      rw [if_neg (by omega), if_neg (by omega), if_neg (by omega), if_neg (by omega)]
    rw [e]
    exact g9
  refine Inv_scr hmm ⟨fun a n3 n6 n16 n18 n20 n21 n26 n37 n47 n48 n49 n72 => ?_, fun j hj => h2 j hj, ?_, fun j n15 n44 n45 n78 n79 n80 => ?_⟩
  · show m4 a = if a = 1 then m4 1 else if a = 7 then m4 7 else if a = 50 then m4 50 else if a = 37 then _ else m a
    by_cases e1 : a = 1
    · subst e1; rw [if_pos rfl]
    rw [if_neg e1]
    by_cases e7 : a = 7
    · subst e7; rw [if_pos rfl]
    rw [if_neg e7]
    by_cases e50 : a = 50
    · subst e50; rw [if_pos rfl]
    rw [if_neg e50, if_neg n37]
    exact h1 a e1 n3 n6 e7 n37 n47 n48 n49 e50
  · show m4 16 2 = m 16 2
    rw [h1 16 (by decide) (by decide) (by decide) (by decide) (by decide) (by decide) (by decide) (by decide) (by decide)]
  · show m4 37 j = if j = 17 then m4 37 17 else m 37 j
    by_cases e : j = 17
    · subst e; rw [if_pos rfl]
    · rw [if_neg e]; exact h4 j n15 e
theorem SCR.gg (s : SCR m m1) {u : Int32} : GG m1 nS u = GG m nS u := by
  unfold GG opn
  rw [s.a (a := 40) (by decide), s.a (a := 41) (by decide), s.a (a := 42) (by decide), s.a (a := 43) (by decide), s.a (a := 44) (by decide), s.a (a := 45) (by decide), s.a (a := 46) (by decide)]
theorem op_way (hI : Inv L z m) (a b u : Int32) : OpE L m MX9_way MX10_way [.int a, .int b, .int u] := by
  obtain ⟨h1, h2, h3, h4, h5, h6, h7⟩ := Inv_gs hI
  by_cases ho : inR a (z 0) ∧ inR b (z 0) ∧ inR u 720000
  · obtain ⟨hia, hib, hu⟩ := ho
    obtain ⟨a, ha, rfl⟩ := inR_of hia (by omega)
    obtain ⟨t, ht, rfl⟩ := inR_of hib (by omega)
    by_cases hR : RC (GG m (z 1) u) t a
    · refine ⟨4, 0, 0, 3, by decide, by decide, by decide, by decide, hk_imp ?_ (ct_way h1 h3 h4 h5 h6 u hu ht ha hR)⟩
      rintro r h ⟨m1, m3, rfl, rfl, hC, hK⟩
      have e3 : ∀ q, q ≠ 1 → q ≠ 3 → q ≠ 6 → q ≠ 7 → m3 q = m q := fun q n1 n3 n6 n7 => (hK.1 q n1 n7).trans (hC.1 q n3 n6)
      have egg : GG m3 (z 1) u = GG m (z 1) u := by
        unfold GG opn
        rw [e3 40 (by decide) (by decide) (by decide) (by decide), e3 41 (by decide) (by decide) (by decide) (by decide), e3 42 (by decide) (by decide) (by decide) (by decide), e3 43 (by decide) (by decide) (by decide) (by decide), e3 44 (by decide) (by decide) (by decide) (by decide), e3 45 (by decide) (by decide) (by decide) (by decide), e3 46 (by decide) (by decide) (by decide) (by decide)]
      have hg3 : GS m3 (z 0) (z 1) := by
        unfold GS
        rw [hK.1 3 (by decide) (by decide), e3 40 (by decide) (by decide) (by decide) (by decide), e3 41 (by decide) (by decide) (by decide) (by decide), e3 42 (by decide) (by decide) (by decide) (by decide), e3 43 (by decide) (by decide) (by decide) (by decide), e3 44 (by decide) (by decide) (by decide) (by decide), e3 45 (by decide) (by decide) (by decide) (by decide), e3 46 (by decide) (by decide) (by decide) (by decide)]
        exact GStr_scr h4 hC.2
      refine ⟨_, L, m3, rfl, rfl, hk_imp ?_ (md_way (m := m3) (by rw [e3 37 (by decide) (by decide) (by decide) (by decide)]; exact h2) h3 hg3 h5 (by rw [e3 37 (by decide) (by decide) (by decide) (by decide)]; exact h7) u hu ht ha (by rw [egg]; exact hR))⟩
      rw [egg]
      rintro r h ⟨n1, n3, m4, rfl, rfl, hF, hW, w1, w2, w3, w4⟩
      have hl := ln_lt (GS.gm h4 u h5) hR ha
      refine ⟨m4, z, rfl, rfl, Inv_way (k := ln (GG m (z 1) u) t a + 1) hI (fun q k1 k3 k6 k7 k37 k47 k48 k49 k50 => ?_) (fun j hj => ?_) (fun j hj => ?_) (fun j k15 k17 => ?_) hl ?_ w3 (fun j hj => ?_)⟩
      · rw [w1 q k37 k50, hW.1 q k37 k49, hF.1 q k47 k48, e3 q k1 k3 k6 k7]
      · rw [w1 3 (by decide) (by decide), hW.1 3 (by decide) (by decide), hF.1 3 (by decide) (by decide), hK.1 3 (by decide) (by decide)]; exact hC.2 j hj
      · rw [w1 1 (by decide) (by decide), hW.1 1 (by decide) (by decide), hF.1 1 (by decide) (by decide), hK.2.1 j hj, hC.1 1 (by decide) (by decide)]
      · rw [w2 j k17, hW.2.1 j k15, hF.1 37 (by decide) (by decide), e3 37 (by decide) (by decide) (by decide) (by decide)]
      · rw [w1 1 (by decide) (by decide), hW.1 1 (by decide) (by decide), hF.1 1 (by decide) (by decide)]; exact hK.2.2.1
      · rw [w1 7 (by decide) (by decide), hW.1 7 (by decide) (by decide), hF.1 7 (by decide) (by decide), w4 j hj]; exact hK.2.2.2 j hj
    · refine OpE.of (d1 := 4) (d2 := 3) (v := -5) hI (by decide) (by decide) (ct_way_nw h1 h3 h4 h5 h6 u hu ht ha hR) (fun m1 hI1 s1 => ?_)
      obtain ⟨k1, k2, k3, k4, k5, k6, k7⟩ := Inv_gs hI1
      refine hk_imp ?_ (md_way_nw k2 k3 k4 k5 k7 u hu ht ha (by rw [s1.gg]; exact hR))
      rintro r h ⟨m2, rfl, rfl, hF⟩
      exact ⟨m2, rfl, rfl, hF.scr⟩
  · exact OpOK.e ⟨4, 0, 0, 3, -1, L, m, m, z, by decide, by decide, by decide, by decide, ct_way_no h6 a b u ho, md_way_no h7 a b u ho, hI⟩
end WZx
