/-! way -/
section WYx
variable {L nC nS : Nat} {m m0 m1 m2 : Nat → Nat → Int32} {z : Nat → Nat}
theorem ct_leastNext2 (hS : m 2 3 = nI nS) (hS6 : nS ≤ 60) (hg : GS m nC nS) (hC : nC ≤ 24) (hn : m 1 0 = nI nC) {u : Int32} {t c : Nat} (hX : CX m nS u t (fun c => DD (GG m nS u) t c) m1) (hk : ∀ a, a ≠ 1 → a ≠ 7 → m2 a = m1 a) (h10 : m2 1 0 = nI nC) (hc : c < nC) : hk_Cd MX0_leastNext 2 0 0 [.ref 1, .int (nI c)] (hk_h L m2) (some (.int (mi (fun n => ∃ s, EG (GG m nS u) s c n ∧ DD (GG m nS u) t n + cs (GG m nS u) s = DD (GG m nS u) t c)))) (hk_h L m2) := by
  have h1 : CX (fun a => if a = 1 ∨ a = 7 then m2 a else m a) nS u t (fun c => DD (GG m nS u) t c) m2 := by
    refine ⟨⟨fun a h3 h6 => ?_, fun j hj => ?_⟩, fun c hc => ?_, fun s hs => ?_, hX.2.2.2.1, hX.2.2.2.2⟩
    · show m2 a = if a = 1 ∨ a = 7 then m2 a else m a
      by_cases e : a = 1 ∨ a = 7
      · rw [if_pos e]
      · rw [if_neg e, hk a (fun q => e (Or.inl q)) (fun q => e (Or.inr q))]
        exact hX.1.1 a h3 h6
    · rw [hk 3 (by decide) (by decide)]; exact hX.1.2 j hj
    · rw [hk 6 (by decide) (by decide)]; exact hX.2.1 c hc
    · rw [hk 3 (by decide) (by decide)]; exact hX.2.2.1 s hs
  exact ct_leastNext (m := fun a => if a = 1 ∨ a = 7 then m2 a else m a) hS hS6 hg hC h10 h1 hc
def KS (G : MP) (t a : Nat) (m1 : Nat → Nat → Int32) (i : Nat) (m2 : Nat → Nat → Int32) : Prop := (∀ q, q ≠ 1 → q ≠ 7 → m2 q = m1 q) ∧ (∀ j, j ≠ 6 → m2 1 j = m1 1 j) ∧ m2 1 6 = nI i ∧ ∀ j, j < i → m2 7 j = nI (pt G t a j)
set_option maxRecDepth 20000 in
set_option maxHeartbeats 2000000 in
theorem lp_keepEnd {u : Int32} {t a i : Nat} (hi : i = ln (GG m nS u) t a + 1) (hs : KS (GG m nS u) t a m1 i m2) : hk_WP MX0_keepSteps 3 0 0 0 0 10 [some (.ref 1), some (.int (nI a)), some (.int (nI t)), some (.int (-1)), some (.int (nI i))] [] (hk_h L m2) (fun r h => ∃ m3, r = none ∧ h = hk_h L m3 ∧ KS (GG m nS u) t a m1 (ln (GG m nS u) t a + 1) m3) := by
  refine hk_iload dX0_keepSteps_10 rfl ?_
  refine hk_bipush (v := 24) dX0_keepSteps_12 (by decide) ?_
  refine hk_icmp_ge (tgt := 58) dX0_keepSteps_14 (by decide) (fun c14 => ?_) (fun c14 => ?_)
  · exact hk_return dX0_keepSteps_58 rfl (by decide) ⟨m2, rfl, rfl, hi ▸ hs⟩
  · refine hk_iload_n dX0_keepSteps_17 rfl rfl ?_
    refine hk_if_lt (tgt := 58) dX0_keepSteps_18 (by decide) (fun _ => ?_) (fun c18 => absurd (by decide) c18)
    exact hk_return dX0_keepSteps_58 rfl (by decide) ⟨m2, rfl, rfl, hi ▸ hs⟩
set_option maxRecDepth 20000 in
set_option maxHeartbeats 2000000 in
theorem lp_keepSteps (hS : m 2 3 = nI nS) (hS6 : nS ≤ 60) (hg : GS m nC nS) (hC : nC ≤ 24) (hn : m 1 0 = nI nC) {u : Int32} {t a : Nat} (hX : CX m nS u t (fun c => DD (GG m nS u) t c) m1) (ht : t < nC) (ha : a < nC) (hR : RC (GG m nS u) t a) (i : Nat) (hi : i ≤ ln (GG m nS u) t a) (m2 : Nat → Nat → Int32) (hs : KS (GG m nS u) t a m1 i m2) : hk_WP MX0_keepSteps 3 0 0 0 0 10 [some (.ref 1), some (.int (nI a)), some (.int (nI t)), some (.int (nI (pt (GG m nS u) t a i))), some (.int (nI i))] [] (hk_h L m2) (fun r h => ∃ m3, r = none ∧ h = hk_h L m3 ∧ KS (GG m nS u) t a m1 (ln (GG m nS u) t a + 1) m3) := by
  have g := GS.gm hg u hC
  have hl := ln_lt g hR ha
  obtain ⟨p1, p2, p3⟩ := pt_ok g hR ha i (fun j hj => ln_no j (by omega))
  obtain ⟨s1, s2, s3, s4⟩ := id hs
  have hs5 : KS (GG m nS u) t a m1 (i + 1) (hk_w (hk_w m2 7 i (nI (pt (GG m nS u) t a i))) 1 6 (nI (i + 1))) := by
    refine ⟨fun q h1 h7 => by rw [hk_wo h1, hk_wo h7]; exact s1 q h1 h7, fun j hj => by rw [hk_w_off hj, hk_w_ne (by decide)]; exact s2 j hj, hk_w_eq, fun j hj => ?_⟩
    rw [hk_w_ne (by decide)]
    by_cases e : j = i
    · subst e; exact hk_w_eq
    · rw [hk_w_off e]; exact s4 j (by omega)
  have hc1 : hk_w (hk_w m2 7 i (nI (pt (GG m nS u) t a i))) 1 6 (nI (i + 1)) 1 0 = nI nC := by rw [hs5.2.1 0 (by decide), hX.1.1 1 (by decide) (by decide)]; exact hn
  refine hk_iload dX0_keepSteps_10 rfl ?_
  refine hk_bipush (v := 24) dX0_keepSteps_12 (by decide) ?_
  refine hk_icmp_ge (tgt := 58) dX0_keepSteps_14 (by decide) (fun c14 => absurd c14 (by rw [show (24 : Int32) = nI 24 from rfl]; exact nI_ge (by omega) (by decide))) (fun _ => ?_)
  refine hk_iload_n dX0_keepSteps_17 rfl rfl ?_
  refine hk_if_lt (tgt := 58) dX0_keepSteps_18 (by decide) (fun c18 => absurd c18 (nI_pos (by omega))) (fun _ => ?_)
  refine hk_aload_n dX0_keepSteps_21 rfl rfl ?_
  refine gfX0_30 rfl dX0_keepSteps_22 (hk_lt (by decide)) rfl rfl ?_
  refine hk_iload dX0_keepSteps_25 rfl ?_
  refine hk_iload_n dX0_keepSteps_27 rfl rfl ?_
  refine hk_isn dX0_keepSteps_28 (by decide) (fun _ => rfl) rfl (by omega) (by decide) ?_
  refine hk_aload_n dX0_keepSteps_29 rfl rfl ?_
  refine hk_iload dX0_keepSteps_30 rfl ?_
  refine hk_iconst (v := 1) dX0_keepSteps_32 (by decide) ?_
  refine hk_iadd dX0_keepSteps_33 ?_
  rw [nI_1]
  refine pfX0_82 rfl dX0_keepSteps_34 (hk_lt (by decide)) rfl (Nat.le_of_ble_eq_true rfl) (hk_st (j := 6) rfl ?_)
  refine hk_iload_n dX0_keepSteps_37 rfl rfl ?_
  refine hk_iload_n dX0_keepSteps_38 rfl rfl ?_
  refine hk_icmp_ne (tgt := 46) dX0_keepSteps_39 (by decide) (fun c39 => ?_) (fun c39 => ?_)
  · rw [nI_eq (by omega) (by omega)] at c39
    refine hk_aload_n dX0_keepSteps_46 rfl rfl ?_
    refine hk_iload_n dX0_keepSteps_47 rfl rfl ?_
    refine ivX0_85 rfl (ct_leastNext2 hS hS6 hg hC hn hX hs5.1 hc1 p2) dX0_keepSteps_48 (hk_lt (by decide)) rfl rfl rfl (by decide) ⟨by decide, by decide⟩ (Nat.le_of_ble_eq_true rfl) (hk_kd ?_)
    rw [mi_nx g p1 c39]
    refine hk_istore_n dX0_keepSteps_51 rfl (by decide) rfl ?_
    refine hk_iinc (v := nI (i + 1)) dX0_keepSteps_52 rfl (nI_1 i) (by decide) rfl ?_
    refine hk_goto (tgt := 10) dX0_keepSteps_55 (by decide) ?_
    first
    | (have hlt : i < ln (GG m nS u) t a := Nat.lt_of_le_of_ne hi (fun e => c39 (e ▸ ln_t g hR ha))
       exact lp_keepSteps hS hS6 hg hC hn hX ht ha hR (i + 1) hlt _ hs5)
    | (have hil : i = ln (GG m nS u) t a := Classical.byContradiction (fun e => ln_no i (by omega) c39)
       exact lp_keepEnd (by omega) hs5)
  · rw [nI_eq (by omega) (by omega)] at c39
    refine hk_iconst (v := (-1)) dX0_keepSteps_42 (by decide) ?_
    refine hk_goto (tgt := 51) dX0_keepSteps_43 (by decide) ?_
    refine hk_istore_n dX0_keepSteps_51 rfl (by decide) rfl ?_
    refine hk_iinc (v := nI (i + 1)) dX0_keepSteps_52 rfl (nI_1 i) (by decide) rfl ?_
    refine hk_goto (tgt := 10) dX0_keepSteps_55 (by decide) ?_
    first
    | (have hlt : i < ln (GG m nS u) t a := Nat.lt_of_le_of_ne hi (fun e => c39 (e ▸ ln_t g hR ha))
       exact lp_keepSteps hS hS6 hg hC hn hX ht ha hR (i + 1) hlt _ hs5)
    | (have hil : i = ln (GG m nS u) t a := Classical.byContradiction (fun e => ln_no i (by omega) c39)
       exact lp_keepEnd (by omega) hs5)
termination_by 24 - i
decreasing_by all_goals omega
set_option maxRecDepth 20000 in
set_option maxHeartbeats 2000000 in
theorem ct_keepSteps (hS : m 2 3 = nI nS) (hS6 : nS ≤ 60) (hg : GS m nC nS) (hC : nC ≤ 24) (hn : m 1 0 = nI nC) {u : Int32} {t a : Nat} (hX : CX m nS u t (fun c => DD (GG m nS u) t c) m1) (ht : t < nC) (ha : a < nC) (hR : RC (GG m nS u) t a) : hk_Ct MX0_keepSteps 3 0 0 [.ref 1, .int (nI a), .int (nI t)] (hk_h L m1) (fun r h => ∃ m3, r = none ∧ h = hk_h L m3 ∧ KS (GG m nS u) t a m1 (ln (GG m nS u) t a + 1) m3) := by
  refine hk_ofWP (by decide) (by simp [Value.category]) (Nat.le_of_ble_eq_true rfl) ?_
  show hk_WP _ _ _ _ _ _ _ [some (.ref 1), some (.int (nI a)), some (.int (nI t)), none, none] [] _ _
  refine hk_iload_n dX0_keepSteps_0 rfl rfl ?_
  refine hk_istore_n dX0_keepSteps_1 rfl (by decide) rfl ?_
  refine hk_aload_n dX0_keepSteps_2 rfl rfl ?_
  refine hk_iconst (v := 0) dX0_keepSteps_3 (by decide) ?_
  refine pfX0_82 rfl dX0_keepSteps_4 (hk_lt (by decide)) rfl (Nat.le_of_ble_eq_true rfl) (hk_st (j := 6) rfl ?_)
  refine hk_iconst (v := 0) dX0_keepSteps_7 (by decide) ?_
  refine hk_istore dX0_keepSteps_8 (by decide) rfl ?_
  exact lp_keepSteps hS hS6 hg hC hn hX ht ha hR 0 (Nat.zero_le _) _ ⟨fun q h1 h7 => hk_wo h1, fun j hj => hk_w_off hj, hk_w_eq, fun j hj => absurd hj (Nat.not_lt_zero _)⟩
set_option maxRecDepth 20000 in
set_option maxHeartbeats 2000000 in
theorem ct_way_no (hn : m 1 0 = nI nC) (a b u : Int32) (h : ¬ (inR a nC ∧ inR b nC ∧ inR u 720000)) : hk_Cd MX9_way 4 0 0 [.ref 0, .int a, .int b, .int u] (hk_h L m) (some (.int (-1))) (hk_h L m) := by
  refine hk_ofWP (by decide) (by simp [Value.category]) (Nat.le_of_ble_eq_true rfl) ?_
  show hk_WP _ _ _ _ _ _ _ [some (.ref 0), some (.int a), some (.int b), some (.int u), none] [] _ _
  refine hk_aload_n dX9_way_0 rfl rfl ?_
  refine gfX9_16 rfl dX9_way_1 (hk_lt (by decide)) rfl rfl ?_
  refine hk_iload_n dX9_way_4 rfl rfl ?_
  refine ivX9_59 rfl (ct_isCorner hn a) dX9_way_5 (hk_lt (by decide)) rfl rfl rfl (by decide) ⟨by decide, by decide⟩ (Nat.le_of_ble_eq_true rfl) (hk_kd ?_)
  refine hk_if_eq (tgt := 29) dX9_way_8 (by decide) (fun c8 => ?_) (fun c8 => ?_)
  · rw [bI_0] at c8
    refine hk_iconst (v := (-1)) dX9_way_29 (by decide) ?_
    exact hk_ireturn dX9_way_30 rfl rfl (by decide) ⟨rfl, rfl⟩
  · rw [bI_0] at c8
    refine hk_aload_n dX9_way_11 rfl rfl ?_
    refine gfX9_16 rfl dX9_way_12 (hk_lt (by decide)) rfl rfl ?_
    refine hk_iload_n dX9_way_15 rfl rfl ?_
    refine ivX9_59 rfl (ct_isCorner hn b) dX9_way_16 (hk_lt (by decide)) rfl rfl rfl (by decide) ⟨by decide, by decide⟩ (Nat.le_of_ble_eq_true rfl) (hk_kd ?_)
    refine hk_if_eq (tgt := 29) dX9_way_19 (by decide) (fun c19 => ?_) (fun c19 => ?_)
    · rw [bI_0] at c19
      refine hk_iconst (v := (-1)) dX9_way_29 (by decide) ?_
      exact hk_ireturn dX9_way_30 rfl rfl (by decide) ⟨rfl, rfl⟩
    · rw [bI_0] at c19
      refine hk_iload_n dX9_way_22 rfl rfl ?_
      refine ivX9_85 rfl (ct_isMinute u) dX9_way_23 rfl rfl (by decide) ⟨by decide, by decide⟩ (Nat.le_of_ble_eq_true rfl) (hk_kd ?_)
      refine hk_if_ne (tgt := 31) dX9_way_26 (by decide) (fun c26 => ?_) (fun c26 => ?_)
      · rw [bI_0] at c26
        exact absurd ⟨Classical.not_not.mp c8, Classical.not_not.mp c19, Classical.not_not.mp c26⟩ h
      · rw [bI_0] at c26
        refine hk_iconst (v := (-1)) dX9_way_29 (by decide) ?_
        exact hk_ireturn dX9_way_30 rfl rfl (by decide) ⟨rfl, rfl⟩
theorem yv_0 {G : MP} {t c nC : Nat} (g : GM G nC) : yv G t c < 0 ↔ ¬ RC G t c := by
  unfold yv
  by_cases h : RC G t c
  · rw [cI_t h]
    have := DD_lt g h
    exact ⟨fun q => absurd q (nI_pos (by omega)), fun q => absurd h q⟩
  · rw [cI_f h]; exact ⟨fun _ => h, fun _ => by decide⟩
set_option maxRecDepth 20000 in
set_option maxHeartbeats 2000000 in
theorem ct_way_nw (hS : m 2 3 = nI nS) (hS6 : nS ≤ 60) (hg : GS m nC nS) (hC : nC ≤ 24) (hn : m 1 0 = nI nC) (u : Int32) (hu : inR u 720000) {t a : Nat} (ht : t < nC) (ha : a < nC) (hR : ¬ RC (GG m nS u) t a) : hk_Ct MX9_way 4 0 0 [.ref 0, .int (nI a), .int (nI t), .int u] (hk_h L m) (fun r h => ∃ m1, r = some (.int (-5)) ∧ h = hk_h L m1 ∧ SCR m m1) := by
  refine hk_ofWP (by decide) (by simp [Value.category]) (Nat.le_of_ble_eq_true rfl) ?_
  show hk_WP _ _ _ _ _ _ _ [some (.ref 0), some (.int (nI a)), some (.int (nI t)), some (.int u), none] [] _ _
  refine hk_aload_n dX9_way_0 rfl rfl ?_
  refine gfX9_16 rfl dX9_way_1 (hk_lt (by decide)) rfl rfl ?_
  refine hk_iload_n dX9_way_4 rfl rfl ?_
  refine ivX9_59 rfl (ct_isCorner hn _) dX9_way_5 (hk_lt (by decide)) rfl rfl rfl (by decide) ⟨by decide, by decide⟩ (Nat.le_of_ble_eq_true rfl) (hk_kd ?_)
  refine hk_if_eq (tgt := 29) dX9_way_8 (by decide) (fun c8 => absurd c8 (fun e => bI_0.mp e (inR_nI ha (by omega)))) (fun _ => ?_)
  refine hk_aload_n dX9_way_11 rfl rfl ?_
  refine gfX9_16 rfl dX9_way_12 (hk_lt (by decide)) rfl rfl ?_
  refine hk_iload_n dX9_way_15 rfl rfl ?_
  refine ivX9_59 rfl (ct_isCorner hn _) dX9_way_16 (hk_lt (by decide)) rfl rfl rfl (by decide) ⟨by decide, by decide⟩ (Nat.le_of_ble_eq_true rfl) (hk_kd ?_)
  refine hk_if_eq (tgt := 29) dX9_way_19 (by decide) (fun c19 => absurd c19 (fun e => bI_0.mp e (inR_nI ht (by omega)))) (fun _ => ?_)
  refine hk_iload_n dX9_way_22 rfl rfl ?_
  refine ivX9_85 rfl (ct_isMinute u) dX9_way_23 rfl rfl (by decide) ⟨by decide, by decide⟩ (Nat.le_of_ble_eq_true rfl) (hk_kd ?_)
  refine hk_if_ne (tgt := 31) dX9_way_26 (by decide) (fun _ => ?_) (fun c26 => absurd c26 (fun e => bI_0.mp e hu))
  refine hk_aload_n dX9_way_31 rfl rfl ?_
  refine gfX9_16 rfl dX9_way_32 (hk_lt (by decide)) rfl rfl ?_
  refine hk_iload_n dX9_way_35 rfl rfl ?_
  refine hk_iload_n dX9_way_36 rfl rfl ?_
  refine ivX9_88 rfl (ct_measure hS hS6 hg hC hn u (show t < 24 by omega)) dX9_way_37 (hk_lt (by decide)) rfl rfl rfl (by decide) ⟨by decide, by decide⟩ (Nat.le_of_ble_eq_true rfl) (fun r h1 hq => ?_)
  obtain ⟨m1, rfl, rfl, hX⟩ := hq
  refine hk_aload_n dX9_way_40 rfl rfl ?_
  refine gfX9_16 rfl dX9_way_41 (hk_lt (by decide)) rfl rfl ?_
  refine hk_iload_n dX9_way_44 rfl rfl ?_
  refine ivX9_92 rfl (ct_yardsFrom hg hC hn hX ha) dX9_way_45 (hk_lt (by decide)) rfl rfl rfl (by decide) ⟨by decide, by decide⟩ (Nat.le_of_ble_eq_true rfl) (hk_kd ?_)
  refine hk_istore dX9_way_48 (by decide) rfl ?_
  refine hk_iload dX9_way_50 rfl ?_
  refine hk_if_ge (tgt := 58) dX9_way_52 (by decide) (fun c52 => absurd c52 (Int32.not_le.mpr ((yv_0 (GS.gm hg u hC)).mpr hR))) (fun _ => ?_)
  refine hk_bipush (v := (-5)) dX9_way_55 (by decide) ?_
  exact hk_ireturn dX9_way_57 rfl rfl (by decide) ⟨m1, rfl, rfl, hX.1.scr⟩
set_option maxRecDepth 20000 in
set_option maxHeartbeats 2000000 in
theorem ct_way (hS : m 2 3 = nI nS) (hS6 : nS ≤ 60) (hg : GS m nC nS) (hC : nC ≤ 24) (hn : m 1 0 = nI nC) (u : Int32) (hu : inR u 720000) {t a : Nat} (ht : t < nC) (ha : a < nC) (hR : RC (GG m nS u) t a) : hk_Ct MX9_way 4 0 0 [.ref 0, .int (nI a), .int (nI t), .int u] (hk_h L m) (fun r h => ∃ m1 m3, r = some (.int (nI (DD (GG m nS u) t a / 100))) ∧ h = hk_h L m3 ∧ CYF m m1 ∧ KS (GG m nS u) t a m1 (ln (GG m nS u) t a + 1) m3) := by
  refine hk_ofWP (by decide) (by simp [Value.category]) (Nat.le_of_ble_eq_true rfl) ?_
  show hk_WP _ _ _ _ _ _ _ [some (.ref 0), some (.int (nI a)), some (.int (nI t)), some (.int u), none] [] _ _
  refine hk_aload_n dX9_way_0 rfl rfl ?_
  refine gfX9_16 rfl dX9_way_1 (hk_lt (by decide)) rfl rfl ?_
  refine hk_iload_n dX9_way_4 rfl rfl ?_
  refine ivX9_59 rfl (ct_isCorner hn _) dX9_way_5 (hk_lt (by decide)) rfl rfl rfl (by decide) ⟨by decide, by decide⟩ (Nat.le_of_ble_eq_true rfl) (hk_kd ?_)
  refine hk_if_eq (tgt := 29) dX9_way_8 (by decide) (fun c8 => absurd c8 (fun e => bI_0.mp e (inR_nI ha (by omega)))) (fun _ => ?_)
  refine hk_aload_n dX9_way_11 rfl rfl ?_
  refine gfX9_16 rfl dX9_way_12 (hk_lt (by decide)) rfl rfl ?_
  refine hk_iload_n dX9_way_15 rfl rfl ?_
  refine ivX9_59 rfl (ct_isCorner hn _) dX9_way_16 (hk_lt (by decide)) rfl rfl rfl (by decide) ⟨by decide, by decide⟩ (Nat.le_of_ble_eq_true rfl) (hk_kd ?_)
  refine hk_if_eq (tgt := 29) dX9_way_19 (by decide) (fun c19 => absurd c19 (fun e => bI_0.mp e (inR_nI ht (by omega)))) (fun _ => ?_)
  refine hk_iload_n dX9_way_22 rfl rfl ?_
  refine ivX9_85 rfl (ct_isMinute u) dX9_way_23 rfl rfl (by decide) ⟨by decide, by decide⟩ (Nat.le_of_ble_eq_true rfl) (hk_kd ?_)
  refine hk_if_ne (tgt := 31) dX9_way_26 (by decide) (fun _ => ?_) (fun c26 => absurd c26 (fun e => bI_0.mp e hu))
  refine hk_aload_n dX9_way_31 rfl rfl ?_
  refine gfX9_16 rfl dX9_way_32 (hk_lt (by decide)) rfl rfl ?_
  refine hk_iload_n dX9_way_35 rfl rfl ?_
  refine hk_iload_n dX9_way_36 rfl rfl ?_
  refine ivX9_88 rfl (ct_measure hS hS6 hg hC hn u (show t < 24 by omega)) dX9_way_37 (hk_lt (by decide)) rfl rfl rfl (by decide) ⟨by decide, by decide⟩ (Nat.le_of_ble_eq_true rfl) (fun r h1 hq => ?_)
  obtain ⟨m1, rfl, rfl, hX⟩ := hq
  refine hk_aload_n dX9_way_40 rfl rfl ?_
  refine gfX9_16 rfl dX9_way_41 (hk_lt (by decide)) rfl rfl ?_
  refine hk_iload_n dX9_way_44 rfl rfl ?_
  refine ivX9_92 rfl (ct_yardsFrom hg hC hn hX ha) dX9_way_45 (hk_lt (by decide)) rfl rfl rfl (by decide) ⟨by decide, by decide⟩ (Nat.le_of_ble_eq_true rfl) (hk_kd ?_)
  refine hk_istore dX9_way_48 (by decide) rfl ?_
  refine hk_iload dX9_way_50 rfl ?_
  refine hk_if_ge (tgt := 58) dX9_way_52 (by decide) (fun _ => ?_) (fun c52 => absurd (Int32.not_lt.mp (fun q => (yv_0 (GS.gm hg u hC)).mp q hR)) c52)
  refine hk_aload_n dX9_way_58 rfl rfl ?_
  refine gfX9_16 rfl dX9_way_59 (hk_lt (by decide)) rfl rfl ?_
  refine hk_iload_n dX9_way_62 rfl rfl ?_
  refine hk_iload_n dX9_way_63 rfl rfl ?_
  refine ivX9_96 rfl (ct_keepSteps hS hS6 hg hC hn hX ht ha hR) dX9_way_64 (hk_lt (by decide)) rfl rfl rfl (by decide) ⟨by decide, by decide⟩ (Nat.le_of_ble_eq_true rfl) (fun r h1 hq => ?_)
  obtain ⟨m3, rfl, rfl, hK⟩ := hq
  refine hk_iload dX9_way_67 rfl ?_
  exact hk_ireturn dX9_way_69 rfl rfl (by decide) ⟨m1, m3, congrArg (fun x => some (Value.int x)) (cI_t hR), rfl, hX.1, hK⟩
def WS (G : MP) (t a : Nat) (m1 : Nat → Nat → Int32) (i : Nat) (m2 : Nat → Nat → Int32) : Prop := (∀ q, q ≠ 37 → q ≠ 49 → m2 q = m1 q) ∧ (∀ j, j ≠ 15 → m2 37 j = m1 37 j) ∧ m2 37 15 = nI (i + 1) ∧ ∀ j, j < i + 1 → m2 49 j = nI (pt G t a j)
/-- what the inner loop of findWay rests on -/
def FW (m : Nat → Nat → Int32) (nC nS : Nat) (u : Int32) (t : Nat) (m2 : Nat → Nat → Int32) : Prop := m2 37 11 = nI nS ∧ GS m2 nC nS ∧ GG m2 nS u = GG m nS u ∧ ∀ c, c < nC → (RC (GG m nS u) t c → m2 47 c = nI (DD (GG m nS u) t c / 100) ∧ m2 48 c = nI (DD (GG m nS u) t c % 100)) ∧ (¬ RC (GG m nS u) t c → m2 47 c = nI 1000000000)
theorem FW_of {u : Int32} {t a i : Nat} (hS : m 37 11 = nI nS) (hg : GS m nC nS) (hF : FX m nC nS u t m1) (hw : WS (GG m nS u) t a m1 i m2) : FW m nC nS u t m2 := by
  have e : ∀ q, q ≠ 37 → q ≠ 47 → q ≠ 48 → q ≠ 49 → m2 q = m q := fun q h1 h2 h3 h4 => (hw.1 q h1 h4).trans (hF.1 q h2 h3)
  have e11 : m2 37 11 = nI nS := by rw [hw.2.1 11 (by decide), hF.1 37 (by decide) (by decide)]; exact hS
  refine ⟨e11, ?_, ?_, fun c hc => ?_⟩
  · unfold GS
    rw [e 3 (by decide) (by decide) (by decide) (by decide), e 40 (by decide) (by decide) (by decide) (by decide), e 41 (by decide) (by decide) (by decide) (by decide), e 42 (by decide) (by decide) (by decide) (by decide), e 43 (by decide) (by decide) (by decide) (by decide), e 44 (by decide) (by decide) (by decide) (by decide), e 45 (by decide) (by decide) (by decide) (by decide), e 46 (by decide) (by decide) (by decide) (by decide)]
    exact hg
  · unfold GG opn
    rw [e 40 (by decide) (by decide) (by decide) (by decide), e 41 (by decide) (by decide) (by decide) (by decide), e 42 (by decide) (by decide) (by decide) (by decide), e 43 (by decide) (by decide) (by decide) (by decide), e 44 (by decide) (by decide) (by decide) (by decide), e 45 (by decide) (by decide) (by decide) (by decide), e 46 (by decide) (by decide) (by decide) (by decide)]
  · rw [hw.1 47 (by decide) (by decide), hw.1 48 (by decide) (by decide)]
    exact hF.2 c hc
/-- the tests of findWay at a street that touches c -/
theorem FW_t {u : Int32} {t c n s : Nat} (g : GM (GG m nS u) nC) (h : FW m nC nS u t m2) (hc : c < nC) (hn : n < nC) (hR : RC (GG m nS u) t c) (e : EG (GG m nS u) s c n) : ∃ x y p q : Nat, m2 47 c = nI x ∧ m2 47 n = nI y ∧ m2 48 c = nI p ∧ x < 2 ^ 31 ∧ p < 2 ^ 31 ∧ y + gY (GG m nS u) s < 2 ^ 31 ∧ q + gZ (GG m nS u) s < 2 ^ 31 ∧ (x = y + gY (GG m nS u) s → m2 48 n = nI q) ∧ ((x = y + gY (GG m nS u) s ∧ p = q + gZ (GG m nS u) s) ↔ DD (GG m nS u) t n + cs (GG m nS u) s = DD (GG m nS u) t c) := by
  have hs := g.2 s e.1
  obtain ⟨a1, a2⟩ := (h.2.2.2 c hc).1 hR
  obtain ⟨_, yc, bc, _, _, dc1, dc2, dc3⟩ := DD_s g hR
  by_cases hq : RC (GG m nS u) t n
  · obtain ⟨b1, b2⟩ := (h.2.2.2 n hn).1 hq
    obtain ⟨_, yn, bn, _, _, dn1, dn2, dn3⟩ := DD_s g hq
    refine ⟨_, _, _, DD (GG m nS u) t n % 100, a1, b1, a2, by omega, by omega, by omega, by omega, fun _ => b2, ?_⟩
    unfold cs
    omega
  · have b1 := (h.2.2.2 n hn).2 hq
    refine ⟨_, _, _, 0, a1, b1, a2, by omega, by omega, by omega, by omega, fun e => ?_, ?_⟩
    · omega
    · rw [DD_inf hq]
      unfold cs
      omega
set_option maxRecDepth 20000 in
set_option maxHeartbeats 2000000 in
theorem lq_findWayA {u : Int32} {t a c : Nat} (g : GM (GG m nS u) nC) (hS6 : nS ≤ 60) (hF : FW m nC nS u t m2) (hc : c < nC) (hR : RC (GG m nS u) t c) {Q : Option Value → hk_H → Prop} {s : Nat} (hs : s < nS) (ih : ∀ l7 : Option Value, hk_WP MX10_findWay 1 0 0 0 0 27 [some (.ref 37), some (.int (nI a)), some (.int (nI t)), some (.int u), some (.int (nI c)), some (.int (mi (CS (GG m nS u) t c (s + 1)))), some (.int (nI (s + 1))), l7] [] (hk_h L m2) Q) (hop : ¬ opn m s u) (l : Unit) (l7 : Option Value) : hk_WP MX10_findWay 1 0 0 0 0 36 [some (.ref 37), some (.int (nI a)), some (.int (nI t)), some (.int u), some (.int (nI c)), some (.int (mi (CS (GG m nS u) t c s))), some (.int (nI s)), l7] [] (hk_h L m2) Q := by
  obtain ⟨w1, w2, w3, w4, f5, _⟩ := GS.g hF.2.1 u hs g.1
  rw [hF.2.2.1] at w1 w2 w3 w4 f5
  have hop2 : opn m2 s u ↔ opn m s u := by
    have : gO (GG m2 nS u) s = gO (GG m nS u) s := by rw [hF.2.2.1]
    exact iff_of_eq this
  have lsA : gA (GG m nS u) s < 2 ^ 31 := by have := g.1; omega
  have lsB : gB (GG m nS u) s < 2 ^ 31 := by have := g.1; omega
  have lc : c < 2 ^ 31 := by have := g.1; omega
  have hC24 := g.1
  refine hk_aload_n dX10_findWay_36 rfl rfl ?_
  refine gfX10_16 rfl dX10_findWay_37 (hk_lt (by decide)) rfl rfl ?_
  refine hk_iload dX10_findWay_40 rfl ?_
  refine hk_ian dX10_findWay_42 (by decide) (fun _ => rfl) rfl (by omega) (by decide) ?_
  rw [w1]
  refine hk_iload dX10_findWay_43 rfl ?_
  refine hk_icmp_ne (tgt := 58) dX10_findWay_45 (by decide) (fun c45 => ?_) (fun c45 => ?_)
  · refine hk_aload_n dX10_findWay_58 rfl rfl ?_
    refine gfX10_19 rfl dX10_findWay_59 (hk_lt (by decide)) rfl rfl ?_
    refine hk_iload dX10_findWay_62 rfl ?_
    refine hk_ian dX10_findWay_64 (by decide) (fun _ => rfl) rfl (by omega) (by decide) ?_
    rw [w2]
    refine hk_iload dX10_findWay_65 rfl ?_
    refine hk_icmp_ne (tgt := 80) dX10_findWay_67 (by decide) (fun c67 => ?_) (fun c67 => ?_)
    · refine hk_iconst (v := (-1)) dX10_findWay_80 (by decide) ?_
      refine hk_istore dX10_findWay_81 (by decide) rfl ?_
      refine hk_iload dX10_findWay_83 rfl ?_
      refine hk_if_lt (tgt := 164) dX10_findWay_85 (by decide) (fun _ => ?_) (fun c85 => absurd (by decide) c85)
      rw [CS_n (fun n q => hop q.1.2.1)] at ih
      refine hk_iinc (v := nI (s + 1)) dX10_findWay_164 rfl (nI_1 s) (by decide) rfl ?_
      refine hk_goto (tgt := 27) dX10_findWay_167 (by decide) ?_
      exact ih _
    · refine hk_aload_n dX10_findWay_70 rfl rfl ?_
      refine gfX10_16 rfl dX10_findWay_71 (hk_lt (by decide)) rfl rfl ?_
      refine hk_iload dX10_findWay_74 rfl ?_
      refine hk_ian dX10_findWay_76 (by decide) (fun _ => rfl) rfl (by omega) (by decide) ?_
      rw [w1]
      refine hk_goto (tgt := 81) dX10_findWay_77 (by decide) ?_
      refine hk_istore dX10_findWay_81 (by decide) rfl ?_
      refine hk_iload dX10_findWay_83 rfl ?_
      refine hk_if_lt (tgt := 164) dX10_findWay_85 (by decide) (fun c85 => ?_) (fun c85 => ?_)
      · rw [CS_n (fun n q => hop q.1.2.1)] at ih
        refine hk_iinc (v := nI (s + 1)) dX10_findWay_164 rfl (nI_1 s) (by decide) rfl ?_
        refine hk_goto (tgt := 27) dX10_findWay_167 (by decide) ?_
        exact ih _
      · refine hk_aload_n dX10_findWay_88 rfl rfl ?_
        refine hk_iload dX10_findWay_89 rfl ?_
        refine hk_iload_n dX10_findWay_91 rfl rfl ?_
        refine ivX10_227 rfl (md_isShut hF.1 hS6 hF.2.1 g.1 hs u) dX10_findWay_92 (hk_lt (by decide)) rfl rfl rfl (by decide) ⟨by decide, by decide⟩ (Nat.le_of_ble_eq_true rfl) (hk_kd ?_)
        refine hk_if_ne (tgt := 164) dX10_findWay_95 (by decide) (fun _ => ?_) (fun c95 => absurd c95 (fun e => bI_0.mp e (fun w => hop (hop2.mp w))))
        rw [CS_n (fun n q => hop q.1.2.1)] at ih
        refine hk_iinc (v := nI (s + 1)) dX10_findWay_164 rfl (nI_1 s) (by decide) rfl ?_
        refine hk_goto (tgt := 27) dX10_findWay_167 (by decide) ?_
        exact ih _
  · refine hk_aload_n dX10_findWay_48 rfl rfl ?_
    refine gfX10_19 rfl dX10_findWay_49 (hk_lt (by decide)) rfl rfl ?_
    refine hk_iload dX10_findWay_52 rfl ?_
    refine hk_ian dX10_findWay_54 (by decide) (fun _ => rfl) rfl (by omega) (by decide) ?_
    rw [w2]
    refine hk_goto (tgt := 81) dX10_findWay_55 (by decide) ?_
    refine hk_istore dX10_findWay_81 (by decide) rfl ?_
    refine hk_iload dX10_findWay_83 rfl ?_
    refine hk_if_lt (tgt := 164) dX10_findWay_85 (by decide) (fun c85 => ?_) (fun c85 => ?_)
    · rw [CS_n (fun n q => hop q.1.2.1)] at ih
      refine hk_iinc (v := nI (s + 1)) dX10_findWay_164 rfl (nI_1 s) (by decide) rfl ?_
      refine hk_goto (tgt := 27) dX10_findWay_167 (by decide) ?_
      exact ih _
    · refine hk_aload_n dX10_findWay_88 rfl rfl ?_
      refine hk_iload dX10_findWay_89 rfl ?_
      refine hk_iload_n dX10_findWay_91 rfl rfl ?_
      refine ivX10_227 rfl (md_isShut hF.1 hS6 hF.2.1 g.1 hs u) dX10_findWay_92 (hk_lt (by decide)) rfl rfl rfl (by decide) ⟨by decide, by decide⟩ (Nat.le_of_ble_eq_true rfl) (hk_kd ?_)
      refine hk_if_ne (tgt := 164) dX10_findWay_95 (by decide) (fun _ => ?_) (fun c95 => absurd c95 (fun e => bI_0.mp e (fun w => hop (hop2.mp w))))
      rw [CS_n (fun n q => hop q.1.2.1)] at ih
      refine hk_iinc (v := nI (s + 1)) dX10_findWay_164 rfl (nI_1 s) (by decide) rfl ?_
      refine hk_goto (tgt := 27) dX10_findWay_167 (by decide) ?_
      exact ih _
set_option maxRecDepth 20000 in
set_option maxHeartbeats 2000000 in
theorem lq_findWayB {u : Int32} {t a c : Nat} (g : GM (GG m nS u) nC) (hS6 : nS ≤ 60) (hF : FW m nC nS u t m2) (hc : c < nC) (hR : RC (GG m nS u) t c) {Q : Option Value → hk_H → Prop} {s : Nat} (hs : s < nS) (ih : ∀ l7 : Option Value, hk_WP MX10_findWay 1 0 0 0 0 27 [some (.ref 37), some (.int (nI a)), some (.int (nI t)), some (.int u), some (.int (nI c)), some (.int (mi (CS (GG m nS u) t c (s + 1)))), some (.int (nI (s + 1))), l7] [] (hk_h L m2) Q) (hop : opn m s u) (hac : gA (GG m nS u) s = c) (hne : c ≠ gB (GG m nS u) s) (l7 : Option Value) : hk_WP MX10_findWay 1 0 0 0 0 36 [some (.ref 37), some (.int (nI a)), some (.int (nI t)), some (.int u), some (.int (nI c)), some (.int (mi (CS (GG m nS u) t c s))), some (.int (nI s)), l7] [] (hk_h L m2) Q := by
  obtain ⟨w1, w2, w3, w4, f5, _⟩ := GS.g hF.2.1 u hs g.1
  rw [hF.2.2.1] at w1 w2 w3 w4 f5
  have hop2 : opn m2 s u ↔ opn m s u := by
    have : gO (GG m2 nS u) s = gO (GG m nS u) s := by rw [hF.2.2.1]
    exact iff_of_eq this
  have lsA : gA (GG m nS u) s < 2 ^ 31 := by have := g.1; omega
  have lsB : gB (GG m nS u) s < 2 ^ 31 := by have := g.1; omega
  have lc : c < 2 ^ 31 := by have := g.1; omega
  have hC24 := g.1
  obtain ⟨x, y, p, q, v1, v2, v3, v4, v5, v6, v7, v8, v9⟩ := FW_t g hF hc f5.2.1 hR ⟨hs, hop, Or.inl ⟨hac, rfl⟩⟩
  have hno : ¬ (x = y + gY (GG m nS u) s ∧ p = q + gZ (GG m nS u) s) → ∀ n, ¬ (EG (GG m nS u) s c n ∧ DD (GG m nS u) t n + cs (GG m nS u) s = DD (GG m nS u) t c) := fun hx n k => k.1.2.2.elim (fun w => hx (v9.mpr (w.2 ▸ k.2))) (fun w => hne w.2.symm)
  refine hk_aload_n dX10_findWay_36 rfl rfl ?_
  refine gfX10_16 rfl dX10_findWay_37 (hk_lt (by decide)) rfl rfl ?_
  refine hk_iload dX10_findWay_40 rfl ?_
  refine hk_ian dX10_findWay_42 (by decide) (fun _ => rfl) rfl (by omega) (by decide) ?_
  rw [w1]
  refine hk_iload dX10_findWay_43 rfl ?_
  refine hk_icmp_ne (tgt := 58) dX10_findWay_45 (by decide) (fun c45 => absurd (by rw [hac]) c45) (fun _ => ?_)
  refine hk_aload_n dX10_findWay_48 rfl rfl ?_
  refine gfX10_19 rfl dX10_findWay_49 (hk_lt (by decide)) rfl rfl ?_
  refine hk_iload dX10_findWay_52 rfl ?_
  refine hk_ian dX10_findWay_54 (by decide) (fun _ => rfl) rfl (by omega) (by decide) ?_
  rw [w2]
  refine hk_goto (tgt := 81) dX10_findWay_55 (by decide) ?_
  refine hk_istore dX10_findWay_81 (by decide) rfl ?_
  refine hk_iload dX10_findWay_83 rfl ?_
  refine hk_if_lt (tgt := 164) dX10_findWay_85 (by decide) (fun c85 => absurd c85 (nI_pos lsB)) (fun _ => ?_)
  refine hk_aload_n dX10_findWay_88 rfl rfl ?_
  refine hk_iload dX10_findWay_89 rfl ?_
  refine hk_iload_n dX10_findWay_91 rfl rfl ?_
  refine ivX10_227 rfl (md_isShut hF.1 hS6 hF.2.1 g.1 hs u) dX10_findWay_92 (hk_lt (by decide)) rfl rfl rfl (by decide) ⟨by decide, by decide⟩ (Nat.le_of_ble_eq_true rfl) (hk_kd ?_)
  refine hk_if_ne (tgt := 164) dX10_findWay_95 (by decide) (fun c95 => absurd (bI_f (fun w => w (hop2.mpr hop))) c95) (fun _ => ?_)
  
  refine hk_aload_n dX10_findWay_98 rfl rfl ?_
  refine gfX10_37 rfl dX10_findWay_99 (hk_lt (by decide)) rfl rfl ?_
  refine hk_iload dX10_findWay_102 rfl ?_
  refine hk_ian dX10_findWay_104 (by decide) (fun _ => rfl) rfl (by omega) (by decide) ?_
  rw [v1]
  refine hk_aload_n dX10_findWay_105 rfl rfl ?_
  refine gfX10_37 rfl dX10_findWay_106 (hk_lt (by decide)) rfl rfl ?_
  refine hk_iload dX10_findWay_109 rfl ?_
  refine hk_ian dX10_findWay_111 (by decide) (fun _ => rfl) rfl (show gB (GG m nS u) s < 24 by omega) (by decide) ?_
  rw [v2]
  refine hk_aload_n dX10_findWay_112 rfl rfl ?_
  refine gfX10_22 rfl dX10_findWay_113 (hk_lt (by decide)) rfl rfl ?_
  refine hk_iload dX10_findWay_116 rfl ?_
  refine hk_ian dX10_findWay_118 (by decide) (fun _ => rfl) rfl (by omega) (by decide) ?_
  rw [w3]
  refine hk_iadd dX10_findWay_119 ?_
  refine hk_icmp_ne (tgt := 164) dX10_findWay_120 (by decide) (fun c120 => ?_) (fun c120 => ?_)
  · rw [nI_add, nI_eq v4 v6] at c120
    first
    | (rw [CS_n (hno (fun k => c120 k.1))] at ih
       refine hk_iinc (v := nI (s + 1)) dX10_findWay_164 rfl (nI_1 s) (by decide) rfl ?_
       refine hk_goto (tgt := 27) dX10_findWay_167 (by decide) ?_
       exact ih _)
    | (rw [CS_n (hno (fun k => c145 k.2))] at ih
       refine hk_iinc (v := nI (s + 1)) dX10_findWay_164 rfl (nI_1 s) (by decide) rfl ?_
       refine hk_goto (tgt := 27) dX10_findWay_167 (by decide) ?_
       exact ih _)
    | (refine hk_iinc (v := nI (s + 1)) dX10_findWay_164 rfl (nI_1 s) (by decide) rfl ?_
       refine hk_goto (tgt := 27) dX10_findWay_167 (by decide) ?_
       exact ih _)
  · rw [nI_add, nI_eq v4 v6] at c120
    refine hk_aload_n dX10_findWay_123 rfl rfl ?_
    refine gfX10_40 rfl dX10_findWay_124 (hk_lt (by decide)) rfl rfl ?_
    refine hk_iload dX10_findWay_127 rfl ?_
    refine hk_ian dX10_findWay_129 (by decide) (fun _ => rfl) rfl (by omega) (by decide) ?_
    rw [v3]
    refine hk_aload_n dX10_findWay_130 rfl rfl ?_
    refine gfX10_40 rfl dX10_findWay_131 (hk_lt (by decide)) rfl rfl ?_
    refine hk_iload dX10_findWay_134 rfl ?_
    refine hk_ian dX10_findWay_136 (by decide) (fun _ => rfl) rfl (show gB (GG m nS u) s < 24 by omega) (by decide) ?_
    rw [v8 c120]
    refine hk_aload_n dX10_findWay_137 rfl rfl ?_
    refine gfX10_25 rfl dX10_findWay_138 (hk_lt (by decide)) rfl rfl ?_
    refine hk_iload dX10_findWay_141 rfl ?_
    refine hk_ian dX10_findWay_143 (by decide) (fun _ => rfl) rfl (by omega) (by decide) ?_
    rw [w4]
    refine hk_iadd dX10_findWay_144 ?_
    refine hk_icmp_ne (tgt := 164) dX10_findWay_145 (by decide) (fun c145 => ?_) (fun c145 => ?_)
    · rw [nI_add, nI_eq v5 v7] at c145
      first
      | (rw [CS_n (hno (fun k => c120 k.1))] at ih
         refine hk_iinc (v := nI (s + 1)) dX10_findWay_164 rfl (nI_1 s) (by decide) rfl ?_
         refine hk_goto (tgt := 27) dX10_findWay_167 (by decide) ?_
         exact ih _)
      | (rw [CS_n (hno (fun k => c145 k.2))] at ih
         refine hk_iinc (v := nI (s + 1)) dX10_findWay_164 rfl (nI_1 s) (by decide) rfl ?_
         refine hk_goto (tgt := 27) dX10_findWay_167 (by decide) ?_
         exact ih _)
      | (refine hk_iinc (v := nI (s + 1)) dX10_findWay_164 rfl (nI_1 s) (by decide) rfl ?_
         refine hk_goto (tgt := 27) dX10_findWay_167 (by decide) ?_
         exact ih _)
    · rw [nI_add, nI_eq v5 v7] at c145
      rw [CS_y (n := gB (GG m nS u) s) g ⟨⟨hs, hop, Or.inl ⟨hac, rfl⟩⟩, v9.mp ⟨c120, c145⟩⟩ hne] at ih
      refine hk_iload dX10_findWay_148 rfl ?_
      refine hk_if_lt (tgt := 160) dX10_findWay_150 (by decide) (fun c150 => ?_) (fun c150 => ?_)
      · first | rw [if_pos (Or.inl c150)] at ih | skip
        refine hk_iload dX10_findWay_160 rfl ?_
        refine hk_istore dX10_findWay_162 (by decide) rfl ?_
        first
        | (rw [CS_n (hno (fun k => c120 k.1))] at ih
           refine hk_iinc (v := nI (s + 1)) dX10_findWay_164 rfl (nI_1 s) (by decide) rfl ?_
           refine hk_goto (tgt := 27) dX10_findWay_167 (by decide) ?_
           exact ih _)
        | (rw [CS_n (hno (fun k => c145 k.2))] at ih
           refine hk_iinc (v := nI (s + 1)) dX10_findWay_164 rfl (nI_1 s) (by decide) rfl ?_
           refine hk_goto (tgt := 27) dX10_findWay_167 (by decide) ?_
           exact ih _)
        | (refine hk_iinc (v := nI (s + 1)) dX10_findWay_164 rfl (nI_1 s) (by decide) rfl ?_
           refine hk_goto (tgt := 27) dX10_findWay_167 (by decide) ?_
           exact ih _)
      · first | rw [if_pos (Or.inl c150)] at ih | skip
        refine hk_iload dX10_findWay_153 rfl ?_
        refine hk_iload dX10_findWay_155 rfl ?_
        refine hk_icmp_ge (tgt := 164) dX10_findWay_157 (by decide) (fun c157 => ?_) (fun c157 => ?_)
        · first | rw [if_pos (Or.inr (Int32.not_le.mp c157))] at ih | rw [if_neg (fun q => q.elim c150 (Int32.not_lt.mpr c157))] at ih
          first
          | (rw [CS_n (hno (fun k => c120 k.1))] at ih
             refine hk_iinc (v := nI (s + 1)) dX10_findWay_164 rfl (nI_1 s) (by decide) rfl ?_
             refine hk_goto (tgt := 27) dX10_findWay_167 (by decide) ?_
             exact ih _)
          | (rw [CS_n (hno (fun k => c145 k.2))] at ih
             refine hk_iinc (v := nI (s + 1)) dX10_findWay_164 rfl (nI_1 s) (by decide) rfl ?_
             refine hk_goto (tgt := 27) dX10_findWay_167 (by decide) ?_
             exact ih _)
          | (refine hk_iinc (v := nI (s + 1)) dX10_findWay_164 rfl (nI_1 s) (by decide) rfl ?_
             refine hk_goto (tgt := 27) dX10_findWay_167 (by decide) ?_
             exact ih _)
        · first | rw [if_pos (Or.inr (Int32.not_le.mp c157))] at ih | rw [if_neg (fun q => q.elim c150 (Int32.not_lt.mpr c157))] at ih
          refine hk_iload dX10_findWay_160 rfl ?_
          refine hk_istore dX10_findWay_162 (by decide) rfl ?_
          first
          | (rw [CS_n (hno (fun k => c120 k.1))] at ih
             refine hk_iinc (v := nI (s + 1)) dX10_findWay_164 rfl (nI_1 s) (by decide) rfl ?_
             refine hk_goto (tgt := 27) dX10_findWay_167 (by decide) ?_
             exact ih _)
          | (rw [CS_n (hno (fun k => c145 k.2))] at ih
             refine hk_iinc (v := nI (s + 1)) dX10_findWay_164 rfl (nI_1 s) (by decide) rfl ?_
             refine hk_goto (tgt := 27) dX10_findWay_167 (by decide) ?_
             exact ih _)
          | (refine hk_iinc (v := nI (s + 1)) dX10_findWay_164 rfl (nI_1 s) (by decide) rfl ?_
             refine hk_goto (tgt := 27) dX10_findWay_167 (by decide) ?_
             exact ih _)
set_option maxRecDepth 20000 in
set_option maxHeartbeats 2000000 in
theorem lq_findWayC {u : Int32} {t a c : Nat} (g : GM (GG m nS u) nC) (hS6 : nS ≤ 60) (hF : FW m nC nS u t m2) (hc : c < nC) (hR : RC (GG m nS u) t c) {Q : Option Value → hk_H → Prop} {s : Nat} (hs : s < nS) (ih : ∀ l7 : Option Value, hk_WP MX10_findWay 1 0 0 0 0 27 [some (.ref 37), some (.int (nI a)), some (.int (nI t)), some (.int u), some (.int (nI c)), some (.int (mi (CS (GG m nS u) t c (s + 1)))), some (.int (nI (s + 1))), l7] [] (hk_h L m2) Q) (hop : opn m s u) (hac : ¬ gA (GG m nS u) s = c) (hbc : gB (GG m nS u) s = c) (hne : c ≠ gA (GG m nS u) s) (l7 : Option Value) : hk_WP MX10_findWay 1 0 0 0 0 36 [some (.ref 37), some (.int (nI a)), some (.int (nI t)), some (.int u), some (.int (nI c)), some (.int (mi (CS (GG m nS u) t c s))), some (.int (nI s)), l7] [] (hk_h L m2) Q := by
  obtain ⟨w1, w2, w3, w4, f5, _⟩ := GS.g hF.2.1 u hs g.1
  rw [hF.2.2.1] at w1 w2 w3 w4 f5
  have hop2 : opn m2 s u ↔ opn m s u := by
    have : gO (GG m2 nS u) s = gO (GG m nS u) s := by rw [hF.2.2.1]
    exact iff_of_eq this
  have lsA : gA (GG m nS u) s < 2 ^ 31 := by have := g.1; omega
  have lsB : gB (GG m nS u) s < 2 ^ 31 := by have := g.1; omega
  have lc : c < 2 ^ 31 := by have := g.1; omega
  have hC24 := g.1
  obtain ⟨x, y, p, q, v1, v2, v3, v4, v5, v6, v7, v8, v9⟩ := FW_t g hF hc f5.1 hR ⟨hs, hop, Or.inr ⟨rfl, hbc⟩⟩
  have hno : ¬ (x = y + gY (GG m nS u) s ∧ p = q + gZ (GG m nS u) s) → ∀ n, ¬ (EG (GG m nS u) s c n ∧ DD (GG m nS u) t n + cs (GG m nS u) s = DD (GG m nS u) t c) := fun hx n k => k.1.2.2.elim (fun w => hac w.1) (fun w => hx (v9.mpr (w.1 ▸ k.2)))
  refine hk_aload_n dX10_findWay_36 rfl rfl ?_
  refine gfX10_16 rfl dX10_findWay_37 (hk_lt (by decide)) rfl rfl ?_
  refine hk_iload dX10_findWay_40 rfl ?_
  refine hk_ian dX10_findWay_42 (by decide) (fun _ => rfl) rfl (by omega) (by decide) ?_
  rw [w1]
  refine hk_iload dX10_findWay_43 rfl ?_
  refine hk_icmp_ne (tgt := 58) dX10_findWay_45 (by decide) (fun _ => ?_) (fun c45 => absurd c45 (fun q => hac ((nI_eq lsA lc).mp q)))
  refine hk_aload_n dX10_findWay_58 rfl rfl ?_
  refine gfX10_19 rfl dX10_findWay_59 (hk_lt (by decide)) rfl rfl ?_
  refine hk_iload dX10_findWay_62 rfl ?_
  refine hk_ian dX10_findWay_64 (by decide) (fun _ => rfl) rfl (by omega) (by decide) ?_
  rw [w2]
  refine hk_iload dX10_findWay_65 rfl ?_
  refine hk_icmp_ne (tgt := 80) dX10_findWay_67 (by decide) (fun c67 => absurd (by rw [hbc]) c67) (fun _ => ?_)
  refine hk_aload_n dX10_findWay_70 rfl rfl ?_
  refine gfX10_16 rfl dX10_findWay_71 (hk_lt (by decide)) rfl rfl ?_
  refine hk_iload dX10_findWay_74 rfl ?_
  refine hk_ian dX10_findWay_76 (by decide) (fun _ => rfl) rfl (by omega) (by decide) ?_
  rw [w1]
  refine hk_goto (tgt := 81) dX10_findWay_77 (by decide) ?_
  refine hk_istore dX10_findWay_81 (by decide) rfl ?_
  refine hk_iload dX10_findWay_83 rfl ?_
  refine hk_if_lt (tgt := 164) dX10_findWay_85 (by decide) (fun c85 => absurd c85 (nI_pos lsA)) (fun _ => ?_)
  refine hk_aload_n dX10_findWay_88 rfl rfl ?_
  refine hk_iload dX10_findWay_89 rfl ?_
  refine hk_iload_n dX10_findWay_91 rfl rfl ?_
  refine ivX10_227 rfl (md_isShut hF.1 hS6 hF.2.1 g.1 hs u) dX10_findWay_92 (hk_lt (by decide)) rfl rfl rfl (by decide) ⟨by decide, by decide⟩ (Nat.le_of_ble_eq_true rfl) (hk_kd ?_)
  refine hk_if_ne (tgt := 164) dX10_findWay_95 (by decide) (fun c95 => absurd (bI_f (fun w => w (hop2.mpr hop))) c95) (fun _ => ?_)
  
  refine hk_aload_n dX10_findWay_98 rfl rfl ?_
  refine gfX10_37 rfl dX10_findWay_99 (hk_lt (by decide)) rfl rfl ?_
  refine hk_iload dX10_findWay_102 rfl ?_
  refine hk_ian dX10_findWay_104 (by decide) (fun _ => rfl) rfl (by omega) (by decide) ?_
  rw [v1]
  refine hk_aload_n dX10_findWay_105 rfl rfl ?_
  refine gfX10_37 rfl dX10_findWay_106 (hk_lt (by decide)) rfl rfl ?_
  refine hk_iload dX10_findWay_109 rfl ?_
  refine hk_ian dX10_findWay_111 (by decide) (fun _ => rfl) rfl (show gA (GG m nS u) s < 24 by omega) (by decide) ?_
  rw [v2]
  refine hk_aload_n dX10_findWay_112 rfl rfl ?_
  refine gfX10_22 rfl dX10_findWay_113 (hk_lt (by decide)) rfl rfl ?_
  refine hk_iload dX10_findWay_116 rfl ?_
  refine hk_ian dX10_findWay_118 (by decide) (fun _ => rfl) rfl (by omega) (by decide) ?_
  rw [w3]
  refine hk_iadd dX10_findWay_119 ?_
  refine hk_icmp_ne (tgt := 164) dX10_findWay_120 (by decide) (fun c120 => ?_) (fun c120 => ?_)
  · rw [nI_add, nI_eq v4 v6] at c120
    first
    | (rw [CS_n (hno (fun k => c120 k.1))] at ih
       refine hk_iinc (v := nI (s + 1)) dX10_findWay_164 rfl (nI_1 s) (by decide) rfl ?_
       refine hk_goto (tgt := 27) dX10_findWay_167 (by decide) ?_
       exact ih _)
    | (rw [CS_n (hno (fun k => c145 k.2))] at ih
       refine hk_iinc (v := nI (s + 1)) dX10_findWay_164 rfl (nI_1 s) (by decide) rfl ?_
       refine hk_goto (tgt := 27) dX10_findWay_167 (by decide) ?_
       exact ih _)
    | (refine hk_iinc (v := nI (s + 1)) dX10_findWay_164 rfl (nI_1 s) (by decide) rfl ?_
       refine hk_goto (tgt := 27) dX10_findWay_167 (by decide) ?_
       exact ih _)
  · rw [nI_add, nI_eq v4 v6] at c120
    refine hk_aload_n dX10_findWay_123 rfl rfl ?_
    refine gfX10_40 rfl dX10_findWay_124 (hk_lt (by decide)) rfl rfl ?_
    refine hk_iload dX10_findWay_127 rfl ?_
    refine hk_ian dX10_findWay_129 (by decide) (fun _ => rfl) rfl (by omega) (by decide) ?_
    rw [v3]
    refine hk_aload_n dX10_findWay_130 rfl rfl ?_
    refine gfX10_40 rfl dX10_findWay_131 (hk_lt (by decide)) rfl rfl ?_
    refine hk_iload dX10_findWay_134 rfl ?_
    refine hk_ian dX10_findWay_136 (by decide) (fun _ => rfl) rfl (show gA (GG m nS u) s < 24 by omega) (by decide) ?_
    rw [v8 c120]
    refine hk_aload_n dX10_findWay_137 rfl rfl ?_
    refine gfX10_25 rfl dX10_findWay_138 (hk_lt (by decide)) rfl rfl ?_
    refine hk_iload dX10_findWay_141 rfl ?_
    refine hk_ian dX10_findWay_143 (by decide) (fun _ => rfl) rfl (by omega) (by decide) ?_
    rw [w4]
    refine hk_iadd dX10_findWay_144 ?_
    refine hk_icmp_ne (tgt := 164) dX10_findWay_145 (by decide) (fun c145 => ?_) (fun c145 => ?_)
    · rw [nI_add, nI_eq v5 v7] at c145
      first
      | (rw [CS_n (hno (fun k => c120 k.1))] at ih
         refine hk_iinc (v := nI (s + 1)) dX10_findWay_164 rfl (nI_1 s) (by decide) rfl ?_
         refine hk_goto (tgt := 27) dX10_findWay_167 (by decide) ?_
         exact ih _)
      | (rw [CS_n (hno (fun k => c145 k.2))] at ih
         refine hk_iinc (v := nI (s + 1)) dX10_findWay_164 rfl (nI_1 s) (by decide) rfl ?_
         refine hk_goto (tgt := 27) dX10_findWay_167 (by decide) ?_
         exact ih _)
      | (refine hk_iinc (v := nI (s + 1)) dX10_findWay_164 rfl (nI_1 s) (by decide) rfl ?_
         refine hk_goto (tgt := 27) dX10_findWay_167 (by decide) ?_
         exact ih _)
    · rw [nI_add, nI_eq v5 v7] at c145
      rw [CS_y (n := gA (GG m nS u) s) g ⟨⟨hs, hop, Or.inr ⟨rfl, hbc⟩⟩, v9.mp ⟨c120, c145⟩⟩ hne] at ih
      refine hk_iload dX10_findWay_148 rfl ?_
      refine hk_if_lt (tgt := 160) dX10_findWay_150 (by decide) (fun c150 => ?_) (fun c150 => ?_)
      · first | rw [if_pos (Or.inl c150)] at ih | skip
        refine hk_iload dX10_findWay_160 rfl ?_
        refine hk_istore dX10_findWay_162 (by decide) rfl ?_
        first
        | (rw [CS_n (hno (fun k => c120 k.1))] at ih
           refine hk_iinc (v := nI (s + 1)) dX10_findWay_164 rfl (nI_1 s) (by decide) rfl ?_
           refine hk_goto (tgt := 27) dX10_findWay_167 (by decide) ?_
           exact ih _)
        | (rw [CS_n (hno (fun k => c145 k.2))] at ih
           refine hk_iinc (v := nI (s + 1)) dX10_findWay_164 rfl (nI_1 s) (by decide) rfl ?_
           refine hk_goto (tgt := 27) dX10_findWay_167 (by decide) ?_
           exact ih _)
        | (refine hk_iinc (v := nI (s + 1)) dX10_findWay_164 rfl (nI_1 s) (by decide) rfl ?_
           refine hk_goto (tgt := 27) dX10_findWay_167 (by decide) ?_
           exact ih _)
      · first | rw [if_pos (Or.inl c150)] at ih | skip
        refine hk_iload dX10_findWay_153 rfl ?_
        refine hk_iload dX10_findWay_155 rfl ?_
        refine hk_icmp_ge (tgt := 164) dX10_findWay_157 (by decide) (fun c157 => ?_) (fun c157 => ?_)
        · first | rw [if_pos (Or.inr (Int32.not_le.mp c157))] at ih | rw [if_neg (fun q => q.elim c150 (Int32.not_lt.mpr c157))] at ih
          first
          | (rw [CS_n (hno (fun k => c120 k.1))] at ih
             refine hk_iinc (v := nI (s + 1)) dX10_findWay_164 rfl (nI_1 s) (by decide) rfl ?_
             refine hk_goto (tgt := 27) dX10_findWay_167 (by decide) ?_
             exact ih _)
          | (rw [CS_n (hno (fun k => c145 k.2))] at ih
             refine hk_iinc (v := nI (s + 1)) dX10_findWay_164 rfl (nI_1 s) (by decide) rfl ?_
             refine hk_goto (tgt := 27) dX10_findWay_167 (by decide) ?_
             exact ih _)
          | (refine hk_iinc (v := nI (s + 1)) dX10_findWay_164 rfl (nI_1 s) (by decide) rfl ?_
             refine hk_goto (tgt := 27) dX10_findWay_167 (by decide) ?_
             exact ih _)
        · first | rw [if_pos (Or.inr (Int32.not_le.mp c157))] at ih | rw [if_neg (fun q => q.elim c150 (Int32.not_lt.mpr c157))] at ih
          refine hk_iload dX10_findWay_160 rfl ?_
          refine hk_istore dX10_findWay_162 (by decide) rfl ?_
          first
          | (rw [CS_n (hno (fun k => c120 k.1))] at ih
             refine hk_iinc (v := nI (s + 1)) dX10_findWay_164 rfl (nI_1 s) (by decide) rfl ?_
             refine hk_goto (tgt := 27) dX10_findWay_167 (by decide) ?_
             exact ih _)
          | (rw [CS_n (hno (fun k => c145 k.2))] at ih
             refine hk_iinc (v := nI (s + 1)) dX10_findWay_164 rfl (nI_1 s) (by decide) rfl ?_
             refine hk_goto (tgt := 27) dX10_findWay_167 (by decide) ?_
             exact ih _)
          | (refine hk_iinc (v := nI (s + 1)) dX10_findWay_164 rfl (nI_1 s) (by decide) rfl ?_
             refine hk_goto (tgt := 27) dX10_findWay_167 (by decide) ?_
             exact ih _)
set_option maxRecDepth 20000 in
set_option maxHeartbeats 2000000 in
theorem lq_findWayD {u : Int32} {t a c : Nat} (g : GM (GG m nS u) nC) (hS6 : nS ≤ 60) (hF : FW m nC nS u t m2) (hc : c < nC) (hR : RC (GG m nS u) t c) {Q : Option Value → hk_H → Prop} {s : Nat} (hs : s < nS) (ih : ∀ l7 : Option Value, hk_WP MX10_findWay 1 0 0 0 0 27 [some (.ref 37), some (.int (nI a)), some (.int (nI t)), some (.int u), some (.int (nI c)), some (.int (mi (CS (GG m nS u) t c (s + 1)))), some (.int (nI (s + 1))), l7] [] (hk_h L m2) Q) (hac : ¬ gA (GG m nS u) s = c) (hbc : ¬ gB (GG m nS u) s = c) (l7 : Option Value) : hk_WP MX10_findWay 1 0 0 0 0 36 [some (.ref 37), some (.int (nI a)), some (.int (nI t)), some (.int u), some (.int (nI c)), some (.int (mi (CS (GG m nS u) t c s))), some (.int (nI s)), l7] [] (hk_h L m2) Q := by
  obtain ⟨w1, w2, w3, w4, f5, _⟩ := GS.g hF.2.1 u hs g.1
  rw [hF.2.2.1] at w1 w2 w3 w4 f5
  have hop2 : opn m2 s u ↔ opn m s u := by
    have : gO (GG m2 nS u) s = gO (GG m nS u) s := by rw [hF.2.2.1]
    exact iff_of_eq this
  have lsA : gA (GG m nS u) s < 2 ^ 31 := by have := g.1; omega
  have lsB : gB (GG m nS u) s < 2 ^ 31 := by have := g.1; omega
  have lc : c < 2 ^ 31 := by have := g.1; omega
  have hC24 := g.1
  refine hk_aload_n dX10_findWay_36 rfl rfl ?_
  refine gfX10_16 rfl dX10_findWay_37 (hk_lt (by decide)) rfl rfl ?_
  refine hk_iload dX10_findWay_40 rfl ?_
  refine hk_ian dX10_findWay_42 (by decide) (fun _ => rfl) rfl (by omega) (by decide) ?_
  rw [w1]
  refine hk_iload dX10_findWay_43 rfl ?_
  refine hk_icmp_ne (tgt := 58) dX10_findWay_45 (by decide) (fun _ => ?_) (fun c45 => absurd c45 (fun q => hac ((nI_eq lsA lc).mp q)))
  refine hk_aload_n dX10_findWay_58 rfl rfl ?_
  refine gfX10_19 rfl dX10_findWay_59 (hk_lt (by decide)) rfl rfl ?_
  refine hk_iload dX10_findWay_62 rfl ?_
  refine hk_ian dX10_findWay_64 (by decide) (fun _ => rfl) rfl (by omega) (by decide) ?_
  rw [w2]
  refine hk_iload dX10_findWay_65 rfl ?_
  refine hk_icmp_ne (tgt := 80) dX10_findWay_67 (by decide) (fun _ => ?_) (fun c67 => absurd c67 (fun q => hbc ((nI_eq lsB lc).mp q)))
  refine hk_iconst (v := (-1)) dX10_findWay_80 (by decide) ?_
  refine hk_istore dX10_findWay_81 (by decide) rfl ?_
  refine hk_iload dX10_findWay_83 rfl ?_
  refine hk_if_lt (tgt := 164) dX10_findWay_85 (by decide) (fun _ => ?_) (fun c85 => absurd (by decide) c85)
  rw [CS_n (fun n q => q.1.2.2.elim (fun k => hac k.1) (fun k => hbc k.2))] at ih
  refine hk_iinc (v := nI (s + 1)) dX10_findWay_164 rfl (nI_1 s) (by decide) rfl ?_
  refine hk_goto (tgt := 27) dX10_findWay_167 (by decide) ?_
  exact ih _
end WYx
