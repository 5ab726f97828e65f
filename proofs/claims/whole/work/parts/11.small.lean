/-! TRIPS, COMPLAINTS, THINGS: their own methods -/
section TR
variable {L K : Nat} {m : Nat → Nat → Int32} {nT nR nP nL nF : Nat}
set_option maxRecDepth 20000 in
set_option maxHeartbeats 2000000 in
theorem ct_draftCoach (hDr : m 25 3 = nI 1) (c s g : Int32) : hk_Cd MX8_draftCoach 1 0 0 [.ref 22, .int c, .int s, .int g] (hk_h L m) none (hk_h L (hk_w (hk_w (hk_w m 26 0 c) 26 12 s) 26 11 g)) := by
  refine hk_ofWP (by decide) (by simp [Value.category]) (Nat.le_of_ble_eq_true rfl) ?_
  show hk_WP _ _ _ _ _ _ _ [some (.ref 22), some (.int c), some (.int s), some (.int g)] [] _ _
  refine hk_aload_n dX8_draftCoach_0 rfl rfl ?_
  refine gfX8_18 rfl dX8_draftCoach_1 (hk_lt (by decide)) rfl rfl ?_
  refine hk_iconst (v := 0) dX8_draftCoach_4 (by decide) ?_
  refine hk_iconst (v := 0) dX8_draftCoach_5 (by decide) ?_
  refine hk_iload_n dX8_draftCoach_6 rfl rfl ?_
  refine ivX8_28 rfl (ct_seti tb25 (Nat.le_refl 1) (by simp [hk_w, hDr]) rfl (by decide) (by decide) _) dX8_draftCoach_7 (hk_lt (by decide)) rfl rfl rfl (by decide) ⟨by decide, by decide⟩ (Nat.le_of_ble_eq_true rfl) (hk_kv ?_)
  refine hk_aload_n dX8_draftCoach_10 rfl rfl ?_
  refine gfX8_18 rfl dX8_draftCoach_11 (hk_lt (by decide)) rfl rfl ?_
  refine hk_iconst (v := 0) dX8_draftCoach_14 (by decide) ?_
  refine hk_bipush (v := 12) dX8_draftCoach_15 (by decide) ?_
  refine hk_iload_n dX8_draftCoach_17 rfl rfl ?_
  refine ivX8_28 rfl (ct_seti tb25 (Nat.le_refl 1) (by simp [hk_w, hDr]) rfl (by decide) (by decide) _) dX8_draftCoach_18 (hk_lt (by decide)) rfl rfl rfl (by decide) ⟨by decide, by decide⟩ (Nat.le_of_ble_eq_true rfl) (hk_kv ?_)
  refine hk_aload_n dX8_draftCoach_21 rfl rfl ?_
  refine gfX8_18 rfl dX8_draftCoach_22 (hk_lt (by decide)) rfl rfl ?_
  refine hk_iconst (v := 0) dX8_draftCoach_25 (by decide) ?_
  refine hk_bipush (v := 11) dX8_draftCoach_26 (by decide) ?_
  refine hk_iload_n dX8_draftCoach_28 rfl rfl ?_
  refine ivX8_28 rfl (ct_seti tb25 (Nat.le_refl 1) (by simp [hk_w, hDr]) rfl (by decide) (by decide) _) dX8_draftCoach_29 (hk_lt (by decide)) rfl rfl rfl (by decide) ⟨by decide, by decide⟩ (Nat.le_of_ble_eq_true rfl) (hk_kv ?_)
  exact hk_return dX8_draftCoach_32 rfl (by decide) ⟨rfl, rfl⟩
set_option maxRecDepth 20000 in
set_option maxHeartbeats 2000000 in
theorem ct_draftTimes (hDr : m 25 3 = nI 1) (u v : Int32) : hk_Cd MX8_draftTimes 1 0 0 [.ref 22, .int u, .int v] (hk_h L m) (some (.int (u + v + m 26 9))) (hk_h L (hk_w (hk_w m 26 4 (m 26 3 + u)) 26 5 (m 26 3 + (u + v + m 26 9)))) := by
  refine hk_ofWP (by decide) (by simp [Value.category]) (Nat.le_of_ble_eq_true rfl) ?_
  show hk_WP _ _ _ _ _ _ _ [some (.ref 22), some (.int u), some (.int v), none] [] _ _
  refine hk_iload_n dX8_draftTimes_0 rfl rfl ?_
  refine hk_iload_n dX8_draftTimes_1 rfl rfl ?_
  refine hk_iadd dX8_draftTimes_2 ?_
  refine hk_aload_n dX8_draftTimes_3 rfl rfl ?_
  refine gfX8_18 rfl dX8_draftTimes_4 (hk_lt (by decide)) rfl rfl ?_
  refine hk_iconst (v := 0) dX8_draftTimes_7 (by decide) ?_
  refine hk_bipush (v := 9) dX8_draftTimes_8 (by decide) ?_
  refine ivX8_32 rfl (ct_geti tb25 (Nat.le_refl 1) hDr rfl (by decide) (by decide)) dX8_draftTimes_10 (hk_lt (by decide)) rfl rfl rfl (by decide) ⟨by decide, by decide⟩ (Nat.le_of_ble_eq_true rfl) (hk_kd ?_)
  refine hk_iadd dX8_draftTimes_13 ?_
  refine hk_istore_n dX8_draftTimes_14 rfl (by decide) rfl ?_
  refine hk_aload_n dX8_draftTimes_15 rfl rfl ?_
  refine gfX8_18 rfl dX8_draftTimes_16 (hk_lt (by decide)) rfl rfl ?_
  refine hk_iconst (v := 0) dX8_draftTimes_19 (by decide) ?_
  refine hk_iconst (v := 4) dX8_draftTimes_20 (by decide) ?_
  refine hk_aload_n dX8_draftTimes_21 rfl rfl ?_
  refine gfX8_18 rfl dX8_draftTimes_22 (hk_lt (by decide)) rfl rfl ?_
  refine hk_iconst (v := 0) dX8_draftTimes_25 (by decide) ?_
  refine hk_iconst (v := 3) dX8_draftTimes_26 (by decide) ?_
  refine ivX8_32 rfl (ct_geti tb25 (Nat.le_refl 1) hDr rfl (by decide) (by decide)) dX8_draftTimes_27 (hk_lt (by decide)) rfl rfl rfl (by decide) ⟨by decide, by decide⟩ (Nat.le_of_ble_eq_true rfl) (hk_kd ?_)
  refine hk_iload_n dX8_draftTimes_30 rfl rfl ?_
  refine hk_iadd dX8_draftTimes_31 ?_
  refine ivX8_28 rfl (ct_seti tb25 (Nat.le_refl 1) (by simp [hk_w, hDr]) rfl (by decide) (by decide) _) dX8_draftTimes_32 (hk_lt (by decide)) rfl rfl rfl (by decide) ⟨by decide, by decide⟩ (Nat.le_of_ble_eq_true rfl) (hk_kv ?_)
  refine hk_aload_n dX8_draftTimes_35 rfl rfl ?_
  refine gfX8_18 rfl dX8_draftTimes_36 (hk_lt (by decide)) rfl rfl ?_
  refine hk_iconst (v := 0) dX8_draftTimes_39 (by decide) ?_
  refine hk_iconst (v := 5) dX8_draftTimes_40 (by decide) ?_
  refine hk_aload_n dX8_draftTimes_41 rfl rfl ?_
  refine gfX8_18 rfl dX8_draftTimes_42 (hk_lt (by decide)) rfl rfl ?_
  refine hk_iconst (v := 0) dX8_draftTimes_45 (by decide) ?_
  refine hk_iconst (v := 3) dX8_draftTimes_46 (by decide) ?_
  refine ivX8_32 rfl (ct_geti tb25 (Nat.le_refl 1) (by simp [hk_w, hDr]) rfl (by decide) (by decide)) dX8_draftTimes_47 (hk_lt (by decide)) rfl rfl rfl (by decide) ⟨by decide, by decide⟩ (Nat.le_of_ble_eq_true rfl) (hk_kd ?_)
  refine hk_iload_n dX8_draftTimes_50 rfl rfl ?_
  refine hk_iadd dX8_draftTimes_51 ?_
  refine ivX8_28 rfl (ct_seti tb25 (Nat.le_refl 1) (by simp [hk_w, hDr]) rfl (by decide) (by decide) _) dX8_draftTimes_52 (hk_lt (by decide)) rfl rfl rfl (by decide) ⟨by decide, by decide⟩ (Nat.le_of_ble_eq_true rfl) (hk_kv ?_)
  refine hk_iload_n dX8_draftTimes_55 rfl rfl ?_
  exact hk_ireturn dX8_draftTimes_56 rfl rfl (by decide) ⟨rfl, rfl⟩
/-- the draft's first n facts written as row t of the trips -/
def kd (m : Nat → Nat → Int32) (t : Nat) : Nat → Nat → Nat → Int32
  | 0 => m
  | n + 1 => hk_w (kd m t n) 24 (t * 13 + n) (m 26 n)
theorem kd_at (m : Nat → Nat → Int32) (t a j : Nat) : ∀ n, kd m t n a j = if a = 24 ∧ t * 13 ≤ j ∧ j < t * 13 + n then m 26 (j - t * 13) else m a j
  | 0 => by rw [if_neg (by omega)]; rfl
  | n + 1 => by
    show hk_w (kd m t n) 24 (t * 13 + n) (m 26 n) a j = _
    by_cases ha : a = 24
    · subst ha
      rw [hk_w_at]
      by_cases hj : j = t * 13 + n
      · subst hj
        rw [if_pos rfl, if_pos (by omega)]
        congr 1; omega
      · rw [if_neg hj, kd_at m t 24 j n]
        by_cases h : t * 13 ≤ j ∧ j < t * 13 + n
        · rw [if_pos (by omega), if_pos (by omega)]
        · rw [if_neg (by omega), if_neg (by omega)]
    · rw [hk_w_ne ha, kd_at m t a j n, if_neg (by omega), if_neg (by omega)]
theorem kd_off {m : Nat → Nat → Int32} {t a j n : Nat} (h : a ≠ 24) : kd m t n a j = m a j := by rw [kd_at, if_neg (by omega)]
set_option maxRecDepth 20000 in
set_option maxHeartbeats 2000000 in
theorem lp_keepDraft (hDr : m 25 3 = nI 1) (hT : m 23 3 = nI nT) (hT3 : nT ≤ 300) {t : Nat} (ht : t < nT) (i : Nat) (hi : i ≤ 13) : hk_WP MX8_keepDraft 2 0 0 0 0 10 [some (.ref 22), some (.int (nI t)), some (.int (nI i))] [] (hk_h L (kd m t i)) (fun r h' => r = some (.int (nI t)) ∧ h' = hk_h L (kd m t 13)) := by
  refine hk_iload_n dX8_keepDraft_10 rfl rfl ?_
  refine hk_bipush (v := 13) dX8_keepDraft_11 (by decide) ?_
  refine hk_icmp_ge (tgt := 40) dX8_keepDraft_13 (by decide) (fun c13 => ?_) (fun c13 => ?_)
  · rw [show (13 : Int32) = nI 13 from rfl, nI_leI (by omega) (by omega)] at c13
    refine hk_iload_n dX8_keepDraft_40 rfl rfl ?_
    exact hk_ireturn dX8_keepDraft_41 rfl rfl (by decide) ⟨rfl, by rw [show i = 13 by omega]⟩
  · rw [show (13 : Int32) = nI 13 from rfl, nI_leI (by omega) (by omega)] at c13
    refine hk_aload_n dX8_keepDraft_16 rfl rfl ?_
    refine gfX8_14 rfl dX8_keepDraft_17 (hk_lt (by decide)) rfl rfl ?_
    refine hk_iload_n dX8_keepDraft_20 rfl rfl ?_
    refine hk_iload_n dX8_keepDraft_21 rfl rfl ?_
    refine hk_aload_n dX8_keepDraft_22 rfl rfl ?_
    refine gfX8_18 rfl dX8_keepDraft_23 (hk_lt (by decide)) rfl rfl ?_
    refine hk_iconst (v := 0) dX8_keepDraft_26 (by decide) ?_
    refine hk_iload_n dX8_keepDraft_27 rfl rfl ?_
    refine ivX8_32 rfl (ct_geti tb25 (Nat.le_refl 1) (by rw [kd_off (by decide)]; exact hDr) (A := 26) (i := 0) (j := i) rfl (by decide) (by omega)) dX8_keepDraft_28 (hk_lt (by decide)) rfl rfl rfl (by decide) ⟨by decide, by decide⟩ (Nat.le_of_ble_eq_true rfl) (hk_kd ?_)
    refine ivX8_28 rfl (ct_seti tb23 hT3 (by rw [kd_off (by decide)]; exact hT) rfl ht (by omega) _) dX8_keepDraft_31 (hk_lt (by decide)) rfl rfl rfl (by decide) ⟨by decide, by decide⟩ (Nat.le_of_ble_eq_true rfl) (hk_kv ?_)
    rw [show kd m t i 26 (0 * 13 + i) = m 26 i by rw [kd_off (by decide)]; simp]
    refine hk_iinc (v := nI (i + 1)) dX8_keepDraft_34 rfl (nI_1 i) (by decide) rfl ?_
    refine hk_goto (tgt := 10) dX8_keepDraft_37 (by decide) ?_
    have hlt : i < 13 := by omega
    exact lp_keepDraft hDr hT hT3 ht (i + 1) (by omega)
termination_by 13 - i
decreasing_by omega
set_option maxRecDepth 20000 in
set_option maxHeartbeats 2000000 in
theorem ct_keepDraft (hDr : m 25 3 = nI 1) (hT : m 23 3 = nI nT) (hT3 : nT < 300) : hk_Cd MX8_keepDraft 2 0 0 [.ref 22] (hk_h L m) (some (.int (nI nT))) (hk_h L (kd (hk_w m 23 3 (nI (nT + 1))) nT 13)) := by
  refine hk_ofWP (by decide) (by simp [Value.category]) (Nat.le_of_ble_eq_true rfl) ?_
  show hk_WP _ _ _ _ _ _ _ [some (.ref 22), none, none] [] _ _
  refine hk_aload_n dX8_keepDraft_0 rfl rfl ?_
  refine gfX8_14 rfl dX8_keepDraft_1 (hk_lt (by decide)) rfl rfl ?_
  refine ivX8_24 rfl (ct_add tb23 (by omega) hT hT3) dX8_keepDraft_4 (hk_lt (by decide)) rfl rfl rfl (by decide) ⟨by decide, by decide⟩ (Nat.le_of_ble_eq_true rfl) (hk_kd ?_)
  refine hk_istore_n dX8_keepDraft_7 rfl (by decide) rfl ?_
  refine hk_iconst (v := 0) dX8_keepDraft_8 (by decide) ?_
  refine hk_istore_n dX8_keepDraft_9 rfl (by decide) rfl ?_
  exact lp_keepDraft (m := hk_w m 23 3 (nI (nT + 1))) (nT := nT + 1) (by rw [hk_w_ne (by decide)]; exact hDr) hk_w_eq (by omega) (Nat.lt_succ_self nT) 0 (by omega)
set_option maxRecDepth 20000 in
set_option maxHeartbeats 2000000 in
theorem ct_noteRefusal (hDr : m 25 3 = nI 1) (hR : m 27 3 = nI nR) (hR3 : nR < 300) : hk_Cd MX8_noteRefusal 2 0 0 [.ref 22] (hk_h L m) none (hk_h L (hk_w (hk_w (hk_w (hk_w (hk_w m 27 3 (nI (nR + 1))) 28 (nR * 4 + 0) (m 26 0)) 28 (nR * 4 + 1) (m 26 3)) 28 (nR * 4 + 2) (m 26 1)) 28 (nR * 4 + 3) (m 26 2))) := by
  refine hk_ofWP (by decide) (by simp [Value.category]) (Nat.le_of_ble_eq_true rfl) ?_
  show hk_WP _ _ _ _ _ _ _ [some (.ref 22), none] [] _ _
  refine hk_aload_n dX8_noteRefusal_0 rfl rfl ?_
  refine gfX8_21 rfl dX8_noteRefusal_1 (hk_lt (by decide)) rfl rfl ?_
  refine ivX8_24 rfl (ct_add tb27 (by omega) hR hR3) dX8_noteRefusal_4 (hk_lt (by decide)) rfl rfl rfl (by decide) ⟨by decide, by decide⟩ (Nat.le_of_ble_eq_true rfl) (hk_kd ?_)
  refine hk_istore_n dX8_noteRefusal_7 rfl (by decide) rfl ?_
  refine hk_aload_n dX8_noteRefusal_8 rfl rfl ?_
  refine gfX8_21 rfl dX8_noteRefusal_9 (hk_lt (by decide)) rfl rfl ?_
  refine hk_iload_n dX8_noteRefusal_12 rfl rfl ?_
  refine hk_iconst (v := 0) dX8_noteRefusal_13 (by decide) ?_
  refine hk_aload_n dX8_noteRefusal_14 rfl rfl ?_
  refine gfX8_18 rfl dX8_noteRefusal_15 (hk_lt (by decide)) rfl rfl ?_
  refine hk_iconst (v := 0) dX8_noteRefusal_18 (by decide) ?_
  refine hk_iconst (v := 0) dX8_noteRefusal_19 (by decide) ?_
  refine ivX8_32 rfl (ct_geti tb25 (Nat.le_refl 1) (by simp [hk_w, hDr]) rfl (by decide) (by decide)) dX8_noteRefusal_20 (hk_lt (by decide)) rfl rfl rfl (by decide) ⟨by decide, by decide⟩ (Nat.le_of_ble_eq_true rfl) (hk_kd ?_)
  refine ivX8_28 rfl (ct_seti tb27 (by omega : nR + 1 ≤ 300) (by simp [hk_w, upd]) rfl (Nat.lt_succ_self nR) (by decide) _) dX8_noteRefusal_23 (hk_lt (by decide)) rfl rfl rfl (by decide) ⟨by decide, by decide⟩ (Nat.le_of_ble_eq_true rfl) (hk_kv ?_)
  refine hk_aload_n dX8_noteRefusal_26 rfl rfl ?_
  refine gfX8_21 rfl dX8_noteRefusal_27 (hk_lt (by decide)) rfl rfl ?_
  refine hk_iload_n dX8_noteRefusal_30 rfl rfl ?_
  refine hk_iconst (v := 1) dX8_noteRefusal_31 (by decide) ?_
  refine hk_aload_n dX8_noteRefusal_32 rfl rfl ?_
  refine gfX8_18 rfl dX8_noteRefusal_33 (hk_lt (by decide)) rfl rfl ?_
  refine hk_iconst (v := 0) dX8_noteRefusal_36 (by decide) ?_
  refine hk_iconst (v := 3) dX8_noteRefusal_37 (by decide) ?_
  refine ivX8_32 rfl (ct_geti tb25 (Nat.le_refl 1) (by simp [hk_w, hDr]) rfl (by decide) (by decide)) dX8_noteRefusal_38 (hk_lt (by decide)) rfl rfl rfl (by decide) ⟨by decide, by decide⟩ (Nat.le_of_ble_eq_true rfl) (hk_kd ?_)
  refine ivX8_28 rfl (ct_seti tb27 (by omega : nR + 1 ≤ 300) (by simp [hk_w, upd]) rfl (Nat.lt_succ_self nR) (by decide) _) dX8_noteRefusal_41 (hk_lt (by decide)) rfl rfl rfl (by decide) ⟨by decide, by decide⟩ (Nat.le_of_ble_eq_true rfl) (hk_kv ?_)
  refine hk_aload_n dX8_noteRefusal_44 rfl rfl ?_
  refine gfX8_21 rfl dX8_noteRefusal_45 (hk_lt (by decide)) rfl rfl ?_
  refine hk_iload_n dX8_noteRefusal_48 rfl rfl ?_
  refine hk_iconst (v := 2) dX8_noteRefusal_49 (by decide) ?_
  refine hk_aload_n dX8_noteRefusal_50 rfl rfl ?_
  refine gfX8_18 rfl dX8_noteRefusal_51 (hk_lt (by decide)) rfl rfl ?_
  refine hk_iconst (v := 0) dX8_noteRefusal_54 (by decide) ?_
  refine hk_iconst (v := 1) dX8_noteRefusal_55 (by decide) ?_
  refine ivX8_32 rfl (ct_geti tb25 (Nat.le_refl 1) (by simp [hk_w, hDr]) rfl (by decide) (by decide)) dX8_noteRefusal_56 (hk_lt (by decide)) rfl rfl rfl (by decide) ⟨by decide, by decide⟩ (Nat.le_of_ble_eq_true rfl) (hk_kd ?_)
  refine ivX8_28 rfl (ct_seti tb27 (by omega : nR + 1 ≤ 300) (by simp [hk_w, upd]) rfl (Nat.lt_succ_self nR) (by decide) _) dX8_noteRefusal_59 (hk_lt (by decide)) rfl rfl rfl (by decide) ⟨by decide, by decide⟩ (Nat.le_of_ble_eq_true rfl) (hk_kv ?_)
  refine hk_aload_n dX8_noteRefusal_62 rfl rfl ?_
  refine gfX8_21 rfl dX8_noteRefusal_63 (hk_lt (by decide)) rfl rfl ?_
  refine hk_iload_n dX8_noteRefusal_66 rfl rfl ?_
  refine hk_iconst (v := 3) dX8_noteRefusal_67 (by decide) ?_
  refine hk_aload_n dX8_noteRefusal_68 rfl rfl ?_
  refine gfX8_18 rfl dX8_noteRefusal_69 (hk_lt (by decide)) rfl rfl ?_
  refine hk_iconst (v := 0) dX8_noteRefusal_72 (by decide) ?_
  refine hk_iconst (v := 2) dX8_noteRefusal_73 (by decide) ?_
  refine ivX8_32 rfl (ct_geti tb25 (Nat.le_refl 1) (by simp [hk_w, hDr]) rfl (by decide) (by decide)) dX8_noteRefusal_74 (hk_lt (by decide)) rfl rfl rfl (by decide) ⟨by decide, by decide⟩ (Nat.le_of_ble_eq_true rfl) (hk_kd ?_)
  refine ivX8_28 rfl (ct_seti tb27 (by omega : nR + 1 ≤ 300) (by simp [hk_w, upd]) rfl (Nat.lt_succ_self nR) (by decide) _) dX8_noteRefusal_77 (hk_lt (by decide)) rfl rfl rfl (by decide) ⟨by decide, by decide⟩ (Nat.le_of_ble_eq_true rfl) (hk_kv ?_)
  exact hk_return dX8_noteRefusal_80 rfl (by decide) ⟨rfl, rfl⟩
set_option maxRecDepth 20000 in
set_option maxHeartbeats 2000000 in
theorem ct_noteRefusal_full (hDr : m 25 3 = nI 1) (hR : m 27 3 = nI 300) : hk_Cd MX8_noteRefusal 2 0 0 [.ref 22] (hk_h L m) none (hk_h L m) := by
  refine hk_ofWP (by decide) (by simp [Value.category]) (Nat.le_of_ble_eq_true rfl) ?_
  show hk_WP _ _ _ _ _ _ _ [some (.ref 22), none] [] _ _
  refine hk_aload_n dX8_noteRefusal_0 rfl rfl ?_
  refine gfX8_21 rfl dX8_noteRefusal_1 (hk_lt (by decide)) rfl rfl ?_
  refine ivX8_24 rfl (ct_add_full tb27 (Nat.le_refl 300) hR rfl) dX8_noteRefusal_4 (hk_lt (by decide)) rfl rfl rfl (by decide) ⟨by decide, by decide⟩ (Nat.le_of_ble_eq_true rfl) (hk_kd ?_)
  refine hk_istore_n dX8_noteRefusal_7 rfl (by decide) rfl ?_
  refine hk_aload_n dX8_noteRefusal_8 rfl rfl ?_
  refine gfX8_21 rfl dX8_noteRefusal_9 (hk_lt (by decide)) rfl rfl ?_
  refine hk_iload_n dX8_noteRefusal_12 rfl rfl ?_
  refine hk_iconst (v := 0) dX8_noteRefusal_13 (by decide) ?_
  refine hk_aload_n dX8_noteRefusal_14 rfl rfl ?_
  refine gfX8_18 rfl dX8_noteRefusal_15 (hk_lt (by decide)) rfl rfl ?_
  refine hk_iconst (v := 0) dX8_noteRefusal_18 (by decide) ?_
  refine hk_iconst (v := 0) dX8_noteRefusal_19 (by decide) ?_
  refine ivX8_32 rfl (ct_geti tb25 (Nat.le_refl 1) hDr rfl (by decide) (by decide)) dX8_noteRefusal_20 (hk_lt (by decide)) rfl rfl rfl (by decide) ⟨by decide, by decide⟩ (Nat.le_of_ble_eq_true rfl) (hk_kd ?_)
  refine ivX8_28 rfl (ct_set_out tb27 (Nat.le_refl 300) hR (by decide) _ _) dX8_noteRefusal_23 (hk_lt (by decide)) rfl rfl rfl (by decide) ⟨by decide, by decide⟩ (Nat.le_of_ble_eq_true rfl) (hk_kv ?_)
  refine hk_aload_n dX8_noteRefusal_26 rfl rfl ?_
  refine gfX8_21 rfl dX8_noteRefusal_27 (hk_lt (by decide)) rfl rfl ?_
  refine hk_iload_n dX8_noteRefusal_30 rfl rfl ?_
  refine hk_iconst (v := 1) dX8_noteRefusal_31 (by decide) ?_
  refine hk_aload_n dX8_noteRefusal_32 rfl rfl ?_
  refine gfX8_18 rfl dX8_noteRefusal_33 (hk_lt (by decide)) rfl rfl ?_
  refine hk_iconst (v := 0) dX8_noteRefusal_36 (by decide) ?_
  refine hk_iconst (v := 3) dX8_noteRefusal_37 (by decide) ?_
  refine ivX8_32 rfl (ct_geti tb25 (Nat.le_refl 1) hDr rfl (by decide) (by decide)) dX8_noteRefusal_38 (hk_lt (by decide)) rfl rfl rfl (by decide) ⟨by decide, by decide⟩ (Nat.le_of_ble_eq_true rfl) (hk_kd ?_)
  refine ivX8_28 rfl (ct_set_out tb27 (Nat.le_refl 300) hR (by decide) _ _) dX8_noteRefusal_41 (hk_lt (by decide)) rfl rfl rfl (by decide) ⟨by decide, by decide⟩ (Nat.le_of_ble_eq_true rfl) (hk_kv ?_)
  refine hk_aload_n dX8_noteRefusal_44 rfl rfl ?_
  refine gfX8_21 rfl dX8_noteRefusal_45 (hk_lt (by decide)) rfl rfl ?_
  refine hk_iload_n dX8_noteRefusal_48 rfl rfl ?_
  refine hk_iconst (v := 2) dX8_noteRefusal_49 (by decide) ?_
  refine hk_aload_n dX8_noteRefusal_50 rfl rfl ?_
  refine gfX8_18 rfl dX8_noteRefusal_51 (hk_lt (by decide)) rfl rfl ?_
  refine hk_iconst (v := 0) dX8_noteRefusal_54 (by decide) ?_
  refine hk_iconst (v := 1) dX8_noteRefusal_55 (by decide) ?_
  refine ivX8_32 rfl (ct_geti tb25 (Nat.le_refl 1) hDr rfl (by decide) (by decide)) dX8_noteRefusal_56 (hk_lt (by decide)) rfl rfl rfl (by decide) ⟨by decide, by decide⟩ (Nat.le_of_ble_eq_true rfl) (hk_kd ?_)
  refine ivX8_28 rfl (ct_set_out tb27 (Nat.le_refl 300) hR (by decide) _ _) dX8_noteRefusal_59 (hk_lt (by decide)) rfl rfl rfl (by decide) ⟨by decide, by decide⟩ (Nat.le_of_ble_eq_true rfl) (hk_kv ?_)
  refine hk_aload_n dX8_noteRefusal_62 rfl rfl ?_
  refine gfX8_21 rfl dX8_noteRefusal_63 (hk_lt (by decide)) rfl rfl ?_
  refine hk_iload_n dX8_noteRefusal_66 rfl rfl ?_
  refine hk_iconst (v := 3) dX8_noteRefusal_67 (by decide) ?_
  refine hk_aload_n dX8_noteRefusal_68 rfl rfl ?_
  refine gfX8_18 rfl dX8_noteRefusal_69 (hk_lt (by decide)) rfl rfl ?_
  refine hk_iconst (v := 0) dX8_noteRefusal_72 (by decide) ?_
  refine hk_iconst (v := 2) dX8_noteRefusal_73 (by decide) ?_
  refine ivX8_32 rfl (ct_geti tb25 (Nat.le_refl 1) hDr rfl (by decide) (by decide)) dX8_noteRefusal_74 (hk_lt (by decide)) rfl rfl rfl (by decide) ⟨by decide, by decide⟩ (Nat.le_of_ble_eq_true rfl) (hk_kd ?_)
  refine ivX8_28 rfl (ct_set_out tb27 (Nat.le_refl 300) hR (by decide) _ _) dX8_noteRefusal_77 (hk_lt (by decide)) rfl rfl rfl (by decide) ⟨by decide, by decide⟩ (Nat.le_of_ble_eq_true rfl) (hk_kv ?_)
  exact hk_return dX8_noteRefusal_80 rfl (by decide) ⟨rfl, rfl⟩
set_option maxRecDepth 20000 in
set_option maxHeartbeats 2000000 in
theorem lp_tripsOf (hT : m 23 3 = nI nT) (hT3 : nT ≤ 300) (c : Int32) (i : Nat) (hi : i ≤ nT) : hk_WP MX8_tripsOf 1 0 0 0 0 4 [some (.ref 22), some (.int c), some (.int (nI (cn (fun t => m 24 (t * 13) = c) i))), some (.int (nI i))] [] (hk_h L m) (fun r h' => r = some (.int (nI (cn (fun t => m 24 (t * 13) = c) nT))) ∧ h' = hk_h L m) := by
  refine hk_iload_n dX8_tripsOf_4 rfl rfl ?_
  refine hk_aload_n dX8_tripsOf_5 rfl rfl ?_
  refine gfX8_14 rfl dX8_tripsOf_6 (hk_lt (by decide)) rfl rfl ?_
  refine gfX8_36 rfl dX8_tripsOf_9 (hk_lt (by decide)) rfl rfl ?_
  refine hk_icmp_ge (tgt := 42) dX8_tripsOf_12 (by decide) (fun c12 => ?_) (fun c12 => ?_)
  · rw [hT, nI_leI (by omega) (by omega)] at c12
    refine hk_iload_n dX8_tripsOf_42 rfl rfl ?_
    exact hk_ireturn dX8_tripsOf_43 rfl rfl (by decide) ⟨by rw [show i = nT by omega], rfl⟩
  · rw [hT, nI_leI (by omega) (by omega)] at c12
    refine hk_iload_n dX8_tripsOf_15 rfl rfl ?_
    refine hk_aload_n dX8_tripsOf_16 rfl rfl ?_
    refine gfX8_14 rfl dX8_tripsOf_17 (hk_lt (by decide)) rfl rfl ?_
    refine hk_iload_n dX8_tripsOf_20 rfl rfl ?_
    refine hk_iconst (v := 0) dX8_tripsOf_21 (by decide) ?_
    refine ivX8_32 rfl (ct_geti tb23 hT3 hT rfl (by omega) (by decide)) dX8_tripsOf_22 (hk_lt (by decide)) rfl rfl rfl (by decide) ⟨by decide, by decide⟩ (Nat.le_of_ble_eq_true rfl) (hk_kd ?_)
    refine hk_iload_n dX8_tripsOf_25 rfl rfl ?_
    refine hk_icmp_ne (tgt := 33) dX8_tripsOf_26 (by decide) (fun c26 => ?_) (fun c26 => ?_)
    · refine hk_iconst (v := 0) dX8_tripsOf_33 (by decide) ?_
      refine hk_iadd dX8_tripsOf_34 ?_
      refine hk_istore_n dX8_tripsOf_35 rfl (by decide) rfl ?_
      have hlt : i < nT := by omega
      refine hk_iinc (v := nI (i + 1)) dX8_tripsOf_36 rfl (nI_1 i) (by decide) rfl ?_
      refine hk_goto (tgt := 4) dX8_tripsOf_39 (by decide) ?_
      have hs := lp_tripsOf hT hT3 c (i + 1) (by omega)
      first | (rw [cn_y (p := fun t => m 24 (t * 13) = c) (n := i) (by grind), ← nI_1] at hs; exact hs) | (rw [cn_n (p := fun t => m 24 (t * 13) = c) (n := i) (by grind)] at hs; rw [show nI (cn (fun t => m 24 (t * 13) = c) i) + 0 = nI (cn (fun t => m 24 (t * 13) = c) i) from Int32.add_zero _]; exact hs)
    · refine hk_iconst (v := 1) dX8_tripsOf_29 (by decide) ?_
      refine hk_goto (tgt := 34) dX8_tripsOf_30 (by decide) ?_
      refine hk_iadd dX8_tripsOf_34 ?_
      refine hk_istore_n dX8_tripsOf_35 rfl (by decide) rfl ?_
      have hlt : i < nT := by omega
      refine hk_iinc (v := nI (i + 1)) dX8_tripsOf_36 rfl (nI_1 i) (by decide) rfl ?_
      refine hk_goto (tgt := 4) dX8_tripsOf_39 (by decide) ?_
      have hs := lp_tripsOf hT hT3 c (i + 1) (by omega)
      first | (rw [cn_y (p := fun t => m 24 (t * 13) = c) (n := i) (by grind), ← nI_1] at hs; exact hs) | (rw [cn_n (p := fun t => m 24 (t * 13) = c) (n := i) (by grind)] at hs; rw [show nI (cn (fun t => m 24 (t * 13) = c) i) + 0 = nI (cn (fun t => m 24 (t * 13) = c) i) from Int32.add_zero _]; exact hs)
termination_by nT - i
decreasing_by all_goals omega
set_option maxRecDepth 20000 in
set_option maxHeartbeats 2000000 in
theorem ct_tripsOf (hT : m 23 3 = nI nT) (hT3 : nT ≤ 300) (c : Int32) : hk_Cd MX8_tripsOf 1 0 0 [.ref 22, .int c] (hk_h L m) (some (.int (nI (cn (fun t => m 24 (t * 13) = c) nT)))) (hk_h L m) := by
  refine hk_ofWP (by decide) (by simp [Value.category]) (Nat.le_of_ble_eq_true rfl) ?_
  show hk_WP _ _ _ _ _ _ _ [some (.ref 22), some (.int c), none, none] [] _ _
  refine hk_iconst (v := 0) dX8_tripsOf_0 (by decide) ?_
  refine hk_istore_n dX8_tripsOf_1 rfl (by decide) rfl ?_
  refine hk_iconst (v := 0) dX8_tripsOf_2 (by decide) ?_
  refine hk_istore_n dX8_tripsOf_3 rfl (by decide) rfl ?_
  exact lp_tripsOf hT hT3 c 0 (Nat.zero_le _)
set_option maxRecDepth 20000 in
set_option maxHeartbeats 2000000 in
theorem ct_isSame (hT : m 23 3 = nI nT) (hT3 : nT ≤ 300) {t o f : Nat} (ht : t < nT) (ho : o < nT) (hf : f < 13) : hk_Cd MX8_isSame 1 0 0 [.ref 22, .int (nI t), .int (nI o), .int (nI f)] (hk_h L m) (some (.int (bI (m 24 (t * 13 + f) = m 24 (o * 13 + f))))) (hk_h L m) := by
  refine hk_ofWP (by decide) (by simp [Value.category]) (Nat.le_of_ble_eq_true rfl) ?_
  show hk_WP _ _ _ _ _ _ _ [some (.ref 22), some (.int (nI t)), some (.int (nI o)), some (.int (nI f))] [] _ _
  refine hk_aload_n dX8_isSame_0 rfl rfl ?_
  refine gfX8_14 rfl dX8_isSame_1 (hk_lt (by decide)) rfl rfl ?_
  refine hk_iload_n dX8_isSame_4 rfl rfl ?_
  refine hk_iload_n dX8_isSame_5 rfl rfl ?_
  refine ivX8_32 rfl (ct_geti tb23 hT3 hT rfl ht hf) dX8_isSame_6 (hk_lt (by decide)) rfl rfl rfl (by decide) ⟨by decide, by decide⟩ (Nat.le_of_ble_eq_true rfl) (hk_kd ?_)
  refine hk_aload_n dX8_isSame_9 rfl rfl ?_
  refine gfX8_14 rfl dX8_isSame_10 (hk_lt (by decide)) rfl rfl ?_
  refine hk_iload_n dX8_isSame_13 rfl rfl ?_
  refine hk_iload_n dX8_isSame_14 rfl rfl ?_
  refine ivX8_32 rfl (ct_geti tb23 hT3 hT rfl ho hf) dX8_isSame_15 (hk_lt (by decide)) rfl rfl rfl (by decide) ⟨by decide, by decide⟩ (Nat.le_of_ble_eq_true rfl) (hk_kd ?_)
  refine hk_icmp_ne (tgt := 25) dX8_isSame_18 (by decide) (fun c18 => ?_) (fun c18 => ?_)
  · refine hk_iconst (v := 0) dX8_isSame_25 (by decide) ?_
    exact hk_ireturn dX8_isSame_26 rfl rfl (by decide) ⟨by first | exact bI_r1 (by grind) | exact bI_r0 (by grind), rfl⟩
  · refine hk_iconst (v := 1) dX8_isSame_21 (by decide) ?_
    refine hk_goto (tgt := 26) dX8_isSame_22 (by decide) ?_
    exact hk_ireturn dX8_isSame_26 rfl rfl (by decide) ⟨by first | exact bI_r1 (by grind) | exact bI_r0 (by grind), rfl⟩
set_option maxRecDepth 20000 in
set_option maxHeartbeats 2000000 in
theorem lp_wasOnTrip (hT : m 23 3 = nI nT) (hT3 : nT ≤ 300) (c a b z : Int32) (ls5 : Option Value) (i : Nat) (hi : i ≤ nT) (hno : ∀ j, j < i → ¬ (fun t => m 24 (t * 13) = c ∧ m 24 (t * 13 + 3) ≤ b ∧ ¬ m 24 (t * 13 + 5) ≤ a) j) : hk_WP MX8_wasOnTrip 1 0 0 0 0 3 [some (.ref 22), some (.int c), some (.int a), some (.int b), some (.int (nI i)), ls5] [] (hk_h L m) (fun r h' => r = some (.int (bI (∃ t, t < nT ∧ (fun t => m 24 (t * 13) = c ∧ m 24 (t * 13 + 3) ≤ b ∧ ¬ m 24 (t * 13 + 5) ≤ a) t))) ∧ h' = hk_h L m) := by
  refine hk_iload dX8_wasOnTrip_3 rfl ?_
  refine hk_aload_n dX8_wasOnTrip_5 rfl rfl ?_
  refine gfX8_14 rfl dX8_wasOnTrip_6 (hk_lt (by decide)) rfl rfl ?_
  refine gfX8_36 rfl dX8_wasOnTrip_9 (hk_lt (by decide)) rfl rfl ?_
  refine hk_icmp_ge (tgt := 77) dX8_wasOnTrip_12 (by decide) (fun c12 => ?_) (fun c12 => ?_)
  · rw [hT, nI_leI (by omega) (by omega)] at c12
    refine hk_iconst (v := 0) dX8_wasOnTrip_77 (by decide) ?_
    exact hk_ireturn dX8_wasOnTrip_78 rfl rfl (by decide) ⟨bI_r0 (fun ⟨j, hj, hp⟩ => hno j (by omega) hp), rfl⟩
  · rw [hT, nI_leI (by omega) (by omega)] at c12
    refine hk_aload_n dX8_wasOnTrip_15 rfl rfl ?_
    refine gfX8_14 rfl dX8_wasOnTrip_16 (hk_lt (by decide)) rfl rfl ?_
    refine hk_iload dX8_wasOnTrip_19 rfl ?_
    refine hk_iconst (v := 0) dX8_wasOnTrip_21 (by decide) ?_
    refine ivX8_32 rfl (ct_geti tb23 hT3 hT rfl (by omega) (by decide)) dX8_wasOnTrip_22 (hk_lt (by decide)) rfl rfl rfl (by decide) ⟨by decide, by decide⟩ (Nat.le_of_ble_eq_true rfl) (hk_kd ?_)
    refine hk_iload_n dX8_wasOnTrip_25 rfl rfl ?_
    refine hk_icmp_ne (tgt := 33) dX8_wasOnTrip_26 (by decide) (fun c26 => ?_) (fun c26 => ?_)
    · refine hk_iconst (v := 0) dX8_wasOnTrip_33 (by decide) ?_
      refine hk_istore dX8_wasOnTrip_34 (by decide) rfl ?_
      refine hk_iload dX8_wasOnTrip_36 rfl ?_
      refine hk_if_eq (tgt := 71) dX8_wasOnTrip_38 (by decide) (fun _ => ?_) (fun c38 => absurd (by decide) c38)
      refine hk_iinc (v := nI (i + 1)) dX8_wasOnTrip_71 rfl (nI_1 i) (by decide) rfl ?_
      refine hk_goto (tgt := 3) dX8_wasOnTrip_74 (by decide) ?_
      have hlt : i < nT := by omega
      exact lp_wasOnTrip hT hT3 c a b z _ (i + 1) (by omega) (fun j hj => by rcases Nat.lt_succ_iff_lt_or_eq.mp hj with h | h; exact hno j h; rw [h]; grind)
    · refine hk_iconst (v := 1) dX8_wasOnTrip_29 (by decide) ?_
      refine hk_goto (tgt := 34) dX8_wasOnTrip_30 (by decide) ?_
      refine hk_istore dX8_wasOnTrip_34 (by decide) rfl ?_
      refine hk_iload dX8_wasOnTrip_36 rfl ?_
      refine hk_if_eq (tgt := 71) dX8_wasOnTrip_38 (by decide) (fun c38 => absurd c38 (by decide)) (fun _ => ?_)
      refine hk_aload_n dX8_wasOnTrip_41 rfl rfl ?_
      refine gfX8_14 rfl dX8_wasOnTrip_42 (hk_lt (by decide)) rfl rfl ?_
      refine hk_iload dX8_wasOnTrip_45 rfl ?_
      refine hk_iconst (v := 3) dX8_wasOnTrip_47 (by decide) ?_
      refine ivX8_32 rfl (ct_geti tb23 hT3 hT rfl (by omega) (by decide)) dX8_wasOnTrip_48 (hk_lt (by decide)) rfl rfl rfl (by decide) ⟨by decide, by decide⟩ (Nat.le_of_ble_eq_true rfl) (hk_kd ?_)
      refine hk_iload_n dX8_wasOnTrip_51 rfl rfl ?_
      refine hk_icmp_gt (tgt := 71) dX8_wasOnTrip_52 (by decide) (fun c52 => ?_) (fun c52 => ?_)
      · refine hk_iinc (v := nI (i + 1)) dX8_wasOnTrip_71 rfl (nI_1 i) (by decide) rfl ?_
        refine hk_goto (tgt := 3) dX8_wasOnTrip_74 (by decide) ?_
        have hlt : i < nT := by omega
        exact lp_wasOnTrip hT hT3 c a b z _ (i + 1) (by omega) (fun j hj => by rcases Nat.lt_succ_iff_lt_or_eq.mp hj with h | h; exact hno j h; rw [h]; grind)
      · refine hk_aload_n dX8_wasOnTrip_55 rfl rfl ?_
        refine gfX8_14 rfl dX8_wasOnTrip_56 (hk_lt (by decide)) rfl rfl ?_
        refine hk_iload dX8_wasOnTrip_59 rfl ?_
        refine hk_iconst (v := 5) dX8_wasOnTrip_61 (by decide) ?_
        refine ivX8_32 rfl (ct_geti tb23 hT3 hT rfl (by omega) (by decide)) dX8_wasOnTrip_62 (hk_lt (by decide)) rfl rfl rfl (by decide) ⟨by decide, by decide⟩ (Nat.le_of_ble_eq_true rfl) (hk_kd ?_)
        refine hk_iload_n dX8_wasOnTrip_65 rfl rfl ?_
        refine hk_icmp_le (tgt := 71) dX8_wasOnTrip_66 (by decide) (fun c66 => ?_) (fun c66 => ?_)
        · refine hk_iinc (v := nI (i + 1)) dX8_wasOnTrip_71 rfl (nI_1 i) (by decide) rfl ?_
          refine hk_goto (tgt := 3) dX8_wasOnTrip_74 (by decide) ?_
          have hlt : i < nT := by omega
          exact lp_wasOnTrip hT hT3 c a b z _ (i + 1) (by omega) (fun j hj => by rcases Nat.lt_succ_iff_lt_or_eq.mp hj with h | h; exact hno j h; rw [h]; grind)
        · refine hk_iconst (v := 1) dX8_wasOnTrip_69 (by decide) ?_
          exact hk_ireturn dX8_wasOnTrip_70 rfl rfl (by decide) ⟨bI_r1 ⟨i, by omega, by grind⟩, rfl⟩
termination_by nT - i
decreasing_by all_goals omega
set_option maxRecDepth 20000 in
set_option maxHeartbeats 2000000 in
theorem ct_wasOnTrip (hT : m 23 3 = nI nT) (hT3 : nT ≤ 300) (c a b : Int32) : hk_Cd MX8_wasOnTrip 1 0 0 [.ref 22, .int c, .int a, .int b] (hk_h L m) (some (.int (bI (∃ t, t < nT ∧ (fun t => m 24 (t * 13) = c ∧ m 24 (t * 13 + 3) ≤ b ∧ ¬ m 24 (t * 13 + 5) ≤ a) t)))) (hk_h L m) := by
  refine hk_ofWP (by decide) (by simp [Value.category]) (Nat.le_of_ble_eq_true rfl) ?_
  show hk_WP _ _ _ _ _ _ _ [some (.ref 22), some (.int c), some (.int a), some (.int b), none, none] [] _ _
  refine hk_iconst (v := 0) dX8_wasOnTrip_0 (by decide) ?_
  refine hk_istore dX8_wasOnTrip_1 (by decide) rfl ?_
  exact lp_wasOnTrip hT hT3 c a b 0 _ 0 (Nat.zero_le _) (fun j hj => absurd hj (Nat.not_lt_zero _))
set_option maxRecDepth 20000 in
set_option maxHeartbeats 2000000 in
theorem lp_isOf (hP : m 30 3 = nI nP) (hP3 : nP ≤ 300) (p : Int32) (i : Nat) (hi : i ≤ nP) (hno : ∀ j, j < i → ¬ m 31 (j * 2) = p) : hk_WP MX1_isOf 1 0 0 0 0 2 [some (.ref 29), some (.int p), some (.int (nI i))] [] (hk_h L m) (fun r h' => r = some (.int (bI (∃ i, i < nP ∧ m 31 (i * 2) = p))) ∧ h' = hk_h L m) := by
  refine hk_iload_n dX1_isOf_2 rfl rfl ?_
  refine hk_aload_n dX1_isOf_3 rfl rfl ?_
  refine gfX1_14 rfl dX1_isOf_4 (hk_lt (by decide)) rfl rfl ?_
  refine gfX1_20 rfl dX1_isOf_7 (hk_lt (by decide)) rfl rfl ?_
  refine hk_icmp_ge (tgt := 34) dX1_isOf_10 (by decide) (fun c10 => ?_) (fun c10 => ?_)
  · rw [hP, nI_leI (by omega) (by omega)] at c10
    refine hk_iconst (v := 0) dX1_isOf_34 (by decide) ?_
    exact hk_ireturn dX1_isOf_35 rfl rfl (by decide) ⟨bI_r0 (fun ⟨j, hj, hp⟩ => hno j (by omega) hp), rfl⟩
  · rw [hP, nI_leI (by omega) (by omega)] at c10
    refine hk_aload_n dX1_isOf_13 rfl rfl ?_
    refine gfX1_14 rfl dX1_isOf_14 (hk_lt (by decide)) rfl rfl ?_
    refine hk_iload_n dX1_isOf_17 rfl rfl ?_
    refine hk_iconst (v := 0) dX1_isOf_18 (by decide) ?_
    refine ivX1_24 rfl (ct_geti tb30 hP3 hP rfl (by omega) (by decide)) dX1_isOf_19 (hk_lt (by decide)) rfl rfl rfl (by decide) ⟨by decide, by decide⟩ (Nat.le_of_ble_eq_true rfl) (hk_kd ?_)
    refine hk_iload_n dX1_isOf_22 rfl rfl ?_
    refine hk_icmp_ne (tgt := 28) dX1_isOf_23 (by decide) (fun c23 => ?_) (fun c23 => ?_)
    · refine hk_iinc (v := nI (i + 1)) dX1_isOf_28 rfl (nI_1 i) (by decide) rfl ?_
      refine hk_goto (tgt := 2) dX1_isOf_31 (by decide) ?_
      have hlt : i < nP := by omega
      exact lp_isOf hP hP3 p (i + 1) (by omega) (fun j hj => by rcases Nat.lt_succ_iff_lt_or_eq.mp hj with h | h; exact hno j h; rw [h]; grind)
    · refine hk_iconst (v := 1) dX1_isOf_26 (by decide) ?_
      exact hk_ireturn dX1_isOf_27 rfl rfl (by decide) ⟨bI_r1 ⟨i, by omega, by grind⟩, rfl⟩
termination_by nP - i
decreasing_by omega
set_option maxRecDepth 20000 in
set_option maxHeartbeats 2000000 in
theorem ct_isOf (hP : m 30 3 = nI nP) (hP3 : nP ≤ 300) (p : Int32) : hk_Cd MX1_isOf 1 0 0 [.ref 29, .int p] (hk_h L m) (some (.int (bI (∃ i, i < nP ∧ m 31 (i * 2) = p)))) (hk_h L m) := by
  refine hk_ofWP (by decide) (by simp [Value.category]) (Nat.le_of_ble_eq_true rfl) ?_
  show hk_WP _ _ _ _ _ _ _ [some (.ref 29), some (.int p), none] [] _ _
  refine hk_iconst (v := 0) dX1_isOf_0 (by decide) ?_
  refine hk_istore_n dX1_isOf_1 rfl (by decide) rfl ?_
  exact lp_isOf hP hP3 p 0 (Nat.zero_le _) (fun j hj => absurd hj (Nat.not_lt_zero _))
set_option maxRecDepth 20000 in
set_option maxHeartbeats 2000000 in
theorem ct_addComplaint (hP : m 30 3 = nI nP) (hP3 : nP < 300) (t p : Int32) : hk_Cd MX1_addComplaint 2 0 0 [.ref 29, .int t, .int p] (hk_h L m) (some (.int (nI nP))) (hk_h L (hk_w (hk_w (hk_w m 30 3 (nI (nP + 1))) 31 (nP * 2 + 0) t) 31 (nP * 2 + 1) p)) := by
  refine hk_ofWP (by decide) (by simp [Value.category]) (Nat.le_of_ble_eq_true rfl) ?_
  show hk_WP _ _ _ _ _ _ _ [some (.ref 29), some (.int t), some (.int p), none] [] _ _
  refine hk_aload_n dX1_addComplaint_0 rfl rfl ?_
  refine gfX1_14 rfl dX1_addComplaint_1 (hk_lt (by decide)) rfl rfl ?_
  refine ivX1_28 rfl (ct_add tb30 (by omega) hP hP3) dX1_addComplaint_4 (hk_lt (by decide)) rfl rfl rfl (by decide) ⟨by decide, by decide⟩ (Nat.le_of_ble_eq_true rfl) (hk_kd ?_)
  refine hk_istore_n dX1_addComplaint_7 rfl (by decide) rfl ?_
  refine hk_aload_n dX1_addComplaint_8 rfl rfl ?_
  refine gfX1_14 rfl dX1_addComplaint_9 (hk_lt (by decide)) rfl rfl ?_
  refine hk_iload_n dX1_addComplaint_12 rfl rfl ?_
  refine hk_iconst (v := 0) dX1_addComplaint_13 (by decide) ?_
  refine hk_iload_n dX1_addComplaint_14 rfl rfl ?_
  refine ivX1_32 rfl (ct_seti tb30 (by omega : nP + 1 ≤ 300) (by simp [hk_w, upd]) rfl (Nat.lt_succ_self nP) (by decide) _) dX1_addComplaint_15 (hk_lt (by decide)) rfl rfl rfl (by decide) ⟨by decide, by decide⟩ (Nat.le_of_ble_eq_true rfl) (hk_kv ?_)
  refine hk_aload_n dX1_addComplaint_18 rfl rfl ?_
  refine gfX1_14 rfl dX1_addComplaint_19 (hk_lt (by decide)) rfl rfl ?_
  refine hk_iload_n dX1_addComplaint_22 rfl rfl ?_
  refine hk_iconst (v := 1) dX1_addComplaint_23 (by decide) ?_
  refine hk_iload_n dX1_addComplaint_24 rfl rfl ?_
  refine ivX1_32 rfl (ct_seti tb30 (by omega : nP + 1 ≤ 300) (by simp [hk_w, upd]) rfl (Nat.lt_succ_self nP) (by decide) _) dX1_addComplaint_25 (hk_lt (by decide)) rfl rfl rfl (by decide) ⟨by decide, by decide⟩ (Nat.le_of_ble_eq_true rfl) (hk_kv ?_)
  refine hk_iload_n dX1_addComplaint_28 rfl rfl ?_
  exact hk_ireturn dX1_addComplaint_29 rfl rfl (by decide) ⟨rfl, rfl⟩
set_option maxRecDepth 20000 in
set_option maxHeartbeats 2000000 in
theorem ct_addLost (hN : m 33 3 = nI nL) (hN2 : nL < 60) (s p a b : Int32) : hk_Cd MX7_addLost 2 0 0 [.ref 32, .int s, .int p, .int a, .int b] (hk_h L m) (some (.int (nI nL))) (hk_h L (hk_w (hk_w (hk_w (hk_w (hk_w m 33 3 (nI (nL + 1))) 34 (nL * 4 + 0) s) 34 (nL * 4 + 1) p) 34 (nL * 4 + 2) a) 34 (nL * 4 + 3) b)) := by
  refine hk_ofWP (by decide) (by simp [Value.category]) (Nat.le_of_ble_eq_true rfl) ?_
  show hk_WP _ _ _ _ _ _ _ [some (.ref 32), some (.int s), some (.int p), some (.int a), some (.int b), none] [] _ _
  refine hk_aload_n dX7_addLost_0 rfl rfl ?_
  refine gfX7_14 rfl dX7_addLost_1 (hk_lt (by decide)) rfl rfl ?_
  refine ivX7_21 rfl (ct_add tb33 (by omega) hN hN2) dX7_addLost_4 (hk_lt (by decide)) rfl rfl rfl (by decide) ⟨by decide, by decide⟩ (Nat.le_of_ble_eq_true rfl) (hk_kd ?_)
  refine hk_istore dX7_addLost_7 (by decide) rfl ?_
  refine hk_aload_n dX7_addLost_9 rfl rfl ?_
  refine gfX7_14 rfl dX7_addLost_10 (hk_lt (by decide)) rfl rfl ?_
  refine hk_iload dX7_addLost_13 rfl ?_
  refine hk_iconst (v := 0) dX7_addLost_15 (by decide) ?_
  refine hk_iload_n dX7_addLost_16 rfl rfl ?_
  refine ivX7_25 rfl (ct_seti tb33 (by omega : nL + 1 ≤ 60) (by simp [hk_w, upd]) rfl (Nat.lt_succ_self nL) (by decide) _) dX7_addLost_17 (hk_lt (by decide)) rfl rfl rfl (by decide) ⟨by decide, by decide⟩ (Nat.le_of_ble_eq_true rfl) (hk_kv ?_)
  refine hk_aload_n dX7_addLost_20 rfl rfl ?_
  refine gfX7_14 rfl dX7_addLost_21 (hk_lt (by decide)) rfl rfl ?_
  refine hk_iload dX7_addLost_24 rfl ?_
  refine hk_iconst (v := 1) dX7_addLost_26 (by decide) ?_
  refine hk_iload_n dX7_addLost_27 rfl rfl ?_
  refine ivX7_25 rfl (ct_seti tb33 (by omega : nL + 1 ≤ 60) (by simp [hk_w, upd]) rfl (Nat.lt_succ_self nL) (by decide) _) dX7_addLost_28 (hk_lt (by decide)) rfl rfl rfl (by decide) ⟨by decide, by decide⟩ (Nat.le_of_ble_eq_true rfl) (hk_kv ?_)
  refine hk_aload_n dX7_addLost_31 rfl rfl ?_
  refine gfX7_14 rfl dX7_addLost_32 (hk_lt (by decide)) rfl rfl ?_
  refine hk_iload dX7_addLost_35 rfl ?_
  refine hk_iconst (v := 2) dX7_addLost_37 (by decide) ?_
  refine hk_iload_n dX7_addLost_38 rfl rfl ?_
  refine ivX7_25 rfl (ct_seti tb33 (by omega : nL + 1 ≤ 60) (by simp [hk_w, upd]) rfl (Nat.lt_succ_self nL) (by decide) _) dX7_addLost_39 (hk_lt (by decide)) rfl rfl rfl (by decide) ⟨by decide, by decide⟩ (Nat.le_of_ble_eq_true rfl) (hk_kv ?_)
  refine hk_aload_n dX7_addLost_42 rfl rfl ?_
  refine gfX7_14 rfl dX7_addLost_43 (hk_lt (by decide)) rfl rfl ?_
  refine hk_iload dX7_addLost_46 rfl ?_
  refine hk_iconst (v := 3) dX7_addLost_48 (by decide) ?_
  refine hk_iload dX7_addLost_49 rfl ?_
  refine ivX7_25 rfl (ct_seti tb33 (by omega : nL + 1 ≤ 60) (by simp [hk_w, upd]) rfl (Nat.lt_succ_self nL) (by decide) _) dX7_addLost_51 (hk_lt (by decide)) rfl rfl rfl (by decide) ⟨by decide, by decide⟩ (Nat.le_of_ble_eq_true rfl) (hk_kv ?_)
  refine hk_iload dX7_addLost_54 rfl ?_
  exact hk_ireturn dX7_addLost_56 rfl rfl (by decide) ⟨rfl, rfl⟩
set_option maxRecDepth 20000 in
set_option maxHeartbeats 2000000 in
theorem ct_addLost_full (hN : m 33 3 = nI 60) (s p a b : Int32) : hk_Cd MX7_addLost 2 0 0 [.ref 32, .int s, .int p, .int a, .int b] (hk_h L m) (some (.int (-2))) (hk_h L m) := by
  refine hk_ofWP (by decide) (by simp [Value.category]) (Nat.le_of_ble_eq_true rfl) ?_
  show hk_WP _ _ _ _ _ _ _ [some (.ref 32), some (.int s), some (.int p), some (.int a), some (.int b), none] [] _ _
  refine hk_aload_n dX7_addLost_0 rfl rfl ?_
  refine gfX7_14 rfl dX7_addLost_1 (hk_lt (by decide)) rfl rfl ?_
  refine ivX7_21 rfl (ct_add_full tb33 (Nat.le_refl 60) hN rfl) dX7_addLost_4 (hk_lt (by decide)) rfl rfl rfl (by decide) ⟨by decide, by decide⟩ (Nat.le_of_ble_eq_true rfl) (hk_kd ?_)
  refine hk_istore dX7_addLost_7 (by decide) rfl ?_
  refine hk_aload_n dX7_addLost_9 rfl rfl ?_
  refine gfX7_14 rfl dX7_addLost_10 (hk_lt (by decide)) rfl rfl ?_
  refine hk_iload dX7_addLost_13 rfl ?_
  refine hk_iconst (v := 0) dX7_addLost_15 (by decide) ?_
  refine hk_iload_n dX7_addLost_16 rfl rfl ?_
  refine ivX7_25 rfl (ct_set_out tb33 (Nat.le_refl 60) hN (by decide) _ _) dX7_addLost_17 (hk_lt (by decide)) rfl rfl rfl (by decide) ⟨by decide, by decide⟩ (Nat.le_of_ble_eq_true rfl) (hk_kv ?_)
  refine hk_aload_n dX7_addLost_20 rfl rfl ?_
  refine gfX7_14 rfl dX7_addLost_21 (hk_lt (by decide)) rfl rfl ?_
  refine hk_iload dX7_addLost_24 rfl ?_
  refine hk_iconst (v := 1) dX7_addLost_26 (by decide) ?_
  refine hk_iload_n dX7_addLost_27 rfl rfl ?_
  refine ivX7_25 rfl (ct_set_out tb33 (Nat.le_refl 60) hN (by decide) _ _) dX7_addLost_28 (hk_lt (by decide)) rfl rfl rfl (by decide) ⟨by decide, by decide⟩ (Nat.le_of_ble_eq_true rfl) (hk_kv ?_)
  refine hk_aload_n dX7_addLost_31 rfl rfl ?_
  refine gfX7_14 rfl dX7_addLost_32 (hk_lt (by decide)) rfl rfl ?_
  refine hk_iload dX7_addLost_35 rfl ?_
  refine hk_iconst (v := 2) dX7_addLost_37 (by decide) ?_
  refine hk_iload_n dX7_addLost_38 rfl rfl ?_
  refine ivX7_25 rfl (ct_set_out tb33 (Nat.le_refl 60) hN (by decide) _ _) dX7_addLost_39 (hk_lt (by decide)) rfl rfl rfl (by decide) ⟨by decide, by decide⟩ (Nat.le_of_ble_eq_true rfl) (hk_kv ?_)
  refine hk_aload_n dX7_addLost_42 rfl rfl ?_
  refine gfX7_14 rfl dX7_addLost_43 (hk_lt (by decide)) rfl rfl ?_
  refine hk_iload dX7_addLost_46 rfl ?_
  refine hk_iconst (v := 3) dX7_addLost_48 (by decide) ?_
  refine hk_iload dX7_addLost_49 rfl ?_
  refine ivX7_25 rfl (ct_set_out tb33 (Nat.le_refl 60) hN (by decide) _ _) dX7_addLost_51 (hk_lt (by decide)) rfl rfl rfl (by decide) ⟨by decide, by decide⟩ (Nat.le_of_ble_eq_true rfl) (hk_kv ?_)
  refine hk_iload dX7_addLost_54 rfl ?_
  exact hk_ireturn dX7_addLost_56 rfl rfl (by decide) ⟨rfl, rfl⟩
set_option maxRecDepth 20000 in
set_option maxHeartbeats 2000000 in
theorem ct_addFound (hN : m 35 3 = nI nF) (hN2 : nF < 60) (s c u : Int32) : hk_Cd MX7_addFound 2 0 0 [.ref 32, .int s, .int c, .int u] (hk_h L m) (some (.int (nI nF))) (hk_h L (hk_w (hk_w (hk_w (hk_w m 35 3 (nI (nF + 1))) 36 (nF * 3 + 0) s) 36 (nF * 3 + 1) c) 36 (nF * 3 + 2) u)) := by
  refine hk_ofWP (by decide) (by simp [Value.category]) (Nat.le_of_ble_eq_true rfl) ?_
  show hk_WP _ _ _ _ _ _ _ [some (.ref 32), some (.int s), some (.int c), some (.int u), none] [] _ _
  refine hk_aload_n dX7_addFound_0 rfl rfl ?_
  refine gfX7_18 rfl dX7_addFound_1 (hk_lt (by decide)) rfl rfl ?_
  refine ivX7_21 rfl (ct_add tb35 (by omega) hN hN2) dX7_addFound_4 (hk_lt (by decide)) rfl rfl rfl (by decide) ⟨by decide, by decide⟩ (Nat.le_of_ble_eq_true rfl) (hk_kd ?_)
  refine hk_istore dX7_addFound_7 (by decide) rfl ?_
  refine hk_aload_n dX7_addFound_9 rfl rfl ?_
  refine gfX7_18 rfl dX7_addFound_10 (hk_lt (by decide)) rfl rfl ?_
  refine hk_iload dX7_addFound_13 rfl ?_
  refine hk_iconst (v := 0) dX7_addFound_15 (by decide) ?_
  refine hk_iload_n dX7_addFound_16 rfl rfl ?_
  refine ivX7_25 rfl (ct_seti tb35 (by omega : nF + 1 ≤ 60) (by simp [hk_w, upd]) rfl (Nat.lt_succ_self nF) (by decide) _) dX7_addFound_17 (hk_lt (by decide)) rfl rfl rfl (by decide) ⟨by decide, by decide⟩ (Nat.le_of_ble_eq_true rfl) (hk_kv ?_)
  refine hk_aload_n dX7_addFound_20 rfl rfl ?_
  refine gfX7_18 rfl dX7_addFound_21 (hk_lt (by decide)) rfl rfl ?_
  refine hk_iload dX7_addFound_24 rfl ?_
  refine hk_iconst (v := 1) dX7_addFound_26 (by decide) ?_
  refine hk_iload_n dX7_addFound_27 rfl rfl ?_
  refine ivX7_25 rfl (ct_seti tb35 (by omega : nF + 1 ≤ 60) (by simp [hk_w, upd]) rfl (Nat.lt_succ_self nF) (by decide) _) dX7_addFound_28 (hk_lt (by decide)) rfl rfl rfl (by decide) ⟨by decide, by decide⟩ (Nat.le_of_ble_eq_true rfl) (hk_kv ?_)
  refine hk_aload_n dX7_addFound_31 rfl rfl ?_
  refine gfX7_18 rfl dX7_addFound_32 (hk_lt (by decide)) rfl rfl ?_
  refine hk_iload dX7_addFound_35 rfl ?_
  refine hk_iconst (v := 2) dX7_addFound_37 (by decide) ?_
  refine hk_iload_n dX7_addFound_38 rfl rfl ?_
  refine ivX7_25 rfl (ct_seti tb35 (by omega : nF + 1 ≤ 60) (by simp [hk_w, upd]) rfl (Nat.lt_succ_self nF) (by decide) _) dX7_addFound_39 (hk_lt (by decide)) rfl rfl rfl (by decide) ⟨by decide, by decide⟩ (Nat.le_of_ble_eq_true rfl) (hk_kv ?_)
  refine hk_iload dX7_addFound_42 rfl ?_
  exact hk_ireturn dX7_addFound_44 rfl rfl (by decide) ⟨rfl, rfl⟩
set_option maxRecDepth 20000 in
set_option maxHeartbeats 2000000 in
theorem ct_addFound_full (hN : m 35 3 = nI 60) (s c u : Int32) : hk_Cd MX7_addFound 2 0 0 [.ref 32, .int s, .int c, .int u] (hk_h L m) (some (.int (-2))) (hk_h L m) := by
  refine hk_ofWP (by decide) (by simp [Value.category]) (Nat.le_of_ble_eq_true rfl) ?_
  show hk_WP _ _ _ _ _ _ _ [some (.ref 32), some (.int s), some (.int c), some (.int u), none] [] _ _
  refine hk_aload_n dX7_addFound_0 rfl rfl ?_
  refine gfX7_18 rfl dX7_addFound_1 (hk_lt (by decide)) rfl rfl ?_
  refine ivX7_21 rfl (ct_add_full tb35 (Nat.le_refl 60) hN rfl) dX7_addFound_4 (hk_lt (by decide)) rfl rfl rfl (by decide) ⟨by decide, by decide⟩ (Nat.le_of_ble_eq_true rfl) (hk_kd ?_)
  refine hk_istore dX7_addFound_7 (by decide) rfl ?_
  refine hk_aload_n dX7_addFound_9 rfl rfl ?_
  refine gfX7_18 rfl dX7_addFound_10 (hk_lt (by decide)) rfl rfl ?_
  refine hk_iload dX7_addFound_13 rfl ?_
  refine hk_iconst (v := 0) dX7_addFound_15 (by decide) ?_
  refine hk_iload_n dX7_addFound_16 rfl rfl ?_
  refine ivX7_25 rfl (ct_set_out tb35 (Nat.le_refl 60) hN (by decide) _ _) dX7_addFound_17 (hk_lt (by decide)) rfl rfl rfl (by decide) ⟨by decide, by decide⟩ (Nat.le_of_ble_eq_true rfl) (hk_kv ?_)
  refine hk_aload_n dX7_addFound_20 rfl rfl ?_
  refine gfX7_18 rfl dX7_addFound_21 (hk_lt (by decide)) rfl rfl ?_
  refine hk_iload dX7_addFound_24 rfl ?_
  refine hk_iconst (v := 1) dX7_addFound_26 (by decide) ?_
  refine hk_iload_n dX7_addFound_27 rfl rfl ?_
  refine ivX7_25 rfl (ct_set_out tb35 (Nat.le_refl 60) hN (by decide) _ _) dX7_addFound_28 (hk_lt (by decide)) rfl rfl rfl (by decide) ⟨by decide, by decide⟩ (Nat.le_of_ble_eq_true rfl) (hk_kv ?_)
  refine hk_aload_n dX7_addFound_31 rfl rfl ?_
  refine gfX7_18 rfl dX7_addFound_32 (hk_lt (by decide)) rfl rfl ?_
  refine hk_iload dX7_addFound_35 rfl ?_
  refine hk_iconst (v := 2) dX7_addFound_37 (by decide) ?_
  refine hk_iload_n dX7_addFound_38 rfl rfl ?_
  refine ivX7_25 rfl (ct_set_out tb35 (Nat.le_refl 60) hN (by decide) _ _) dX7_addFound_39 (hk_lt (by decide)) rfl rfl rfl (by decide) ⟨by decide, by decide⟩ (Nat.le_of_ble_eq_true rfl) (hk_kv ?_)
  refine hk_iload dX7_addFound_42 rfl ?_
  exact hk_ireturn dX7_addFound_44 rfl rfl (by decide) ⟨rfl, rfl⟩
/-- Java's remainder -/
abbrev rm (x y : Int32) : Int32 := x - x / y * y
/-- the known digits of a told plate are those of a plate -/
def fp : Nat → Int32 → Int32 → Prop
  | 0, _, _ => True
  | n + 1, k, v => (rm k 11 = 10 ∨ rm k 11 = rm v 10) ∧ fp n (k / 11) (v / 10)
set_option maxRecDepth 20000 in
set_option maxHeartbeats 2000000 in
theorem lp_isPlate (u v k w : Int32) (l5 : Option Value) (i : Nat) (hi : i ≤ 4) : hk_WP MX7_isPlate 0 0 0 0 0 7 [some (.int u), some (.int v), some (.int k), some (.int w), some (.int (nI i)), l5] [] (hk_h L m) (fun r h' => r = some (.int (bI (fp (4 - i) k w))) ∧ h' = hk_h L m) := by
  refine hk_iload dX7_isPlate_7 rfl ?_
  refine hk_iconst (v := 4) dX7_isPlate_9 (by decide) ?_
  refine hk_icmp_ge (tgt := 53) dX7_isPlate_10 (by decide) (fun c10 => ?_) (fun c10 => ?_)
  · rw [show (4 : Int32) = nI 4 from rfl, nI_leI (by omega) (by omega)] at c10
    refine hk_iconst (v := 1) dX7_isPlate_53 (by decide) ?_
    exact hk_ireturn dX7_isPlate_54 rfl rfl (by decide) ⟨bI_r1 (by rw [show 4 - i = 0 by omega]; trivial), rfl⟩
  · rw [show (4 : Int32) = nI 4 from rfl, nI_leI (by omega) (by omega)] at c10
    refine hk_iload_n dX7_isPlate_13 rfl rfl ?_
    refine hk_bipush (v := 11) dX7_isPlate_14 (by decide) ?_
    refine hk_irem dX7_isPlate_16 (by decide) ?_
    refine hk_istore dX7_isPlate_17 (by decide) rfl ?_
    refine hk_iload dX7_isPlate_19 rfl ?_
    refine hk_bipush (v := 10) dX7_isPlate_21 (by decide) ?_
    refine hk_icmp_eq (tgt := 37) dX7_isPlate_23 (by decide) (fun c23 => ?_) (fun c23 => ?_)
    · refine hk_iload_n dX7_isPlate_37 rfl rfl ?_
      refine hk_bipush (v := 11) dX7_isPlate_38 (by decide) ?_
      refine hk_idiv dX7_isPlate_40 (by decide) ?_
      refine hk_istore_n dX7_isPlate_41 rfl (by decide) rfl ?_
      refine hk_iload_n dX7_isPlate_42 rfl rfl ?_
      refine hk_bipush (v := 10) dX7_isPlate_43 (by decide) ?_
      refine hk_idiv dX7_isPlate_45 (by decide) ?_
      refine hk_istore_n dX7_isPlate_46 rfl (by decide) rfl ?_
      refine hk_iinc (v := nI (i + 1)) dX7_isPlate_47 rfl (nI_1 i) (by decide) rfl ?_
      refine hk_goto (tgt := 7) dX7_isPlate_50 (by decide) ?_
      have hlt : i < 4 := by omega
      have hs := lp_isPlate u v (k / 11) (w / 10) (some (.int (rm k 11))) (i + 1) (by omega)
      rw [show bI (fp (4 - i) k w) = bI (fp (4 - (i + 1)) (k / 11) (w / 10)) from bI_c (by rw [show 4 - i = (4 - (i + 1)) + 1 by omega]; exact ⟨fun q => q.2, fun q => ⟨by first | exact Or.inl c23 | exact Or.inr c32, q⟩⟩)]
      exact hs
    · refine hk_iload dX7_isPlate_26 rfl ?_
      refine hk_iload_n dX7_isPlate_28 rfl rfl ?_
      refine hk_bipush (v := 10) dX7_isPlate_29 (by decide) ?_
      refine hk_irem dX7_isPlate_31 (by decide) ?_
      refine hk_icmp_eq (tgt := 37) dX7_isPlate_32 (by decide) (fun c32 => ?_) (fun c32 => ?_)
      · refine hk_iload_n dX7_isPlate_37 rfl rfl ?_
        refine hk_bipush (v := 11) dX7_isPlate_38 (by decide) ?_
        refine hk_idiv dX7_isPlate_40 (by decide) ?_
        refine hk_istore_n dX7_isPlate_41 rfl (by decide) rfl ?_
        refine hk_iload_n dX7_isPlate_42 rfl rfl ?_
        refine hk_bipush (v := 10) dX7_isPlate_43 (by decide) ?_
        refine hk_idiv dX7_isPlate_45 (by decide) ?_
        refine hk_istore_n dX7_isPlate_46 rfl (by decide) rfl ?_
        refine hk_iinc (v := nI (i + 1)) dX7_isPlate_47 rfl (nI_1 i) (by decide) rfl ?_
        refine hk_goto (tgt := 7) dX7_isPlate_50 (by decide) ?_
        have hlt : i < 4 := by omega
        have hs := lp_isPlate u v (k / 11) (w / 10) (some (.int (rm k 11))) (i + 1) (by omega)
        rw [show bI (fp (4 - i) k w) = bI (fp (4 - (i + 1)) (k / 11) (w / 10)) from bI_c (by rw [show 4 - i = (4 - (i + 1)) + 1 by omega]; exact ⟨fun q => q.2, fun q => ⟨by first | exact Or.inl c23 | exact Or.inr c32, q⟩⟩)]
        exact hs
      · refine hk_iconst (v := 0) dX7_isPlate_35 (by decide) ?_
        exact hk_ireturn dX7_isPlate_36 rfl rfl (by decide) ⟨bI_r0 (by rw [show 4 - i = (4 - (i + 1)) + 1 by omega]; exact fun q => q.1.elim c23 c32), rfl⟩
termination_by 4 - i
decreasing_by all_goals omega
set_option maxRecDepth 20000 in
set_option maxHeartbeats 2000000 in
theorem ct_isPlate (k v : Int32) : hk_Cd MX7_isPlate 0 0 0 [.int k, .int v] (hk_h L m) (some (.int (bI (fp 4 k v)))) (hk_h L m) := by
  refine hk_ofWP (by decide) (by simp [Value.category]) (Nat.le_of_ble_eq_true rfl) ?_
  show hk_WP _ _ _ _ _ _ _ [some (.int k), some (.int v), none, none, none, none] [] _ _
  refine hk_iload_n dX7_isPlate_0 rfl rfl ?_
  refine hk_istore_n dX7_isPlate_1 rfl (by decide) rfl ?_
  refine hk_iload_n dX7_isPlate_2 rfl rfl ?_
  refine hk_istore_n dX7_isPlate_3 rfl (by decide) rfl ?_
  refine hk_iconst (v := 0) dX7_isPlate_4 (by decide) ?_
  refine hk_istore dX7_isPlate_5 (by decide) rfl ?_
  exact lp_isPlate k v k v _ 0 (by omega)
end TR
