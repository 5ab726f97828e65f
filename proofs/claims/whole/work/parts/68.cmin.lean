/-! minutes: the class's -/
section COy
variable {L nC nS nK nD : Nat} {m m0 m1 m2 ms : Nat → Nat → Int32} {z : Nat → Nat}
theorem mm_cl (y : Int32) : (if 0 < (if y < 1000 then y else 1000) then (if y < 1000 then y else 1000) else 0) = cl y := by
  unfold cl
  by_cases h0 : y < 0
  · have h1 : y < 1000 := Int32.lt_trans h0 (by decide)
    have h2 : ¬ 0 < y := fun h => Int32.lt_irrefl (Int32.lt_trans h0 h)
    rw [if_pos h1, if_neg h2, if_pos h0]
  · rw [if_neg h0]
    by_cases h1 : y < 1000
    · rw [if_pos h1, if_pos (Int32.le_of_lt h1)]
      by_cases h2 : 0 < y
      · rw [if_pos h2]
      · rw [if_neg h2]
        exact Int32.le_antisymm (Int32.not_lt.mp h0) (Int32.not_lt.mp h2)
    · rw [if_neg h1, if_pos (show (0 : Int32) < 1000 by decide)]
      by_cases h2 : y ≤ 1000
      · rw [if_pos h2]; exact Int32.le_antisymm (Int32.not_lt.mp h1) h2
      · rw [if_neg h2]
theorem NAP_n {v i e : Nat} {o : Option Nat} (h : NAP m v i o e) (hn : ¬ mvg m i) : NAP m v (i + 1) o e := by
  obtain ⟨h1, h2, h3⟩ := h
  refine ⟨fun x hx hm => ?_, h2, fun c hc => ?_⟩
  · have hxi : x ≠ i := fun q => hn (q ▸ hm)
    exact h1 x (by omega) hm
  · obtain ⟨k1, k2⟩ := h3 c hc
    exact ⟨by omega, k2⟩
theorem NAP_k {v i e a : Nat} {o : Option Nat} (h : NAP m v i o e) (ea : m 10 (i * 8 + 3) = nI a) (ha : a < 1000000) (hle : e ≤ a) : NAP m v (i + 1) o e := by
  obtain ⟨h1, h2, h3⟩ := h
  refine ⟨fun x hx hm b hb eb => ?_, h2, fun c hc => ?_⟩
  · by_cases hxi : x = i
    · subst hxi
      rw [ea, nI_eq (by omega) (by omega)] at eb
      subst eb
      refine ⟨hle, fun c hc hx2 => ?_⟩
      have := (h3 c hc).1
      omega
    · exact h1 x (by omega) hm b hb eb
  · obtain ⟨k1, k2⟩ := h3 c hc
    exact ⟨by omega, k2⟩
theorem NAP_t {v i e a : Nat} {o : Option Nat} (h : NAP m v i o e) (hm : mvg m i) (ea : m 10 (i * 8 + 3) = nI a) (ha : a < 1000000) (hlt : a < e) (he : e ≤ v + 1) : NAP m v (i + 1) (some i) a := by
  obtain ⟨h1, h2, h3⟩ := h
  refine ⟨fun x hx hm b hb eb => ?_, (fun q => nomatch q), fun c hc => ?_⟩
  · by_cases hxi : x = i
    · subst hxi
      rw [ea, nI_eq (by omega) (by omega)] at eb
      subst eb
      refine ⟨Nat.le_refl _, fun c hc hx2 => ?_⟩
      cases hc
      omega
    · have := (h1 x (by omega) hm b hb eb).1
      exact ⟨by omega, fun _ _ _ => by omega⟩
  · cases hc
    exact ⟨by omega, hm, ea, by omega⟩
theorem NAP_e {v i e : Nat} {o : Option Nat} (h : NAP m v i o e) : e ≤ v + 1 := by
  cases o with
  | none => exact Nat.le_of_eq (h.2.1 rfl)
  | some c => have := (h.2.2 c rfl).2.2.2; omega
set_option maxRecDepth 20000 in
set_option maxHeartbeats 2000000 in
theorem ct_gainOf (x : Int32) : hk_Cd MX2_gainOf 0 0 0 [.int x] (hk_h L m) (some (.int (gn x))) (hk_h L m) := by
  refine hk_ofWP (by decide) (by simp [Value.category]) (Nat.le_of_ble_eq_true rfl) ?_
  show hk_WP _ _ _ _ _ _ _ [some (.int x)] [] _ _
  refine hk_iload_n dX2_gainOf_0 rfl rfl ?_
  by_cases e0 : x = 0
  · subst e0
    refine hk_tableIn (tgt := 32) dX2_gainOf_1 (by decide) (by decide) rfl (by decide) ?_
    refine hk_iconst (v := 2) dX2_gainOf_32 (by decide) ?_
    exact hk_ireturn dX2_gainOf_33 rfl rfl (by decide) ⟨by first | rfl | (unfold gn; rw [if_neg e0, if_neg e2, if_neg e3]), rfl⟩
  by_cases e1 : x = 1
  · subst e1
    refine hk_tableIn (tgt := 39) dX2_gainOf_1 (by decide) (by decide) rfl (by decide) ?_
    refine hk_iconst (v := 0) dX2_gainOf_39 (by decide) ?_
    exact hk_ireturn dX2_gainOf_40 rfl rfl (by decide) ⟨by first | rfl | (unfold gn; rw [if_neg e0, if_neg e2, if_neg e3]), rfl⟩
  by_cases e2 : x = 2
  · subst e2
    refine hk_tableIn (tgt := 34) dX2_gainOf_1 (by decide) (by decide) rfl (by decide) ?_
    refine hk_iconst (v := (-1)) dX2_gainOf_34 (by decide) ?_
    exact hk_ireturn dX2_gainOf_35 rfl rfl (by decide) ⟨by first | rfl | (unfold gn; rw [if_neg e0, if_neg e2, if_neg e3]), rfl⟩
  by_cases e3 : x = 3
  · subst e3
    refine hk_tableIn (tgt := 36) dX2_gainOf_1 (by decide) (by decide) rfl (by decide) ?_
    refine hk_bipush (v := (-3)) dX2_gainOf_36 (by decide) ?_
    exact hk_ireturn dX2_gainOf_38 rfl rfl (by decide) ⟨by first | rfl | (unfold gn; rw [if_neg e0, if_neg e2, if_neg e3]), rfl⟩
  refine hk_tableOut (tgt := 39) dX2_gainOf_1 (hk_out0_3 e0 e1 e2 e3) (by decide) ?_
  refine hk_iconst (v := 0) dX2_gainOf_39 (by decide) ?_
  exact hk_ireturn dX2_gainOf_40 rfl rfl (by decide) ⟨by first | rfl | (unfold gn; rw [if_neg e0, if_neg e2, if_neg e3]), rfl⟩
set_option maxRecDepth 20000 in
set_option maxHeartbeats 2000000 in
theorem lp_nta (hK : m 9 3 = nI nK) (hK30 : nK ≤ 30) (hW : WC nK nD m) {v : Nat} (hv : v < 1000000) (i : Nat) (hi : i ≤ nK) : ∀ (o : Option Nat) (e : Nat) (l5 : Option Value), NAP m v i o e → hk_WP MX2_nextToArrive 2 0 0 0 0 9 [some (.ref 8), some (.int (nI v)), some (.int (fo (-1) o)), some (.int (nI e)), some (.int (nI i)), l5] [] (hk_h L m) (fun r h => ∃ o e, r = some (.int (fo (-1) o)) ∧ h = hk_h L m ∧ NAP m v nK o e) := by
  intro o e l5 hN
  have he := NAP_e hN
  refine hk_iload dX2_nextToArrive_9 rfl ?_
  refine hk_aload_n dX2_nextToArrive_11 rfl rfl ?_
  refine gfX2_16 rfl dX2_nextToArrive_12 (hk_lt (by decide)) rfl rfl ?_
  refine gfX2_26 rfl dX2_nextToArrive_15 (hk_lt (by decide)) rfl rfl ?_
  refine hk_icmp_ge (tgt := 60) dX2_nextToArrive_18 (by decide) (fun c18 => ?_) (fun c18 => ?_)
  · rw [hK, nI_leI (by omega) (by omega)] at c18
    refine hk_iload_n dX2_nextToArrive_60 rfl rfl ?_
    exact hk_ireturn dX2_nextToArrive_61 rfl rfl (by decide) ⟨o, e, rfl, rfl, by rw [show nK = i by omega]; exact hN⟩
  · rw [hK, nI_leI (by omega) (by omega)] at c18
    have hlt : i < nK := by omega
    have ih := lp_nta hK hK30 hW hv (i + 1) hlt
    refine hk_aload_n dX2_nextToArrive_21 rfl rfl ?_
    refine gfX2_16 rfl dX2_nextToArrive_22 (hk_lt (by decide)) rfl rfl ?_
    refine hk_iload dX2_nextToArrive_25 rfl ?_
    refine hk_iconst (v := 3) dX2_nextToArrive_27 (by decide) ?_
    refine ivX2_30 rfl (ct_geti tb9 hK30 hK rfl hlt (j := 3) (by decide)) dX2_nextToArrive_28 (hk_lt (by decide)) rfl rfl rfl (by decide) ⟨by decide, by decide⟩ (Nat.le_of_ble_eq_true rfl) (hk_kd ?_)
    refine hk_istore dX2_nextToArrive_31 (by decide) rfl ?_
    refine hk_aload_n dX2_nextToArrive_33 rfl rfl ?_
    refine hk_iload dX2_nextToArrive_34 rfl ?_
    refine ivX2_56 rfl (ct_isMoving hK hK30 hlt) dX2_nextToArrive_36 (hk_lt (by decide)) rfl rfl rfl (by decide) ⟨by decide, by decide⟩ (Nat.le_of_ble_eq_true rfl) (hk_kd ?_)
    refine hk_if_eq (tgt := 54) dX2_nextToArrive_39 (by decide) (fun c39 => ?_) (fun c39 => ?_)
    · rw [bI_0] at c39
      refine hk_iinc (v := nI (i + 1)) dX2_nextToArrive_54 rfl (nI_1 i) (by decide) rfl ?_
      refine hk_goto (tgt := 9) dX2_nextToArrive_57 (by decide) ?_
      first
      | exact ih o e _ (NAP_n hN c39)
      | exact ih o e _ (NAP_k hN ea ha c45)
      | exact ih (some i) a _ (NAP_t hN (Classical.not_not.mp c39) ea ha (Nat.lt_of_not_le c45) he)
    · rw [bI_0] at c39
      obtain ⟨a, ea, ha⟩ := (hW.1 i hlt).2.1 (Classical.not_not.mp c39)
      rw [ea]
      refine hk_iload dX2_nextToArrive_42 rfl ?_
      refine hk_iload_n dX2_nextToArrive_44 rfl rfl ?_
      refine hk_icmp_ge (tgt := 54) dX2_nextToArrive_45 (by decide) (fun c45 => ?_) (fun c45 => ?_)
      · rw [nI_leI (by omega) (by omega)] at c45
        refine hk_iinc (v := nI (i + 1)) dX2_nextToArrive_54 rfl (nI_1 i) (by decide) rfl ?_
        refine hk_goto (tgt := 9) dX2_nextToArrive_57 (by decide) ?_
        first
        | exact ih o e _ (NAP_n hN c39)
        | exact ih o e _ (NAP_k hN ea ha c45)
        | exact ih (some i) a _ (NAP_t hN (Classical.not_not.mp c39) ea ha (Nat.lt_of_not_le c45) he)
      · rw [nI_leI (by omega) (by omega)] at c45
        refine hk_iload dX2_nextToArrive_48 rfl ?_
        refine hk_istore_n dX2_nextToArrive_50 rfl (by decide) rfl ?_
        refine hk_iload dX2_nextToArrive_51 rfl ?_
        refine hk_istore_n dX2_nextToArrive_53 rfl (by decide) rfl ?_
        refine hk_iinc (v := nI (i + 1)) dX2_nextToArrive_54 rfl (nI_1 i) (by decide) rfl ?_
        refine hk_goto (tgt := 9) dX2_nextToArrive_57 (by decide) ?_
        first
        | exact ih o e _ (NAP_n hN c39)
        | exact ih o e _ (NAP_k hN ea ha c45)
        | exact ih (some i) a _ (NAP_t hN (Classical.not_not.mp c39) ea ha (Nat.lt_of_not_le c45) he)
termination_by nK - i
decreasing_by all_goals omega
set_option maxRecDepth 20000 in
set_option maxHeartbeats 2000000 in
theorem ct_nta (hK : m 9 3 = nI nK) (hK30 : nK ≤ 30) (hW : WC nK nD m) {v : Nat} (hv : v < 1000000) : hk_Ct MX2_nextToArrive 2 0 0 [.ref 8, .int (nI v)] (hk_h L m) (fun r h => ∃ o e, r = some (.int (fo (-1) o)) ∧ h = hk_h L m ∧ NAP m v nK o e) := by
  refine hk_ofWP (by decide) (by simp [Value.category]) (Nat.le_of_ble_eq_true rfl) ?_
  show hk_WP _ _ _ _ _ _ _ [some (.ref 8), some (.int (nI v)), none, none, none, none] [] _ _
  refine hk_iconst (v := (-1)) dX2_nextToArrive_0 (by decide) ?_
  refine hk_istore_n dX2_nextToArrive_1 rfl (by decide) rfl ?_
  refine hk_iload_n dX2_nextToArrive_2 rfl rfl ?_
  refine hk_iconst (v := 1) dX2_nextToArrive_3 (by decide) ?_
  refine hk_iadd dX2_nextToArrive_4 ?_
  rw [nI_1]
  refine hk_istore_n dX2_nextToArrive_5 rfl (by decide) rfl ?_
  refine hk_iconst (v := 0) dX2_nextToArrive_6 (by decide) ?_
  refine hk_istore dX2_nextToArrive_7 (by decide) rfl ?_
  exact lp_nta hK hK30 hW hv 0 (Nat.zero_le _) none _ _ NAP_0
set_option maxRecDepth 20000 in
set_option maxHeartbeats 2000000 in
theorem lp_spend (hK : m 9 3 = nI nK) (hK30 : nK ≤ 30) (hW : WC nK nD m) {d : Nat} (hd : d ≤ 2000) (i : Nat) (hi : i ≤ nK) : ∀ l3 : Option Value, hk_WP MX2_spend 1 0 0 0 0 2 [some (.ref 8), some (.int (nI d)), some (.int (nI i)), l3] [] (hk_h L (spK m d i)) (fun r h => r = none ∧ h = hk_h L (spK m d nK)) := by
  intro l3
  have hK2 : spK m d i 9 3 = nI nK := by rw [spK_ne (by decide)]; exact hK
  refine hk_iload_n dX2_spend_2 rfl rfl ?_
  refine hk_aload_n dX2_spend_3 rfl rfl ?_
  refine gfX2_16 rfl dX2_spend_4 (hk_lt (by decide)) rfl rfl ?_
  refine gfX2_26 rfl dX2_spend_7 (hk_lt (by decide)) rfl rfl ?_
  refine hk_icmp_ge (tgt := 64) dX2_spend_10 (by decide) (fun c10 => ?_) (fun c10 => ?_)
  · rw [hK2, nI_leI (by omega) (by omega)] at c10
    exact hk_return dX2_spend_64 rfl (by decide) ⟨rfl, by rw [show nK = i by omega]⟩
  · rw [hK2, nI_leI (by omega) (by omega)] at c10
    have hlt : i < nK := by omega
    obtain ⟨⟨st, est, hst⟩, _⟩ := hW.1 i hlt
    have ih := lp_spend hK hK30 hW hd (i + 1) hlt
    refine hk_aload_n dX2_spend_13 rfl rfl ?_
    refine gfX2_16 rfl dX2_spend_14 (hk_lt (by decide)) rfl rfl ?_
    refine hk_iload_n dX2_spend_17 rfl rfl ?_
    refine hk_iconst (v := 2) dX2_spend_18 (by decide) ?_
    refine ivX2_30 rfl (ct_geti tb9 hK30 hK2 rfl hlt (j := 2) (by decide)) dX2_spend_19 (hk_lt (by decide)) rfl rfl rfl (by decide) ⟨by decide, by decide⟩ (Nat.le_of_ble_eq_true rfl) (hk_kd ?_)
    rw [show spK m d i 10 (i * 8 + 2) = nI st by rw [← est]; exact if_neg (by omega)]
    refine hk_iload_n dX2_spend_22 rfl rfl ?_
    refine hk_aload_n dX2_spend_23 rfl rfl ?_
    refine gfX2_16 rfl dX2_spend_24 (hk_lt (by decide)) rfl rfl ?_
    refine hk_iload_n dX2_spend_27 rfl rfl ?_
    refine hk_iconst (v := 0) dX2_spend_28 (by decide) ?_
    refine ivX2_30 rfl (ct_geti tb9 hK30 hK2 rfl hlt (j := 0) (by decide)) dX2_spend_29 (hk_lt (by decide)) rfl rfl rfl (by decide) ⟨by decide, by decide⟩ (Nat.le_of_ble_eq_true rfl) (hk_kd ?_)
    rw [show spK m d i 10 (i * 8 + 0) = m 10 (i * 8) from spK_k (by decide) (by decide)]
    refine ivX2_59 rfl (ct_gainOf _) dX2_spend_32 rfl rfl (by decide) ⟨by decide, by decide⟩ (Nat.le_of_ble_eq_true rfl) (hk_kd ?_)
    refine hk_imul dX2_spend_35 ?_
    refine hk_iadd dX2_spend_36 ?_
    refine hk_istore_n dX2_spend_37 rfl (by decide) rfl ?_
    refine hk_aload_n dX2_spend_38 rfl rfl ?_
    refine gfX2_16 rfl dX2_spend_39 (hk_lt (by decide)) rfl rfl ?_
    refine hk_iload_n dX2_spend_42 rfl rfl ?_
    refine hk_iconst (v := 2) dX2_spend_43 (by decide) ?_
    refine hk_iconst (v := 0) dX2_spend_44 (by decide) ?_
    refine hk_sipush (v := 1000) dX2_spend_45 (by decide) ?_
    refine hk_iload_n dX2_spend_48 rfl rfl ?_
    refine hk_mmin ⟨hk_t 776 (by decide +kernel) rfl, hk_t 509 (by decide +kernel) rfl, hk_t 11 (by decide +kernel) rfl, hk_t 510 (by decide +kernel) rfl⟩ dX2_spend_49 (by decide) (Nat.le_of_ble_eq_true rfl) ⟨by decide, by decide⟩ ?_
    refine hk_mmax ⟨hk_t 777 (by decide +kernel) rfl, hk_t 503 (by decide +kernel) rfl, hk_t 11 (by decide +kernel) rfl, hk_t 504 (by decide +kernel) rfl⟩ dX2_spend_52 (by decide) (Nat.le_of_ble_eq_true rfl) ⟨by decide, by decide⟩ ?_
    rw [mm_cl, gk_cl hst hd]
    refine ivX2_38 rfl (ct_seti tb9 hK30 hK2 rfl hlt (j := 2) (by decide) _) dX2_spend_55 (hk_lt (by decide)) rfl rfl rfl (by decide) ⟨by decide, by decide⟩ (Nat.le_of_ble_eq_true rfl) (hk_kv ?_)
    rw [show gk (m 10 (i * 8)) d st = gk (m 10 (i * 8)) d (m 10 (i * 8 + 2)).toNatClampNeg by rw [est, nI_clamp (by omega)], spK_s]
    refine hk_iinc (v := nI (i + 1)) dX2_spend_58 rfl (nI_1 i) (by decide) rfl ?_
    refine hk_goto (tgt := 2) dX2_spend_61 (by decide) ?_
    exact ih _
termination_by nK - i
decreasing_by all_goals omega
set_option maxRecDepth 20000 in
set_option maxHeartbeats 2000000 in
theorem ct_spend (hK : m 9 3 = nI nK) (hK30 : nK ≤ 30) (hW : WC nK nD m) {d : Nat} (hd : d ≤ 2000) : hk_Cd MX2_spend 1 0 0 [.ref 8, .int (nI d)] (hk_h L m) none (hk_h L (spK m d nK)) := by
  refine hk_ofWP (by decide) (by simp [Value.category]) (Nat.le_of_ble_eq_true rfl) ?_
  show hk_WP _ _ _ _ _ _ _ [some (.ref 8), some (.int (nI d)), none, none] [] _ _
  refine hk_iconst (v := 0) dX2_spend_0 (by decide) ?_
  refine hk_istore_n dX2_spend_1 rfl (by decide) rfl ?_
  have hx := lp_spend (L := L) hK hK30 hW hd 0 (Nat.zero_le _) none
  rw [spK_0] at hx
  exact hx
set_option maxRecDepth 20000 in
set_option maxHeartbeats 2000000 in
theorem ct_passTo (hK : m 9 3 = nI nK) (hK30 : nK ≤ 30) (hW : WC nK nD m) {u v : Nat} (hu : m 0 0 = nI u) (huv : u ≤ v) (hd : v - u ≤ 2000) : hk_Cd MX9_passTo 2 0 0 [.ref 0, .int (nI v)] (hk_h L m) none (hk_h L (spC nK m (v - u) v)) := by
  refine hk_ofWP (by decide) (by simp [Value.category]) (Nat.le_of_ble_eq_true rfl) ?_
  show hk_WP _ _ _ _ _ _ _ [some (.ref 0), some (.int (nI v))] [] _ _
  refine hk_aload_n dX9_passTo_0 rfl rfl ?_
  refine gfX9_23 rfl dX9_passTo_1 (hk_lt (by decide)) rfl rfl ?_
  refine hk_iload_n dX9_passTo_4 rfl rfl ?_
  refine hk_aload_n dX9_passTo_5 rfl rfl ?_
  refine gfX9_7 rfl dX9_passTo_6 (hk_lt (by decide)) rfl rfl ?_
  refine hk_isub dX9_passTo_9 ?_
  rw [hu, nI_sub huv]
  refine ivX9_338 rfl (ct_spend hK hK30 hW hd) dX9_passTo_10 (hk_lt (by decide)) rfl rfl rfl (by decide) ⟨by decide, by decide⟩ (Nat.le_of_ble_eq_true rfl) (hk_kv ?_)
  refine hk_aload_n dX9_passTo_13 rfl rfl ?_
  refine hk_iload_n dX9_passTo_14 rfl rfl ?_
  refine pfX9_7 rfl dX9_passTo_15 (hk_lt (by decide)) rfl (Nat.le_of_ble_eq_true rfl) (hk_st (j := 0) rfl ?_)
  exact hk_return dX9_passTo_18 rfl (by decide) ⟨rfl, rfl⟩
theorem ct_arrive_m (hK : m 9 3 = nI nK) (hK30 : nK ≤ 30) (hD : m 13 3 = nI nD) (hD12 : nD ≤ 12) (hW : WC nK nD m) {c : Nat} (hc : c < nK) (hm : mvg m c) : hk_Cd MX2_arrive 4 0 0 [.ref 8, .int (nI c)] (hk_h L m) none (hk_h L (arCm m c)) := by
  unfold arCm
  by_cases h3 : m 10 (c * 8 + 0) = 3
  · rw [if_pos h3]; exact ct_arrive_3 hK hK30 hD hD12 hc h3
  rw [if_neg h3]
  by_cases h4 : m 10 (c * 8 + 4) < 0
  · rw [if_pos h4]; exact ct_arrive_0 hK hK30 hD hD12 hc h3 h4
  rw [if_neg h4]
  have hz : m 10 (c * 8) = 2 := hm.elim id (fun e => absurd e h3)
  rcases (hW.1 c hc).2.2 hz with e4 | ⟨s, hs, e4⟩
  · exact absurd (by rw [e4]; decide) h4
  have es : (m 10 (c * 8 + 4)).toNatClampNeg = s := by rw [e4, nI_clamp (by omega)]
  rw [es]
  obtain ⟨p, q, g1, g2, g3, g4⟩ := hW.2 s hs
  have eq : (m 14 (s * 13 + 2)).toNatClampNeg = q := by rw [g2, nI_clamp (by omega)]
  by_cases hf : m 14 (s * 13 + 2) = m 14 (s * 13 + 1)
  · rw [if_pos hf]
    rw [g1, g2, nI_eq (by omega) (by omega)] at hf
    exact ct_arrive_4 (s := s) (p := p) (q := q) hK hK30 hD hD12 hc h3 hs e4 g1 g2 g4 hf
  · rw [if_neg hf, eq]
    have hne : q ≠ p := fun e => hf (by rw [g1, g2, e])
    exact ct_arrive_1 (s := s) (p := p) (q := q) hK hK30 hD hD12 hc h3 hs e4 g1 g2 g4 (by omega)
/-- how many of the first n are on the move -/
noncomputable def mvn (m : Nat → Nat → Int32) : Nat → Nat
  | 0 => 0
  | n + 1 => mvn m n + @ite _ (mvg m n) (Classical.propDecidable _) 1 0
theorem mvn_y {n : Nat} (h : mvg m n) : mvn m (n + 1) = mvn m n + 1 := congrArg (mvn m n + ·) (if_pos h)
theorem mvn_n {n : Nat} (h : ¬ mvg m n) : mvn m (n + 1) = mvn m n := congrArg (mvn m n + ·) (if_neg h)
theorem mvn_le : ∀ {n : Nat}, mvn m n ≤ n
  | 0 => Nat.le_refl _
  | n + 1 => by
    have := mvn_le (n := n)
    by_cases h : mvg m n
    · rw [mvn_y h]; omega
    · rw [mvn_n h]; omega
theorem mvn_0 : ∀ {n : Nat}, mvn m n = 0 → ∀ x, x < n → ¬ mvg m x
  | 0, _, x, hx => absurd hx (Nat.not_lt_zero _)
  | n + 1, h, x, hx => by
    by_cases c : mvg m n
    · rw [mvn_y c] at h; omega
    · rw [mvn_n c] at h
      by_cases e : x = n
      · subst e; exact c
      · exact mvn_0 h x (by omega)
theorem mvn_c (e : ∀ x, mvg m1 x ↔ mvg m x) : ∀ {n : Nat}, mvn m1 n = mvn m n
  | 0 => rfl
  | n + 1 => by
    have ih := mvn_c e (n := n)
    by_cases c : mvg m n
    · rw [mvn_y c, mvn_y ((e n).mpr c), ih]
    · rw [mvn_n c, mvn_n (fun q => c ((e n).mp q)), ih]
theorem mvn_ar {c : Nat} (hm : mvg m c) : ∀ {n : Nat}, c < n → mvn (arCm m c) n + 1 = mvn m n
  | 0, h => absurd h (Nat.not_lt_zero _)
  | n + 1, h => by
    by_cases e : n = c
    · subst e
      rw [mvn_y hm, mvn_n ar_nm]
      have : ∀ {k : Nat}, k ≤ n → mvn (arCm m n) k = mvn m k := by
        intro k
        induction k with
        | zero => intro _; rfl
        | succ k ih =>
          intro hk
          have i2 := ih (by omega)
          have ne : k ≠ n := by omega
          by_cases q : mvg m k
          · rw [mvn_y q, mvn_y ((ar_mo ne).mpr q), i2]
          · rw [mvn_n q, mvn_n (fun x => q ((ar_mo ne).mp x)), i2]
      rw [this (Nat.le_refl _)]
    · have ih := mvn_ar hm (n := n) (by omega)
      by_cases q : mvg m n
      · rw [mvn_y q, mvn_y ((ar_mo e).mpr q)]; omega
      · rw [mvn_n q, mvn_n (fun x => q ((ar_mo e).mp x))]; exact ih
set_option maxRecDepth 20000 in
set_option maxHeartbeats 2000000 in
theorem lp_min (hK30 : nK ≤ 30) (hD12 : nD ≤ 12) {n0 : Int32} {v : Nat} (hv : v < 720000) (i : Nat) (hi : i ≤ nK) : ∀ (m1 : Nat → Nat → Int32) (u : Nat) (l4 : Option Value), m1 9 3 = nI nK → m1 13 3 = nI nD → WC nK nD m1 → m1 0 0 = nI u → u ≤ v → v - u ≤ 2000 → (∀ x, x < nK → mvg m1 x → ∀ a : Nat, a < 1000000 → m1 10 (x * 8 + 3) = nI a → u ≤ a) → mvn m1 nK + i ≤ nK → hk_WP MX9_minutes 5 0 0 0 0 34 [some (.ref 0), some (.int n0), some (.int (nI v)), some (.int (nI i)), l4] [] (hk_h L m1) (fun r h => r = some (.int (nI v)) ∧ h = hk_h L (tkF nK m1 u (v - u))) := by
  intro m1 u l4 hK hD hW hu huv hd hJ hc
  refine hk_iload_n dX9_minutes_34 rfl rfl ?_
  refine hk_aload_n dX9_minutes_35 rfl rfl ?_
  refine gfX9_23 rfl dX9_minutes_36 (hk_lt (by decide)) rfl rfl ?_
  refine gfX9_112 rfl dX9_minutes_39 (hk_lt (by decide)) rfl rfl ?_
  refine gfX9_136 rfl dX9_minutes_42 (hk_lt (by decide)) rfl rfl ?_
  refine hk_icmp_ge (tgt := 98) dX9_minutes_45 (by decide) (fun c45 => ?_) (fun c45 => ?_)
  · rw [hK, nI_leI (by omega) (by omega)] at c45
    have hz : mvn m1 nK = 0 := by omega
    have hN : NAP m1 (u + (v - u)) nK none (v + 1) := ⟨fun x hx hm => absurd hm (mvn_0 hz x hx), fun _ => by omega, fun c hc => by cases hc⟩
    refine hk_aload_n dX9_minutes_98 rfl rfl ?_
    refine hk_iload_n dX9_minutes_99 rfl rfl ?_
    refine ivX9_243 rfl (ct_passTo hK hK30 hW hu huv hd) dX9_minutes_100 (hk_lt (by decide)) rfl rfl rfl (by decide) ⟨by decide, by decide⟩ (Nat.le_of_ble_eq_true rfl) (hk_kv ?_)
    refine hk_aload_n dX9_minutes_103 rfl rfl ?_
    refine gfX9_7 rfl dX9_minutes_104 (hk_lt (by decide)) rfl rfl ?_
    exact hk_ireturn dX9_minutes_107 rfl rfl (by decide) ⟨by rw [show spC nK m1 (v - u) v 0 0 = nI v from hk_w_eq], by rw [tkF_none hW hu (by omega) hN, show u + (v - u) = v by omega]⟩
  · rw [hK, nI_leI (by omega) (by omega)] at c45
    have hlt : i < nK := by omega
    have ih := lp_min hK30 hD12 (n0 := n0) hv (i + 1) hlt
    refine hk_aload_n dX9_minutes_48 rfl rfl ?_
    refine gfX9_23 rfl dX9_minutes_49 (hk_lt (by decide)) rfl rfl ?_
    refine hk_iload_n dX9_minutes_52 rfl rfl ?_
    refine ivX9_240 rfl (ct_nta hK hK30 hW (by omega)) dX9_minutes_53 (hk_lt (by decide)) rfl rfl rfl (by decide) ⟨by decide, by decide⟩ (Nat.le_of_ble_eq_true rfl) (fun r h1 hq => ?_)
    obtain ⟨o, e, rfl, rfl, hN⟩ := hq
    have eduv : u + (v - u) = v := by omega
    cases o with
    | none =>
      rw [← eduv] at hN
      refine hk_istore dX9_minutes_56 (by decide) rfl ?_
      refine hk_iload dX9_minutes_58 rfl ?_
      refine hk_if_ge (tgt := 66) dX9_minutes_60 (by decide) (fun c60 => absurd c60 (by decide)) (fun _ => ?_)
      refine hk_goto (tgt := 98) dX9_minutes_63 (by decide) ?_
      refine hk_aload_n dX9_minutes_98 rfl rfl ?_
      refine hk_iload_n dX9_minutes_99 rfl rfl ?_
      refine ivX9_243 rfl (ct_passTo hK hK30 hW hu huv hd) dX9_minutes_100 (hk_lt (by decide)) rfl rfl rfl (by decide) ⟨by decide, by decide⟩ (Nat.le_of_ble_eq_true rfl) (hk_kv ?_)
      refine hk_aload_n dX9_minutes_103 rfl rfl ?_
      refine gfX9_7 rfl dX9_minutes_104 (hk_lt (by decide)) rfl rfl ?_
      exact hk_ireturn dX9_minutes_107 rfl rfl (by decide) ⟨by rw [show spC nK m1 (v - u) v 0 0 = nI v from hk_w_eq], by rw [tkF_none hW hu (by omega) hN, show u + (v - u) = v by omega]⟩
    | some c =>
      obtain ⟨n1, n2, n3⟩ := id hN
      obtain ⟨c1, c2, c3, c4⟩ := n3 c rfl
      have hua : u ≤ e := hJ c c1 c2 e (by omega) c3
      have hWs : WC nK nD (spC nK m1 (e - u) e) := WC_sp hW
      have hN2 : NAP m1 (u + (v - u)) nK (some c) e := by rw [eduv]; exact hN
      have hT := tkF_some hW hu (by omega) hN2 hua
      rw [eduv] at hT
      have hcnt : mvn (arCm (spC nK m1 (e - u) e) c) nK + 1 = mvn m1 nK := by rw [mvn_ar (spC_mv.mpr c2) c1, mvn_c (fun x => spC_mv)]
      refine hk_istore dX9_minutes_56 (by decide) rfl ?_
      refine hk_iload dX9_minutes_58 rfl ?_
      refine hk_if_ge (tgt := 66) dX9_minutes_60 (by decide) (fun _ => ?_) (fun c60 => absurd (Int32.not_lt.mp (nI_pos (by omega))) c60)
      refine hk_aload_n dX9_minutes_66 rfl rfl ?_
      refine hk_aload_n dX9_minutes_67 rfl rfl ?_
      refine gfX9_23 rfl dX9_minutes_68 (hk_lt (by decide)) rfl rfl ?_
      refine gfX9_112 rfl dX9_minutes_71 (hk_lt (by decide)) rfl rfl ?_
      refine hk_iload dX9_minutes_74 rfl ?_
      refine hk_iconst (v := 3) dX9_minutes_76 (by decide) ?_
      refine ivX9_124 rfl (ct_geti tb9 hK30 hK rfl c1 (j := 3) (by decide)) dX9_minutes_77 (hk_lt (by decide)) rfl rfl rfl (by decide) ⟨by decide, by decide⟩ (Nat.le_of_ble_eq_true rfl) (hk_kd ?_)
      rw [c3]
      refine ivX9_243 rfl (ct_passTo hK hK30 hW hu hua (by omega)) dX9_minutes_80 (hk_lt (by decide)) rfl rfl rfl (by decide) ⟨by decide, by decide⟩ (Nat.le_of_ble_eq_true rfl) (hk_kv ?_)
      refine hk_aload_n dX9_minutes_83 rfl rfl ?_
      refine gfX9_23 rfl dX9_minutes_84 (hk_lt (by decide)) rfl rfl ?_
      refine hk_iload dX9_minutes_87 rfl ?_
      refine ivX9_157 rfl (ct_arrive_m (by rw [spC_ne (by decide) (by decide)]; exact hK) hK30 (by rw [spC_ne (by decide) (by decide)]; exact hD) hD12 hWs c1 (spC_mv.mpr c2)) dX9_minutes_89 (hk_lt (by decide)) rfl rfl rfl (by decide) ⟨by decide, by decide⟩ (Nat.le_of_ble_eq_true rfl) (hk_kv ?_)
      refine hk_iinc (v := nI (i + 1)) dX9_minutes_92 rfl (nI_1 i) (by decide) rfl ?_
      refine hk_goto (tgt := 34) dX9_minutes_95 (by decide) ?_
      rw [hT]
      exact ih (arCm (spC nK m1 (e - u) e) c) e _ (by rw [ar_ne (by decide) (by decide), spC_ne (by decide) (by decide)]; exact hK) (by rw [ar_ne (by decide) (by decide), spC_ne (by decide) (by decide)]; exact hD) (WC_ar hD12 hWs c1 (spC_mv.mpr c2)) (by rw [ar_ne (by decide) (by decide)]; exact hk_w_eq) c4 (by omega) (fun x hx hm a ha ea => by
        by_cases hxc : x = c
        · subst hxc; exact absurd hm ar_nm
        · rw [ar_o hxc (by decide), spC_k (by decide) (by decide)] at ea
          exact (n1 x hx (spC_mv.mp ((ar_mo hxc).mp hm)) a ha ea).1) (by omega)
termination_by nK - i
decreasing_by all_goals omega
set_option maxRecDepth 20000 in
set_option maxHeartbeats 2000000 in
theorem ct_min_no {u : Nat} (hu : m 0 0 = nI u) {n : Int32} (hno : ¬ (¬ n < 1 ∧ ¬ 1440 < n ∧ nI u + n < 720000)) : hk_Cd MX9_minutes 5 0 0 [.ref 0, .int n] (hk_h L m) (some (.int (-1))) (hk_h L m) := by
  refine hk_ofWP (by decide) (by simp [Value.category]) (Nat.le_of_ble_eq_true rfl) ?_
  show hk_WP _ _ _ _ _ _ _ [some (.ref 0), some (.int n), none, none, none] [] _ _
  refine hk_iload_n dX9_minutes_0 rfl rfl ?_
  refine hk_iconst (v := 1) dX9_minutes_1 (by decide) ?_
  refine hk_icmp_lt (tgt := 23) dX9_minutes_2 (by decide) (fun c2 => ?_) (fun c2 => ?_)
  · refine hk_iconst (v := (-1)) dX9_minutes_23 (by decide) ?_
    exact hk_ireturn dX9_minutes_24 rfl rfl (by decide) ⟨rfl, rfl⟩
  · refine hk_iload_n dX9_minutes_5 rfl rfl ?_
    refine hk_sipush (v := 1440) dX9_minutes_6 (by decide) ?_
    refine hk_icmp_gt (tgt := 23) dX9_minutes_9 (by decide) (fun c9 => ?_) (fun c9 => ?_)
    · refine hk_iconst (v := (-1)) dX9_minutes_23 (by decide) ?_
      exact hk_ireturn dX9_minutes_24 rfl rfl (by decide) ⟨rfl, rfl⟩
    · refine hk_aload_n dX9_minutes_12 rfl rfl ?_
      refine gfX9_7 rfl dX9_minutes_13 (hk_lt (by decide)) rfl rfl ?_
      rw [hu]
      refine hk_iload_n dX9_minutes_16 rfl rfl ?_
      refine hk_iadd dX9_minutes_17 ?_
      refine hk_ldc dX9_minutes_18 hk_k9_76 ?_
      refine hk_icmp_lt (tgt := 25) dX9_minutes_20 (by decide) (fun c20 => ?_) (fun c20 => ?_)
      · exact absurd ⟨c2, c9, c20⟩ hno
      · refine hk_iconst (v := (-1)) dX9_minutes_23 (by decide) ?_
        exact hk_ireturn dX9_minutes_24 rfl rfl (by decide) ⟨rfl, rfl⟩
set_option maxRecDepth 20000 in
set_option maxHeartbeats 2000000 in
theorem ct_min (hK : m 9 3 = nI nK) (hK30 : nK ≤ 30) (hD : m 13 3 = nI nD) (hD12 : nD ≤ 12) (hW : WC nK nD m) {u d : Nat} (hu : m 0 0 = nI u) (hd1 : 1 ≤ d) (hd2 : d ≤ 1440) (hv : u + d < 720000) (hJ : ∀ x, x < nK → mvg m x → ∀ a : Nat, a < 1000000 → m 10 (x * 8 + 3) = nI a → u ≤ a) : hk_Cd MX9_minutes 5 0 0 [.ref 0, .int (nI d)] (hk_h L m) (some (.int (nI (u + d)))) (hk_h L (tkF nK m u d)) := by
  refine hk_ofWP (by decide) (by simp [Value.category]) (Nat.le_of_ble_eq_true rfl) ?_
  show hk_WP _ _ _ _ _ _ _ [some (.ref 0), some (.int (nI d)), none, none, none] [] _ _
  refine hk_iload_n dX9_minutes_0 rfl rfl ?_
  refine hk_iconst (v := 1) dX9_minutes_1 (by decide) ?_
  refine hk_icmp_lt (tgt := 23) dX9_minutes_2 (by decide) (fun c2 => absurd c2 (show ¬ nI d < nI 1 by rw [nI_ltI (by omega) (by decide)]; omega)) (fun _ => ?_)
  refine hk_iload_n dX9_minutes_5 rfl rfl ?_
  refine hk_sipush (v := 1440) dX9_minutes_6 (by decide) ?_
  refine hk_icmp_gt (tgt := 23) dX9_minutes_9 (by decide) (fun c9 => absurd c9 (show ¬ nI 1440 < nI d by rw [nI_ltI (by decide) (by omega)]; omega)) (fun _ => ?_)
  refine hk_aload_n dX9_minutes_12 rfl rfl ?_
  refine gfX9_7 rfl dX9_minutes_13 (hk_lt (by decide)) rfl rfl ?_
  rw [hu]
  refine hk_iload_n dX9_minutes_16 rfl rfl ?_
  refine hk_iadd dX9_minutes_17 ?_
  rw [nI_add]
  refine hk_ldc dX9_minutes_18 hk_k9_76 ?_
  refine hk_icmp_lt (tgt := 25) dX9_minutes_20 (by decide) (fun _ => ?_) (fun c20 => absurd (show nI (u + d) < nI 720000 by rw [nI_ltI (by omega) (by decide)]; exact hv) c20)
  refine hk_aload_n dX9_minutes_25 rfl rfl ?_
  refine gfX9_7 rfl dX9_minutes_26 (hk_lt (by decide)) rfl rfl ?_
  rw [hu]
  refine hk_iload_n dX9_minutes_29 rfl rfl ?_
  refine hk_iadd dX9_minutes_30 ?_
  rw [nI_add]
  refine hk_istore_n dX9_minutes_31 rfl (by decide) rfl ?_
  refine hk_iconst (v := 0) dX9_minutes_32 (by decide) ?_
  refine hk_istore_n dX9_minutes_33 rfl (by decide) rfl ?_
  have hx := lp_min (L := L) hK30 hD12 (n0 := nI d) hv 0 (Nat.zero_le _) m u none hK hD hW hu (by omega) (by omega) hJ (by have := mvn_le (m := m) (n := nK); omega)
  rw [show u + d - u = d by omega] at hx
  exact hx
end COy
