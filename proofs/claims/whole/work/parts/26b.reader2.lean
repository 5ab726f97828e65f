/-! THE READER, upper half -/
section RDy
variable {L : Nat} {m m0 m1 : Nat → Nat → Int32}
set_option maxRecDepth 20000 in
set_option maxHeartbeats 2000000 in
theorem lq_readC {k d : Nat} (hd : 7 ≤ d) (hF : RdX L MX5_readS d k (fun b n => pS b n (EO b n k))) {n o p p1 : Nat} (hn2 : n ≤ 160) {c1 : List Int32} {v1 : (Nat → Int32) → Int32} (hr : pS (m 17) n (EO (m 17) n k) p o = .inr (p1, c1, v1)) (s1 : RS m o c1 n p1 m1) (ho2 : o + c1.length ≤ p1) (hc : p1 < n ∧ isCmp (m 17 p1)) (hPB : PB n (pS (m 17) n (EO (m 17) n k))) : hk_WP MX5_readC (d + 1) 0 0 0 0 35 [some (.ref 16), some (.int (nI (12 - k))), some (.int (m 17 p1))] [] (hk_h L m1) (RP L m o n (pC (m 17) n (EO (m 17) n k) p o)) := by
  have s2 := s1.pl (p1 + 1)
  have e0 : hk_w m1 16 3 (nI (p1 + 1)) 17 = m 17 := s2.1.1 17 (by decide) (by decide)
  refine hk_aload_n dX5_readC_35 rfl rfl ?_
  refine hk_dup dX5_readC_36 rfl ?_
  refine gfX5_22 rfl dX5_readC_37 (hk_lt (by decide)) rfl rfl ?_
  refine hk_iconst (v := 1) dX5_readC_40 (by decide) ?_
  refine hk_iadd dX5_readC_41 ?_
  refine pfX5_22 rfl dX5_readC_42 (hk_lt (by decide)) rfl (Nat.le_of_ble_eq_true rfl) (hk_st (j := 3) rfl ?_)
  rw [show m1 16 3 + 1 = nI (p1 + 1) by rw [s1.1.2.2, nI_1]]
  refine hk_aload_n dX5_readC_45 rfl rfl ?_
  refine hk_iload_n dX5_readC_46 rfl rfl ?_
  refine ivX5_49 rfl (hF _ n (p1 + 1) (o + c1.length) s2.1.2.1 hn2 s2.1.2.2 hc.1 s2.2.1 (by omega)) dX5_readC_47 (hk_lt (by decide)) rfl rfl rfl (Nat.le_refl _) ⟨by decide, by decide⟩ (Nat.le_of_ble_eq_true rfl) (fun r h1 hq => ?_)
  rw [e0] at hq
  rcases hr2 : pS (m 17) n (EO (m 17) n k) (p1 + 1) (o + c1.length) with q | ⟨p2, c2, v2⟩
  · obtain ⟨m2, rfl, rfl, s3⟩ := RPi s2 hq hr2
    refine hk_if_ne (tgt := 55) dX5_readC_50 (by decide) (fun c50 => absurd (by decide) c50) (fun _ => ?_)
    refine hk_iconst (v := 0) dX5_readC_53 (by decide) ?_
    exact hk_ireturn dX5_readC_54 rfl rfl (by decide) (RPf (by unfold pC; simp only [hr]; rw [cI_t hc, hr2]) s3)
  · obtain ⟨m2, rfl, rfl, s3⟩ := RPj s2 rfl hq hr2
    have hB := hPB (p1 + 1) (o + c1.length) hc.1
    rw [hr2] at hB
    refine hk_if_ne (tgt := 55) dX5_readC_50 (by decide) (fun _ => ?_) (fun c50 => absurd c50 (by decide))
    refine hk_aload_n dX5_readC_55 rfl rfl ?_
    refine hk_iload_n dX5_readC_56 rfl rfl ?_
    refine hk_iconst (v := 0) dX5_readC_57 (by decide) ?_
    refine ivX5_41 rfl (rd_put s3 rfl (by simp only [List.length_append]; omega) (m 17 p1)) dX5_readC_58 (hk_lt (by decide)) rfl rfl rfl (by omega) ⟨by decide, by decide⟩ (Nat.le_of_ble_eq_true rfl) (hk_kd ?_)
    refine hk_pop dX5_readC_61 rfl ?_
    refine hk_iconst (v := 1) dX5_readC_62 (by decide) ?_
    exact hk_ireturn dX5_readC_63 rfl rfl (by decide) (RPc (by unfold pC; simp only [hr]; rw [cI_t hc, hr2]) (s3.put rfl))
set_option maxRecDepth 20000 in
set_option maxHeartbeats 2000000 in
theorem ct_readC {k d : Nat} (hd : 7 ≤ d) (hF : RdX L MX5_readS d k (fun b n => pS b n (EO b n k))) (hPB : ∀ b n, PB n (pS b n (EO b n k))) : RdX L MX5_readC (d + 1) k (fun b n => pC b n (EO b n k)) := by
  intro m n p o hn hn2 hp hp2 ho ho2
  have s0 : RS m o [] n p m := RS.refl hn hp ho
  replace hPB := hPB (m 17) n
  refine hk_ofWP (by decide) (by simp [Value.category]) (Nat.le_of_ble_eq_true rfl) ?_
  show hk_WP _ _ _ _ _ _ _ [some (.ref 16), some (.int (nI (12 - k))), none] [] _ _
  refine hk_aload_n dX5_readC_0 rfl rfl ?_
  refine hk_iload_n dX5_readC_1 rfl rfl ?_
  refine ivX5_49 rfl (hF m n p o hn hn2 hp hp2 ho ho2) dX5_readC_2 (hk_lt (by decide)) rfl rfl rfl (Nat.le_refl _) ⟨by decide, by decide⟩ (Nat.le_of_ble_eq_true rfl) (fun r h1 hq => ?_)
  rcases hr : pS (m 17) n (EO (m 17) n k) p o with q | ⟨p1, c1, v1⟩
  · obtain ⟨m1, rfl, rfl, s1⟩ := RPi s0 hq hr
    refine hk_if_ne (tgt := 10) dX5_readC_5 (by decide) (fun c5 => absurd (by decide) c5) (fun _ => ?_)
    refine hk_iconst (v := 0) dX5_readC_8 (by decide) ?_
    exact hk_ireturn dX5_readC_9 rfl rfl (by decide) (RPf (by show pC _ _ _ _ _ = _; unfold pC; simp only [hr]) s1)
  · obtain ⟨m1, rfl, rfl, s1⟩ := RPj s0 rfl hq hr
    have hB := hPB p o hp2
    rw [hr] at hB
    refine hk_if_ne (tgt := 10) dX5_readC_5 (by decide) (fun _ => ?_) (fun c5 => absurd c5 (by decide))
    refine hk_aload_n dX5_readC_10 rfl rfl ?_
    refine ivX5_37 rfl (rd_sign s1.1 hn2 hB.2.1) dX5_readC_11 (hk_lt (by decide)) rfl rfl rfl (by omega) ⟨by decide, by decide⟩ (Nat.le_of_ble_eq_true rfl) (hk_kd ?_)
    refine hk_istore_n dX5_readC_14 rfl (by decide) rfl ?_
    refine hk_iload_n dX5_readC_15 rfl rfl ?_
    refine hk_bipush (v := 60) dX5_readC_16 (by decide) ?_
    refine hk_icmp_eq (tgt := 35) dX5_readC_18 (by decide) (fun c18 => ?_) (fun c18 => ?_)
    · rw [s_at (by decide)] at c18
      have hc : p1 < n ∧ isCmp (m 17 p1) := by first | exact ⟨c18.1, Or.inl c18.2⟩ | exact ⟨c24.1, Or.inr (Or.inl c24.2)⟩ | exact ⟨c30.1, Or.inr (Or.inr c30.2)⟩
      rw [cI_t hc.1]
      exact lq_readC hd hF hn2 hr s1 (by omega) hc hPB
    · rw [s_at (by decide)] at c18
      refine hk_iload_n dX5_readC_21 rfl rfl ?_
      refine hk_bipush (v := 61) dX5_readC_22 (by decide) ?_
      refine hk_icmp_eq (tgt := 35) dX5_readC_24 (by decide) (fun c24 => ?_) (fun c24 => ?_)
      · rw [s_at (by decide)] at c24
        have hc : p1 < n ∧ isCmp (m 17 p1) := by first | exact ⟨c18.1, Or.inl c18.2⟩ | exact ⟨c24.1, Or.inr (Or.inl c24.2)⟩ | exact ⟨c30.1, Or.inr (Or.inr c30.2)⟩
        rw [cI_t hc.1]
        exact lq_readC hd hF hn2 hr s1 (by omega) hc hPB
      · rw [s_at (by decide)] at c24
        refine hk_iload_n dX5_readC_27 rfl rfl ?_
        refine hk_bipush (v := 62) dX5_readC_28 (by decide) ?_
        refine hk_icmp_eq (tgt := 35) dX5_readC_30 (by decide) (fun c30 => ?_) (fun c30 => ?_)
        · rw [s_at (by decide)] at c30
          have hc : p1 < n ∧ isCmp (m 17 p1) := by first | exact ⟨c18.1, Or.inl c18.2⟩ | exact ⟨c24.1, Or.inr (Or.inl c24.2)⟩ | exact ⟨c30.1, Or.inr (Or.inr c30.2)⟩
          rw [cI_t hc.1]
          exact lq_readC hd hF hn2 hr s1 (by omega) hc hPB
        · rw [s_at (by decide)] at c30
          refine hk_iconst (v := 1) dX5_readC_33 (by decide) ?_
          exact hk_ireturn dX5_readC_34 rfl rfl (by decide) (RPc (by show pC _ _ _ _ _ = _; unfold pC; simp only [hr]; exact cI_f (fun z => z.2.elim (fun w => c18 ⟨z.1, w⟩) (fun w => w.elim (fun w => c24 ⟨z.1, w⟩) (fun w => c30 ⟨z.1, w⟩)))) s1)
set_option maxRecDepth 20000 in
set_option maxHeartbeats 2000000 in
theorem ct_readE {d : Nat} (hd : 7 ≤ d) (hC : RdX L MX5_readC d 0 (fun b n => pC b n (EO b n 0))) (hPB : ∀ b n, PB n (pC b n (EO b n 0))) : RdX L MX5_readE (d + 1) 0 (fun b n => PE b n 0) := by
  intro m n p o hn hn2 hp hp2 ho ho2
  have s0 : RS m o [] n p m := RS.refl hn hp ho
  replace hPB := hPB (m 17) n
  refine hk_ofWP (by decide) (by simp [Value.category]) (Nat.le_of_ble_eq_true rfl) ?_
  show hk_WP _ _ _ _ _ _ _ [some (.ref 16), some (.int (nI (12 - 0))), none, none] [] _ _
  refine hk_aload_n dX5_readE_0 rfl rfl ?_
  refine hk_iload_n dX5_readE_1 rfl rfl ?_
  refine ivX5_34 rfl (hC m n p o hn hn2 hp hp2 ho ho2) dX5_readE_2 (hk_lt (by decide)) rfl rfl rfl (Nat.le_refl _) ⟨by decide, by decide⟩ (Nat.le_of_ble_eq_true rfl) (fun r h1 hq => ?_)
  rcases hr : pC (m 17) n (EO (m 17) n 0) p o with q | ⟨p1, c1, v1⟩
  · obtain ⟨m1, rfl, rfl, s1⟩ := RPi s0 hq hr
    refine hk_if_ne (tgt := 10) dX5_readE_5 (by decide) (fun c5 => absurd (by decide) c5) (fun _ => ?_)
    refine hk_iconst (v := 0) dX5_readE_8 (by decide) ?_
    exact hk_ireturn dX5_readE_9 rfl rfl (by decide) (RPf (by show pE _ _ none _ _ = _; unfold pE; rw [show pC (m 17) n none p o = .inl q from hr]) s1)
  · obtain ⟨m1, rfl, rfl, s1⟩ := RPj s0 rfl hq hr
    have hB := hPB p o hp2
    rw [hr] at hB
    refine hk_if_ne (tgt := 10) dX5_readE_5 (by decide) (fun _ => ?_) (fun c5 => absurd c5 (by decide))
    refine hk_aload_n dX5_readE_10 rfl rfl ?_
    refine ivX5_37 rfl (rd_sign s1.1 hn2 hB.2.1) dX5_readE_11 (hk_lt (by decide)) rfl rfl rfl (by omega) ⟨by decide, by decide⟩ (Nat.le_of_ble_eq_true rfl) (hk_kd ?_)
    refine hk_bipush (v := 63) dX5_readE_14 (by decide) ?_
    refine hk_icmp_eq (tgt := 21) dX5_readE_16 (by decide) (fun c16 => ?_) (fun c16 => ?_)
    · rw [s_at (by decide)] at c16
      refine hk_iload_n dX5_readE_21 rfl rfl ?_
      refine hk_bipush (v := 12) dX5_readE_22 (by decide) ?_
      refine hk_icmp_lt (tgt := 29) dX5_readE_24 (by decide) (fun c24 => absurd c24 (by decide)) (fun _ => ?_)
      refine hk_iconst (v := 0) dX5_readE_27 (by decide) ?_
      exact hk_ireturn dX5_readE_28 rfl rfl (by decide) (RPf (by show pE _ _ none _ _ = _; unfold pE; rw [show pC (m 17) n none p o = .inr (p1, c1, v1) from hr]; exact cI_t c16) s1.1)
    · rw [s_at (by decide)] at c16
      refine hk_iconst (v := 1) dX5_readE_19 (by decide) ?_
      exact hk_ireturn dX5_readE_20 rfl rfl (by decide) (RPc (by show pE _ _ none _ _ = _; unfold pE; rw [show pC (m 17) n none p o = .inr (p1, c1, v1) from hr]; exact cI_f c16) s1)
set_option maxRecDepth 20000 in
set_option maxHeartbeats 2000000 in
theorem ct_readES {k d e : Nat} (hk : k < 12) (hd : 7 ≤ d) (he : e ≤ d) (hE : RdX L MX5_readE e k (fun b n => PE b n k)) (hC : RdX L MX5_readC d (k + 1) (fun b n => pC b n (EO b n (k + 1)))) (hPB : ∀ b n, PB n (pC b n (EO b n (k + 1)))) : RdX L MX5_readE (d + 1) (k + 1) (fun b n => PE b n (k + 1)) := by
  intro m n p o hn hn2 hp hp2 ho ho2
  have s0 : RS m o [] n p m := RS.refl hn hp ho
  replace hPB := hPB (m 17) n
  refine hk_ofWP (by decide) (by simp [Value.category]) (Nat.le_of_ble_eq_true rfl) ?_
  show hk_WP _ _ _ _ _ _ _ [some (.ref 16), some (.int (nI (12 - (k + 1)))), none, none] [] _ _
  refine hk_aload_n dX5_readE_0 rfl rfl ?_
  refine hk_iload_n dX5_readE_1 rfl rfl ?_
  refine ivX5_34 rfl (hC m n p o hn hn2 hp hp2 ho ho2) dX5_readE_2 (hk_lt (by decide)) rfl rfl rfl (Nat.le_refl _) ⟨by decide, by decide⟩ (Nat.le_of_ble_eq_true rfl) (fun r h1 hq => ?_)
  rcases hr : pC (m 17) n (EO (m 17) n (k + 1)) p o with q | ⟨p1, c1, v1⟩
  · obtain ⟨m1, rfl, rfl, s1⟩ := RPi s0 hq hr
    refine hk_if_ne (tgt := 10) dX5_readE_5 (by decide) (fun c5 => absurd (by decide) c5) (fun _ => ?_)
    refine hk_iconst (v := 0) dX5_readE_8 (by decide) ?_
    exact hk_ireturn dX5_readE_9 rfl rfl (by decide) (RPf (by show pE _ _ (some _) _ _ = _; unfold pE; rw [show pC (m 17) n (some (PE (m 17) n k)) p o = .inl q from hr]) s1)
  · obtain ⟨m1, rfl, rfl, s1⟩ := RPj s0 rfl hq hr
    have hB := hPB p o hp2
    rw [hr] at hB
    refine hk_if_ne (tgt := 10) dX5_readE_5 (by decide) (fun _ => ?_) (fun c5 => absurd c5 (by decide))
    refine hk_aload_n dX5_readE_10 rfl rfl ?_
    refine ivX5_37 rfl (rd_sign s1.1 hn2 hB.2.1) dX5_readE_11 (hk_lt (by decide)) rfl rfl rfl (by omega) ⟨by decide, by decide⟩ (Nat.le_of_ble_eq_true rfl) (hk_kd ?_)
    refine hk_bipush (v := 63) dX5_readE_14 (by decide) ?_
    refine hk_icmp_eq (tgt := 21) dX5_readE_16 (by decide) (fun c16 => ?_) (fun c16 => ?_)
    · rw [s_at (by decide)] at c16
      refine hk_iload_n dX5_readE_21 rfl rfl ?_
      refine hk_bipush (v := 12) dX5_readE_22 (by decide) ?_
      refine hk_icmp_lt (tgt := 29) dX5_readE_24 (by decide) (fun _ => ?_) (fun c24 => absurd (by rw [show (12 : Int32) = nI 12 from rfl]; exact nI_lt (by omega) (by decide)) c24)
      refine hk_aload_n dX5_readE_29 rfl rfl ?_
      refine hk_dup dX5_readE_30 rfl ?_
      refine gfX5_22 rfl dX5_readE_31 (hk_lt (by decide)) rfl rfl ?_
      refine hk_iconst (v := 1) dX5_readE_34 (by decide) ?_
      refine hk_iadd dX5_readE_35 ?_
      refine pfX5_22 rfl dX5_readE_36 (hk_lt (by decide)) rfl (Nat.le_of_ble_eq_true rfl) (hk_st (j := 3) rfl ?_)
      rw [show m1 16 3 + 1 = nI (p1 + 1) by rw [s1.1.2.2, nI_1]]
      refine hk_aload_n dX5_readE_39 rfl rfl ?_
      refine hk_bipush (v := 63) dX5_readE_40 (by decide) ?_
      refine hk_iconst (v := 0) dX5_readE_42 (by decide) ?_
      refine ivX5_41 rfl (rd_put (e := o + c1.length) (s1.pl (p1 + 1)) rfl (by have := c16.1; omega) 63) dX5_readE_43 (hk_lt (by decide)) rfl rfl rfl (by omega) ⟨by decide, by decide⟩ (Nat.le_of_ble_eq_true rfl) (hk_kd ?_)
      have s2 := (s1.pl (p1 + 1)).put (x := 63) (e := o + c1.length) rfl
      have e1 := s2.1.1 17 (by decide) (by decide)
      refine hk_istore_n dX5_readE_46 rfl (by decide) rfl ?_
      refine hk_aload_n dX5_readE_47 rfl rfl ?_
      refine hk_iload_n dX5_readE_48 rfl rfl ?_
      refine hk_iconst (v := 1) dX5_readE_49 (by decide) ?_
      refine hk_iadd dX5_readE_50 ?_
      rw [show nI (12 - (k + 1)) + 1 = nI (12 - k) by rw [nI_1]; congr 1; omega]
      refine ivX5_28 rfl (hE _ n (p1 + 1) (o + c1.length + 1) s2.1.2.1 hn2 s2.1.2.2 c16.1 hk_w_eq (by omega)) dX5_readE_51 (hk_lt (by decide)) rfl rfl rfl (Nat.succ_le_succ he) ⟨by decide, by decide⟩ (Nat.le_of_ble_eq_true rfl) (fun r h1 hq => ?_)
      rw [e1] at hq
      rcases hr2 : PE (m 17) n k (p1 + 1) (o + c1.length + 1) with q | ⟨p2, c2, v2⟩
      · obtain ⟨m2, rfl, rfl, s3⟩ := RPi s2 hq hr2
        refine hk_if_eq (tgt := 66) dX5_readE_54 (by decide) (fun _ => ?_) (fun c54 => absurd (by decide) c54)
        refine hk_iconst (v := 0) dX5_readE_66 (by decide) ?_
        exact hk_ireturn dX5_readE_67 rfl rfl (by decide) (by first | exact RPf (by show pE _ _ (some _) _ _ = _; unfold pE; rw [show pC (m 17) n (some (PE (m 17) n k)) p o = .inr (p1, c1, v1) from hr]; simp only []; rw [cI_t c16, hr2]) s3 | exact RPf (by show pE _ _ (some _) _ _ = _; unfold pE; rw [show pC (m 17) n (some (PE (m 17) n k)) p o = .inr (p1, c1, v1) from hr]; simp only []; rw [cI_t c16, hr2]; exact cI_f c63) s3.1)
      · obtain ⟨m2, rfl, rfl, s3⟩ := RPj s2 (by simp [Nat.add_assoc]) hq hr2
        have hB2 := PB_PE (m 17) n k (p1 + 1) (o + c1.length + 1) c16.1
        rw [hr2] at hB2
        simp only at hB2
        refine hk_if_eq (tgt := 66) dX5_readE_54 (by decide) (fun c54 => absurd c54 (by decide)) (fun _ => ?_)
        refine hk_aload_n dX5_readE_57 rfl rfl ?_
        refine ivX5_37 rfl (rd_sign s3.1 hn2 hB2.2.1) dX5_readE_58 (hk_lt (by decide)) rfl rfl rfl (by omega) ⟨by decide, by decide⟩ (Nat.le_of_ble_eq_true rfl) (hk_kd ?_)
        refine hk_bipush (v := 58) dX5_readE_61 (by decide) ?_
        refine hk_icmp_eq (tgt := 68) dX5_readE_63 (by decide) (fun c63 => ?_) (fun c63 => ?_)
        · rw [s_at (by decide)] at c63
          refine hk_aload_n dX5_readE_68 rfl rfl ?_
          refine hk_dup dX5_readE_69 rfl ?_
          refine gfX5_22 rfl dX5_readE_70 (hk_lt (by decide)) rfl rfl ?_
          refine hk_iconst (v := 1) dX5_readE_73 (by decide) ?_
          refine hk_iadd dX5_readE_74 ?_
          refine pfX5_22 rfl dX5_readE_75 (hk_lt (by decide)) rfl (Nat.le_of_ble_eq_true rfl) (hk_st (j := 3) rfl ?_)
          rw [show m2 16 3 + 1 = nI (p2 + 1) by rw [s3.1.2.2, nI_1]]
          refine hk_aload_n dX5_readE_78 rfl rfl ?_
          refine hk_bipush (v := 58) dX5_readE_79 (by decide) ?_
          refine hk_iconst (v := 0) dX5_readE_81 (by decide) ?_
          refine ivX5_41 rfl (rd_put (e := o + c1.length + 1 + c2.length) (s3.pl (p2 + 1)) (by simp; omega) (by have := c63.1; omega) 58) dX5_readE_82 (hk_lt (by decide)) rfl rfl rfl (by omega) ⟨by decide, by decide⟩ (Nat.le_of_ble_eq_true rfl) (hk_kd ?_)
          have s4 := (s3.pl (p2 + 1)).put (x := 58) (e := o + c1.length + 1 + c2.length) (by simp; omega)
          refine hk_istore_n dX5_readE_85 rfl (by decide) rfl ?_
          refine hk_aload_n dX5_readE_86 rfl rfl ?_
          refine hk_iload_n dX5_readE_87 rfl rfl ?_
          refine ivX5_45 rfl (rd_aim (e := o + c1.length) (q := o + c1.length + 1 + c2.length + 1) s4 (by simp; omega) (by have := c63.1; omega)) dX5_readE_88 (hk_lt (by decide)) rfl rfl rfl (by omega) ⟨by decide, by decide⟩ (Nat.le_of_ble_eq_true rfl) (hk_kv ?_)
          have s5 := RS.aim (a := c1) (b := c2 ++ [58]) (x := 63) (y := 256 * nI (o + c1.length + 1 + c2.length + 1)) (e := o + c1.length) (s4.cg (by simp)) rfl
          have e2 := s5.1.1 17 (by decide) (by decide)
          refine hk_aload_n dX5_readE_91 rfl rfl ?_
          refine hk_iload_n dX5_readE_92 rfl rfl ?_
          refine hk_iconst (v := 1) dX5_readE_93 (by decide) ?_
          refine hk_iadd dX5_readE_94 ?_
          rw [show nI (12 - (k + 1)) + 1 = nI (12 - k) by rw [nI_1]; congr 1; omega]
          refine ivX5_28 rfl (hE _ n (p2 + 1) (o + c1.length + 1 + c2.length + 1) s5.1.2.1 hn2 s5.1.2.2 c63.1 (by rw [s5.2.1]; congr 1; simp; omega) (by omega)) dX5_readE_95 (hk_lt (by decide)) rfl rfl rfl (Nat.succ_le_succ he) ⟨by decide, by decide⟩ (Nat.le_of_ble_eq_true rfl) (fun r h1 hq => ?_)
          rw [e2] at hq
          rcases hr3 : PE (m 17) n k (p2 + 1) (o + c1.length + 1 + c2.length + 1) with q | ⟨p3, c3, v3⟩
          · obtain ⟨m3, rfl, rfl, s6⟩ := RPi s5 hq hr3
            refine hk_if_ne (tgt := 103) dX5_readE_98 (by decide) (fun c98 => absurd (by decide) c98) (fun _ => ?_)
            refine hk_iconst (v := 0) dX5_readE_101 (by decide) ?_
            exact hk_ireturn dX5_readE_102 rfl rfl (by decide) (RPf (by show pE _ _ (some _) _ _ = _; unfold pE; rw [show pC (m 17) n (some (PE (m 17) n k)) p o = .inr (p1, c1, v1) from hr]; simp only []; rw [cI_t c16, hr2]; simp only []; rw [cI_t c63, hr3]) s6)
          · obtain ⟨m3, rfl, rfl, s6⟩ := RPj s5 (by simp; omega) hq hr3
            have hB3 := PB_PE (m 17) n k (p2 + 1) (o + c1.length + 1 + c2.length + 1) c63.1
            rw [hr3] at hB3
            simp only at hB3
            refine hk_if_ne (tgt := 103) dX5_readE_98 (by decide) (fun _ => ?_) (fun c98 => absurd c98 (by decide))
            refine hk_aload_n dX5_readE_103 rfl rfl ?_
            refine hk_iload_n dX5_readE_104 rfl rfl ?_
            refine ivX5_45 rfl (rd_aim (e := o + c1.length + 1 + c2.length) (q := o + c1.length + 1 + c2.length + 1 + c3.length) s6 (by simp; omega) (by have := c63.1; omega)) dX5_readE_105 (hk_lt (by decide)) rfl rfl rfl (by omega) ⟨by decide, by decide⟩ (Nat.le_of_ble_eq_true rfl) (hk_kv ?_)
            have s7 := RS.aim (a := c1 ++ [63 + 256 * nI (o + c1.length + 1 + c2.length + 1)] ++ c2) (b := c3) (x := 58) (y := 256 * nI (o + c1.length + 1 + c2.length + 1 + c3.length)) (e := o + c1.length + 1 + c2.length) (s6.cg (by simp)) (by simp; omega)
            refine hk_iconst (v := 1) dX5_readE_108 (by decide) ?_
            exact hk_ireturn dX5_readE_109 rfl rfl (by decide) (RPc (by show pE _ _ (some _) _ _ = _; unfold pE; rw [show pC (m 17) n (some (PE (m 17) n k)) p o = .inr (p1, c1, v1) from hr]; simp only []; rw [cI_t c16, hr2]; simp only []; rw [cI_t c63, hr3]) s7)
        · rw [s_at (by decide)] at c63
          refine hk_iconst (v := 0) dX5_readE_66 (by decide) ?_
          exact hk_ireturn dX5_readE_67 rfl rfl (by decide) (by first | exact RPf (by show pE _ _ (some _) _ _ = _; unfold pE; rw [show pC (m 17) n (some (PE (m 17) n k)) p o = .inr (p1, c1, v1) from hr]; simp only []; rw [cI_t c16, hr2]) s3 | exact RPf (by show pE _ _ (some _) _ _ = _; unfold pE; rw [show pC (m 17) n (some (PE (m 17) n k)) p o = .inr (p1, c1, v1) from hr]; simp only []; rw [cI_t c16, hr2]; exact cI_f c63) s3.1)
    · rw [s_at (by decide)] at c16
      refine hk_iconst (v := 1) dX5_readE_19 (by decide) ?_
      exact hk_ireturn dX5_readE_20 rfl rfl (by decide) (RPc (by show pE _ _ (some _) _ _ = _; unfold pE; rw [show pC (m 17) n (some (PE (m 17) n k)) p o = .inr (p1, c1, v1) from hr]; simp only []; exact cI_f c16) s1)
theorem PB_S {b : Nat → Int32} {n k : Nat} : PB n (pS b n (EO b n k)) := PB_Loop (PB_Loop (PB_O EO_b))
theorem rd_up {k d : Nat} (hd : 7 ≤ d) (hO : RdX L MX5_readO d k (fun b n => pO b n (EO b n k))) : RdX L MX5_readC (d + 3) k (fun b n => pC b n (EO b n k)) :=
  ct_readC (by omega) (ct_readS (by omega) (ct_readP hd hO (fun _ _ => PB_O EO_b)) (fun _ _ => PB_Loop (PB_O EO_b))) (fun _ _ => PB_S)
theorem rd_E (hN : NameOf L) : ∀ k, k ≤ 12 → RdX L MX5_readE (12 + 6 * k) k (fun b n => PE b n k)
  | 0, _ => ct_readE (by omega) (rd_up (by omega) (fun _ _ _ _ h1 h2 h3 h4 h5 h6 => ct_readO hN h1 h2 h3 h4 h5 h6)) (fun _ _ => PB_C EO_b)
  | k + 1, h => by
    have ih := rd_E hN k (by omega)
    have h2 : RdX L MX5_readO (12 + 6 * k + 2) (k + 1) (fun b n => pO b n (EO b n (k + 1))) := fun _ _ _ _ h1 h2 h3 h4 h5 h6 => ct_readOS (by omega) ih (by omega) hN h1 h2 h3 h4 h5 h6
    exact ct_readES (d := 12 + 6 * k + 5) (by omega) (by omega) (by omega) ih (rd_up (by omega) h2) (fun _ _ => PB_C EO_b)
end RDy
