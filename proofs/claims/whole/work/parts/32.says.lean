/-! CALLS: inForce, says, due, about and judged's parts that ask laws -/
section OD
variable {L : Nat} {m m1 m2 : Nat → Nat → Int32} {z : Nat → Nat}
theorem Inv_gl (hI : Inv L z m) : GL m L ∧ m 15 2 = nI L ∧ L ≤ 40 ∧ m 37 43 = nI L ∧ AL m L := by
  obtain ⟨g0, ⟨⟨a0, a1, a2, a3, a4, a5, a6, a7, a8, a9, a10, a11, a12, a13⟩, ⟨b0, b1, b2, b3, b4, b5, b6, b7, b8, b9, b10, b11, b12⟩, ⟨c0, c1, c2, c3, c4, c5, c6, c7, c8, c9, c10, c11, c12⟩⟩, g2, g3, g4, g5, g6, g7, g8, g9, g10, g11, g12, g13, g14⟩ := id hI
  subst g0
  exact ⟨g9, a4, c4, b4, GL.al g9 c4⟩
theorem fo_ne {k d w : Int32} {nL : Nat} (hL : nL ≤ 40) : (if fo (-1) (LQ m k d w nL) < 0 then -9 else fo (-1) (LQ m k d w nL)) = fo (-9) (LQ m k d w nL) := by
  cases e : LQ m k d w nL with
  | none => rfl
  | some i =>
    have := (LQ_lt e).1
    show (if nI i < 0 then -9 else nI i) = nI i
    rw [if_neg (nI_pos (by omega))]
set_option maxRecDepth 20000 in
set_option maxHeartbeats 2000000 in
theorem ct_inForce (hL : m 15 2 = nI L) (hL4 : L ≤ 40) (g : GL m L) (k d w : Int32) : hk_Cd MX9_inForce 2 0 0 [.ref 0, .int k, .int d, .int w] (hk_h L m) (some (.int (cI (inR k 3 ∧ inR d 10000 ∧ inR w 10000) (fo (-9) (LQ m k d w L)) (-1)))) (hk_h L m) := by
  refine hk_ofWP (by decide) (by simp [Value.category]) (Nat.le_of_ble_eq_true rfl) ?_
  show hk_WP _ _ _ _ _ _ _ [some (.ref 0), some (.int k), some (.int d), some (.int w), none] [] _ _
  refine hk_iload_n dX9_inForce_0 rfl rfl ?_
  refine hk_if_lt (tgt := 23) dX9_inForce_1 (by decide) (fun c1 => ?_) (fun c1 => ?_)
  · refine hk_iconst (v := (-1)) dX9_inForce_23 (by decide) ?_
    exact hk_ireturn dX9_inForce_24 rfl rfl (by decide) ⟨cI_r0 (fun q => by first | exact q.1.1 c1 | exact q.1.2 (by rw [i32_le, nI_toInt (by decide)]; rw [i32_lt] at c6; have h2 : (2 : Int32).toInt = 2 := rfl; omega) | exact c13 q.2.1 | exact c20 q.2.2), rfl⟩
  · refine hk_iload_n dX9_inForce_4 rfl rfl ?_
    refine hk_iconst (v := 2) dX9_inForce_5 (by decide) ?_
    refine hk_icmp_gt (tgt := 23) dX9_inForce_6 (by decide) (fun c6 => ?_) (fun c6 => ?_)
    · refine hk_iconst (v := (-1)) dX9_inForce_23 (by decide) ?_
      exact hk_ireturn dX9_inForce_24 rfl rfl (by decide) ⟨cI_r0 (fun q => by first | exact q.1.1 c1 | exact q.1.2 (by rw [i32_le, nI_toInt (by decide)]; rw [i32_lt] at c6; have h2 : (2 : Int32).toInt = 2 := rfl; omega) | exact c13 q.2.1 | exact c20 q.2.2), rfl⟩
    · refine hk_iload_n dX9_inForce_9 rfl rfl ?_
      refine ivX9_184 rfl (ct_isDay d) dX9_inForce_10 rfl rfl (by decide) ⟨by decide, by decide⟩ (Nat.le_of_ble_eq_true rfl) (hk_kd ?_)
      refine hk_if_eq (tgt := 23) dX9_inForce_13 (by decide) (fun c13 => ?_) (fun c13 => ?_)
      · rw [bI_0] at c13
        refine hk_iconst (v := (-1)) dX9_inForce_23 (by decide) ?_
        exact hk_ireturn dX9_inForce_24 rfl rfl (by decide) ⟨cI_r0 (fun q => by first | exact q.1.1 c1 | exact q.1.2 (by rw [i32_le, nI_toInt (by decide)]; rw [i32_lt] at c6; have h2 : (2 : Int32).toInt = 2 := rfl; omega) | exact c13 q.2.1 | exact c20 q.2.2), rfl⟩
      · rw [bI_0] at c13
        refine hk_iload_n dX9_inForce_16 rfl rfl ?_
        refine ivX9_184 rfl (ct_isDay w) dX9_inForce_17 rfl rfl (by decide) ⟨by decide, by decide⟩ (Nat.le_of_ble_eq_true rfl) (hk_kd ?_)
        refine hk_if_ne (tgt := 25) dX9_inForce_20 (by decide) (fun c20 => ?_) (fun c20 => ?_)
        · rw [bI_0] at c20
          refine hk_aload_n dX9_inForce_25 rfl rfl ?_
          refine gfX9_30 rfl dX9_inForce_26 (hk_lt (by decide)) rfl rfl ?_
          refine hk_iload_n dX9_inForce_29 rfl rfl ?_
          refine hk_iload_n dX9_inForce_30 rfl rfl ?_
          refine hk_iload_n dX9_inForce_31 rfl rfl ?_
          refine ivX9_187 rfl (ct_lawInForce hL hL4 g _ _ _) dX9_inForce_32 (hk_lt (by decide)) rfl rfl rfl (by decide) ⟨by decide, by decide⟩ (Nat.le_of_ble_eq_true rfl) (hk_kd ?_)
          refine hk_istore dX9_inForce_35 (by decide) rfl ?_
          refine hk_iload dX9_inForce_37 rfl ?_
          refine hk_if_ge (tgt := 47) dX9_inForce_39 (by decide) (fun c39 => ?_) (fun c39 => ?_)
          · refine hk_iload dX9_inForce_47 rfl ?_
            exact hk_ireturn dX9_inForce_49 rfl rfl (by decide) ⟨by rw [cI_t ⟨⟨c1, fun q => c6 (by rw [i32_le, nI_toInt (by decide)] at q; rw [i32_lt]; have h2 : (2 : Int32).toInt = 2 := rfl; omega)⟩, Classical.not_not.mp c13, Classical.not_not.mp c20⟩, ← fo_ne hL4]; first | rw [if_pos (Int32.not_le.mp c39)] | rw [if_neg (Int32.not_lt.mpr c39)], rfl⟩
          · refine hk_bipush (v := (-9)) dX9_inForce_42 (by decide) ?_
            refine hk_goto (tgt := 49) dX9_inForce_44 (by decide) ?_
            exact hk_ireturn dX9_inForce_49 rfl rfl (by decide) ⟨by rw [cI_t ⟨⟨c1, fun q => c6 (by rw [i32_le, nI_toInt (by decide)] at q; rw [i32_lt]; have h2 : (2 : Int32).toInt = 2 := rfl; omega)⟩, Classical.not_not.mp c13, Classical.not_not.mp c20⟩, ← fo_ne hL4]; first | rw [if_pos (Int32.not_le.mp c39)] | rw [if_neg (Int32.not_lt.mpr c39)], rfl⟩
        · rw [bI_0] at c20
          refine hk_iconst (v := (-1)) dX9_inForce_23 (by decide) ?_
          exact hk_ireturn dX9_inForce_24 rfl rfl (by decide) ⟨cI_r0 (fun q => by first | exact q.1.1 c1 | exact q.1.2 (by rw [i32_le, nI_toInt (by decide)]; rw [i32_lt] at c6; have h2 : (2 : Int32).toInt = 2 := rfl; omega) | exact c13 q.2.1 | exact c20 q.2.2), rfl⟩
set_option maxRecDepth 20000 in
set_option maxHeartbeats 2000000 in
theorem md_inForce (hL : m 37 43 = nI L) (hL4 : L ≤ 40) (k d w : Int32) : hk_Cd MX10_inForce 2 0 0 [.ref 37, .int k, .int d, .int w] (hk_h L m) (some (.int (cI (inR k 3 ∧ inR d 10000 ∧ inR w 10000) (fo (-9) (LQ m k d w L)) (-1)))) (hk_h L m) := by
  refine hk_ofWP (by decide) (by simp [Value.category]) (Nat.le_of_ble_eq_true rfl) ?_
  show hk_WP _ _ _ _ _ _ _ [some (.ref 37), some (.int k), some (.int d), some (.int w)] [] _ _
  refine hk_iload_n dX10_inForce_0 rfl rfl ?_
  refine hk_iconst (v := 0) dX10_inForce_1 (by decide) ?_
  refine hk_iconst (v := 2) dX10_inForce_2 (by decide) ?_
  refine ivX10_208 rfl (ct_within k 0 2) dX10_inForce_3 rfl rfl (by decide) ⟨by decide, by decide⟩ (Nat.le_of_ble_eq_true rfl) (hk_kd ?_)
  refine hk_if_eq (tgt := 33) dX10_inForce_6 (by decide) (fun c6 => ?_) (fun c6 => ?_)
  · rw [bI_0] at c6
    refine hk_iconst (v := (-1)) dX10_inForce_33 (by decide) ?_
    exact hk_ireturn dX10_inForce_34 rfl rfl (by decide) ⟨by first | exact cI_r1 ⟨(inR_w (k := 2) (by decide)).mp (Classical.not_not.mp c6), Classical.not_not.mp c13, Classical.not_not.mp c20⟩ | exact cI_r0 (fun q => c6 ((inR_w (k := 2) (by decide)).mpr q.1)) | exact cI_r0 (fun q => c13 q.2.1) | exact cI_r0 (fun q => c20 q.2.2), rfl⟩
  · rw [bI_0] at c6
    refine hk_iload_n dX10_inForce_9 rfl rfl ?_
    refine ivX10_336 rfl (md_isDay d) dX10_inForce_10 rfl rfl (by decide) ⟨by decide, by decide⟩ (Nat.le_of_ble_eq_true rfl) (hk_kd ?_)
    refine hk_if_eq (tgt := 33) dX10_inForce_13 (by decide) (fun c13 => ?_) (fun c13 => ?_)
    · rw [bI_0] at c13
      refine hk_iconst (v := (-1)) dX10_inForce_33 (by decide) ?_
      exact hk_ireturn dX10_inForce_34 rfl rfl (by decide) ⟨by first | exact cI_r1 ⟨(inR_w (k := 2) (by decide)).mp (Classical.not_not.mp c6), Classical.not_not.mp c13, Classical.not_not.mp c20⟩ | exact cI_r0 (fun q => c6 ((inR_w (k := 2) (by decide)).mpr q.1)) | exact cI_r0 (fun q => c13 q.2.1) | exact cI_r0 (fun q => c20 q.2.2), rfl⟩
    · rw [bI_0] at c13
      refine hk_iload_n dX10_inForce_16 rfl rfl ?_
      refine ivX10_336 rfl (md_isDay w) dX10_inForce_17 rfl rfl (by decide) ⟨by decide, by decide⟩ (Nat.le_of_ble_eq_true rfl) (hk_kd ?_)
      refine hk_if_eq (tgt := 33) dX10_inForce_20 (by decide) (fun c20 => ?_) (fun c20 => ?_)
      · rw [bI_0] at c20
        refine hk_iconst (v := (-1)) dX10_inForce_33 (by decide) ?_
        exact hk_ireturn dX10_inForce_34 rfl rfl (by decide) ⟨by first | exact cI_r1 ⟨(inR_w (k := 2) (by decide)).mp (Classical.not_not.mp c6), Classical.not_not.mp c13, Classical.not_not.mp c20⟩ | exact cI_r0 (fun q => c6 ((inR_w (k := 2) (by decide)).mpr q.1)) | exact cI_r0 (fun q => c13 q.2.1) | exact cI_r0 (fun q => c20 q.2.2), rfl⟩
      · rw [bI_0] at c20
        refine hk_aload_n dX10_inForce_23 rfl rfl ?_
        refine hk_iload_n dX10_inForce_24 rfl rfl ?_
        refine hk_iload_n dX10_inForce_25 rfl rfl ?_
        refine hk_iload_n dX10_inForce_26 rfl rfl ?_
        refine ivX10_345 rfl (md_force hL hL4 _ _ _) dX10_inForce_27 (hk_lt (by decide)) rfl rfl rfl (by decide) ⟨by decide, by decide⟩ (Nat.le_of_ble_eq_true rfl) (hk_kd ?_)
        refine hk_goto (tgt := 34) dX10_inForce_30 (by decide) ?_
        exact hk_ireturn dX10_inForce_34 rfl rfl (by decide) ⟨by first | exact cI_r1 ⟨(inR_w (k := 2) (by decide)).mp (Classical.not_not.mp c6), Classical.not_not.mp c13, Classical.not_not.mp c20⟩ | exact cI_r0 (fun q => c6 ((inR_w (k := 2) (by decide)).mpr q.1)) | exact cI_r0 (fun q => c13 q.2.1) | exact cI_r0 (fun q => c20 q.2.2), rfl⟩
theorem op_inForce (hI : Inv L z m) (k d w : Int32) : OpOK L m MX9_inForce MX10_inForce [.int k, .int d, .int w] := by
  obtain ⟨h1, h2, h3, h4, h5⟩ := Inv_gl hI
  exact ⟨2, 0, 0, 2, _, L, m, m, z, by decide, by decide, by decide, by decide, ct_inForce h2 h3 h1 k d w, md_inForce h4 h3 k d w, hI⟩
/-- what says asks of its numbers, the law's apart -/
abbrev okSay (y w x b : Int32) : Prop := (¬ y < 0 ∧ ¬ 99999 < y) ∧ (¬ w < 0 ∧ ¬ 240 < w) ∧ ¬ x < 0 ∧ ¬ 9 < x / 1000 ∧ ¬ 6 < rm (x / 100) 10 ∧ ¬ 23 < rm x 100 ∧ ¬ b < 0 ∧ ¬ 1 < rm b 10
abbrev nmS (y w x b : Int32) : Nat → Int32 := NM y ((y + 109) / 110 + w) w (rm b 10) (rm (x / 100) 10) (rm x 100) (x / 1000) (b / 10) 1000
set_option maxRecDepth 20000 in
set_option maxHeartbeats 2000000 in
theorem ct_says_no (hL : m 15 2 = nI L) (hL4 : L ≤ 40) (g : GL m L) {i : Nat} (hi : i < L) (y w x b : Int32) (h : ¬ okSay y w x b) : hk_Cd MX9_says 3 0 0 [.ref 0, .int (nI i), .int y, .int w, .int x, .int b] (hk_h L m) (some (.int (-2000000000))) (hk_h L m) := by
  refine hk_ofWP (by decide) (by simp [Value.category]) (Nat.le_of_ble_eq_true rfl) ?_
  show hk_WP _ _ _ _ _ _ _ [some (.ref 0), some (.int (nI i)), some (.int y), some (.int w), some (.int x), some (.int b), none, none, none] [] _ _
  refine hk_iload dX9_says_0 rfl ?_
  refine hk_sipush (v := 1000) dX9_says_2 (by decide) ?_
  refine hk_idiv dX9_says_5 (by decide) ?_
  refine hk_istore dX9_says_6 (by decide) rfl ?_
  refine hk_iload dX9_says_8 rfl ?_
  refine hk_bipush (v := 100) dX9_says_10 (by decide) ?_
  refine hk_idiv dX9_says_12 (by decide) ?_
  refine hk_bipush (v := 10) dX9_says_13 (by decide) ?_
  refine hk_irem dX9_says_15 (by decide) ?_
  refine hk_istore dX9_says_16 (by decide) rfl ?_
  refine hk_iload dX9_says_18 rfl ?_
  refine hk_bipush (v := 100) dX9_says_20 (by decide) ?_
  refine hk_irem dX9_says_22 (by decide) ?_
  refine hk_istore dX9_says_23 (by decide) rfl ?_
  refine hk_aload_n dX9_says_25 rfl rfl ?_
  refine gfX9_30 rfl dX9_says_26 (hk_lt (by decide)) rfl rfl ?_
  refine hk_iload_n dX9_says_29 rfl rfl ?_
  refine ivX9_190 rfl (ct_lawAt hL hL4 hi) dX9_says_30 (hk_lt (by decide)) rfl rfl rfl (by decide) ⟨by decide, by decide⟩ (Nat.le_of_ble_eq_true rfl) (hk_kd ?_)
  refine hk_ifnull dX9_says_33 ?_
  refine hk_iload_n dX9_says_36 rfl rfl ?_
  refine hk_if_lt (tgt := 57) dX9_says_37 (by decide) (fun c37 => ?_) (fun c37 => ?_)
  · refine hk_ldc dX9_says_57 hk_k9_195 ?_
    exact hk_ireturn dX9_says_59 rfl rfl (by decide) ⟨rfl, rfl⟩
  · refine hk_iload_n dX9_says_40 rfl rfl ?_
    refine hk_ldc dX9_says_41 hk_k9_194 ?_
    refine hk_icmp_gt (tgt := 57) dX9_says_43 (by decide) (fun c43 => ?_) (fun c43 => ?_)
    · refine hk_ldc dX9_says_57 hk_k9_195 ?_
      exact hk_ireturn dX9_says_59 rfl rfl (by decide) ⟨rfl, rfl⟩
    · refine hk_iload_n dX9_says_46 rfl rfl ?_
      refine hk_if_lt (tgt := 57) dX9_says_47 (by decide) (fun c47 => ?_) (fun c47 => ?_)
      · refine hk_ldc dX9_says_57 hk_k9_195 ?_
        exact hk_ireturn dX9_says_59 rfl rfl (by decide) ⟨rfl, rfl⟩
      · refine hk_iload_n dX9_says_50 rfl rfl ?_
        refine hk_sipush (v := 240) dX9_says_51 (by decide) ?_
        refine hk_icmp_le (tgt := 60) dX9_says_54 (by decide) (fun c54 => ?_) (fun c54 => ?_)
        · refine hk_iload dX9_says_60 rfl ?_
          refine hk_if_lt (tgt := 100) dX9_says_62 (by decide) (fun c62 => ?_) (fun c62 => ?_)
          · refine hk_ldc dX9_says_100 hk_k9_195 ?_
            exact hk_ireturn dX9_says_102 rfl rfl (by decide) ⟨rfl, rfl⟩
          · refine hk_iload dX9_says_65 rfl ?_
            refine hk_bipush (v := 9) dX9_says_67 (by decide) ?_
            refine hk_icmp_gt (tgt := 100) dX9_says_69 (by decide) (fun c69 => ?_) (fun c69 => ?_)
            · refine hk_ldc dX9_says_100 hk_k9_195 ?_
              exact hk_ireturn dX9_says_102 rfl rfl (by decide) ⟨rfl, rfl⟩
            · refine hk_iload dX9_says_72 rfl ?_
              refine hk_bipush (v := 6) dX9_says_74 (by decide) ?_
              refine hk_icmp_gt (tgt := 100) dX9_says_76 (by decide) (fun c76 => ?_) (fun c76 => ?_)
              · refine hk_ldc dX9_says_100 hk_k9_195 ?_
                exact hk_ireturn dX9_says_102 rfl rfl (by decide) ⟨rfl, rfl⟩
              · refine hk_iload dX9_says_79 rfl ?_
                refine hk_bipush (v := 23) dX9_says_81 (by decide) ?_
                refine hk_icmp_gt (tgt := 100) dX9_says_83 (by decide) (fun c83 => ?_) (fun c83 => ?_)
                · refine hk_ldc dX9_says_100 hk_k9_195 ?_
                  exact hk_ireturn dX9_says_102 rfl rfl (by decide) ⟨rfl, rfl⟩
                · refine hk_iload dX9_says_86 rfl ?_
                  refine hk_if_lt (tgt := 100) dX9_says_88 (by decide) (fun c88 => ?_) (fun c88 => ?_)
                  · refine hk_ldc dX9_says_100 hk_k9_195 ?_
                    exact hk_ireturn dX9_says_102 rfl rfl (by decide) ⟨rfl, rfl⟩
                  · refine hk_iload dX9_says_91 rfl ?_
                    refine hk_bipush (v := 10) dX9_says_93 (by decide) ?_
                    refine hk_irem dX9_says_95 (by decide) ?_
                    refine hk_iconst (v := 1) dX9_says_96 (by decide) ?_
                    refine hk_icmp_le (tgt := 103) dX9_says_97 (by decide) (fun c97 => ?_) (fun c97 => ?_)
                    · exact absurd ⟨⟨c37, c43⟩, ⟨c47, Int32.not_lt.mpr c54⟩, c62, c69, c76, c83, c88, Int32.not_lt.mpr c97⟩ h
                    · refine hk_ldc dX9_says_100 hk_k9_195 ?_
                      exact hk_ireturn dX9_says_102 rfl rfl (by decide) ⟨rfl, rfl⟩
        · refine hk_ldc dX9_says_57 hk_k9_195 ?_
          exact hk_ireturn dX9_says_59 rfl rfl (by decide) ⟨rfl, rfl⟩
set_option maxRecDepth 20000 in
set_option maxHeartbeats 2000000 in
theorem ct_says_out (hL : m 15 2 = nI L) (hL4 : L ≤ 40) (g : GL m L) {v : Int32} (hv : ¬ inR v L) (y w x b : Int32) : hk_Cd MX9_says 3 0 0 [.ref 0, .int v, .int y, .int w, .int x, .int b] (hk_h L m) (some (.int (-2000000000))) (hk_h L m) := by
  refine hk_ofWP (by decide) (by simp [Value.category]) (Nat.le_of_ble_eq_true rfl) ?_
  show hk_WP _ _ _ _ _ _ _ [some (.ref 0), some (.int v), some (.int y), some (.int w), some (.int x), some (.int b), none, none, none] [] _ _
  refine hk_iload dX9_says_0 rfl ?_
  refine hk_sipush (v := 1000) dX9_says_2 (by decide) ?_
  refine hk_idiv dX9_says_5 (by decide) ?_
  refine hk_istore dX9_says_6 (by decide) rfl ?_
  refine hk_iload dX9_says_8 rfl ?_
  refine hk_bipush (v := 100) dX9_says_10 (by decide) ?_
  refine hk_idiv dX9_says_12 (by decide) ?_
  refine hk_bipush (v := 10) dX9_says_13 (by decide) ?_
  refine hk_irem dX9_says_15 (by decide) ?_
  refine hk_istore dX9_says_16 (by decide) rfl ?_
  refine hk_iload dX9_says_18 rfl ?_
  refine hk_bipush (v := 100) dX9_says_20 (by decide) ?_
  refine hk_irem dX9_says_22 (by decide) ?_
  refine hk_istore dX9_says_23 (by decide) rfl ?_
  refine hk_aload_n dX9_says_25 rfl rfl ?_
  refine gfX9_30 rfl dX9_says_26 (hk_lt (by decide)) rfl rfl ?_
  refine hk_iload_n dX9_says_29 rfl rfl ?_
  refine ivX9_190 rfl (ct_lawAt_no hL hL4 hv) dX9_says_30 (hk_lt (by decide)) rfl rfl rfl (by decide) ⟨by decide, by decide⟩ (Nat.le_of_ble_eq_true rfl) (hk_kd ?_)
  refine hk_ifnullN (tgt := 57) dX9_says_33 (by decide) ?_
  refine hk_ldc dX9_says_57 hk_k9_195 ?_
  exact hk_ireturn dX9_says_59 rfl rfl (by decide) ⟨rfl, rfl⟩
set_option maxRecDepth 20000 in
set_option maxHeartbeats 2000000 in
theorem ct_says (hL : m 15 2 = nI L) (hL4 : L ≤ 40) (g : GL m L) {i : Nat} (hi : i < L) (y w x b : Int32) (h : okSay y w x b) : hk_Ct MX9_says 3 0 0 [.ref 0, .int (nI i), .int y, .int w, .int x, .int b] (hk_h L m) (fun r h => ∃ m1, r = some (.int (LV m i (nmS y w x b))) ∧ h = hk_h L m1 ∧ SCR m m1) := by
  refine hk_ofWP (by decide) (by simp [Value.category]) (Nat.le_of_ble_eq_true rfl) ?_
  show hk_WP _ _ _ _ _ _ _ [some (.ref 0), some (.int (nI i)), some (.int y), some (.int w), some (.int x), some (.int b), none, none, none] [] _ _
  refine hk_iload dX9_says_0 rfl ?_
  refine hk_sipush (v := 1000) dX9_says_2 (by decide) ?_
  refine hk_idiv dX9_says_5 (by decide) ?_
  refine hk_istore dX9_says_6 (by decide) rfl ?_
  refine hk_iload dX9_says_8 rfl ?_
  refine hk_bipush (v := 100) dX9_says_10 (by decide) ?_
  refine hk_idiv dX9_says_12 (by decide) ?_
  refine hk_bipush (v := 10) dX9_says_13 (by decide) ?_
  refine hk_irem dX9_says_15 (by decide) ?_
  refine hk_istore dX9_says_16 (by decide) rfl ?_
  refine hk_iload dX9_says_18 rfl ?_
  refine hk_bipush (v := 100) dX9_says_20 (by decide) ?_
  refine hk_irem dX9_says_22 (by decide) ?_
  refine hk_istore dX9_says_23 (by decide) rfl ?_
  refine hk_aload_n dX9_says_25 rfl rfl ?_
  refine gfX9_30 rfl dX9_says_26 (hk_lt (by decide)) rfl rfl ?_
  refine hk_iload_n dX9_says_29 rfl rfl ?_
  refine ivX9_190 rfl (ct_lawAt hL hL4 hi) dX9_says_30 (hk_lt (by decide)) rfl rfl rfl (by decide) ⟨by decide, by decide⟩ (Nat.le_of_ble_eq_true rfl) (hk_kd ?_)
  refine hk_ifnull dX9_says_33 ?_
  refine hk_iload_n dX9_says_36 rfl rfl ?_
  refine hk_if_lt (tgt := 57) dX9_says_37 (by decide) (fun c37 => absurd c37 h.1.1) (fun _ => ?_)
  refine hk_iload_n dX9_says_40 rfl rfl ?_
  refine hk_ldc dX9_says_41 hk_k9_194 ?_
  refine hk_icmp_gt (tgt := 57) dX9_says_43 (by decide) (fun c43 => absurd c43 h.1.2) (fun _ => ?_)
  refine hk_iload_n dX9_says_46 rfl rfl ?_
  refine hk_if_lt (tgt := 57) dX9_says_47 (by decide) (fun c47 => absurd c47 h.2.1.1) (fun _ => ?_)
  refine hk_iload_n dX9_says_50 rfl rfl ?_
  refine hk_sipush (v := 240) dX9_says_51 (by decide) ?_
  refine hk_icmp_le (tgt := 60) dX9_says_54 (by decide) (fun _ => ?_) (fun c54 => absurd (Int32.not_lt.mp h.2.1.2) c54)
  refine hk_iload dX9_says_60 rfl ?_
  refine hk_if_lt (tgt := 100) dX9_says_62 (by decide) (fun c62 => absurd c62 h.2.2.1) (fun _ => ?_)
  refine hk_iload dX9_says_65 rfl ?_
  refine hk_bipush (v := 9) dX9_says_67 (by decide) ?_
  refine hk_icmp_gt (tgt := 100) dX9_says_69 (by decide) (fun c69 => absurd c69 h.2.2.2.1) (fun _ => ?_)
  refine hk_iload dX9_says_72 rfl ?_
  refine hk_bipush (v := 6) dX9_says_74 (by decide) ?_
  refine hk_icmp_gt (tgt := 100) dX9_says_76 (by decide) (fun c76 => absurd c76 h.2.2.2.2.1) (fun _ => ?_)
  refine hk_iload dX9_says_79 rfl ?_
  refine hk_bipush (v := 23) dX9_says_81 (by decide) ?_
  refine hk_icmp_gt (tgt := 100) dX9_says_83 (by decide) (fun c83 => absurd c83 h.2.2.2.2.2.1) (fun _ => ?_)
  refine hk_iload dX9_says_86 rfl ?_
  refine hk_if_lt (tgt := 100) dX9_says_88 (by decide) (fun c88 => absurd c88 h.2.2.2.2.2.2.1) (fun _ => ?_)
  refine hk_iload dX9_says_91 rfl ?_
  refine hk_bipush (v := 10) dX9_says_93 (by decide) ?_
  refine hk_irem dX9_says_95 (by decide) ?_
  refine hk_iconst (v := 1) dX9_says_96 (by decide) ?_
  refine hk_icmp_le (tgt := 103) dX9_says_97 (by decide) (fun _ => ?_) (fun c97 => absurd (Int32.not_lt.mp h.2.2.2.2.2.2.2) c97)
  refine hk_aload_n dX9_says_103 rfl rfl ?_
  refine gfX9_30 rfl dX9_says_104 (hk_lt (by decide)) rfl rfl ?_
  refine hk_iload_n dX9_says_107 rfl rfl ?_
  refine hk_iload_n dX9_says_108 rfl rfl ?_
  refine ivX9_146 rfl (ct_timeOf _) dX9_says_109 rfl rfl (by decide) ⟨by decide, by decide⟩ (Nat.le_of_ble_eq_true rfl) (hk_kd ?_)
  refine hk_iload_n dX9_says_112 rfl rfl ?_
  refine hk_iadd dX9_says_113 ?_
  refine hk_iload_n dX9_says_114 rfl rfl ?_
  refine ivX9_196 rfl (ct_tellRide _ _ _) dX9_says_115 (hk_lt (by decide)) rfl rfl rfl (by decide) ⟨by decide, by decide⟩ (Nat.le_of_ble_eq_true rfl) (hk_kv ?_)
  refine hk_aload_n dX9_says_118 rfl rfl ?_
  refine gfX9_30 rfl dX9_says_119 (hk_lt (by decide)) rfl rfl ?_
  refine hk_iload dX9_says_122 rfl ?_
  refine hk_bipush (v := 10) dX9_says_124 (by decide) ?_
  refine hk_irem dX9_says_126 (by decide) ?_
  refine hk_iload dX9_says_127 rfl ?_
  refine hk_iload dX9_says_129 rfl ?_
  refine ivX9_199 rfl (ct_tellTime _ _ _) dX9_says_131 (hk_lt (by decide)) rfl rfl rfl (by decide) ⟨by decide, by decide⟩ (Nat.le_of_ble_eq_true rfl) (hk_kv ?_)
  refine hk_aload_n dX9_says_134 rfl rfl ?_
  refine gfX9_30 rfl dX9_says_135 (hk_lt (by decide)) rfl rfl ?_
  refine hk_iload dX9_says_138 rfl ?_
  refine hk_iload dX9_says_140 rfl ?_
  refine hk_bipush (v := 10) dX9_says_142 (by decide) ?_
  refine hk_idiv dX9_says_144 (by decide) ?_
  refine hk_sipush (v := 1000) dX9_says_145 (by decide) ?_
  refine ivX9_202 rfl (ct_tellLoad _ _ _) dX9_says_148 (hk_lt (by decide)) rfl rfl rfl (by decide) ⟨by decide, by decide⟩ (Nat.le_of_ble_eq_true rfl) (hk_kv ?_)
  obtain ⟨m3, e3, q1, q2⟩ : ∃ m3, hk_w (hk_w (hk_w (hk_w (hk_w (hk_w (hk_w (hk_w (hk_w m 20 0 y) 20 1 ((y + 110 - 1) / 110 + w)) 20 2 w) 20 3 (rm b 10)) 20 4 (rm (x / 100) 10)) 20 5 (rm x 100)) 20 6 (x / 1000)) 20 7 (b / 10)) 20 8 1000 = m3 ∧ (∀ a, a ≠ 20 → m3 a = m a) ∧ nmC m3 = nmS y w x b := ⟨_, rfl, fun a ha => by simp only [hk_wo ha], NM_of (f := fun j => _) rfl (by simp [hk_w_at, y109])⟩
  rw [e3]
  have s3 : CF m m3 := fun a h _ => q1 a h
  have hL3 : m3 15 2 = nI L := by rw [q1 15 (by decide)]; exact hL
  refine hk_aload_n dX9_says_151 rfl rfl ?_
  refine gfX9_30 rfl dX9_says_152 (hk_lt (by decide)) rfl rfl ?_
  refine hk_iload_n dX9_says_155 rfl rfl ?_
  refine ivX9_205 rfl (ct_worthOf hL3 hL4 (g.k s3) hi) dX9_says_156 (hk_lt (by decide)) rfl rfl rfl (by decide) ⟨by decide, by decide⟩ (Nat.le_of_ble_eq_true rfl) (fun r h1 hq => ?_)
  obtain ⟨m4, rfl, rfl, q3⟩ := hq
  exact hk_ireturn dX9_says_159 rfl rfl (by decide) ⟨m4, by rw [s3.lv, q2], rfl, (s3.t (CF.s q3)).scr⟩
/-- what the reference's says asks, as it asks it -/
abbrev okSayM (y w x b : Int32) : Prop := (¬ y < 0 ∧ ¬ 99999 < y) ∧ (¬ w < 0 ∧ ¬ 240 < w) ∧ ¬ x < 0 ∧ (¬ x / 1000 < 0 ∧ ¬ 9 < x / 1000) ∧ (¬ rm (x / 100) 10 < 0 ∧ ¬ 6 < rm (x / 100) 10) ∧ (¬ rm x 100 < 0 ∧ ¬ 23 < rm x 100) ∧ ¬ b < 0 ∧ ¬ rm b 10 < 0 ∧ ¬ 1 < rm b 10
theorem okSay_iff {y w x b : Int32} : okSay y w x b ↔ okSayM y w x b := by
  constructor
  · rintro ⟨h1, h2, h3, h4, h5, h6, h7, h8⟩
    obtain ⟨j, hj, rfl⟩ : ∃ j : Nat, j < 2 ^ 31 ∧ x = nI j := by
      refine ⟨x.toInt.toNat, ?_, ?_⟩
      · have := Int32.toInt_lt x; omega
      · apply Int32.toInt_inj.mp
        have := Int32.toInt_lt x
        rw [i32_lt, i32_0] at h3
        rw [nI_toInt (by omega)]; omega
    obtain ⟨q, hq, rfl⟩ : ∃ j : Nat, j < 2 ^ 31 ∧ b = nI j := by
      refine ⟨b.toInt.toNat, ?_, ?_⟩
      · have := Int32.toInt_lt b; omega
      · apply Int32.toInt_inj.mp
        have := Int32.toInt_lt b
        rw [i32_lt, i32_0] at h7
        rw [nI_toInt (by omega)]; omega
    have e1 : nI j / 1000 = nI (j / 1000) := nI_div hj (by decide)
    have e2 : nI j / 100 = nI (j / 100) := nI_div hj (by decide)
    have e3 : rm (nI (j / 100)) 10 = nI (j / 100 % 10) := rm_nI (by omega) (by decide)
    have e4 : rm (nI j) 100 = nI (j % 100) := rm_nI hj (by decide)
    have e5 : rm (nI q) 10 = nI (q % 10) := rm_nI hq (by decide)
    refine ⟨h1, h2, h3, ⟨?_, h4⟩, ⟨?_, h5⟩, ⟨?_, h6⟩, h7, ?_, h8⟩
    · rw [e1]; exact nI_pos (by omega)
    · rw [e2, e3]; exact nI_pos (by omega)
    · rw [e4]; exact nI_pos (by omega)
    · rw [e5]; exact nI_pos (by omega)
  · rintro ⟨h1, h2, h3, ⟨_, h4⟩, ⟨_, h5⟩, ⟨_, h6⟩, h7, _, h8⟩
    exact ⟨h1, h2, h3, h4, h5, h6, h7, h8⟩
set_option maxRecDepth 20000 in
set_option maxHeartbeats 2000000 in
theorem md_says_no (hL : m 37 43 = nI L) (hL4 : L ≤ 40) (v y w x b : Int32) (h : ¬ (inR v L ∧ okSayM y w x b)) : hk_Cd MX10_says 70 0 0 [.ref 37, .int v, .int y, .int w, .int x, .int b] (hk_h L m) (some (.int (-2000000000))) (hk_h L m) := by
  refine hk_ofWP (by decide) (by simp [Value.category]) (Nat.le_of_ble_eq_true rfl) ?_
  show hk_WP _ _ _ _ _ _ _ [some (.ref 37), some (.int v), some (.int y), some (.int w), some (.int x), some (.int b)] [] _ _
  refine hk_iload_n dX10_says_0 rfl rfl ?_
  refine hk_if_lt (tgt := 103) dX10_says_1 (by decide) (fun c1 => ?_) (fun c1 => ?_)
  · refine hk_ldcw dX10_says_103 hk_k10_349 ?_
    exact hk_ireturn dX10_says_106 rfl rfl (by decide) ⟨rfl, rfl⟩
  · refine hk_iload_n dX10_says_4 rfl rfl ?_
    refine hk_aload_n dX10_says_5 rfl rfl ?_
    refine gfX10_339 rfl dX10_says_6 (hk_lt (by decide)) rfl rfl ?_
    refine hk_icmp_ge (tgt := 103) dX10_says_9 (by decide) (fun c9 => ?_) (fun c9 => ?_)
    · rw [hL] at c9
      refine hk_ldcw dX10_says_103 hk_k10_349 ?_
      exact hk_ireturn dX10_says_106 rfl rfl (by decide) ⟨rfl, rfl⟩
    · rw [hL] at c9
      refine hk_iload_n dX10_says_12 rfl rfl ?_
      refine hk_iconst (v := 0) dX10_says_13 (by decide) ?_
      refine hk_ldcw dX10_says_14 hk_k10_348 ?_
      refine ivX10_208 rfl (ct_within y 0 99999) dX10_says_17 rfl rfl (by decide) ⟨by decide, by decide⟩ (Nat.le_of_ble_eq_true rfl) (hk_kd ?_)
      refine hk_if_eq (tgt := 103) dX10_says_20 (by decide) (fun c20 => ?_) (fun c20 => ?_)
      · rw [bI_0] at c20
        refine hk_ldcw dX10_says_103 hk_k10_349 ?_
        exact hk_ireturn dX10_says_106 rfl rfl (by decide) ⟨rfl, rfl⟩
      · rw [bI_0] at c20
        refine hk_iload_n dX10_says_23 rfl rfl ?_
        refine hk_iconst (v := 0) dX10_says_24 (by decide) ?_
        refine hk_sipush (v := 240) dX10_says_25 (by decide) ?_
        refine ivX10_208 rfl (ct_within w 0 240) dX10_says_28 rfl rfl (by decide) ⟨by decide, by decide⟩ (Nat.le_of_ble_eq_true rfl) (hk_kd ?_)
        refine hk_if_eq (tgt := 103) dX10_says_31 (by decide) (fun c31 => ?_) (fun c31 => ?_)
        · rw [bI_0] at c31
          refine hk_ldcw dX10_says_103 hk_k10_349 ?_
          exact hk_ireturn dX10_says_106 rfl rfl (by decide) ⟨rfl, rfl⟩
        · rw [bI_0] at c31
          refine hk_iload dX10_says_34 rfl ?_
          refine hk_if_lt (tgt := 103) dX10_says_36 (by decide) (fun c36 => ?_) (fun c36 => ?_)
          · refine hk_ldcw dX10_says_103 hk_k10_349 ?_
            exact hk_ireturn dX10_says_106 rfl rfl (by decide) ⟨rfl, rfl⟩
          · refine hk_iload dX10_says_39 rfl ?_
            refine hk_sipush (v := 1000) dX10_says_41 (by decide) ?_
            refine hk_idiv dX10_says_44 (by decide) ?_
            refine hk_iconst (v := 0) dX10_says_45 (by decide) ?_
            refine hk_bipush (v := 9) dX10_says_46 (by decide) ?_
            refine ivX10_208 rfl (ct_within (x / 1000) 0 9) dX10_says_48 rfl rfl (by decide) ⟨by decide, by decide⟩ (Nat.le_of_ble_eq_true rfl) (hk_kd ?_)
            refine hk_if_eq (tgt := 103) dX10_says_51 (by decide) (fun c51 => ?_) (fun c51 => ?_)
            · rw [bI_0] at c51
              refine hk_ldcw dX10_says_103 hk_k10_349 ?_
              exact hk_ireturn dX10_says_106 rfl rfl (by decide) ⟨rfl, rfl⟩
            · rw [bI_0] at c51
              refine hk_iload dX10_says_54 rfl ?_
              refine hk_bipush (v := 100) dX10_says_56 (by decide) ?_
              refine hk_idiv dX10_says_58 (by decide) ?_
              refine hk_bipush (v := 10) dX10_says_59 (by decide) ?_
              refine hk_irem dX10_says_61 (by decide) ?_
              refine hk_iconst (v := 0) dX10_says_62 (by decide) ?_
              refine hk_bipush (v := 6) dX10_says_63 (by decide) ?_
              refine ivX10_208 rfl (ct_within (rm (x / 100) 10) 0 6) dX10_says_65 rfl rfl (by decide) ⟨by decide, by decide⟩ (Nat.le_of_ble_eq_true rfl) (hk_kd ?_)
              refine hk_if_eq (tgt := 103) dX10_says_68 (by decide) (fun c68 => ?_) (fun c68 => ?_)
              · rw [bI_0] at c68
                refine hk_ldcw dX10_says_103 hk_k10_349 ?_
                exact hk_ireturn dX10_says_106 rfl rfl (by decide) ⟨rfl, rfl⟩
              · rw [bI_0] at c68
                refine hk_iload dX10_says_71 rfl ?_
                refine hk_bipush (v := 100) dX10_says_73 (by decide) ?_
                refine hk_irem dX10_says_75 (by decide) ?_
                refine hk_iconst (v := 0) dX10_says_76 (by decide) ?_
                refine hk_bipush (v := 23) dX10_says_77 (by decide) ?_
                refine ivX10_208 rfl (ct_within (rm x 100) 0 23) dX10_says_79 rfl rfl (by decide) ⟨by decide, by decide⟩ (Nat.le_of_ble_eq_true rfl) (hk_kd ?_)
                refine hk_if_eq (tgt := 103) dX10_says_82 (by decide) (fun c82 => ?_) (fun c82 => ?_)
                · rw [bI_0] at c82
                  refine hk_ldcw dX10_says_103 hk_k10_349 ?_
                  exact hk_ireturn dX10_says_106 rfl rfl (by decide) ⟨rfl, rfl⟩
                · rw [bI_0] at c82
                  refine hk_iload dX10_says_85 rfl ?_
                  refine hk_if_lt (tgt := 103) dX10_says_87 (by decide) (fun c87 => ?_) (fun c87 => ?_)
                  · refine hk_ldcw dX10_says_103 hk_k10_349 ?_
                    exact hk_ireturn dX10_says_106 rfl rfl (by decide) ⟨rfl, rfl⟩
                  · refine hk_iload dX10_says_90 rfl ?_
                    refine hk_bipush (v := 10) dX10_says_92 (by decide) ?_
                    refine hk_irem dX10_says_94 (by decide) ?_
                    refine hk_iconst (v := 0) dX10_says_95 (by decide) ?_
                    refine hk_iconst (v := 1) dX10_says_96 (by decide) ?_
                    refine ivX10_208 rfl (ct_within (rm b 10) 0 1) dX10_says_97 rfl rfl (by decide) ⟨by decide, by decide⟩ (Nat.le_of_ble_eq_true rfl) (hk_kd ?_)
                    refine hk_if_ne (tgt := 107) dX10_says_100 (by decide) (fun c100 => ?_) (fun c100 => ?_)
                    · rw [bI_0] at c100
                      exact absurd ⟨⟨c1, c9⟩, ⟨Classical.not_not.mp c20, Classical.not_not.mp c31, c36, Classical.not_not.mp c51, Classical.not_not.mp c68, Classical.not_not.mp c82, c87, (Classical.not_not.mp c100)⟩⟩ h
                    · rw [bI_0] at c100
                      refine hk_ldcw dX10_says_103 hk_k10_349 ?_
                      exact hk_ireturn dX10_says_106 rfl rfl (by decide) ⟨rfl, rfl⟩
set_option maxRecDepth 20000 in
set_option maxHeartbeats 2000000 in
theorem md_says (hL : m 37 43 = nI L) (hL4 : L ≤ 40) (hA : AL m L) {i : Nat} (hi : i < L) (y w x b : Int32) (h : okSayM y w x b) : hk_Ct MX10_says 70 0 0 [.ref 37, .int (nI i), .int y, .int w, .int x, .int b] (hk_h L m) (fun r h => ∃ m1, r = some (.int (LV m i (nmS y w x b))) ∧ h = hk_h L m1 ∧ SCR m m1) := by
  refine hk_ofWP (by decide) (by simp [Value.category]) (Nat.le_of_ble_eq_true rfl) ?_
  show hk_WP _ _ _ _ _ _ _ [some (.ref 37), some (.int (nI i)), some (.int y), some (.int w), some (.int x), some (.int b)] [] _ _
  refine hk_iload_n dX10_says_0 rfl rfl ?_
  refine hk_if_lt (tgt := 103) dX10_says_1 (by decide) (fun c1 => absurd c1 (nI_pos (by omega))) (fun _ => ?_)
  refine hk_iload_n dX10_says_4 rfl rfl ?_
  refine hk_aload_n dX10_says_5 rfl rfl ?_
  refine gfX10_339 rfl dX10_says_6 (hk_lt (by decide)) rfl rfl ?_
  refine hk_icmp_ge (tgt := 103) dX10_says_9 (by decide) (fun c9 => absurd c9 (by rw [hL]; exact nI_ge hi (by omega))) (fun _ => ?_)
  refine hk_iload_n dX10_says_12 rfl rfl ?_
  refine hk_iconst (v := 0) dX10_says_13 (by decide) ?_
  refine hk_ldcw dX10_says_14 hk_k10_348 ?_
  refine ivX10_208 rfl (ct_within y 0 99999) dX10_says_17 rfl rfl (by decide) ⟨by decide, by decide⟩ (Nat.le_of_ble_eq_true rfl) (hk_kd ?_)
  refine hk_if_eq (tgt := 103) dX10_says_20 (by decide) (fun c20 => absurd c20 (fun e => bI_0.mp e h.1)) (fun _ => ?_)
  refine hk_iload_n dX10_says_23 rfl rfl ?_
  refine hk_iconst (v := 0) dX10_says_24 (by decide) ?_
  refine hk_sipush (v := 240) dX10_says_25 (by decide) ?_
  refine ivX10_208 rfl (ct_within w 0 240) dX10_says_28 rfl rfl (by decide) ⟨by decide, by decide⟩ (Nat.le_of_ble_eq_true rfl) (hk_kd ?_)
  refine hk_if_eq (tgt := 103) dX10_says_31 (by decide) (fun c31 => absurd c31 (fun e => bI_0.mp e h.2.1)) (fun _ => ?_)
  refine hk_iload dX10_says_34 rfl ?_
  refine hk_if_lt (tgt := 103) dX10_says_36 (by decide) (fun c36 => absurd c36 h.2.2.1) (fun _ => ?_)
  refine hk_iload dX10_says_39 rfl ?_
  refine hk_sipush (v := 1000) dX10_says_41 (by decide) ?_
  refine hk_idiv dX10_says_44 (by decide) ?_
  refine hk_iconst (v := 0) dX10_says_45 (by decide) ?_
  refine hk_bipush (v := 9) dX10_says_46 (by decide) ?_
  refine ivX10_208 rfl (ct_within (x / 1000) 0 9) dX10_says_48 rfl rfl (by decide) ⟨by decide, by decide⟩ (Nat.le_of_ble_eq_true rfl) (hk_kd ?_)
  refine hk_if_eq (tgt := 103) dX10_says_51 (by decide) (fun c51 => absurd c51 (fun e => bI_0.mp e h.2.2.2.1)) (fun _ => ?_)
  refine hk_iload dX10_says_54 rfl ?_
  refine hk_bipush (v := 100) dX10_says_56 (by decide) ?_
  refine hk_idiv dX10_says_58 (by decide) ?_
  refine hk_bipush (v := 10) dX10_says_59 (by decide) ?_
  refine hk_irem dX10_says_61 (by decide) ?_
  refine hk_iconst (v := 0) dX10_says_62 (by decide) ?_
  refine hk_bipush (v := 6) dX10_says_63 (by decide) ?_
  refine ivX10_208 rfl (ct_within (rm (x / 100) 10) 0 6) dX10_says_65 rfl rfl (by decide) ⟨by decide, by decide⟩ (Nat.le_of_ble_eq_true rfl) (hk_kd ?_)
  refine hk_if_eq (tgt := 103) dX10_says_68 (by decide) (fun c68 => absurd c68 (fun e => bI_0.mp e h.2.2.2.2.1)) (fun _ => ?_)
  refine hk_iload dX10_says_71 rfl ?_
  refine hk_bipush (v := 100) dX10_says_73 (by decide) ?_
  refine hk_irem dX10_says_75 (by decide) ?_
  refine hk_iconst (v := 0) dX10_says_76 (by decide) ?_
  refine hk_bipush (v := 23) dX10_says_77 (by decide) ?_
  refine ivX10_208 rfl (ct_within (rm x 100) 0 23) dX10_says_79 rfl rfl (by decide) ⟨by decide, by decide⟩ (Nat.le_of_ble_eq_true rfl) (hk_kd ?_)
  refine hk_if_eq (tgt := 103) dX10_says_82 (by decide) (fun c82 => absurd c82 (fun e => bI_0.mp e h.2.2.2.2.2.1)) (fun _ => ?_)
  refine hk_iload dX10_says_85 rfl ?_
  refine hk_if_lt (tgt := 103) dX10_says_87 (by decide) (fun c87 => absurd c87 h.2.2.2.2.2.2.1) (fun _ => ?_)
  refine hk_iload dX10_says_90 rfl ?_
  refine hk_bipush (v := 10) dX10_says_92 (by decide) ?_
  refine hk_irem dX10_says_94 (by decide) ?_
  refine hk_iconst (v := 0) dX10_says_95 (by decide) ?_
  refine hk_iconst (v := 1) dX10_says_96 (by decide) ?_
  refine ivX10_208 rfl (ct_within (rm b 10) 0 1) dX10_says_97 rfl rfl (by decide) ⟨by decide, by decide⟩ (Nat.le_of_ble_eq_true rfl) (hk_kd ?_)
  refine hk_if_ne (tgt := 107) dX10_says_100 (by decide) (fun _ => ?_) (fun c100 => absurd c100 (fun e => bI_0.mp e h.2.2.2.2.2.2.2))
  refine hk_aload_n dX10_says_107 rfl rfl ?_
  refine hk_iload_n dX10_says_108 rfl rfl ?_
  refine hk_iload_n dX10_says_109 rfl rfl ?_
  refine hk_iload dX10_says_110 rfl ?_
  refine hk_bipush (v := 10) dX10_says_112 (by decide) ?_
  refine hk_irem dX10_says_114 (by decide) ?_
  refine hk_iload dX10_says_115 rfl ?_
  refine hk_sipush (v := 1000) dX10_says_117 (by decide) ?_
  refine hk_idiv dX10_says_120 (by decide) ?_
  refine hk_iload dX10_says_121 rfl ?_
  refine hk_bipush (v := 10) dX10_says_123 (by decide) ?_
  refine hk_idiv dX10_says_125 (by decide) ?_
  refine hk_iload dX10_says_126 rfl ?_
  refine hk_bipush (v := 100) dX10_says_128 (by decide) ?_
  refine hk_idiv dX10_says_130 (by decide) ?_
  refine hk_bipush (v := 10) dX10_says_131 (by decide) ?_
  refine hk_irem dX10_says_133 (by decide) ?_
  refine hk_iload dX10_says_134 rfl ?_
  refine hk_bipush (v := 100) dX10_says_136 (by decide) ?_
  refine hk_irem dX10_says_138 (by decide) ?_
  refine hk_sipush (v := 1000) dX10_says_139 (by decide) ?_
  refine ivX10_350 rfl (md_name _ _ _ _ _ _ _ _) dX10_says_142 (hk_lt (by decide)) rfl rfl rfl (by decide) ⟨by decide, by decide⟩ (Nat.le_of_ble_eq_true rfl) (fun r h1 hq => ?_)
  obtain ⟨m3, rfl, rfl, q1, q2⟩ := hq
  have s3 := SF.of72 q1
  obtain ⟨n, c, ht1, ht2, ht3⟩ := ((hA i hi).k s3).pt
  refine hk_aload_n dX10_says_145 rfl rfl ?_
  refine hk_sipush (v := 160) dX10_says_146 (by decide) ?_
  refine hk_iload_n dX10_says_149 rfl rfl ?_
  refine hk_imul dX10_says_150 ?_
  rw [show (160 : Int32) * nI i = nI (160 * i) from nI_mul 160 i]
  refine hk_aload_n dX10_says_151 rfl rfl ?_
  refine gfX10_100 rfl dX10_says_152 (hk_lt (by decide)) rfl rfl ?_
  refine hk_iload_n dX10_says_155 rfl rfl ?_
  refine hk_ian dX10_says_156 (by decide) (fun _ => rfl) rfl (by omega) (by decide) ?_
  rw [ht1]
  refine ivX10_342 rfl (md_workOut (Or.inr ⟨i, by omega, rfl, rfl⟩) ht2) dX10_says_157 (hk_lt (by decide)) rfl rfl rfl (by decide) ⟨by decide, by decide⟩ (Nat.le_of_ble_eq_true rfl) (fun r h1 hq => ?_)
  obtain ⟨m4, rfl, rfl, s4, s5⟩ := WOj hq ht3
  exact hk_ireturn dX10_says_160 rfl rfl (by decide) ⟨m4, by rw [q2], rfl, (s3.t s4.g.f).scr⟩
theorem op_says (hI : Inv L z m) (v y w x b : Int32) : OpE L m MX9_says MX10_says [.int v, .int y, .int w, .int x, .int b] := by
  obtain ⟨h1, h2, h3, h4, h5⟩ := Inv_gl hI
  by_cases hv : inR v L
  · obtain ⟨i, hi, rfl⟩ := inR_of hv (by omega)
    by_cases ho : okSay y w x b
    · refine OpE.of (d1 := 3) (d2 := 70) hI (by decide) (by decide) (ct_says h2 h3 h1 hi y w x b ho) (fun m1 hI1 s1 => ?_)
      obtain ⟨k1, k2, k3, k4, k5⟩ := Inv_gl hI1
      have := md_says k4 k3 k5 hi y w x b (okSay_iff.mp ho)
      rwa [show LV m1 = LV m from by unfold LV; rw [s1.1 67 (by decide) (by decide) (by decide) (by decide) (by decide) (by decide) (by decide) (by decide) (by decide) (by decide) (by decide) (by decide), s1.1 68 (by decide) (by decide) (by decide) (by decide) (by decide) (by decide) (by decide) (by decide) (by decide) (by decide) (by decide) (by decide)]] at this
    · exact OpOK.e ⟨3, 0, 0, 70, -2000000000, L, m, m, z, by decide, by decide, by decide, by decide, ct_says_no h2 h3 h1 hi y w x b ho, md_says_no h4 h3 _ y w x b (fun q => ho (okSay_iff.mpr q.2)), hI⟩
  · exact OpOK.e ⟨3, 0, 0, 70, -2000000000, L, m, m, z, by decide, by decide, by decide, by decide, ct_says_out h2 h3 h1 hv y w x b, md_says_no h4 h3 _ y w x b (fun q => hv q.1), hI⟩
end OD
