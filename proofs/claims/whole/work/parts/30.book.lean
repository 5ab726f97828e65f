/-! THE CLASS: laws worked out for trips -/
theorem nIm {j : Nat} (hj : j < 2 ^ 31) : nI j - 1 < 0 ↔ j = 0 := by
  cases j with
  | zero => exact ⟨fun _ => rfl, fun _ => by decide⟩
  | succ i => rw [nI_pred]; exact ⟨fun h => absurd h (nI_pos (by omega)), fun h => by omega⟩
section CEx
variable {L : Nat} {m m0 m1 m2 : Nat → Nat → Int32}
theorem hk_imp {M : hk_M} {d mc ms : Nat} {av : List Value} {h : hk_H} {Q Q' : Option Value → hk_H → Prop} (hq : ∀ r h, Q r h → Q' r h) (w : hk_Ct M d mc ms av h Q) : hk_Ct M d mc ms av h Q' := by
  intro l G p e a1 a2 a3 s m args below a4 a5 a6 a7
  obtain ⟨n, o, b1, b2, b3, ⟨⟨r, h1, e1, e2, e3⟩, e4⟩, b5⟩ := w l G p e a1 a2 a3 s m args below a4 a5 a6 a7
  exact ⟨n, o, b1, b2, b3, ⟨⟨r, h1, e1, hq r h1 e2, e3⟩, e4⟩, b5⟩
/-- names and stack alone are changed -/
def CF (m m1 : Nat → Nat → Int32) : Prop := ∀ a, a ≠ 20 → a ≠ 21 → m1 a = m a
theorem CF.refl : CF m m := fun _ _ _ => rfl
theorem CF.t (s : CF m m1) (u : CF m1 m2) : CF m m2 := fun a h h2 => (u a h h2).trans (s a h h2)
theorem CF.s (h : ∀ a, a ≠ 21 → m1 a = m a) : CF m m1 := fun a _ h2 => h a h2
abbrev GL (m : Nat → Nat → Int32) (L : Nat) : Prop := GLw L (m 67) (m 68) (m 69) (m 70) (m 71) (fun k => m (99 + k))
theorem GL.k (g : GL m L) (s : CF m m1) : GL m1 L := by
  have e : (fun k => m1 (99 + k)) = fun k => m (99 + k) := by funext k; exact s _ (by omega) (by omega)
  unfold GL
  rw [s 67 (by decide) (by decide), s 68 (by decide) (by decide), s 69 (by decide) (by decide), s 70 (by decide) (by decide), s 71 (by decide) (by decide), e]
  exact g
theorem GL.kd (g : GL m L) {i : Nat} (hi : i < L) : m (99 + 2 * i) 0 = m 69 i ∧ m (99 + 2 * i) 1 = m 70 i ∧ m (99 + 2 * i) 2 = m 71 i := by
  obtain ⟨h1, h2, h3, _⟩ := g i hi
  exact ⟨h1.symm, h2.symm, h3.symm⟩
theorem GL.al (g : GL m L) (hL : L ≤ 40) : AL m L := fun i hi => by
  obtain ⟨_, _, _, n, c, v, h4, h5, h6, _⟩ := g i hi
  have ht : TL m i v := ⟨by omega, n, c, h4, h5, h6⟩
  rw [ht.lv]; exact ht
theorem CF.lv (s : CF m m1) : LV m1 = LV m := by
  unfold LV
  rw [s 67 (by decide) (by decide), s 68 (by decide) (by decide)]
theorem CF.lq (s : CF m m1) {k d w : Int32} {nL : Nat} : LQ m1 k d w nL = LQ m k d w nL := by
  unfold LQ
  rw [s 69 (by decide) (by decide), s 70 (by decide) (by decide), s 71 (by decide) (by decide)]
theorem CF.fq (s : CF m m1) {nm : Nat → Int32} {k d w : Int32} {nL : Nat} : fo1 m1 nm k d w nL = fo1 m nm k d w nL := by
  unfold fo1
  rw [s.lq, s.lv]
set_option maxRecDepth 20000 in
set_option maxHeartbeats 2000000 in
theorem ct_lawAt (hL : m 15 2 = nI L) (hL4 : L ≤ 40) {i : Nat} (hi : i < L) : hk_Cd MX4_lawAt 0 0 0 [.ref 15, .int (nI i)] (hk_h L m) (some (.ref (99 + 2 * i))) (hk_h L m) := by
  refine hk_ofWP (by decide) (by simp [Value.category]) (Nat.le_of_ble_eq_true rfl) ?_
  show hk_WP _ _ _ _ _ _ _ [some (.ref 15), some (.int (nI i))] [] _ _
  refine hk_iload_n dX4_lawAt_0 rfl rfl ?_
  refine hk_if_lt (tgt := 27) dX4_lawAt_1 (by decide) (fun c1 => absurd c1 (nI_pos (by omega))) (fun _ => ?_)
  refine hk_iload_n dX4_lawAt_4 rfl rfl ?_
  refine hk_aload_n dX4_lawAt_5 rfl rfl ?_
  refine gfX4_43 rfl dX4_lawAt_6 (hk_lt (by decide)) rfl rfl ?_
  refine hk_icmp_ge (tgt := 27) dX4_lawAt_9 (by decide) (fun c9 => absurd c9 (by rw [hL]; exact nI_ge hi (by omega))) (fun _ => ?_)
  refine hk_iload_n dX4_lawAt_12 rfl rfl ?_
  refine hk_bipush (v := 40) dX4_lawAt_13 (by decide) ?_
  refine hk_icmp_ge (tgt := 27) dX4_lawAt_15 (by decide) (fun c15 => absurd c15 (by show ¬ nI 40 ≤ nI i; exact nI_ge (by omega) (by decide))) (fun _ => ?_)
  refine hk_aload_n dX4_lawAt_18 rfl rfl ?_
  refine gfX4_20 rfl dX4_lawAt_19 (hk_lt (by decide)) rfl rfl ?_
  refine hk_iload_n dX4_lawAt_22 rfl rfl ?_
  refine hk_aaload (N := 40) (f := fun j => if j < L then some (99 + 2 * j) else none) dX4_lawAt_23 (hk_lt (by decide)) rfl (vp_in_nI (by omega) (by decide)) ?_
  rw [show va_rf ((fun j => if j < L then some (99 + 2 * j) else none) (nI i).toNatClampNeg) = .ref (99 + 2 * i) by rw [nI_clamp (by omega)]; simp only [if_pos hi]; rfl]
  refine hk_goto (tgt := 28) dX4_lawAt_24 (by decide) ?_
  exact hk_areturn dX4_lawAt_28 rfl (Or.inl ⟨_, rfl⟩) (Or.inr ⟨_, rfl⟩) (by decide) ⟨rfl, rfl⟩
set_option maxRecDepth 20000 in
set_option maxHeartbeats 2000000 in
theorem ct_lawAt_no (hL : m 15 2 = nI L) (hL4 : L ≤ 40) {x : Int32} (hx : ¬ inR x L) : hk_Cd MX4_lawAt 0 0 0 [.ref 15, .int x] (hk_h L m) (some .null) (hk_h L m) := by
  refine hk_ofWP (by decide) (by simp [Value.category]) (Nat.le_of_ble_eq_true rfl) ?_
  show hk_WP _ _ _ _ _ _ _ [some (.ref 15), some (.int x)] [] _ _
  refine hk_iload_n dX4_lawAt_0 rfl rfl ?_
  refine hk_if_lt (tgt := 27) dX4_lawAt_1 (by decide) (fun c1 => ?_) (fun c1 => ?_)
  · refine hk_null dX4_lawAt_27 ?_
    exact hk_areturn dX4_lawAt_28 rfl (Or.inl ⟨_, rfl⟩) (Or.inl rfl) (by decide) ⟨rfl, rfl⟩
  · refine hk_iload_n dX4_lawAt_4 rfl rfl ?_
    refine hk_aload_n dX4_lawAt_5 rfl rfl ?_
    refine gfX4_43 rfl dX4_lawAt_6 (hk_lt (by decide)) rfl rfl ?_
    refine hk_icmp_ge (tgt := 27) dX4_lawAt_9 (by decide) (fun c9 => ?_) (fun c9 => ?_)
    · rw [hL] at c9
      refine hk_null dX4_lawAt_27 ?_
      exact hk_areturn dX4_lawAt_28 rfl (Or.inl ⟨_, rfl⟩) (Or.inl rfl) (by decide) ⟨rfl, rfl⟩
    · rw [hL] at c9
      refine hk_iload_n dX4_lawAt_12 rfl rfl ?_
      refine hk_bipush (v := 40) dX4_lawAt_13 (by decide) ?_
      exact absurd ⟨c1, c9⟩ hx
set_option maxRecDepth 20000 in
set_option maxHeartbeats 2000000 in
theorem ct_isOfKind (hL : m 15 2 = nI L) (hL4 : L ≤ 40) {i : Nat} (hi : i < L) (k : Int32) : hk_Cd MX4_isOfKind 1 0 0 [.ref 15, .int (nI i), .int k] (hk_h L m) (some (.int (bI (m (99 + 2 * i) 0 = k)))) (hk_h L m) := by
  refine hk_ofWP (by decide) (by simp [Value.category]) (Nat.le_of_ble_eq_true rfl) ?_
  show hk_WP _ _ _ _ _ _ _ [some (.ref 15), some (.int (nI i)), some (.int k), none] [] _ _
  refine hk_aload_n dX4_isOfKind_0 rfl rfl ?_
  refine hk_iload_n dX4_isOfKind_1 rfl rfl ?_
  refine ivX4_71 rfl (ct_lawAt hL hL4 hi) dX4_isOfKind_2 (hk_lt (by decide)) rfl rfl rfl (by decide) ⟨by decide, by decide⟩ (Nat.le_of_ble_eq_true rfl) (hk_kd ?_)
  refine hk_astore_n dX4_isOfKind_5 rfl (by decide) rfl ?_
  refine hk_aload_n dX4_isOfKind_6 rfl rfl ?_
  refine hk_ifnull dX4_isOfKind_7 ?_
  refine hk_aload_n dX4_isOfKind_10 rfl rfl ?_
  refine gfX4_75 rfl dX4_isOfKind_11 (Nat.lt_of_succ_lt (ent_lt hi)) (ent_o L i _) rfl ?_
  refine hk_iload_n dX4_isOfKind_14 rfl rfl ?_
  refine hk_icmp_ne (tgt := 22) dX4_isOfKind_15 (by decide) (fun c15 => ?_) (fun c15 => ?_)
  · refine hk_iconst (v := 0) dX4_isOfKind_22 (by decide) ?_
    exact hk_ireturn dX4_isOfKind_23 rfl rfl (by decide) ⟨by first | exact bI_r1 c15 | exact bI_r0 c15, rfl⟩
  · refine hk_iconst (v := 1) dX4_isOfKind_18 (by decide) ?_
    refine hk_goto (tgt := 23) dX4_isOfKind_19 (by decide) ?_
    exact hk_ireturn dX4_isOfKind_23 rfl rfl (by decide) ⟨by first | exact bI_r1 c15 | exact bI_r0 c15, rfl⟩
set_option maxRecDepth 20000 in
set_option maxHeartbeats 2000000 in
theorem ct_isOfKind_no (hL : m 15 2 = nI L) (hL4 : L ≤ 40) {x : Int32} (hx : ¬ inR x L) (k : Int32) : hk_Cd MX4_isOfKind 1 0 0 [.ref 15, .int x, .int k] (hk_h L m) (some (.int 0)) (hk_h L m) := by
  refine hk_ofWP (by decide) (by simp [Value.category]) (Nat.le_of_ble_eq_true rfl) ?_
  show hk_WP _ _ _ _ _ _ _ [some (.ref 15), some (.int x), some (.int k), none] [] _ _
  refine hk_aload_n dX4_isOfKind_0 rfl rfl ?_
  refine hk_iload_n dX4_isOfKind_1 rfl rfl ?_
  refine ivX4_71 rfl (ct_lawAt_no hL hL4 hx) dX4_isOfKind_2 (hk_lt (by decide)) rfl rfl rfl (by decide) ⟨by decide, by decide⟩ (Nat.le_of_ble_eq_true rfl) (hk_kd ?_)
  refine hk_astore_nN dX4_isOfKind_5 rfl (by decide) rfl ?_
  refine hk_aload_nN dX4_isOfKind_6 rfl rfl ?_
  refine hk_ifnullN (tgt := 22) dX4_isOfKind_7 (by decide) ?_
  refine hk_iconst (v := 0) dX4_isOfKind_22 (by decide) ?_
  exact hk_ireturn dX4_isOfKind_23 rfl rfl (by decide) ⟨rfl, rfl⟩
set_option maxRecDepth 20000 in
set_option maxHeartbeats 2000000 in
theorem lp_lawInForce (hL : m 15 2 = nI L) (hL4 : L ≤ 40) (g : GL m L) (k d w : Int32) (j : Nat) (hj : j ≤ L) (hno : LQ m k d w L = LQ m k d w j) (l5 : Option Value) : hk_WP MX4_lawInForce 1 0 0 0 0 8 [some (.ref 15), some (.int k), some (.int d), some (.int w), some (.int (nI j - 1)), l5] [] (hk_h L m) (fun r h' => r = some (.int (fo (-1) (LQ m k d w L))) ∧ h' = hk_h L m) := by
  refine hk_iload dX4_lawInForce_8 rfl ?_
  refine hk_if_lt (tgt := 62) dX4_lawInForce_10 (by decide) (fun c10 => ?_) (fun c10 => ?_)
  · rw [nIm (by omega)] at c10
    refine hk_iconst (v := (-1)) dX4_lawInForce_62 (by decide) ?_
    exact hk_ireturn dX4_lawInForce_63 rfl rfl (by decide) ⟨by rw [hno, c10]; rfl, rfl⟩
  · rw [nIm (by omega)] at c10
    obtain ⟨i, rfl⟩ : ∃ i, j = i + 1 := ⟨j - 1, by omega⟩
    have hi : i < L := hj
    obtain ⟨q1, q2, q3⟩ := g.kd hi
    rw [nI_pred]
    refine hk_aload_n dX4_lawInForce_13 rfl rfl ?_
    refine hk_iload dX4_lawInForce_14 rfl ?_
    refine ivX4_71 rfl (ct_lawAt hL hL4 hi) dX4_lawInForce_16 (hk_lt (by decide)) rfl rfl rfl (by decide) ⟨by decide, by decide⟩ (Nat.le_of_ble_eq_true rfl) (hk_kd ?_)
    refine hk_astore dX4_lawInForce_19 (by decide) rfl ?_
    refine hk_aload dX4_lawInForce_21 rfl ?_
    refine hk_ifnull dX4_lawInForce_23 ?_
    refine hk_aload dX4_lawInForce_26 rfl ?_
    refine gfX4_75 rfl dX4_lawInForce_28 (Nat.lt_of_succ_lt (ent_lt hi)) (ent_o L i _) rfl ?_
    refine hk_iload_n dX4_lawInForce_31 rfl rfl ?_
    refine hk_icmp_ne (tgt := 56) dX4_lawInForce_32 (by decide) (fun c32 => ?_) (fun c32 => ?_)
    · refine hk_iinc (v := nI i - 1) dX4_lawInForce_56 rfl (by rw [show Int32.ofInt (-1) = -1 from rfl, ← Int32.sub_eq_add_neg]) (by decide) rfl ?_
      refine hk_goto (tgt := 8) dX4_lawInForce_59 (by decide) ?_
      have hs := lp_lawInForce hL hL4 g k d w i (by omega) (by rw [hno]; unfold LQ; exact la_n (fun z => by
          obtain ⟨z1, z2, z3⟩ := z
          first
          | exact c32 (q1.trans z1)
          | exact absurd c41 (Int32.not_lt.mpr (q3 ▸ z2))
          | exact absurd c50 (Int32.not_lt.mpr (q2 ▸ z3)))) (some (.ref (99 + 2 * i)))
      exact hs
    · refine hk_aload dX4_lawInForce_35 rfl ?_
      refine gfX4_78 rfl dX4_lawInForce_37 (Nat.lt_of_succ_lt (ent_lt hi)) (ent_o L i _) rfl ?_
      refine hk_iload_n dX4_lawInForce_40 rfl rfl ?_
      refine hk_icmp_gt (tgt := 56) dX4_lawInForce_41 (by decide) (fun c41 => ?_) (fun c41 => ?_)
      · refine hk_iinc (v := nI i - 1) dX4_lawInForce_56 rfl (by rw [show Int32.ofInt (-1) = -1 from rfl, ← Int32.sub_eq_add_neg]) (by decide) rfl ?_
        refine hk_goto (tgt := 8) dX4_lawInForce_59 (by decide) ?_
        have hs := lp_lawInForce hL hL4 g k d w i (by omega) (by rw [hno]; unfold LQ; exact la_n (fun z => by
            obtain ⟨z1, z2, z3⟩ := z
            first
            | exact c32 (q1.trans z1)
            | exact absurd c41 (Int32.not_lt.mpr (q3 ▸ z2))
            | exact absurd c50 (Int32.not_lt.mpr (q2 ▸ z3)))) (some (.ref (99 + 2 * i)))
        exact hs
      · refine hk_aload dX4_lawInForce_44 rfl ?_
        refine gfX4_81 rfl dX4_lawInForce_46 (Nat.lt_of_succ_lt (ent_lt hi)) (ent_o L i _) rfl ?_
        refine hk_iload_n dX4_lawInForce_49 rfl rfl ?_
        refine hk_icmp_gt (tgt := 56) dX4_lawInForce_50 (by decide) (fun c50 => ?_) (fun c50 => ?_)
        · refine hk_iinc (v := nI i - 1) dX4_lawInForce_56 rfl (by rw [show Int32.ofInt (-1) = -1 from rfl, ← Int32.sub_eq_add_neg]) (by decide) rfl ?_
          refine hk_goto (tgt := 8) dX4_lawInForce_59 (by decide) ?_
          have hs := lp_lawInForce hL hL4 g k d w i (by omega) (by rw [hno]; unfold LQ; exact la_n (fun z => by
              obtain ⟨z1, z2, z3⟩ := z
              first
              | exact c32 (q1.trans z1)
              | exact absurd c41 (Int32.not_lt.mpr (q3 ▸ z2))
              | exact absurd c50 (Int32.not_lt.mpr (q2 ▸ z3)))) (some (.ref (99 + 2 * i)))
          exact hs
        · refine hk_iload dX4_lawInForce_53 rfl ?_
          exact hk_ireturn dX4_lawInForce_55 rfl rfl (by decide) ⟨by rw [hno]; unfold LQ; rw [la_y ⟨q1.symm.trans c32, by rw [← q3]; exact Int32.not_lt.mp c41, by rw [← q2]; exact Int32.not_lt.mp c50⟩]; rfl, rfl⟩
termination_by j
decreasing_by all_goals omega
set_option maxRecDepth 20000 in
set_option maxHeartbeats 2000000 in
theorem ct_lawInForce (hL : m 15 2 = nI L) (hL4 : L ≤ 40) (g : GL m L) (k d w : Int32) : hk_Cd MX4_lawInForce 1 0 0 [.ref 15, .int k, .int d, .int w] (hk_h L m) (some (.int (fo (-1) (LQ m k d w L)))) (hk_h L m) := by
  refine hk_ofWP (by decide) (by simp [Value.category]) (Nat.le_of_ble_eq_true rfl) ?_
  show hk_WP _ _ _ _ _ _ _ [some (.ref 15), some (.int k), some (.int d), some (.int w), none, none] [] _ _
  refine hk_aload_n dX4_lawInForce_0 rfl rfl ?_
  refine gfX4_43 rfl dX4_lawInForce_1 (hk_lt (by decide)) rfl rfl ?_
  refine hk_iconst (v := 1) dX4_lawInForce_4 (by decide) ?_
  refine hk_isub dX4_lawInForce_5 ?_
  refine hk_istore dX4_lawInForce_6 (by decide) rfl ?_
  rw [hL]
  exact lp_lawInForce hL hL4 g k d w L (Nat.le_refl _) rfl _
set_option maxRecDepth 20000 in
set_option maxHeartbeats 2000000 in
theorem ct_tellRide (y t w : Int32) : hk_Cd MX4_tellRide 0 0 0 [.ref 15, .int y, .int t, .int w] (hk_h L m) none (hk_h L (hk_w (hk_w (hk_w m 20 0 y) 20 1 t) 20 2 w)) := by
  refine hk_ofWP (by decide) (by simp [Value.category]) (Nat.le_of_ble_eq_true rfl) ?_
  show hk_WP _ _ _ _ _ _ _ [some (.ref 15), some (.int y), some (.int t), some (.int w)] [] _ _
  refine hk_aload_n dX4_tellRide_0 rfl rfl ?_
  refine gfX4_24 rfl dX4_tellRide_1 (hk_lt (by decide)) rfl rfl ?_
  refine hk_iconst (v := 0) dX4_tellRide_4 (by decide) ?_
  refine hk_iload_n dX4_tellRide_5 rfl rfl ?_
  refine hk_isn (j := 0) dX4_tellRide_6 (by decide) (fun _ => rfl) rfl (by decide) (by decide) ?_
  refine hk_aload_n dX4_tellRide_7 rfl rfl ?_
  refine gfX4_24 rfl dX4_tellRide_8 (hk_lt (by decide)) rfl rfl ?_
  refine hk_iconst (v := 1) dX4_tellRide_11 (by decide) ?_
  refine hk_iload_n dX4_tellRide_12 rfl rfl ?_
  refine hk_isn (j := 1) dX4_tellRide_13 (by decide) (fun _ => rfl) rfl (by decide) (by decide) ?_
  refine hk_aload_n dX4_tellRide_14 rfl rfl ?_
  refine gfX4_24 rfl dX4_tellRide_15 (hk_lt (by decide)) rfl rfl ?_
  refine hk_iconst (v := 2) dX4_tellRide_18 (by decide) ?_
  refine hk_iload_n dX4_tellRide_19 rfl rfl ?_
  refine hk_isn (j := 2) dX4_tellRide_20 (by decide) (fun _ => rfl) rfl (by decide) (by decide) ?_
  exact hk_return dX4_tellRide_21 rfl (by decide) ⟨rfl, rfl⟩
set_option maxRecDepth 20000 in
set_option maxHeartbeats 2000000 in
theorem ct_tellTime (g d u : Int32) : hk_Cd MX4_tellTime 0 0 0 [.ref 15, .int g, .int d, .int u] (hk_h L m) none (hk_h L (hk_w (hk_w (hk_w m 20 3 g) 20 4 d) 20 5 u)) := by
  refine hk_ofWP (by decide) (by simp [Value.category]) (Nat.le_of_ble_eq_true rfl) ?_
  show hk_WP _ _ _ _ _ _ _ [some (.ref 15), some (.int g), some (.int d), some (.int u)] [] _ _
  refine hk_aload_n dX4_tellTime_0 rfl rfl ?_
  refine gfX4_24 rfl dX4_tellTime_1 (hk_lt (by decide)) rfl rfl ?_
  refine hk_iconst (v := 3) dX4_tellTime_4 (by decide) ?_
  refine hk_iload_n dX4_tellTime_5 rfl rfl ?_
  refine hk_isn (j := 3) dX4_tellTime_6 (by decide) (fun _ => rfl) rfl (by decide) (by decide) ?_
  refine hk_aload_n dX4_tellTime_7 rfl rfl ?_
  refine gfX4_24 rfl dX4_tellTime_8 (hk_lt (by decide)) rfl rfl ?_
  refine hk_iconst (v := 4) dX4_tellTime_11 (by decide) ?_
  refine hk_iload_n dX4_tellTime_12 rfl rfl ?_
  refine hk_isn (j := 4) dX4_tellTime_13 (by decide) (fun _ => rfl) rfl (by decide) (by decide) ?_
  refine hk_aload_n dX4_tellTime_14 rfl rfl ?_
  refine gfX4_24 rfl dX4_tellTime_15 (hk_lt (by decide)) rfl rfl ?_
  refine hk_iconst (v := 5) dX4_tellTime_18 (by decide) ?_
  refine hk_iload_n dX4_tellTime_19 rfl rfl ?_
  refine hk_isn (j := 5) dX4_tellTime_20 (by decide) (fun _ => rfl) rfl (by decide) (by decide) ?_
  exact hk_return dX4_tellTime_21 rfl (by decide) ⟨rfl, rfl⟩
set_option maxRecDepth 20000 in
set_option maxHeartbeats 2000000 in
theorem ct_tellLoad (p b s : Int32) : hk_Cd MX4_tellLoad 0 0 0 [.ref 15, .int p, .int b, .int s] (hk_h L m) none (hk_h L (hk_w (hk_w (hk_w m 20 6 p) 20 7 b) 20 8 s)) := by
  refine hk_ofWP (by decide) (by simp [Value.category]) (Nat.le_of_ble_eq_true rfl) ?_
  show hk_WP _ _ _ _ _ _ _ [some (.ref 15), some (.int p), some (.int b), some (.int s)] [] _ _
  refine hk_aload_n dX4_tellLoad_0 rfl rfl ?_
  refine gfX4_24 rfl dX4_tellLoad_1 (hk_lt (by decide)) rfl rfl ?_
  refine hk_bipush (v := 6) dX4_tellLoad_4 (by decide) ?_
  refine hk_iload_n dX4_tellLoad_6 rfl rfl ?_
  refine hk_isn (j := 6) dX4_tellLoad_7 (by decide) (fun _ => rfl) rfl (by decide) (by decide) ?_
  refine hk_aload_n dX4_tellLoad_8 rfl rfl ?_
  refine gfX4_24 rfl dX4_tellLoad_9 (hk_lt (by decide)) rfl rfl ?_
  refine hk_bipush (v := 7) dX4_tellLoad_12 (by decide) ?_
  refine hk_iload_n dX4_tellLoad_14 rfl rfl ?_
  refine hk_isn (j := 7) dX4_tellLoad_15 (by decide) (fun _ => rfl) rfl (by decide) (by decide) ?_
  refine hk_aload_n dX4_tellLoad_16 rfl rfl ?_
  refine gfX4_24 rfl dX4_tellLoad_17 (hk_lt (by decide)) rfl rfl ?_
  refine hk_bipush (v := 8) dX4_tellLoad_20 (by decide) ?_
  refine hk_iload_n dX4_tellLoad_22 rfl rfl ?_
  refine hk_isn (j := 8) dX4_tellLoad_23 (by decide) (fun _ => rfl) rfl (by decide) (by decide) ?_
  exact hk_return dX4_tellLoad_24 rfl (by decide) ⟨rfl, rfl⟩
set_option maxRecDepth 20000 in
set_option maxHeartbeats 2000000 in
theorem ct_worthOf (hL : m 15 2 = nI L) (hL4 : L ≤ 40) (g : GL m L) {i : Nat} (hi : i < L) : hk_Ct MX4_worthOf 2 0 0 [.ref 15, .int (nI i)] (hk_h L m) (fun r h => ∃ m1, r = some (.int (LV m i (nmC m))) ∧ h = hk_h L m1 ∧ ∀ a, a ≠ 21 → m1 a = m a) := by
  obtain ⟨_, _, _, n, c, v, h4, h5, h6, h7, h8⟩ := g i hi
  have ht : TL m i v := ⟨by omega, n, c, h4, h5, h6⟩
  have hB := PB_PE (fun j => m 67 (160 * i + j)) n 12 0 0 (Nat.zero_le _)
  rw [h6] at hB
  simp only at hB
  rw [ht.lv]
  refine hk_ofWP (by decide) (by simp [Value.category]) (Nat.le_of_ble_eq_true rfl) ?_
  show hk_WP _ _ _ _ _ _ _ [some (.ref 15), some (.int (nI i)), none] [] _ _
  refine hk_aload_n dX4_worthOf_0 rfl rfl ?_
  refine hk_iload_n dX4_worthOf_1 rfl rfl ?_
  refine ivX4_71 rfl (ct_lawAt hL hL4 hi) dX4_worthOf_2 (hk_lt (by decide)) rfl rfl rfl (by decide) ⟨by decide, by decide⟩ (Nat.le_of_ble_eq_true rfl) (hk_kd ?_)
  refine hk_astore_n dX4_worthOf_5 rfl (by decide) rfl ?_
  refine hk_aload_n dX4_worthOf_6 rfl rfl ?_
  refine hk_ifnonnull (tgt := 14) dX4_worthOf_7 (by decide) ?_
  refine hk_aload_n dX4_worthOf_14 rfl rfl ?_
  refine hk_aload_n dX4_worthOf_15 rfl rfl ?_
  refine gfX4_24 rfl dX4_worthOf_16 (hk_lt (by decide)) rfl rfl ?_
  refine hk_aload_n dX4_worthOf_19 rfl rfl ?_
  refine gfX4_28 rfl dX4_worthOf_20 (hk_lt (by decide)) rfl rfl ?_
  refine ivX4_84 rfl (ct_worth hi h7 (by omega) h6 h8) dX4_worthOf_23 (Nat.lt_of_succ_lt (ent_lt hi)) (ent_o L i _) rfl rfl (by decide) ⟨by decide, by decide⟩ (Nat.le_of_ble_eq_true rfl) (fun r h1 hq => ?_)
  obtain ⟨m3, rfl, rfl, s3⟩ := hq
  exact hk_ireturn dX4_worthOf_26 rfl rfl (by decide) ⟨m3, rfl, rfl, s3⟩
set_option maxRecDepth 20000 in
set_option maxHeartbeats 2000000 in
theorem ct_worthOf_no (hL : m 15 2 = nI L) (hL4 : L ≤ 40) {x : Int32} (hx : ¬ inR x L) : hk_Cd MX4_worthOf 2 0 0 [.ref 15, .int x] (hk_h L m) (some (.int 0)) (hk_h L m) := by
  refine hk_ofWP (by decide) (by simp [Value.category]) (Nat.le_of_ble_eq_true rfl) ?_
  show hk_WP _ _ _ _ _ _ _ [some (.ref 15), some (.int x), none] [] _ _
  refine hk_aload_n dX4_worthOf_0 rfl rfl ?_
  refine hk_iload_n dX4_worthOf_1 rfl rfl ?_
  refine ivX4_71 rfl (ct_lawAt_no hL hL4 hx) dX4_worthOf_2 (hk_lt (by decide)) rfl rfl rfl (by decide) ⟨by decide, by decide⟩ (Nat.le_of_ble_eq_true rfl) (hk_kd ?_)
  refine hk_astore_nN dX4_worthOf_5 rfl (by decide) rfl ?_
  refine hk_aload_nN dX4_worthOf_6 rfl rfl ?_
  refine hk_ifnonnullN dX4_worthOf_7 ?_
  refine hk_iconst (v := 0) dX4_worthOf_10 (by decide) ?_
  refine hk_goto (tgt := 26) dX4_worthOf_11 (by decide) ?_
  exact hk_ireturn dX4_worthOf_26 rfl rfl (by decide) ⟨rfl, rfl⟩
theorem clp_mm (x : Int32) : (if 0 < (if x < 1000000 then x else 1000000) then (if x < 1000000 then x else 1000000) else 0) = if x < 0 then 0 else if 1000000 < x then 1000000 else x := by
  have k0 : (0 : Int32).toInt = 0 := rfl
  have kM : (1000000 : Int32).toInt = 1000000 := rfl
  by_cases h1 : x < 1000000
  · rw [if_pos h1]
    by_cases h2 : 0 < x
    · rw [if_pos h2, if_neg (show ¬ x < 0 from fun z => by simp only [i32_lt, k0, kM] at *; omega), if_neg (show ¬ 1000000 < x from fun z => by simp only [i32_lt, k0, kM] at *; omega)]
    · rw [if_neg h2]
      by_cases h3 : x < 0
      · rw [if_pos h3]
      · rw [if_neg h3, if_neg (show ¬ 1000000 < x from fun z => by simp only [i32_lt, k0, kM] at *; omega)]
        exact (Int32.toInt_inj.mp (by simp only [i32_lt, k0, kM] at *; omega)).symm
  · rw [if_neg h1, if_pos (show (0 : Int32) < 1000000 by decide), if_neg (show ¬ x < 0 from fun z => by simp only [i32_lt, k0, kM] at *; omega)]
    by_cases h3 : 1000000 < x
    · rw [if_pos h3]
    · rw [if_neg h3]
      exact Int32.toInt_inj.mp (by simp only [i32_lt, k0, kM] at *; omega)
set_option maxRecDepth 20000 in
set_option maxHeartbeats 2000000 in
theorem ct_fareBy (hL : m 15 2 = nI L) (hL4 : L ≤ 40) (g : GL m L) {i : Nat} (hi : i < L) : hk_Ct MX4_fareBy 2 0 0 [.ref 15, .int (nI i)] (hk_h L m) (fun r h => ∃ m1, r = some (.int (clp (LV m i (nmC m)))) ∧ h = hk_h L m1 ∧ ∀ a, a ≠ 21 → m1 a = m a) := by
  obtain ⟨_, _, _, n, c, v, h4, h5, h6, h7, h8⟩ := g i hi
  have ht : TL m i v := ⟨by omega, n, c, h4, h5, h6⟩
  have hB := PB_PE (fun j => m 67 (160 * i + j)) n 12 0 0 (Nat.zero_le _)
  rw [h6] at hB
  simp only at hB
  rw [ht.lv]
  refine hk_ofWP (by decide) (by simp [Value.category]) (Nat.le_of_ble_eq_true rfl) ?_
  show hk_WP _ _ _ _ _ _ _ [some (.ref 15), some (.int (nI i)), none] [] _ _
  refine hk_aload_n dX4_fareBy_0 rfl rfl ?_
  refine hk_iload_n dX4_fareBy_1 rfl rfl ?_
  refine ivX4_71 rfl (ct_lawAt hL hL4 hi) dX4_fareBy_2 (hk_lt (by decide)) rfl rfl rfl (by decide) ⟨by decide, by decide⟩ (Nat.le_of_ble_eq_true rfl) (hk_kd ?_)
  refine hk_astore_n dX4_fareBy_5 rfl (by decide) rfl ?_
  refine hk_aload_n dX4_fareBy_6 rfl rfl ?_
  refine hk_ifnonnull (tgt := 14) dX4_fareBy_7 (by decide) ?_
  refine hk_iconst (v := 0) dX4_fareBy_14 (by decide) ?_
  refine hk_ldc dX4_fareBy_15 hk_k4_88 ?_
  refine hk_aload_n dX4_fareBy_17 rfl rfl ?_
  refine hk_aload_n dX4_fareBy_18 rfl rfl ?_
  refine gfX4_24 rfl dX4_fareBy_19 (hk_lt (by decide)) rfl rfl ?_
  refine hk_aload_n dX4_fareBy_22 rfl rfl ?_
  refine gfX4_28 rfl dX4_fareBy_23 (hk_lt (by decide)) rfl rfl ?_
  refine ivX4_84 rfl (ct_worth hi h7 (by omega) h6 h8) dX4_fareBy_26 (Nat.lt_of_succ_lt (ent_lt hi)) (ent_o L i _) rfl rfl (by decide) ⟨by decide, by decide⟩ (Nat.le_of_ble_eq_true rfl) (fun r h1 hq => ?_)
  obtain ⟨m3, rfl, rfl, s3⟩ := hq
  refine hk_mmin ⟨hk_t 508 (by decide +kernel) rfl, hk_t 509 (by decide +kernel) rfl, hk_t 11 (by decide +kernel) rfl, hk_t 510 (by decide +kernel) rfl⟩ dX4_fareBy_29 (by decide) (Nat.le_of_ble_eq_true rfl) ⟨by decide, by decide⟩ ?_
  refine hk_mmax ⟨hk_t 511 (by decide +kernel) rfl, hk_t 503 (by decide +kernel) rfl, hk_t 11 (by decide +kernel) rfl, hk_t 504 (by decide +kernel) rfl⟩ dX4_fareBy_32 (by decide) (Nat.le_of_ble_eq_true rfl) ⟨by decide, by decide⟩ ?_
  exact hk_ireturn dX4_fareBy_35 rfl rfl (by decide) ⟨m3, by unfold clp; exact congrArg (fun x => some (Value.int x)) (clp_mm (v (nmC m))), rfl, s3⟩
set_option maxRecDepth 20000 in
set_option maxHeartbeats 2000000 in
theorem ct_fareBy_no (hL : m 15 2 = nI L) (hL4 : L ≤ 40) {x : Int32} (hx : ¬ inR x L) : hk_Cd MX4_fareBy 2 0 0 [.ref 15, .int x] (hk_h L m) (some (.int (-1))) (hk_h L m) := by
  refine hk_ofWP (by decide) (by simp [Value.category]) (Nat.le_of_ble_eq_true rfl) ?_
  show hk_WP _ _ _ _ _ _ _ [some (.ref 15), some (.int x), none] [] _ _
  refine hk_aload_n dX4_fareBy_0 rfl rfl ?_
  refine hk_iload_n dX4_fareBy_1 rfl rfl ?_
  refine ivX4_71 rfl (ct_lawAt_no hL hL4 hx) dX4_fareBy_2 (hk_lt (by decide)) rfl rfl rfl (by decide) ⟨by decide, by decide⟩ (Nat.le_of_ble_eq_true rfl) (hk_kd ?_)
  refine hk_astore_nN dX4_fareBy_5 rfl (by decide) rfl ?_
  refine hk_aload_nN dX4_fareBy_6 rfl rfl ?_
  refine hk_ifnonnullN dX4_fareBy_7 ?_
  refine hk_iconst (v := (-1)) dX4_fareBy_10 (by decide) ?_
  refine hk_goto (tgt := 35) dX4_fareBy_11 (by decide) ?_
  exact hk_ireturn dX4_fareBy_35 rfl rfl (by decide) ⟨rfl, rfl⟩
def lf (a b : Int32) : Int32 := if a < 0 ∨ b < 0 then (if a < b then b else a) else if b < a then b else a
set_option maxRecDepth 20000 in
set_option maxHeartbeats 2000000 in
theorem ct_lesserFare (a b : Int32) : hk_Cd MX4_lesserFare 1 0 0 [.int a, .int b] (hk_h L m) (some (.int (lf a b))) (hk_h L m) := by
  refine hk_ofWP (by decide) (by simp [Value.category]) (Nat.le_of_ble_eq_true rfl) ?_
  show hk_WP _ _ _ _ _ _ _ [some (.int a), some (.int b)] [] _ _
  refine hk_iload_n dX4_lesserFare_0 rfl rfl ?_
  refine hk_if_lt (tgt := 8) dX4_lesserFare_1 (by decide) (fun c1 => ?_) (fun c1 => ?_)
  · refine hk_iload_n dX4_lesserFare_8 rfl rfl ?_
    refine hk_iload_n dX4_lesserFare_9 rfl rfl ?_
    refine hk_mmax ⟨hk_t 511 (by decide +kernel) rfl, hk_t 503 (by decide +kernel) rfl, hk_t 11 (by decide +kernel) rfl, hk_t 504 (by decide +kernel) rfl⟩ dX4_lesserFare_10 (by decide) (Nat.le_of_ble_eq_true rfl) ⟨by decide, by decide⟩ ?_
    refine hk_goto (tgt := 21) dX4_lesserFare_13 (by decide) ?_
    exact hk_ireturn dX4_lesserFare_21 rfl rfl (by decide) ⟨by unfold lf; first | rw [if_pos (Or.inl c1)] | rw [if_pos (Or.inr (Int32.not_le.mp c5))] | rw [if_neg (show ¬ (a < 0 ∨ b < 0) from fun z => z.elim c1 (Int32.not_lt.mpr c5))], rfl⟩
  · refine hk_iload_n dX4_lesserFare_4 rfl rfl ?_
    refine hk_if_ge (tgt := 16) dX4_lesserFare_5 (by decide) (fun c5 => ?_) (fun c5 => ?_)
    · refine hk_iload_n dX4_lesserFare_16 rfl rfl ?_
      refine hk_iload_n dX4_lesserFare_17 rfl rfl ?_
      refine hk_mmin ⟨hk_t 508 (by decide +kernel) rfl, hk_t 509 (by decide +kernel) rfl, hk_t 11 (by decide +kernel) rfl, hk_t 510 (by decide +kernel) rfl⟩ dX4_lesserFare_18 (by decide) (Nat.le_of_ble_eq_true rfl) ⟨by decide, by decide⟩ ?_
      exact hk_ireturn dX4_lesserFare_21 rfl rfl (by decide) ⟨by unfold lf; first | rw [if_pos (Or.inl c1)] | rw [if_pos (Or.inr (Int32.not_le.mp c5))] | rw [if_neg (show ¬ (a < 0 ∨ b < 0) from fun z => z.elim c1 (Int32.not_lt.mpr c5))], rfl⟩
    · refine hk_iload_n dX4_lesserFare_8 rfl rfl ?_
      refine hk_iload_n dX4_lesserFare_9 rfl rfl ?_
      refine hk_mmax ⟨hk_t 511 (by decide +kernel) rfl, hk_t 503 (by decide +kernel) rfl, hk_t 11 (by decide +kernel) rfl, hk_t 504 (by decide +kernel) rfl⟩ dX4_lesserFare_10 (by decide) (Nat.le_of_ble_eq_true rfl) ⟨by decide, by decide⟩ ?_
      refine hk_goto (tgt := 21) dX4_lesserFare_13 (by decide) ?_
      exact hk_ireturn dX4_lesserFare_21 rfl rfl (by decide) ⟨by unfold lf; first | rw [if_pos (Or.inl c1)] | rw [if_pos (Or.inr (Int32.not_le.mp c5))] | rw [if_neg (show ¬ (a < 0 ∨ b < 0) from fun z => z.elim c1 (Int32.not_lt.mpr c5))], rfl⟩
/-- what the class makes of two fares, either of which may be missing -/
def fvc (x y : Option Int32) : Int32 := match x, y with
  | none, none => -1
  | x, y => fv x y
theorem lf_fvc {x y : Option Int32} (hx : ∀ a, x = some a → ¬ a < 0) (hy : ∀ a, y = some a → ¬ a < 0) : lf (x.getD (-1)) (y.getD (-1)) = fvc x y := by
  unfold lf
  cases x with
  | none =>
    rw [if_pos (Or.inl (by decide))]
    cases y with
    | none => rfl
    | some b =>
      have := hy b rfl
      show (if (-1 : Int32) < b then b else -1) = b
      rw [if_pos (by rw [i32_lt] at this ⊢; rw [i32_0] at this; have : (-1 : Int32).toInt = -1 := rfl; omega)]
  | some a =>
    have ha := hx a rfl
    cases y with
    | none =>
      rw [if_pos (Or.inr (by decide))]
      show (if a < -1 then -1 else a) = a
      rw [if_neg (by rw [i32_lt] at ha ⊢; rw [i32_0] at ha; have : (-1 : Int32).toInt = -1 := rfl; omega)]
    | some b =>
      have hb := hy b rfl
      rw [if_neg (fun z => z.elim ha hb)]
      rfl
theorem fo1_0 {nm : Nat → Int32} {k d w : Int32} {nL : Nat} : ∀ a, fo1 m nm k d w nL = some a → ¬ a < 0 := by
  intro a h
  unfold fo1 at h
  cases e : LQ m k d w nL with
  | none => rw [e] at h; cases h
  | some l => rw [e] at h; cases h; exact clp_0
/-- the class's fareBy at what lawInForce says -/
theorem ct_fareByF (hL : m 15 2 = nI L) (hL4 : L ≤ 40) (g : GL m L) (k d w : Int32) : hk_Ct MX4_fareBy 2 0 0 [.ref 15, .int (fo (-1) (LQ m k d w L))] (hk_h L m) (fun r h => ∃ m1, r = some (.int ((fo1 m (nmC m) k d w L).getD (-1))) ∧ h = hk_h L m1 ∧ ∀ a, a ≠ 21 → m1 a = m a) := by
  unfold fo1
  cases e : LQ m k d w L with
  | none =>
    exact hk_imp (fun r h q => ⟨m, q.1, q.2, fun _ _ => rfl⟩) (ct_fareBy_no (L := L) (m := m) hL hL4 (x := -1) (fun z => z.1 (by decide)))
  | some i => exact ct_fareBy hL hL4 g (LQ_lt e).1
end CEx
