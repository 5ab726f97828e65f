/-! the stand asked next: the class's -/
section CDx
variable {L nC nS nK nD : Nat} {m m0 m1 m2 : Nat → Nat → Int32} {z : Nat → Nat}
/-- of those with R and key at least b, the one of least key -/
noncomputable def mk (R : Nat → Prop) (K : Nat → Nat) (b : Nat) : Nat → Option Nat
  | 0 => none
  | n + 1 => @ite _ (R n ∧ b ≤ K n ∧ ∀ s, mk R K b n = some s → K n < K s) (Classical.propDecidable _) (some n) (mk R K b n)
theorem mk_y {R : Nat → Prop} {K : Nat → Nat} {b n : Nat} (h : R n ∧ b ≤ K n ∧ ∀ s, mk R K b n = some s → K n < K s) : mk R K b (n + 1) = some n := if_pos h
theorem mk_n {R : Nat → Prop} {K : Nat → Nat} {b n : Nat} (h : ¬ (R n ∧ b ≤ K n ∧ ∀ s, mk R K b n = some s → K n < K s)) : mk R K b (n + 1) = mk R K b n := if_neg h
theorem mk_lt {R : Nat → Prop} {K : Nat → Nat} {b : Nat} : ∀ {n s : Nat}, mk R K b n = some s → s < n ∧ R s ∧ b ≤ K s
  | 0, s, h => by cases h
  | n + 1, s, h => by
    by_cases c : R n ∧ b ≤ K n ∧ ∀ s, mk R K b n = some s → K n < K s
    · rw [mk_y c] at h; cases h; exact ⟨by omega, c.1, c.2.1⟩
    · rw [mk_n c] at h
      obtain ⟨h1, h2⟩ := mk_lt h
      exact ⟨by omega, h2⟩
/-- a stand's place; whether it is asked; its key -/
def pn (m : Nat → Nat → Int32) (s : Nat) : Nat := (m 14 (s * 13)).toNatClampNeg
def RK (m : Nat → Nat → Int32) (nS n f s : Nat) : Prop := RC (GG m nS (nI n)) f (pn m s)
noncomputable def KK (m : Nat → Nat → Int32) (nS n f s : Nat) : Nat := DD (GG m nS (nI n)) f (pn m s) / 100 * 16 + s
def bo (K : Nat → Nat) : Option Nat → Nat
  | none => 0
  | some l => K l + 1
theorem pn_ok (hI : Inv L z m) {s : Nat} (hs : s < z 3) : pn m s < z 0 ∧ m 14 (s * 13) = nI (pn m s) ∧ m 62 s = nI (pn m s) := by
  obtain ⟨g0, ⟨a, b, c⟩, g2, g3, g4, g5, g6, g7, _⟩ := id hI
  obtain ⟨e1, _, _, x, _, _, k1, k2, _⟩ := g7.1 s hs
  have e : pn m s = x := by unfold pn; rw [e1, k1, nI_clamp (by omega)]
  rw [e]; exact ⟨k2, e1.trans k1, k1⟩
theorem yv_RK (hI : Inv L z m) {n f s : Nat} (h : RK m (z 1) n f s) : yv (GG m (z 1) (nI n)) f (pn m s) = nI (DD (GG m (z 1) (nI n)) f (pn m s) / 100) := by unfold yv; exact if_pos h
set_option maxRecDepth 20000 in
set_option maxHeartbeats 2000000 in
theorem ct_isAskedAfter (hI : Inv L z m) {n f x y : Nat} (h : DRW m (z 1) n f m1) (hx : x < z 3) (hy : y < z 3) (rx : RK m (z 1) n f x) (ry : RK m (z 1) n f y) : hk_Cd MX9_isAskedAfter 4 0 0 [.ref 0, .int (nI x), .int (nI y)] (hk_h L m1) (some (.int (bI (KK m (z 1) n f y < KK m (z 1) n f x)))) (hk_h L m1) := by
  obtain ⟨p1, p2, p3⟩ := pn_ok hI hx
  obtain ⟨q1, q2, q3⟩ := pn_ok hI hy
  obtain ⟨h1, h2, h3, h4, h5, h6, h7⟩ := Inv_gs hI
  obtain ⟨_, ⟨_, _, ⟨_, _, _, c3, _⟩⟩, _⟩ := id hI
  have hD1 := DDb (u := nI n) (GS.gm h4 _ h5) (t := f) (c := pn m x)
  have hD2 := DDb (u := nI n) (GS.gm h4 _ h5) (t := f) (c := pn m y)
  have eK : KK m (z 1) n f y < KK m (z 1) n f x ↔ (DD (GG m (z 1) (nI n)) f (pn m y) / 100 < DD (GG m (z 1) (nI n)) f (pn m x) / 100 ∨ (DD (GG m (z 1) (nI n)) f (pn m y) / 100 = DD (GG m (z 1) (nI n)) f (pn m x) / 100 ∧ y < x)) := by unfold KK; omega
  rw [bI_c eK]
  refine hk_ofWP (by decide) (by simp [Value.category]) (Nat.le_of_ble_eq_true rfl) ?_
  show hk_WP _ _ _ _ _ _ _ [some (.ref 0), some (.int (nI x)), some (.int (nI y)), none, none] [] _ _
  refine hk_aload_n dX9_isAskedAfter_0 rfl rfl ?_
  refine hk_iload_n dX9_isAskedAfter_1 rfl rfl ?_
  refine ivX9_234 rfl (ct_yardsToCaller hI h hx p1 p2) dX9_isAskedAfter_2 (hk_lt (by decide)) rfl rfl rfl (by decide) ⟨by decide, by decide⟩ (Nat.le_of_ble_eq_true rfl) (hk_kd ?_)
  rw [yv_RK hI rx]
  refine hk_istore_n dX9_isAskedAfter_5 rfl (by decide) rfl ?_
  refine hk_aload_n dX9_isAskedAfter_6 rfl rfl ?_
  refine hk_iload_n dX9_isAskedAfter_7 rfl rfl ?_
  refine ivX9_234 rfl (ct_yardsToCaller hI h hy q1 q2) dX9_isAskedAfter_8 (hk_lt (by decide)) rfl rfl rfl (by decide) ⟨by decide, by decide⟩ (Nat.le_of_ble_eq_true rfl) (hk_kd ?_)
  rw [yv_RK hI ry]
  refine hk_istore dX9_isAskedAfter_11 (by decide) rfl ?_
  refine hk_iload_n dX9_isAskedAfter_13 rfl rfl ?_
  refine hk_iload dX9_isAskedAfter_14 rfl ?_
  refine hk_icmp_gt (tgt := 30) dX9_isAskedAfter_16 (by decide) (fun c16 => ?_) (fun c16 => ?_)
  · rw [nI_ltI (by omega) (by omega)] at c16
    refine hk_iconst (v := 1) dX9_isAskedAfter_30 (by decide) ?_
    refine hk_goto (tgt := 35) dX9_isAskedAfter_31 (by decide) ?_
    exact hk_ireturn dX9_isAskedAfter_35 rfl rfl (by decide) ⟨by first | exact bI_r1 (by omega) | exact bI_r0 (by omega), rfl⟩
  · rw [nI_ltI (by omega) (by omega)] at c16
    refine hk_iload_n dX9_isAskedAfter_19 rfl rfl ?_
    refine hk_iload dX9_isAskedAfter_20 rfl ?_
    refine hk_icmp_ne (tgt := 34) dX9_isAskedAfter_22 (by decide) (fun c22 => ?_) (fun c22 => ?_)
    · rw [nI_eq (by omega) (by omega)] at c22
      refine hk_iconst (v := 0) dX9_isAskedAfter_34 (by decide) ?_
      exact hk_ireturn dX9_isAskedAfter_35 rfl rfl (by decide) ⟨by first | exact bI_r1 (by omega) | exact bI_r0 (by omega), rfl⟩
    · rw [nI_eq (by omega) (by omega)] at c22
      refine hk_iload_n dX9_isAskedAfter_25 rfl rfl ?_
      refine hk_iload_n dX9_isAskedAfter_26 rfl rfl ?_
      refine hk_icmp_le (tgt := 34) dX9_isAskedAfter_27 (by decide) (fun c27 => ?_) (fun c27 => ?_)
      · rw [nI_leI (by omega) (by omega)] at c27
        refine hk_iconst (v := 0) dX9_isAskedAfter_34 (by decide) ?_
        exact hk_ireturn dX9_isAskedAfter_35 rfl rfl (by decide) ⟨by first | exact bI_r1 (by omega) | exact bI_r0 (by omega), rfl⟩
      · rw [nI_leI (by omega) (by omega)] at c27
        refine hk_iconst (v := 1) dX9_isAskedAfter_30 (by decide) ?_
        refine hk_goto (tgt := 35) dX9_isAskedAfter_31 (by decide) ?_
        exact hk_ireturn dX9_isAskedAfter_35 rfl rfl (by decide) ⟨by first | exact bI_r1 (by omega) | exact bI_r0 (by omega), rfl⟩
set_option maxRecDepth 20000 in
set_option maxHeartbeats 2000000 in
theorem lq_saaNN (hI : Inv L z m) {n f i : Nat} (h : DRW m (z 1) n f m1)  (hi : i < z 3) (hm : mk (RK m (z 1) n f) (KK m (z 1) n f) (bo (KK m (z 1) n f) none) i = none) (ih : ∀ (o : Option Nat), mk (RK m (z 1) n f) (KK m (z 1) n f) (bo (KK m (z 1) n f) none) (i + 1) = o → ∀ l4 : Option Value, hk_WP MX9_standAskedAfter 5 0 0 0 0 4 [some (.ref 0), some (.int (-1)), some (.int (fo (-1) o)), some (.int (nI (i + 1))), l4] [] (hk_h L m1) (fun r h => r = some (.int (fo (-1) (mk (RK m (z 1) n f) (KK m (z 1) n f) (bo (KK m (z 1) n f) none) (z 3)))) ∧ h = hk_h L m1)) (l4 : Option Value) : hk_WP MX9_standAskedAfter 5 0 0 0 0 4 [some (.ref 0), some (.int (-1)), some (.int (-1)), some (.int (nI i)), l4] [] (hk_h L m1) (fun r h => r = some (.int (fo (-1) (mk (RK m (z 1) n f) (KK m (z 1) n f) (bo (KK m (z 1) n f) none) (z 3)))) ∧ h = hk_h L m1) := by
  obtain ⟨g0, ⟨⟨a0, a1, a2, a3, a4, a5, a6, a7, a8, a9, a10, a11, a12, a13⟩, ⟨b0, b1, b2, b3, b4, b5, b6, b7, b8, b9, b10, b11, b12⟩, ⟨c0, c1, c2, c3, c4, c5, c6, c7, c8, c9, c10, c11, c12⟩⟩, g2, g3, g4, g5, g6, g7, g8, g9, g10, g11, g12, g13, g14⟩ := id hI
  obtain ⟨h1, h2, h3, h4, h5, h6, h7⟩ := Inv_gs hI
  obtain ⟨p1, p2, p3⟩ := pn_ok hI hi
  have e13 : m1 13 3 = nI (z 3) := by rw [h.1.a (a := 13) (by decide)]; exact a3
  refine hk_iload_n dX9_standAskedAfter_4 rfl rfl ?_
  refine hk_aload_n dX9_standAskedAfter_5 rfl rfl ?_
  refine gfX9_23 rfl dX9_standAskedAfter_6 (hk_lt (by decide)) rfl rfl ?_
  refine gfX9_133 rfl dX9_standAskedAfter_9 (hk_lt (by decide)) rfl rfl ?_
  refine gfX9_136 rfl dX9_standAskedAfter_12 (hk_lt (by decide)) rfl rfl ?_
  refine hk_icmp_ge (tgt := 72) dX9_standAskedAfter_15 (by decide) (fun c15 => absurd c15 (by rw [e13, nI_leI (by omega) (by omega)]; omega)) (fun _ => ?_)
  refine hk_aload_n dX9_standAskedAfter_18 rfl rfl ?_
  refine hk_iload_n dX9_standAskedAfter_19 rfl rfl ?_
  refine ivX9_234 rfl (ct_yardsToCaller hI h hi p1 p2) dX9_standAskedAfter_20 (hk_lt (by decide)) rfl rfl rfl (by decide) ⟨by decide, by decide⟩ (Nat.le_of_ble_eq_true rfl) (hk_kd ?_)
  refine hk_if_lt (tgt := 43) dX9_standAskedAfter_23 (by decide) (fun c23 => ?_) (fun c23 => ?_)
  · rw [yv_0 (GS.gm h4 _ h5)] at c23
    refine hk_iconst (v := 0) dX9_standAskedAfter_43 (by decide) ?_
    refine hk_istore dX9_standAskedAfter_44 (by decide) rfl ?_
    refine hk_iload dX9_standAskedAfter_46 rfl ?_
    refine hk_if_eq (tgt := 66) dX9_standAskedAfter_48 (by decide) (fun _ => ?_) (fun c48 => absurd (by decide) c48)
    refine hk_iinc (v := nI (i + 1)) dX9_standAskedAfter_66 rfl (nI_1 i) (by decide) rfl ?_
    refine hk_goto (tgt := 4) dX9_standAskedAfter_69 (by decide) ?_
    first
    | (exact ih none ((mk_n (R := RK m (z 1) n f) (K := KK m (z 1) n f) (n := i) (fun q => c23 q.1)).trans hm) _)
    | (exact ih (some i) (mk_y (R := RK m (z 1) n f) (K := KK m (z 1) n f) (n := i) ⟨Classical.not_not.mp c23, Nat.zero_le _, fun x hx => by rw [hm] at hx; cases hx⟩) _)
  · rw [yv_0 (GS.gm h4 _ h5)] at c23
    refine hk_iload_n dX9_standAskedAfter_26 rfl rfl ?_
    refine hk_if_lt (tgt := 39) dX9_standAskedAfter_27 (by decide) (fun _ => ?_) (fun c27 => absurd (by decide) c27)
    refine hk_iconst (v := 1) dX9_standAskedAfter_39 (by decide) ?_
    refine hk_goto (tgt := 44) dX9_standAskedAfter_40 (by decide) ?_
    refine hk_istore dX9_standAskedAfter_44 (by decide) rfl ?_
    refine hk_iload dX9_standAskedAfter_46 rfl ?_
    refine hk_if_eq (tgt := 66) dX9_standAskedAfter_48 (by decide) (fun c48 => absurd c48 (by decide)) (fun _ => ?_)
    refine hk_iload_n dX9_standAskedAfter_51 rfl rfl ?_
    refine hk_if_lt (tgt := 64) dX9_standAskedAfter_52 (by decide) (fun _ => ?_) (fun c52 => absurd (by decide) c52)
    refine hk_iload_n dX9_standAskedAfter_64 rfl rfl ?_
    refine hk_istore_n dX9_standAskedAfter_65 rfl (by decide) rfl ?_
    refine hk_iinc (v := nI (i + 1)) dX9_standAskedAfter_66 rfl (nI_1 i) (by decide) rfl ?_
    refine hk_goto (tgt := 4) dX9_standAskedAfter_69 (by decide) ?_
    first
    | (exact ih none ((mk_n (R := RK m (z 1) n f) (K := KK m (z 1) n f) (n := i) (fun q => c23 q.1)).trans hm) _)
    | (exact ih (some i) (mk_y (R := RK m (z 1) n f) (K := KK m (z 1) n f) (n := i) ⟨Classical.not_not.mp c23, Nat.zero_le _, fun x hx => by rw [hm] at hx; cases hx⟩) _)
set_option maxRecDepth 20000 in
set_option maxHeartbeats 2000000 in
theorem lq_saaNS (hI : Inv L z m) {n f s i : Nat} (h : DRW m (z 1) n f m1)  (hi : i < z 3) (hm : mk (RK m (z 1) n f) (KK m (z 1) n f) (bo (KK m (z 1) n f) none) i = (some s)) (ih : ∀ (o : Option Nat), mk (RK m (z 1) n f) (KK m (z 1) n f) (bo (KK m (z 1) n f) none) (i + 1) = o → ∀ l4 : Option Value, hk_WP MX9_standAskedAfter 5 0 0 0 0 4 [some (.ref 0), some (.int (-1)), some (.int (fo (-1) o)), some (.int (nI (i + 1))), l4] [] (hk_h L m1) (fun r h => r = some (.int (fo (-1) (mk (RK m (z 1) n f) (KK m (z 1) n f) (bo (KK m (z 1) n f) none) (z 3)))) ∧ h = hk_h L m1)) (l4 : Option Value) : hk_WP MX9_standAskedAfter 5 0 0 0 0 4 [some (.ref 0), some (.int (-1)), some (.int (nI s)), some (.int (nI i)), l4] [] (hk_h L m1) (fun r h => r = some (.int (fo (-1) (mk (RK m (z 1) n f) (KK m (z 1) n f) (bo (KK m (z 1) n f) none) (z 3)))) ∧ h = hk_h L m1) := by
  obtain ⟨g0, ⟨⟨a0, a1, a2, a3, a4, a5, a6, a7, a8, a9, a10, a11, a12, a13⟩, ⟨b0, b1, b2, b3, b4, b5, b6, b7, b8, b9, b10, b11, b12⟩, ⟨c0, c1, c2, c3, c4, c5, c6, c7, c8, c9, c10, c11, c12⟩⟩, g2, g3, g4, g5, g6, g7, g8, g9, g10, g11, g12, g13, g14⟩ := id hI
  obtain ⟨h1, h2, h3, h4, h5, h6, h7⟩ := Inv_gs hI
  obtain ⟨p1, p2, p3⟩ := pn_ok hI hi
  have e13 : m1 13 3 = nI (z 3) := by rw [h.1.a (a := 13) (by decide)]; exact a3
  obtain ⟨k1, k2, k3⟩ := mk_lt hm
  refine hk_iload_n dX9_standAskedAfter_4 rfl rfl ?_
  refine hk_aload_n dX9_standAskedAfter_5 rfl rfl ?_
  refine gfX9_23 rfl dX9_standAskedAfter_6 (hk_lt (by decide)) rfl rfl ?_
  refine gfX9_133 rfl dX9_standAskedAfter_9 (hk_lt (by decide)) rfl rfl ?_
  refine gfX9_136 rfl dX9_standAskedAfter_12 (hk_lt (by decide)) rfl rfl ?_
  refine hk_icmp_ge (tgt := 72) dX9_standAskedAfter_15 (by decide) (fun c15 => absurd c15 (by rw [e13, nI_leI (by omega) (by omega)]; omega)) (fun _ => ?_)
  refine hk_aload_n dX9_standAskedAfter_18 rfl rfl ?_
  refine hk_iload_n dX9_standAskedAfter_19 rfl rfl ?_
  refine ivX9_234 rfl (ct_yardsToCaller hI h hi p1 p2) dX9_standAskedAfter_20 (hk_lt (by decide)) rfl rfl rfl (by decide) ⟨by decide, by decide⟩ (Nat.le_of_ble_eq_true rfl) (hk_kd ?_)
  refine hk_if_lt (tgt := 43) dX9_standAskedAfter_23 (by decide) (fun c23 => ?_) (fun c23 => ?_)
  · rw [yv_0 (GS.gm h4 _ h5)] at c23
    refine hk_iconst (v := 0) dX9_standAskedAfter_43 (by decide) ?_
    refine hk_istore dX9_standAskedAfter_44 (by decide) rfl ?_
    refine hk_iload dX9_standAskedAfter_46 rfl ?_
    refine hk_if_eq (tgt := 66) dX9_standAskedAfter_48 (by decide) (fun _ => ?_) (fun c48 => absurd (by decide) c48)
    refine hk_iinc (v := nI (i + 1)) dX9_standAskedAfter_66 rfl (nI_1 i) (by decide) rfl ?_
    refine hk_goto (tgt := 4) dX9_standAskedAfter_69 (by decide) ?_
    first
    | (exact ih (some s) ((mk_n (R := RK m (z 1) n f) (K := KK m (z 1) n f) (n := i) (fun q => c23 q.1)).trans hm) _)
    | (exact ih (some i) (mk_y (R := RK m (z 1) n f) (K := KK m (z 1) n f) (n := i) ⟨Classical.not_not.mp c23, Nat.zero_le _, fun x hx => by rw [hm] at hx; cases hx; exact Classical.not_not.mp c61⟩) _)
    | (exact ih (some s) ((mk_n (R := RK m (z 1) n f) (K := KK m (z 1) n f) (n := i) (fun q => c61 (q.2.2 s hm))).trans hm) _)
  · rw [yv_0 (GS.gm h4 _ h5)] at c23
    refine hk_iload_n dX9_standAskedAfter_26 rfl rfl ?_
    refine hk_if_lt (tgt := 39) dX9_standAskedAfter_27 (by decide) (fun _ => ?_) (fun c27 => absurd (by decide) c27)
    refine hk_iconst (v := 1) dX9_standAskedAfter_39 (by decide) ?_
    refine hk_goto (tgt := 44) dX9_standAskedAfter_40 (by decide) ?_
    refine hk_istore dX9_standAskedAfter_44 (by decide) rfl ?_
    refine hk_iload dX9_standAskedAfter_46 rfl ?_
    refine hk_if_eq (tgt := 66) dX9_standAskedAfter_48 (by decide) (fun c48 => absurd c48 (by decide)) (fun _ => ?_)
    refine hk_iload_n dX9_standAskedAfter_51 rfl rfl ?_
    refine hk_if_lt (tgt := 64) dX9_standAskedAfter_52 (by decide) (fun c52 => absurd c52 (nI_pos (by omega))) (fun _ => ?_)
    refine hk_aload_n dX9_standAskedAfter_55 rfl rfl ?_
    refine hk_iload_n dX9_standAskedAfter_56 rfl rfl ?_
    refine hk_iload_n dX9_standAskedAfter_57 rfl rfl ?_
    refine ivX9_350 rfl (ct_isAskedAfter hI h (by omega) hi k2 (Classical.not_not.mp c23)) dX9_standAskedAfter_58 (hk_lt (by decide)) rfl rfl rfl (by decide) ⟨by decide, by decide⟩ (Nat.le_of_ble_eq_true rfl) (hk_kd ?_)
    refine hk_if_eq (tgt := 66) dX9_standAskedAfter_61 (by decide) (fun c61 => ?_) (fun c61 => ?_)
    · rw [bI_0] at c61
      refine hk_iinc (v := nI (i + 1)) dX9_standAskedAfter_66 rfl (nI_1 i) (by decide) rfl ?_
      refine hk_goto (tgt := 4) dX9_standAskedAfter_69 (by decide) ?_
      first
      | (exact ih (some s) ((mk_n (R := RK m (z 1) n f) (K := KK m (z 1) n f) (n := i) (fun q => c23 q.1)).trans hm) _)
      | (exact ih (some i) (mk_y (R := RK m (z 1) n f) (K := KK m (z 1) n f) (n := i) ⟨Classical.not_not.mp c23, Nat.zero_le _, fun x hx => by rw [hm] at hx; cases hx; exact Classical.not_not.mp c61⟩) _)
      | (exact ih (some s) ((mk_n (R := RK m (z 1) n f) (K := KK m (z 1) n f) (n := i) (fun q => c61 (q.2.2 s hm))).trans hm) _)
    · rw [bI_0] at c61
      refine hk_iload_n dX9_standAskedAfter_64 rfl rfl ?_
      refine hk_istore_n dX9_standAskedAfter_65 rfl (by decide) rfl ?_
      refine hk_iinc (v := nI (i + 1)) dX9_standAskedAfter_66 rfl (nI_1 i) (by decide) rfl ?_
      refine hk_goto (tgt := 4) dX9_standAskedAfter_69 (by decide) ?_
      first
      | (exact ih (some s) ((mk_n (R := RK m (z 1) n f) (K := KK m (z 1) n f) (n := i) (fun q => c23 q.1)).trans hm) _)
      | (exact ih (some i) (mk_y (R := RK m (z 1) n f) (K := KK m (z 1) n f) (n := i) ⟨Classical.not_not.mp c23, Nat.zero_le _, fun x hx => by rw [hm] at hx; cases hx; exact Classical.not_not.mp c61⟩) _)
      | (exact ih (some s) ((mk_n (R := RK m (z 1) n f) (K := KK m (z 1) n f) (n := i) (fun q => c61 (q.2.2 s hm))).trans hm) _)
set_option maxRecDepth 20000 in
set_option maxHeartbeats 2000000 in
theorem lp_saaN (hI : Inv L z m) {n f : Nat} (h : DRW m (z 1) n f m1)  (i : Nat) (hi : i ≤ z 3) : ∀ (o : Option Nat), mk (RK m (z 1) n f) (KK m (z 1) n f) (bo (KK m (z 1) n f) none) i = o → ∀ l4 : Option Value, hk_WP MX9_standAskedAfter 5 0 0 0 0 4 [some (.ref 0), some (.int (-1)), some (.int (fo (-1) o)), some (.int (nI i)), l4] [] (hk_h L m1) (fun r h => r = some (.int (fo (-1) (mk (RK m (z 1) n f) (KK m (z 1) n f) (bo (KK m (z 1) n f) none) (z 3)))) ∧ h = hk_h L m1) := by
  obtain ⟨g0, ⟨⟨a0, a1, a2, a3, a4, a5, a6, a7, a8, a9, a10, a11, a12, a13⟩, ⟨b0, b1, b2, b3, b4, b5, b6, b7, b8, b9, b10, b11, b12⟩, ⟨c0, c1, c2, c3, c4, c5, c6, c7, c8, c9, c10, c11, c12⟩⟩, g2, g3, g4, g5, g6, g7, g8, g9, g10, g11, g12, g13, g14⟩ := id hI
  have e13 : m1 13 3 = nI (z 3) := by rw [h.1.a (a := 13) (by decide)]; exact a3
  intro o hm l4
  by_cases hlt : i < z 3
  · have ih := lp_saaN hI h (i + 1) (by omega)
    cases o with
    | none => exact lq_saaNN hI h hlt hm ih l4
    | some s => exact lq_saaNS hI h hlt hm ih l4
  have hiD : i = z 3 := by omega
  refine hk_iload_n dX9_standAskedAfter_4 rfl rfl ?_
  refine hk_aload_n dX9_standAskedAfter_5 rfl rfl ?_
  refine gfX9_23 rfl dX9_standAskedAfter_6 (hk_lt (by decide)) rfl rfl ?_
  refine gfX9_133 rfl dX9_standAskedAfter_9 (hk_lt (by decide)) rfl rfl ?_
  refine gfX9_136 rfl dX9_standAskedAfter_12 (hk_lt (by decide)) rfl rfl ?_
  refine hk_icmp_ge (tgt := 72) dX9_standAskedAfter_15 (by decide) (fun _ => ?_) (fun c15 => absurd (by rw [e13, nI_leI (by omega) (by omega)]; omega) c15)
  refine hk_iload_n dX9_standAskedAfter_72 rfl rfl ?_
  exact hk_ireturn dX9_standAskedAfter_73 rfl rfl (by decide) ⟨by rw [← hm, hiD], rfl⟩
termination_by z 3 - i
decreasing_by all_goals omega
set_option maxRecDepth 20000 in
set_option maxHeartbeats 2000000 in
theorem ct_saaN (hI : Inv L z m) {n f : Nat} (h : DRW m (z 1) n f m1)  : hk_Cd MX9_standAskedAfter 5 0 0 [.ref 0, .int (-1)] (hk_h L m1) (some (.int (fo (-1) (mk (RK m (z 1) n f) (KK m (z 1) n f) (bo (KK m (z 1) n f) none) (z 3))))) (hk_h L m1) := by
  refine hk_ofWP (by decide) (by simp [Value.category]) (Nat.le_of_ble_eq_true rfl) ?_
  show hk_WP _ _ _ _ _ _ _ [some (.ref 0), some (.int (-1)), none, none, none] [] _ _
  refine hk_iconst (v := (-1)) dX9_standAskedAfter_0 (by decide) ?_
  refine hk_istore_n dX9_standAskedAfter_1 rfl (by decide) rfl ?_
  refine hk_iconst (v := 0) dX9_standAskedAfter_2 (by decide) ?_
  refine hk_istore_n dX9_standAskedAfter_3 rfl (by decide) rfl ?_
  exact lp_saaN hI h 0 (Nat.zero_le _) none rfl _
set_option maxRecDepth 20000 in
set_option maxHeartbeats 2000000 in
theorem lq_saaSN (hI : Inv L z m) {n f l i : Nat} (h : DRW m (z 1) n f m1) (hl : l < z 3) (rl : RK m (z 1) n f l) (hi : i < z 3) (hm : mk (RK m (z 1) n f) (KK m (z 1) n f) (bo (KK m (z 1) n f) (some l)) i = none) (ih : ∀ (o : Option Nat), mk (RK m (z 1) n f) (KK m (z 1) n f) (bo (KK m (z 1) n f) (some l)) (i + 1) = o → ∀ l4 : Option Value, hk_WP MX9_standAskedAfter 5 0 0 0 0 4 [some (.ref 0), some (.int (nI l)), some (.int (fo (-1) o)), some (.int (nI (i + 1))), l4] [] (hk_h L m1) (fun r h => r = some (.int (fo (-1) (mk (RK m (z 1) n f) (KK m (z 1) n f) (bo (KK m (z 1) n f) (some l)) (z 3)))) ∧ h = hk_h L m1)) (l4 : Option Value) : hk_WP MX9_standAskedAfter 5 0 0 0 0 4 [some (.ref 0), some (.int (nI l)), some (.int (-1)), some (.int (nI i)), l4] [] (hk_h L m1) (fun r h => r = some (.int (fo (-1) (mk (RK m (z 1) n f) (KK m (z 1) n f) (bo (KK m (z 1) n f) (some l)) (z 3)))) ∧ h = hk_h L m1) := by
  obtain ⟨g0, ⟨⟨a0, a1, a2, a3, a4, a5, a6, a7, a8, a9, a10, a11, a12, a13⟩, ⟨b0, b1, b2, b3, b4, b5, b6, b7, b8, b9, b10, b11, b12⟩, ⟨c0, c1, c2, c3, c4, c5, c6, c7, c8, c9, c10, c11, c12⟩⟩, g2, g3, g4, g5, g6, g7, g8, g9, g10, g11, g12, g13, g14⟩ := id hI
  obtain ⟨h1, h2, h3, h4, h5, h6, h7⟩ := Inv_gs hI
  obtain ⟨p1, p2, p3⟩ := pn_ok hI hi
  have e13 : m1 13 3 = nI (z 3) := by rw [h.1.a (a := 13) (by decide)]; exact a3
  refine hk_iload_n dX9_standAskedAfter_4 rfl rfl ?_
  refine hk_aload_n dX9_standAskedAfter_5 rfl rfl ?_
  refine gfX9_23 rfl dX9_standAskedAfter_6 (hk_lt (by decide)) rfl rfl ?_
  refine gfX9_133 rfl dX9_standAskedAfter_9 (hk_lt (by decide)) rfl rfl ?_
  refine gfX9_136 rfl dX9_standAskedAfter_12 (hk_lt (by decide)) rfl rfl ?_
  refine hk_icmp_ge (tgt := 72) dX9_standAskedAfter_15 (by decide) (fun c15 => absurd c15 (by rw [e13, nI_leI (by omega) (by omega)]; omega)) (fun _ => ?_)
  refine hk_aload_n dX9_standAskedAfter_18 rfl rfl ?_
  refine hk_iload_n dX9_standAskedAfter_19 rfl rfl ?_
  refine ivX9_234 rfl (ct_yardsToCaller hI h hi p1 p2) dX9_standAskedAfter_20 (hk_lt (by decide)) rfl rfl rfl (by decide) ⟨by decide, by decide⟩ (Nat.le_of_ble_eq_true rfl) (hk_kd ?_)
  refine hk_if_lt (tgt := 43) dX9_standAskedAfter_23 (by decide) (fun c23 => ?_) (fun c23 => ?_)
  · rw [yv_0 (GS.gm h4 _ h5)] at c23
    refine hk_iconst (v := 0) dX9_standAskedAfter_43 (by decide) ?_
    refine hk_istore dX9_standAskedAfter_44 (by decide) rfl ?_
    refine hk_iload dX9_standAskedAfter_46 rfl ?_
    refine hk_if_eq (tgt := 66) dX9_standAskedAfter_48 (by decide) (fun _ => ?_) (fun c48 => absurd (by decide) c48)
    refine hk_iinc (v := nI (i + 1)) dX9_standAskedAfter_66 rfl (nI_1 i) (by decide) rfl ?_
    refine hk_goto (tgt := 4) dX9_standAskedAfter_69 (by decide) ?_
    first
    | (exact ih none ((mk_n (R := RK m (z 1) n f) (K := KK m (z 1) n f) (n := i) (fun q => c23 q.1)).trans hm) _)
    | (exact ih none ((mk_n (R := RK m (z 1) n f) (K := KK m (z 1) n f) (n := i) (fun q => c36 q.2.1)).trans hm) _)
    | (exact ih (some i) (mk_y (R := RK m (z 1) n f) (K := KK m (z 1) n f) (n := i) ⟨Classical.not_not.mp c23, Classical.not_not.mp c36, fun x hx => by rw [hm] at hx; cases hx⟩) _)
  · rw [yv_0 (GS.gm h4 _ h5)] at c23
    refine hk_iload_n dX9_standAskedAfter_26 rfl rfl ?_
    refine hk_if_lt (tgt := 39) dX9_standAskedAfter_27 (by decide) (fun c27 => absurd c27 (nI_pos (by omega))) (fun _ => ?_)
    refine hk_aload_n dX9_standAskedAfter_30 rfl rfl ?_
    refine hk_iload_n dX9_standAskedAfter_31 rfl rfl ?_
    refine hk_iload_n dX9_standAskedAfter_32 rfl rfl ?_
    refine ivX9_350 rfl (ct_isAskedAfter hI h hi hl (Classical.not_not.mp c23) rl) dX9_standAskedAfter_33 (hk_lt (by decide)) rfl rfl rfl (by decide) ⟨by decide, by decide⟩ (Nat.le_of_ble_eq_true rfl) (hk_kd ?_)
    refine hk_if_eq (tgt := 43) dX9_standAskedAfter_36 (by decide) (fun c36 => ?_) (fun c36 => ?_)
    · rw [bI_0] at c36
      refine hk_iconst (v := 0) dX9_standAskedAfter_43 (by decide) ?_
      refine hk_istore dX9_standAskedAfter_44 (by decide) rfl ?_
      refine hk_iload dX9_standAskedAfter_46 rfl ?_
      refine hk_if_eq (tgt := 66) dX9_standAskedAfter_48 (by decide) (fun _ => ?_) (fun c48 => absurd (by decide) c48)
      refine hk_iinc (v := nI (i + 1)) dX9_standAskedAfter_66 rfl (nI_1 i) (by decide) rfl ?_
      refine hk_goto (tgt := 4) dX9_standAskedAfter_69 (by decide) ?_
      first
      | (exact ih none ((mk_n (R := RK m (z 1) n f) (K := KK m (z 1) n f) (n := i) (fun q => c23 q.1)).trans hm) _)
      | (exact ih none ((mk_n (R := RK m (z 1) n f) (K := KK m (z 1) n f) (n := i) (fun q => c36 q.2.1)).trans hm) _)
      | (exact ih (some i) (mk_y (R := RK m (z 1) n f) (K := KK m (z 1) n f) (n := i) ⟨Classical.not_not.mp c23, Classical.not_not.mp c36, fun x hx => by rw [hm] at hx; cases hx⟩) _)
    · rw [bI_0] at c36
      refine hk_iconst (v := 1) dX9_standAskedAfter_39 (by decide) ?_
      refine hk_goto (tgt := 44) dX9_standAskedAfter_40 (by decide) ?_
      refine hk_istore dX9_standAskedAfter_44 (by decide) rfl ?_
      refine hk_iload dX9_standAskedAfter_46 rfl ?_
      refine hk_if_eq (tgt := 66) dX9_standAskedAfter_48 (by decide) (fun c48 => absurd c48 (by decide)) (fun _ => ?_)
      refine hk_iload_n dX9_standAskedAfter_51 rfl rfl ?_
      refine hk_if_lt (tgt := 64) dX9_standAskedAfter_52 (by decide) (fun _ => ?_) (fun c52 => absurd (by decide) c52)
      refine hk_iload_n dX9_standAskedAfter_64 rfl rfl ?_
      refine hk_istore_n dX9_standAskedAfter_65 rfl (by decide) rfl ?_
      refine hk_iinc (v := nI (i + 1)) dX9_standAskedAfter_66 rfl (nI_1 i) (by decide) rfl ?_
      refine hk_goto (tgt := 4) dX9_standAskedAfter_69 (by decide) ?_
      first
      | (exact ih none ((mk_n (R := RK m (z 1) n f) (K := KK m (z 1) n f) (n := i) (fun q => c23 q.1)).trans hm) _)
      | (exact ih none ((mk_n (R := RK m (z 1) n f) (K := KK m (z 1) n f) (n := i) (fun q => c36 q.2.1)).trans hm) _)
      | (exact ih (some i) (mk_y (R := RK m (z 1) n f) (K := KK m (z 1) n f) (n := i) ⟨Classical.not_not.mp c23, Classical.not_not.mp c36, fun x hx => by rw [hm] at hx; cases hx⟩) _)
set_option maxRecDepth 20000 in
set_option maxHeartbeats 2000000 in
theorem lq_saaSS (hI : Inv L z m) {n f l s i : Nat} (h : DRW m (z 1) n f m1) (hl : l < z 3) (rl : RK m (z 1) n f l) (hi : i < z 3) (hm : mk (RK m (z 1) n f) (KK m (z 1) n f) (bo (KK m (z 1) n f) (some l)) i = (some s)) (ih : ∀ (o : Option Nat), mk (RK m (z 1) n f) (KK m (z 1) n f) (bo (KK m (z 1) n f) (some l)) (i + 1) = o → ∀ l4 : Option Value, hk_WP MX9_standAskedAfter 5 0 0 0 0 4 [some (.ref 0), some (.int (nI l)), some (.int (fo (-1) o)), some (.int (nI (i + 1))), l4] [] (hk_h L m1) (fun r h => r = some (.int (fo (-1) (mk (RK m (z 1) n f) (KK m (z 1) n f) (bo (KK m (z 1) n f) (some l)) (z 3)))) ∧ h = hk_h L m1)) (l4 : Option Value) : hk_WP MX9_standAskedAfter 5 0 0 0 0 4 [some (.ref 0), some (.int (nI l)), some (.int (nI s)), some (.int (nI i)), l4] [] (hk_h L m1) (fun r h => r = some (.int (fo (-1) (mk (RK m (z 1) n f) (KK m (z 1) n f) (bo (KK m (z 1) n f) (some l)) (z 3)))) ∧ h = hk_h L m1) := by
  obtain ⟨g0, ⟨⟨a0, a1, a2, a3, a4, a5, a6, a7, a8, a9, a10, a11, a12, a13⟩, ⟨b0, b1, b2, b3, b4, b5, b6, b7, b8, b9, b10, b11, b12⟩, ⟨c0, c1, c2, c3, c4, c5, c6, c7, c8, c9, c10, c11, c12⟩⟩, g2, g3, g4, g5, g6, g7, g8, g9, g10, g11, g12, g13, g14⟩ := id hI
  obtain ⟨h1, h2, h3, h4, h5, h6, h7⟩ := Inv_gs hI
  obtain ⟨p1, p2, p3⟩ := pn_ok hI hi
  have e13 : m1 13 3 = nI (z 3) := by rw [h.1.a (a := 13) (by decide)]; exact a3
  obtain ⟨k1, k2, k3⟩ := mk_lt hm
  refine hk_iload_n dX9_standAskedAfter_4 rfl rfl ?_
  refine hk_aload_n dX9_standAskedAfter_5 rfl rfl ?_
  refine gfX9_23 rfl dX9_standAskedAfter_6 (hk_lt (by decide)) rfl rfl ?_
  refine gfX9_133 rfl dX9_standAskedAfter_9 (hk_lt (by decide)) rfl rfl ?_
  refine gfX9_136 rfl dX9_standAskedAfter_12 (hk_lt (by decide)) rfl rfl ?_
  refine hk_icmp_ge (tgt := 72) dX9_standAskedAfter_15 (by decide) (fun c15 => absurd c15 (by rw [e13, nI_leI (by omega) (by omega)]; omega)) (fun _ => ?_)
  refine hk_aload_n dX9_standAskedAfter_18 rfl rfl ?_
  refine hk_iload_n dX9_standAskedAfter_19 rfl rfl ?_
  refine ivX9_234 rfl (ct_yardsToCaller hI h hi p1 p2) dX9_standAskedAfter_20 (hk_lt (by decide)) rfl rfl rfl (by decide) ⟨by decide, by decide⟩ (Nat.le_of_ble_eq_true rfl) (hk_kd ?_)
  refine hk_if_lt (tgt := 43) dX9_standAskedAfter_23 (by decide) (fun c23 => ?_) (fun c23 => ?_)
  · rw [yv_0 (GS.gm h4 _ h5)] at c23
    refine hk_iconst (v := 0) dX9_standAskedAfter_43 (by decide) ?_
    refine hk_istore dX9_standAskedAfter_44 (by decide) rfl ?_
    refine hk_iload dX9_standAskedAfter_46 rfl ?_
    refine hk_if_eq (tgt := 66) dX9_standAskedAfter_48 (by decide) (fun _ => ?_) (fun c48 => absurd (by decide) c48)
    refine hk_iinc (v := nI (i + 1)) dX9_standAskedAfter_66 rfl (nI_1 i) (by decide) rfl ?_
    refine hk_goto (tgt := 4) dX9_standAskedAfter_69 (by decide) ?_
    first
    | (exact ih (some s) ((mk_n (R := RK m (z 1) n f) (K := KK m (z 1) n f) (n := i) (fun q => c23 q.1)).trans hm) _)
    | (exact ih (some s) ((mk_n (R := RK m (z 1) n f) (K := KK m (z 1) n f) (n := i) (fun q => c36 q.2.1)).trans hm) _)
    | (exact ih (some i) (mk_y (R := RK m (z 1) n f) (K := KK m (z 1) n f) (n := i) ⟨Classical.not_not.mp c23, Classical.not_not.mp c36, fun x hx => by rw [hm] at hx; cases hx; exact Classical.not_not.mp c61⟩) _)
    | (exact ih (some s) ((mk_n (R := RK m (z 1) n f) (K := KK m (z 1) n f) (n := i) (fun q => c61 (q.2.2 s hm))).trans hm) _)
  · rw [yv_0 (GS.gm h4 _ h5)] at c23
    refine hk_iload_n dX9_standAskedAfter_26 rfl rfl ?_
    refine hk_if_lt (tgt := 39) dX9_standAskedAfter_27 (by decide) (fun c27 => absurd c27 (nI_pos (by omega))) (fun _ => ?_)
    refine hk_aload_n dX9_standAskedAfter_30 rfl rfl ?_
    refine hk_iload_n dX9_standAskedAfter_31 rfl rfl ?_
    refine hk_iload_n dX9_standAskedAfter_32 rfl rfl ?_
    refine ivX9_350 rfl (ct_isAskedAfter hI h hi hl (Classical.not_not.mp c23) rl) dX9_standAskedAfter_33 (hk_lt (by decide)) rfl rfl rfl (by decide) ⟨by decide, by decide⟩ (Nat.le_of_ble_eq_true rfl) (hk_kd ?_)
    refine hk_if_eq (tgt := 43) dX9_standAskedAfter_36 (by decide) (fun c36 => ?_) (fun c36 => ?_)
    · rw [bI_0] at c36
      refine hk_iconst (v := 0) dX9_standAskedAfter_43 (by decide) ?_
      refine hk_istore dX9_standAskedAfter_44 (by decide) rfl ?_
      refine hk_iload dX9_standAskedAfter_46 rfl ?_
      refine hk_if_eq (tgt := 66) dX9_standAskedAfter_48 (by decide) (fun _ => ?_) (fun c48 => absurd (by decide) c48)
      refine hk_iinc (v := nI (i + 1)) dX9_standAskedAfter_66 rfl (nI_1 i) (by decide) rfl ?_
      refine hk_goto (tgt := 4) dX9_standAskedAfter_69 (by decide) ?_
      first
      | (exact ih (some s) ((mk_n (R := RK m (z 1) n f) (K := KK m (z 1) n f) (n := i) (fun q => c23 q.1)).trans hm) _)
      | (exact ih (some s) ((mk_n (R := RK m (z 1) n f) (K := KK m (z 1) n f) (n := i) (fun q => c36 q.2.1)).trans hm) _)
      | (exact ih (some i) (mk_y (R := RK m (z 1) n f) (K := KK m (z 1) n f) (n := i) ⟨Classical.not_not.mp c23, Classical.not_not.mp c36, fun x hx => by rw [hm] at hx; cases hx; exact Classical.not_not.mp c61⟩) _)
      | (exact ih (some s) ((mk_n (R := RK m (z 1) n f) (K := KK m (z 1) n f) (n := i) (fun q => c61 (q.2.2 s hm))).trans hm) _)
    · rw [bI_0] at c36
      refine hk_iconst (v := 1) dX9_standAskedAfter_39 (by decide) ?_
      refine hk_goto (tgt := 44) dX9_standAskedAfter_40 (by decide) ?_
      refine hk_istore dX9_standAskedAfter_44 (by decide) rfl ?_
      refine hk_iload dX9_standAskedAfter_46 rfl ?_
      refine hk_if_eq (tgt := 66) dX9_standAskedAfter_48 (by decide) (fun c48 => absurd c48 (by decide)) (fun _ => ?_)
      refine hk_iload_n dX9_standAskedAfter_51 rfl rfl ?_
      refine hk_if_lt (tgt := 64) dX9_standAskedAfter_52 (by decide) (fun c52 => absurd c52 (nI_pos (by omega))) (fun _ => ?_)
      refine hk_aload_n dX9_standAskedAfter_55 rfl rfl ?_
      refine hk_iload_n dX9_standAskedAfter_56 rfl rfl ?_
      refine hk_iload_n dX9_standAskedAfter_57 rfl rfl ?_
      refine ivX9_350 rfl (ct_isAskedAfter hI h (by omega) hi k2 (Classical.not_not.mp c23)) dX9_standAskedAfter_58 (hk_lt (by decide)) rfl rfl rfl (by decide) ⟨by decide, by decide⟩ (Nat.le_of_ble_eq_true rfl) (hk_kd ?_)
      refine hk_if_eq (tgt := 66) dX9_standAskedAfter_61 (by decide) (fun c61 => ?_) (fun c61 => ?_)
      · rw [bI_0] at c61
        refine hk_iinc (v := nI (i + 1)) dX9_standAskedAfter_66 rfl (nI_1 i) (by decide) rfl ?_
        refine hk_goto (tgt := 4) dX9_standAskedAfter_69 (by decide) ?_
        first
        | (exact ih (some s) ((mk_n (R := RK m (z 1) n f) (K := KK m (z 1) n f) (n := i) (fun q => c23 q.1)).trans hm) _)
        | (exact ih (some s) ((mk_n (R := RK m (z 1) n f) (K := KK m (z 1) n f) (n := i) (fun q => c36 q.2.1)).trans hm) _)
        | (exact ih (some i) (mk_y (R := RK m (z 1) n f) (K := KK m (z 1) n f) (n := i) ⟨Classical.not_not.mp c23, Classical.not_not.mp c36, fun x hx => by rw [hm] at hx; cases hx; exact Classical.not_not.mp c61⟩) _)
        | (exact ih (some s) ((mk_n (R := RK m (z 1) n f) (K := KK m (z 1) n f) (n := i) (fun q => c61 (q.2.2 s hm))).trans hm) _)
      · rw [bI_0] at c61
        refine hk_iload_n dX9_standAskedAfter_64 rfl rfl ?_
        refine hk_istore_n dX9_standAskedAfter_65 rfl (by decide) rfl ?_
        refine hk_iinc (v := nI (i + 1)) dX9_standAskedAfter_66 rfl (nI_1 i) (by decide) rfl ?_
        refine hk_goto (tgt := 4) dX9_standAskedAfter_69 (by decide) ?_
        first
        | (exact ih (some s) ((mk_n (R := RK m (z 1) n f) (K := KK m (z 1) n f) (n := i) (fun q => c23 q.1)).trans hm) _)
        | (exact ih (some s) ((mk_n (R := RK m (z 1) n f) (K := KK m (z 1) n f) (n := i) (fun q => c36 q.2.1)).trans hm) _)
        | (exact ih (some i) (mk_y (R := RK m (z 1) n f) (K := KK m (z 1) n f) (n := i) ⟨Classical.not_not.mp c23, Classical.not_not.mp c36, fun x hx => by rw [hm] at hx; cases hx; exact Classical.not_not.mp c61⟩) _)
        | (exact ih (some s) ((mk_n (R := RK m (z 1) n f) (K := KK m (z 1) n f) (n := i) (fun q => c61 (q.2.2 s hm))).trans hm) _)
set_option maxRecDepth 20000 in
set_option maxHeartbeats 2000000 in
theorem lp_saaS (hI : Inv L z m) {n f l : Nat} (h : DRW m (z 1) n f m1) (hl : l < z 3) (rl : RK m (z 1) n f l) (i : Nat) (hi : i ≤ z 3) : ∀ (o : Option Nat), mk (RK m (z 1) n f) (KK m (z 1) n f) (bo (KK m (z 1) n f) (some l)) i = o → ∀ l4 : Option Value, hk_WP MX9_standAskedAfter 5 0 0 0 0 4 [some (.ref 0), some (.int (nI l)), some (.int (fo (-1) o)), some (.int (nI i)), l4] [] (hk_h L m1) (fun r h => r = some (.int (fo (-1) (mk (RK m (z 1) n f) (KK m (z 1) n f) (bo (KK m (z 1) n f) (some l)) (z 3)))) ∧ h = hk_h L m1) := by
  obtain ⟨g0, ⟨⟨a0, a1, a2, a3, a4, a5, a6, a7, a8, a9, a10, a11, a12, a13⟩, ⟨b0, b1, b2, b3, b4, b5, b6, b7, b8, b9, b10, b11, b12⟩, ⟨c0, c1, c2, c3, c4, c5, c6, c7, c8, c9, c10, c11, c12⟩⟩, g2, g3, g4, g5, g6, g7, g8, g9, g10, g11, g12, g13, g14⟩ := id hI
  have e13 : m1 13 3 = nI (z 3) := by rw [h.1.a (a := 13) (by decide)]; exact a3
  intro o hm l4
  by_cases hlt : i < z 3
  · have ih := lp_saaS hI h hl rl (i + 1) (by omega)
    cases o with
    | none => exact lq_saaSN hI h hl rl hlt hm ih l4
    | some s => exact lq_saaSS hI h hl rl hlt hm ih l4
  have hiD : i = z 3 := by omega
  refine hk_iload_n dX9_standAskedAfter_4 rfl rfl ?_
  refine hk_aload_n dX9_standAskedAfter_5 rfl rfl ?_
  refine gfX9_23 rfl dX9_standAskedAfter_6 (hk_lt (by decide)) rfl rfl ?_
  refine gfX9_133 rfl dX9_standAskedAfter_9 (hk_lt (by decide)) rfl rfl ?_
  refine gfX9_136 rfl dX9_standAskedAfter_12 (hk_lt (by decide)) rfl rfl ?_
  refine hk_icmp_ge (tgt := 72) dX9_standAskedAfter_15 (by decide) (fun _ => ?_) (fun c15 => absurd (by rw [e13, nI_leI (by omega) (by omega)]; omega) c15)
  refine hk_iload_n dX9_standAskedAfter_72 rfl rfl ?_
  exact hk_ireturn dX9_standAskedAfter_73 rfl rfl (by decide) ⟨by rw [← hm, hiD], rfl⟩
termination_by z 3 - i
decreasing_by all_goals omega
set_option maxRecDepth 20000 in
set_option maxHeartbeats 2000000 in
theorem ct_saaS (hI : Inv L z m) {n f l : Nat} (h : DRW m (z 1) n f m1) (hl : l < z 3) (rl : RK m (z 1) n f l) : hk_Cd MX9_standAskedAfter 5 0 0 [.ref 0, .int (nI l)] (hk_h L m1) (some (.int (fo (-1) (mk (RK m (z 1) n f) (KK m (z 1) n f) (bo (KK m (z 1) n f) (some l)) (z 3))))) (hk_h L m1) := by
  refine hk_ofWP (by decide) (by simp [Value.category]) (Nat.le_of_ble_eq_true rfl) ?_
  show hk_WP _ _ _ _ _ _ _ [some (.ref 0), some (.int (nI l)), none, none, none] [] _ _
  refine hk_iconst (v := (-1)) dX9_standAskedAfter_0 (by decide) ?_
  refine hk_istore_n dX9_standAskedAfter_1 rfl (by decide) rfl ?_
  refine hk_iconst (v := 0) dX9_standAskedAfter_2 (by decide) ?_
  refine hk_istore_n dX9_standAskedAfter_3 rfl (by decide) rfl ?_
  exact lp_saaS hI h hl rl 0 (Nat.zero_le _) none rfl _
end CDx
