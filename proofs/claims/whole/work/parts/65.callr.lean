/-! call: the reference's, whole -/
section CLy
variable {L nC nS nK nD : Nat} {m m0 m1 m2 ms : Nat → Nat → Int32} {z : Nat → Nat}
/-- as RW, its distances too -/
def RY (m m1 : Nat → Nat → Int32) : Prop := (∀ a, a ∉ [37, 47, 48, 72, 86, 87, 88, 89] → m1 a = m a) ∧ ∀ j, j ∉ [15, 44, 45, 65, 78, 79, 80] → m1 37 j = m 37 j
theorem RW.y (h0 : ∀ a, a ≠ 47 → a ≠ 48 → ms a = m0 a) (s : RW ms m1) : RY m0 m1 := ⟨fun a h => (s.1 a (ni_l h (by decide))).trans (h0 a (ni_e h (by decide)) (ni_e h (by decide))), fun j h => (s.2 j h).trans (by rw [h0 37 (by decide) (by decide)])⟩
/-- how the reference's asking ends, from what was found -/
def QMC (m : Nat → Nat → Int32) (L : Nat) (z : Nat → Nat) (f t : Nat) (w : Int32) (m0 : Nat → Nat → Int32) (LVr : Nat → (Nat → Nat → Int32) → Nat → Nat → Int32) (o : Option (Nat × Nat) × List Nat) (rl : List Nat) : Option Value → hk_H → Prop := fun r h => ∃ M, RY m0 M ∧ RFr m (z 6) (z 8) f t (rl ++ o.2) M ∧ ((o.1 = none ∧ r = some (.int (-3)) ∧ h = hk_h L M) ∨ ∃ s1 c1, o.1 = some (s1, c1) ∧ s1 < z 3 ∧ c1 < z 2 ∧ r = some (.int (nI (z 5))) ∧ h = hk_h L (drv (LVr c1) M (z 5) c1 f t (z 8) ((nI (DD (GG m (z 1) (nI (z 8))) f (pn m s1) / 100) + 109) / 110) (nI (DD (GG m (z 1) (nI (z 8))) f t / 100)) (nI (DD (GG m (z 1) (nI (z 8))) f t % 100)) w s1))
theorem pn_inj (hI : Inv L z m) {n f i j : Nat} (hi : i < 12) (hj : j < 12) (h : KK m (z 1) n f i = KK m (z 1) n f j) : i = j := by unfold KK at h; omega
set_option maxRecDepth 20000 in
set_option maxHeartbeats 2000000 in
theorem lp_callr (hI : Inv L z m) {f t : Nat} {w : Int32} (hC : CR m ms) (hT3 : z 5 < 300) (LVc LVr : Nat → (Nat → Nat → Int32) → Nat → Nat → Int32) (hLV : ∀ c, c < z 2 → LVP L (z 0) (z 2) (z 3) m c (LVc c) (LVr c)) (hD : FDq m z f ms) (h0 : ∀ a, a ≠ 47 → a ≠ 48 → ms a = m0 a) (i : Nat) (hi : i ≤ z 3) : ∀ (lo : Option Nat) (rl : List Nat) (x : Int32) (m1 : Nat → Nat → Int32) (l8 l9 l10 l11 l12 : Option Value), RW ms m1 → RFr m (z 6) (z 8) f t rl m1 → AKD (z 3) (RK m (z 1) (z 8) f) (KK m (z 1) (z 8) f) (bo (KK m (z 1) (z 8) f) lo) x → hk_WP MX10_call 70 0 0 0 0 68 [some (.ref 37), some (.int (nI f)), some (.int (nI t)), some (.int w), some (.int (nI (DD (GG m (z 1) (nI (z 8))) f t / 100))), some (.int (nI (DD (GG m (z 1) (nI (z 8))) f t % 100))), some (.int x), some (.int (nI i)), l8, l9, l10, l11, l12] [] (hk_h L m1) (QMC m L z f t w m0 LVr (ouc (RK m (z 1) (z 8) f) (KK m (z 1) (z 8) f) (GR m L z f t w) (z 3) (z 3 - i) lo) rl) := by
  obtain ⟨g0, ⟨⟨a0, a1, a2, a3, a4, a5, a6, a7, a8, a9, a10, a11, a12, a13⟩, ⟨b0, b1, b2, b3, b4, b5, b6, b7, b8, b9, b10, b11, b12⟩, ⟨c0, c1, c2, c3, c4, c5, c6, c7, c8, c9, c10, c11, c12⟩⟩, g2, g3, g4, g5, g6, g7, g8, g9, g10, g11, g12, g13, g14⟩ := id hI
  intro lo rl x m1 l8 l9 l10 l11 l12 hR hRF hA
  have hC1 := hC.rw hR
  have e35 : m1 37 35 = nI (z 3) := by rw [hC1.2.2.2.2 35 (by decide)]; exact b3
  have hD1 : FDq m z f m1 := by unfold FDq; rw [hR.1 47 (by decide)]; exact hD
  refine hk_iload dX10_call_68 rfl ?_
  refine hk_aload_n dX10_call_70 rfl rfl ?_
  refine gfX10_204 rfl dX10_call_71 (hk_lt (by decide)) rfl rfl ?_
  refine hk_icmp_ge (tgt := 294) dX10_call_74 (by decide) (fun c74 => ?_) (fun c74 => ?_)
  · rw [e35, nI_leI (by omega) (by omega)] at c74
    have hz0 : z 3 - i = 0 := by omega
    rw [hz0]
    refine hk_bipush (v := (-3)) dX10_call_294 (by decide) ?_
    exact hk_ireturn dX10_call_296 rfl rfl (by decide) ⟨m1, hR.y h0, by show RFr _ _ _ _ _ (rl ++ []) _; rw [List.append_nil]; exact hRF, Or.inl ⟨rfl, rfl, rfl⟩⟩
  · rw [e35, nI_leI (by omega) (by omega)] at c74
    refine hk_iconst (v := (-1)) dX10_call_77 (by decide) ?_
    refine hk_istore dX10_call_78 (by decide) rfl ?_
    refine hk_iconst (v := 0) dX10_call_80 (by decide) ?_
    refine hk_istore dX10_call_81 (by decide) rfl ?_
    have hlt : i < z 3 := by omega
    obtain ⟨kk, hkk⟩ : ∃ kk, z 3 - i = kk + 1 := ⟨z 3 - i - 1, by omega⟩
    have hkk2 : z 3 - (i + 1) = kk := by omega
    have ih := lp_callr hI (t := t) (w := w) hC hT3 LVc LVr hLV hD h0 (i + 1) hlt
    rw [hkk2] at ih
    rw [hkk]
    refine lp_scan hI _ _ _ _ _ _ _ _ _ hC1 hD1 hA ?_ 0 (Nat.zero_le _) none rfl
    cases hm : mk (RK m (z 1) (z 8) f) (KK m (z 1) (z 8) f) (bo (KK m (z 1) (z 8) f) lo) (z 3) with
    | none =>
      refine hk_iload dX10_call_161 rfl ?_
      refine hk_if_lt (tgt := 288) dX10_call_163 (by decide) (fun _ => ?_) (fun c163 => absurd (by decide) c163)
      refine hk_iinc (v := nI (i + 1)) dX10_call_288 rfl (nI_1 i) (by decide) rfl ?_
      refine hk_goto (tgt := 68) dX10_call_291 (by decide) ?_
      have hx := fun (l8 l9 l10 l11 l12 : Option Value) => ih lo rl x m1 l8 l9 l10 l11 l12 hR hRF hA
      rw [ouc_no hm] at hx ⊢
      exact hx _ _ _ _ _
    | some s =>
      obtain ⟨k1, k2, k3⟩ := mk_lt hm
      obtain ⟨p1, p2, p3⟩ := pn_ok hI k1
      obtain ⟨y, ey, hy, hv⟩ := hD1 s k1
      have ey2 : m1 47 (pn m s) = nI (DD (GG m (z 1) (nI (z 8))) f (pn m s) / 100) := by
        rw [ey]
        rcases hv with ⟨_, h2, _⟩ | ⟨h2, _⟩
        · unfold KK at h2
          congr 1; omega
        · exact absurd k2 h2
      have hA2 := AKD_s hA c3 hm (fun i j hi hj => pn_inj hI hi hj)
      refine hk_iload dX10_call_161 rfl ?_
      refine hk_if_lt (tgt := 288) dX10_call_163 (by decide) (fun c163 => absurd c163 (nI_pos (by omega))) (fun _ => ?_)
      refine hk_iload dX10_call_166 rfl ?_
      refine hk_iconst (v := 1) dX10_call_168 (by decide) ?_
      refine hk_iload dX10_call_169 rfl ?_
      refine hk_ishl dX10_call_171 ?_
      refine hk_ior dX10_call_172 ?_
      refine hk_istore dX10_call_173 (by decide) rfl ?_
      refine hk_aload_n dX10_call_175 rfl rfl ?_
      refine gfX10_37 rfl dX10_call_176 (hk_lt (by decide)) rfl rfl ?_
      refine hk_aload_n dX10_call_179 rfl rfl ?_
      refine gfX10_82 rfl dX10_call_180 (hk_lt (by decide)) rfl rfl ?_
      refine hk_iload dX10_call_183 rfl ?_
      refine hk_ian dX10_call_185 (by decide) (fun _ => rfl) rfl (by omega) (by decide) ?_
      rw [hC1.1 62 (by decide), p3]
      refine hk_ian dX10_call_186 (by decide) (fun _ => rfl) rfl (by omega) (by decide) ?_
      rw [ey2]
      refine ivX10_277 rfl (md_minutesOf _) dX10_call_187 rfl rfl (by decide) ⟨by decide, by decide⟩ (Nat.le_of_ble_eq_true rfl) (hk_kd ?_)
      refine hk_istore dX10_call_190 (by decide) rfl ?_
      refine hk_iconst (v := 0) dX10_call_192 (by decide) ?_
      refine hk_istore dX10_call_193 (by decide) rfl ?_
      refine lp_rowr hI (s := s) (Q := QMC m L z f t w m0 LVr (ouc (RK m (z 1) (z 8) f) (KK m (z 1) (z 8) f) (GR m L z f t w) (z 3) (kk + 1) lo) rl) (T := rl ++ (GR m L z f t w s).2) (o := (GR m L z f t w s).1) _ _ hC hT3 LVc LVr hLV k1 (fun M i2 l11 l12 hR2 hRF2 hg => ?_) (fun M c hR2 hRF2 hg hc => ?_) 0 (Nat.zero_le _) rl m1 _ _ hR hRF ?_ ?_
      · refine hk_iinc (v := nI (i + 1)) dX10_call_288 rfl (nI_1 i) (by decide) rfl ?_
        refine hk_goto (tgt := 68) dX10_call_291 (by decide) ?_
        have hx := fun (l8 l9 l10 l11 l12 : Option Value) => ih (some s) (rl ++ (GR m L z f t w s).2) _ M l8 l9 l10 l11 l12 hR2 hRF2 hA2
        rw [ouc_go hm hg]
        unfold QMC at hx ⊢
        dsimp only
        rw [List.append_assoc] at hx
        exact hx _ _ _ _ _
      · exact ⟨M, hR2.y h0, by rw [ouc_y hm hg]; exact hRF2, Or.inr ⟨s, c, by rw [ouc_y hm hg], k1, hc, rfl, rfl⟩⟩
      · rw [Nat.sub_zero]; rfl
      · rw [Nat.sub_zero]; rfl
termination_by z 3 - i
decreasing_by all_goals omega
set_option maxRecDepth 20000 in
set_option maxHeartbeats 2000000 in
theorem md_call_no (hI : Inv L z m) (f t w : Int32) (hno : ¬ okOrd (z 0) f t w) : hk_Cd MX10_call 70 0 0 [.ref 37, .int f, .int t, .int w] (hk_h L m) (some (.int (-1))) (hk_h L m) := by
  obtain ⟨g0, ⟨⟨a0, a1, a2, a3, a4, a5, a6, a7, a8, a9, a10, a11, a12, a13⟩, ⟨b0, b1, b2, b3, b4, b5, b6, b7, b8, b9, b10, b11, b12⟩, ⟨c0, c1, c2, c3, c4, c5, c6, c7, c8, c9, c10, c11, c12⟩⟩, g2, g3, g4, g5, g6, g7, g8, g9, g10, g11, g12, g13, g14⟩ := id hI
  refine hk_ofWP (by decide) (by simp [Value.category]) (Nat.le_of_ble_eq_true rfl) ?_
  show hk_WP _ _ _ _ _ _ _ [some (.ref 37), some (.int f), some (.int t), some (.int w), none, none, none, none, none, none, none, none, none] [] _ _
  refine hk_aload_n dX10_call_0 rfl rfl ?_
  refine hk_iload_n dX10_call_1 rfl rfl ?_
  refine hk_iload_n dX10_call_2 rfl rfl ?_
  refine hk_iload_n dX10_call_3 rfl rfl ?_
  refine ivX10_373 rfl (md_mayBeCalled b0 _ _ _) dX10_call_4 (hk_lt (by decide)) rfl rfl rfl (by decide) ⟨by decide, by decide⟩ (Nat.le_of_ble_eq_true rfl) (hk_kd ?_)
  refine hk_if_ne (tgt := 12) dX10_call_7 (by decide) (fun c7 => ?_) (fun c7 => ?_)
  · rw [bI_0] at c7
    refine absurd ?_ hno
    obtain ⟨k1, k2, k3, k4⟩ := Classical.not_not.mp c7
    exact ⟨k1, k2, k3, (okCall_iff w).mp k4⟩
  · rw [bI_0] at c7
    refine hk_iconst (v := (-1)) dX10_call_10 (by decide) ?_
    exact hk_ireturn dX10_call_11 rfl rfl (by decide) ⟨rfl, rfl⟩
/-- what the reference's call asks of a state in which the class has called already -/
theorem CR_gs (hI : Inv L z m) (s : CR m ms) : ms 37 11 = nI (z 1) ∧ GS ms (z 0) (z 1) ∧ ms 37 3 = nI (z 0) ∧ ms 37 0 = nI (z 8) ∧ GG ms (z 1) (nI (z 8)) = (GG m (z 1) (nI (z 8))) ∧ ms 37 35 = nI (z 3) ∧ ms 37 60 = nI (z 5) := by
  obtain ⟨g0, ⟨⟨a0, a1, a2, a3, a4, a5, a6, a7, a8, a9, a10, a11, a12, a13⟩, ⟨b0, b1, b2, b3, b4, b5, b6, b7, b8, b9, b10, b11, b12⟩, ⟨c0, c1, c2, c3, c4, c5, c6, c7, c8, c9, c10, c11, c12⟩⟩, g2, g3, g4, g5, g6, g7, g8, g9, g10, g11, g12, g13, g14⟩ := id hI
  obtain ⟨s1, s2, s3, s4, s5⟩ := s
  refine ⟨by rw [s5 11 (by decide)]; exact b1, ?_, by rw [s5 3 (by decide)]; exact b0, by rw [s5 0 (by decide)]; exact b8, ?_, by rw [s5 35 (by decide)]; exact b3, by rw [s5 60 (by decide)]; exact b5⟩
  · unfold GS
    rw [s1 40 (by decide), s1 41 (by decide), s1 42 (by decide), s1 43 (by decide), s1 44 (by decide), s1 45 (by decide), s1 46 (by decide)]
    exact GStr_scr g2 s2
  · unfold GG opn
    rw [s1 40 (by decide), s1 41 (by decide), s1 42 (by decide), s1 43 (by decide), s1 44 (by decide), s1 45 (by decide), s1 46 (by decide)]
set_option maxRecDepth 20000 in
set_option maxHeartbeats 2000000 in
theorem md_call_nw (hI : Inv L z m) {f t : Nat} {w : Int32} (hf : f < z 0) (ht : t < z 0) (ho : okOrd (z 0) (nI f) (nI t) w) (hC : CR m ms) (hR : ¬ RC (GG m (z 1) (nI (z 8))) f t) : hk_Ct MX10_call 70 0 0 [.ref 37, .int (nI f), .int (nI t), .int w] (hk_h L ms) (fun r h => ∃ m1, r = some (.int (-5)) ∧ h = hk_h L m1 ∧ FX ms (z 0) (z 1) (nI (z 8)) t m1) := by
  obtain ⟨g0, ⟨⟨a0, a1, a2, a3, a4, a5, a6, a7, a8, a9, a10, a11, a12, a13⟩, ⟨b0, b1, b2, b3, b4, b5, b6, b7, b8, b9, b10, b11, b12⟩, ⟨c0, c1, c2, c3, c4, c5, c6, c7, c8, c9, c10, c11, c12⟩⟩, g2, g3, g4, g5, g6, g7, g8, g9, g10, g11, g12, g13, g14⟩ := id hI
  obtain ⟨h1, h2, h3, h4, h5, h6, h7⟩ := Inv_gs hI
  have gm := GS.gm h4 (nI (z 8)) h5
  obtain ⟨q1, q2, q3, q4, q5, q6, q7⟩ := CR_gs hI hC
  refine hk_ofWP (by decide) (by simp [Value.category]) (Nat.le_of_ble_eq_true rfl) ?_
  show hk_WP _ _ _ _ _ _ _ [some (.ref 37), some (.int (nI f)), some (.int (nI t)), some (.int w), none, none, none, none, none, none, none, none, none] [] _ _
  refine hk_aload_n dX10_call_0 rfl rfl ?_
  refine hk_iload_n dX10_call_1 rfl rfl ?_
  refine hk_iload_n dX10_call_2 rfl rfl ?_
  refine hk_iload_n dX10_call_3 rfl rfl ?_
  refine ivX10_373 rfl (md_mayBeCalled q3 _ _ _) dX10_call_4 (hk_lt (by decide)) rfl rfl rfl (by decide) ⟨by decide, by decide⟩ (Nat.le_of_ble_eq_true rfl) (hk_kd ?_)
  refine hk_if_ne (tgt := 12) dX10_call_7 (by decide) (fun _ => ?_) (fun c7 => absurd c7 (fun e => bI_0.mp e ⟨ho.1, ho.2.1, ho.2.2.1, (okCall_iff w).mpr ho.2.2.2⟩))
  refine hk_aload_n dX10_call_12 rfl rfl ?_
  refine hk_iload_n dX10_call_13 rfl rfl ?_
  refine hk_iload_n dX10_call_14 rfl rfl ?_
  refine hk_aload_n dX10_call_15 rfl rfl ?_
  refine gfX10_194 rfl dX10_call_16 (hk_lt (by decide)) rfl rfl ?_
  rw [q4]
  refine ivX10_241 rfl (md_yardsOf q1 h3 q2 h5 q3 (nI (z 8)) ht hf) dX10_call_19 (hk_lt (by decide)) rfl rfl rfl (by decide) ⟨by decide, by decide⟩ (Nat.le_of_ble_eq_true rfl) (fun r h1 hq => ?_)
  obtain ⟨m1, rfl, rfl, hF⟩ := hq
  have hC1 := hC.fx hF
  obtain ⟨i1, i2, i3, i4, i5, i6, i7⟩ := CR_gs hI hC1
  rw [q5]
  refine hk_istore dX10_call_22 (by decide) rfl ?_
  refine hk_aload_n dX10_call_24 rfl rfl ?_
  refine gfX10_40 rfl dX10_call_25 (hk_lt (by decide)) rfl rfl ?_
  refine hk_iload_n dX10_call_28 rfl rfl ?_
  refine hk_ian dX10_call_29 (by decide) (fun _ => rfl) rfl (by omega) (by decide) ?_
  refine hk_istore dX10_call_30 (by decide) rfl ?_
  refine hk_iload dX10_call_32 rfl ?_
  refine hk_if_ge (tgt := 40) dX10_call_34 (by decide) (fun c34 => absurd c34 (Int32.not_le.mpr ((yv_0 gm).mpr (fun k => hR (RC_rev k))))) (fun _ => ?_)
  refine hk_bipush (v := (-5)) dX10_call_37 (by decide) ?_
  exact hk_ireturn dX10_call_39 rfl rfl (by decide) ⟨m1, rfl, rfl, hF⟩
set_option maxRecDepth 20000 in
set_option maxHeartbeats 2000000 in
theorem md_call_full (hI : Inv L z m) {f t : Nat} {w : Int32} (hf : f < z 0) (ht : t < z 0) (ho : okOrd (z 0) (nI f) (nI t) w) (hC : CR m ms) (hR : RC (GG m (z 1) (nI (z 8))) f t) (hF3 : z 5 = 300) : hk_Ct MX10_call 70 0 0 [.ref 37, .int (nI f), .int (nI t), .int w] (hk_h L ms) (fun r h => ∃ m1, r = some (.int (-2)) ∧ h = hk_h L m1 ∧ FX ms (z 0) (z 1) (nI (z 8)) t m1) := by
  obtain ⟨g0, ⟨⟨a0, a1, a2, a3, a4, a5, a6, a7, a8, a9, a10, a11, a12, a13⟩, ⟨b0, b1, b2, b3, b4, b5, b6, b7, b8, b9, b10, b11, b12⟩, ⟨c0, c1, c2, c3, c4, c5, c6, c7, c8, c9, c10, c11, c12⟩⟩, g2, g3, g4, g5, g6, g7, g8, g9, g10, g11, g12, g13, g14⟩ := id hI
  obtain ⟨h1, h2, h3, h4, h5, h6, h7⟩ := Inv_gs hI
  have gm := GS.gm h4 (nI (z 8)) h5
  obtain ⟨q1, q2, q3, q4, q5, q6, q7⟩ := CR_gs hI hC
  have eyv : yv (GG m (z 1) (nI (z 8))) t f = (nI (DD (GG m (z 1) (nI (z 8))) f t / 100)) := by rw [DD_rev (t := f) (c := t)]; unfold yv; exact if_pos (RC_rev hR)
  have hDb := DDb (u := nI (z 8)) gm (t := f) (c := t)
  refine hk_ofWP (by decide) (by simp [Value.category]) (Nat.le_of_ble_eq_true rfl) ?_
  show hk_WP _ _ _ _ _ _ _ [some (.ref 37), some (.int (nI f)), some (.int (nI t)), some (.int w), none, none, none, none, none, none, none, none, none] [] _ _
  refine hk_aload_n dX10_call_0 rfl rfl ?_
  refine hk_iload_n dX10_call_1 rfl rfl ?_
  refine hk_iload_n dX10_call_2 rfl rfl ?_
  refine hk_iload_n dX10_call_3 rfl rfl ?_
  refine ivX10_373 rfl (md_mayBeCalled q3 _ _ _) dX10_call_4 (hk_lt (by decide)) rfl rfl rfl (by decide) ⟨by decide, by decide⟩ (Nat.le_of_ble_eq_true rfl) (hk_kd ?_)
  refine hk_if_ne (tgt := 12) dX10_call_7 (by decide) (fun _ => ?_) (fun c7 => absurd c7 (fun e => bI_0.mp e ⟨ho.1, ho.2.1, ho.2.2.1, (okCall_iff w).mpr ho.2.2.2⟩))
  refine hk_aload_n dX10_call_12 rfl rfl ?_
  refine hk_iload_n dX10_call_13 rfl rfl ?_
  refine hk_iload_n dX10_call_14 rfl rfl ?_
  refine hk_aload_n dX10_call_15 rfl rfl ?_
  refine gfX10_194 rfl dX10_call_16 (hk_lt (by decide)) rfl rfl ?_
  rw [q4]
  refine ivX10_241 rfl (md_yardsOf q1 h3 q2 h5 q3 (nI (z 8)) ht hf) dX10_call_19 (hk_lt (by decide)) rfl rfl rfl (by decide) ⟨by decide, by decide⟩ (Nat.le_of_ble_eq_true rfl) (fun r h1 hq => ?_)
  obtain ⟨m1, rfl, rfl, hF⟩ := hq
  have hC1 := hC.fx hF
  obtain ⟨i1, i2, i3, i4, i5, i6, i7⟩ := CR_gs hI hC1
  rw [q5]
  rw [eyv]
  refine hk_istore dX10_call_22 (by decide) rfl ?_
  refine hk_aload_n dX10_call_24 rfl rfl ?_
  refine gfX10_40 rfl dX10_call_25 (hk_lt (by decide)) rfl rfl ?_
  refine hk_iload_n dX10_call_28 rfl rfl ?_
  refine hk_ian dX10_call_29 (by decide) (fun _ => rfl) rfl (by omega) (by decide) ?_
  rw [show m1 48 f = (nI (DD (GG m (z 1) (nI (z 8))) f t % 100)) by rw [DD_rev (t := f) (c := t)]; have := ((hF.2 f hf).1 (by rw [q5]; exact RC_rev hR)).2; rw [q5] at this; exact this]
  refine hk_istore dX10_call_30 (by decide) rfl ?_
  refine hk_iload dX10_call_32 rfl ?_
  refine hk_if_ge (tgt := 40) dX10_call_34 (by decide) (fun _ => ?_) (fun c34 => absurd (Int32.not_lt.mp (nI_pos (by omega))) c34)
  refine hk_aload_n dX10_call_40 rfl rfl ?_
  refine gfX10_287 rfl dX10_call_41 (hk_lt (by decide)) rfl rfl ?_
  refine hk_sipush (v := 300) dX10_call_44 (by decide) ?_
  refine hk_icmp_ne (tgt := 53) dX10_call_47 (by decide) (fun c47 => absurd (by rw [i7, hF3]; rfl) c47) (fun _ => ?_)
  refine hk_bipush (v := (-2)) dX10_call_50 (by decide) ?_
  exact hk_ireturn dX10_call_52 rfl rfl (by decide) ⟨m1, rfl, rfl, hF⟩
set_option maxRecDepth 20000 in
set_option maxHeartbeats 2000000 in
theorem md_call_ok (hI : Inv L z m) {f t : Nat} {w : Int32} (hf : f < z 0) (ht : t < z 0) (ho : okOrd (z 0) (nI f) (nI t) w) (hC : CR m ms) (hR : RC (GG m (z 1) (nI (z 8))) f t) (hT3 : z 5 < 300) (LVc LVr : Nat → (Nat → Nat → Int32) → Nat → Nat → Int32) (hLV : ∀ c, c < z 2 → LVP L (z 0) (z 2) (z 3) m c (LVc c) (LVr c)) (h86 : ms 86 = m 86 ∧ ms 87 = m 87 ∧ ms 88 = m 88 ∧ ms 89 = m 89 ∧ ms 37 65 = m 37 65) : hk_Ct MX10_call 70 0 0 [.ref 37, .int (nI f), .int (nI t), .int w] (hk_h L ms) (QMC m L z f t w ms LVr (ouc (RK m (z 1) (z 8) f) (KK m (z 1) (z 8) f) (GR m L z f t w) (z 3) (z 3) none) []) := by
  obtain ⟨g0, ⟨⟨a0, a1, a2, a3, a4, a5, a6, a7, a8, a9, a10, a11, a12, a13⟩, ⟨b0, b1, b2, b3, b4, b5, b6, b7, b8, b9, b10, b11, b12⟩, ⟨c0, c1, c2, c3, c4, c5, c6, c7, c8, c9, c10, c11, c12⟩⟩, g2, g3, g4, g5, g6, g7, g8, g9, g10, g11, g12, g13, g14⟩ := id hI
  obtain ⟨h1, h2, h3, h4, h5, h6, h7⟩ := Inv_gs hI
  have gm := GS.gm h4 (nI (z 8)) h5
  obtain ⟨q1, q2, q3, q4, q5, q6, q7⟩ := CR_gs hI hC
  have eyv : yv (GG m (z 1) (nI (z 8))) t f = (nI (DD (GG m (z 1) (nI (z 8))) f t / 100)) := by rw [DD_rev (t := f) (c := t)]; unfold yv; exact if_pos (RC_rev hR)
  have hDb := DDb (u := nI (z 8)) gm (t := f) (c := t)
  refine hk_ofWP (by decide) (by simp [Value.category]) (Nat.le_of_ble_eq_true rfl) ?_
  show hk_WP _ _ _ _ _ _ _ [some (.ref 37), some (.int (nI f)), some (.int (nI t)), some (.int w), none, none, none, none, none, none, none, none, none] [] _ _
  refine hk_aload_n dX10_call_0 rfl rfl ?_
  refine hk_iload_n dX10_call_1 rfl rfl ?_
  refine hk_iload_n dX10_call_2 rfl rfl ?_
  refine hk_iload_n dX10_call_3 rfl rfl ?_
  refine ivX10_373 rfl (md_mayBeCalled q3 _ _ _) dX10_call_4 (hk_lt (by decide)) rfl rfl rfl (by decide) ⟨by decide, by decide⟩ (Nat.le_of_ble_eq_true rfl) (hk_kd ?_)
  refine hk_if_ne (tgt := 12) dX10_call_7 (by decide) (fun _ => ?_) (fun c7 => absurd c7 (fun e => bI_0.mp e ⟨ho.1, ho.2.1, ho.2.2.1, (okCall_iff w).mpr ho.2.2.2⟩))
  refine hk_aload_n dX10_call_12 rfl rfl ?_
  refine hk_iload_n dX10_call_13 rfl rfl ?_
  refine hk_iload_n dX10_call_14 rfl rfl ?_
  refine hk_aload_n dX10_call_15 rfl rfl ?_
  refine gfX10_194 rfl dX10_call_16 (hk_lt (by decide)) rfl rfl ?_
  rw [q4]
  refine ivX10_241 rfl (md_yardsOf q1 h3 q2 h5 q3 (nI (z 8)) ht hf) dX10_call_19 (hk_lt (by decide)) rfl rfl rfl (by decide) ⟨by decide, by decide⟩ (Nat.le_of_ble_eq_true rfl) (fun r h1 hq => ?_)
  obtain ⟨m1, rfl, rfl, hF⟩ := hq
  have hC1 := hC.fx hF
  obtain ⟨i1, i2, i3, i4, i5, i6, i7⟩ := CR_gs hI hC1
  rw [q5]
  rw [eyv]
  refine hk_istore dX10_call_22 (by decide) rfl ?_
  refine hk_aload_n dX10_call_24 rfl rfl ?_
  refine gfX10_40 rfl dX10_call_25 (hk_lt (by decide)) rfl rfl ?_
  refine hk_iload_n dX10_call_28 rfl rfl ?_
  refine hk_ian dX10_call_29 (by decide) (fun _ => rfl) rfl (by omega) (by decide) ?_
  rw [show m1 48 f = (nI (DD (GG m (z 1) (nI (z 8))) f t % 100)) by rw [DD_rev (t := f) (c := t)]; have := ((hF.2 f hf).1 (by rw [q5]; exact RC_rev hR)).2; rw [q5] at this; exact this]
  refine hk_istore dX10_call_30 (by decide) rfl ?_
  refine hk_iload dX10_call_32 rfl ?_
  refine hk_if_ge (tgt := 40) dX10_call_34 (by decide) (fun _ => ?_) (fun c34 => absurd (Int32.not_lt.mp (nI_pos (by omega))) c34)
  refine hk_aload_n dX10_call_40 rfl rfl ?_
  refine gfX10_287 rfl dX10_call_41 (hk_lt (by decide)) rfl rfl ?_
  refine hk_sipush (v := 300) dX10_call_44 (by decide) ?_
  refine hk_icmp_ne (tgt := 53) dX10_call_47 (by decide) (fun _ => ?_) (fun c47 => absurd c47 (by rw [i7, show (300 : Int32) = nI 300 from rfl, nI_eq (by omega) (by decide)]; omega))
  refine hk_aload_n dX10_call_53 rfl rfl ?_
  refine hk_iload_n dX10_call_54 rfl rfl ?_
  refine hk_aload_n dX10_call_55 rfl rfl ?_
  refine gfX10_194 rfl dX10_call_56 (hk_lt (by decide)) rfl rfl ?_
  rw [i4]
  refine ivX10_234 rfl (md_findFar i1 h3 i2 h5 i3 (nI (z 8)) hf) dX10_call_59 (hk_lt (by decide)) rfl rfl rfl (by decide) ⟨by decide, by decide⟩ (Nat.le_of_ble_eq_true rfl) (fun r h1 hq => ?_)
  obtain ⟨m2, rfl, rfl, hF2⟩ := hq
  have hC2 := hC1.fx hF2
  have hD2 : FDq m z f m2 := by
    intro s hs
    obtain ⟨p1, p2, p3⟩ := pn_ok hI hs
    have hb := DDb (u := nI (z 8)) gm (t := f) (c := pn m s)
    have hd := hF2.2 (pn m s) p1
    rw [i5] at hd
    by_cases hk : (RK m (z 1) (z 8) f) s
    · have hlt := DD_lt gm hk
      exact ⟨_, (hd.1 hk).1, by omega, Or.inl ⟨hk, rfl, by omega⟩⟩
    · exact ⟨_, hd.2 hk, Nat.le_refl _, Or.inr ⟨hk, rfl⟩⟩
  refine hk_iconst (v := 0) dX10_call_62 (by decide) ?_
  refine hk_istore dX10_call_63 (by decide) rfl ?_
  refine hk_iconst (v := 0) dX10_call_65 (by decide) ?_
  refine hk_istore dX10_call_66 (by decide) rfl ?_
  have hx := lp_callr hI (t := t) (w := w) hC2 hT3 LVc LVr hLV hD2 (fun a k1 k2 => (hF2.1 a k1 k2).trans (hF.1 a k1 k2)) 0 (Nat.zero_le _) none [] 0 m2 none none none none none RW.refl ⟨by rw [hF2.1 37 (by decide) (by decide), hF.1 37 (by decide) (by decide), h86.2.2.2.2, b6]; congr 1; show z 6 = min 300 (z 6 + 0); omega, fun j hj => by rw [hF2.1 86 (by decide) (by decide), hF.1 86 (by decide) (by decide), hF2.1 87 (by decide) (by decide), hF.1 87 (by decide) (by decide), hF2.1 88 (by decide) (by decide), hF.1 88 (by decide) (by decide), hF2.1 89 (by decide) (by decide), hF.1 89 (by decide) (by decide), h86.1, h86.2.1, h86.2.2.1, h86.2.2.2.1]; exact ⟨rfl, rfl, rfl, rfl⟩, fun j hj => absurd hj (Nat.not_lt_zero _)⟩ (AKD_0 c3)
  simp only [Nat.sub_zero] at hx
  exact hx
end CLy
