/-! why a coach does not come: both -/
section CBx
variable {L nC nS nK nD : Nat} {m m0 m1 m2 : Nat → Nat → Int32} {z : Nat → Nat}
/-- by the law of a kind in force, what it is worth; 0 without any -/
noncomputable def wq (m : Nat → Nat → Int32) (nm : Nat → Int32) (k d w : Int32) (L : Nat) : Int32 := match LQ m k d w L with | none => 0 | some i => LV m i nm
theorem ct_worthF (hL : m 15 2 = nI L) (hL4 : L ≤ 40) (g : GL m L) (k d w : Int32) : hk_Ct MX4_worthOf 2 0 0 [.ref 15, .int (fo (-1) (LQ m k d w L))] (hk_h L m) (fun r h => ∃ m1, r = some (.int (wq m (nmC m) k d w L)) ∧ h = hk_h L m1 ∧ ∀ a, a ≠ 21 → m1 a = m a) := by
  unfold wq
  cases e : LQ m k d w L with
  | none =>
    refine hk_imp ?_ (ct_worthOf_no hL hL4 (x := -1) (fun h => absurd h.1 (by decide)))
    rintro r h ⟨rfl, rfl⟩
    exact ⟨m, rfl, rfl, fun _ _ => rfl⟩
  | some i => exact ct_worthOf hL hL4 g (LQ_lt e).1
noncomputable def WV (m : Nat → Nat → Int32) (L N c n : Nat) (ah yd bad wt pe ni : Int32) : Int32 :=
  cI (hol m 12 N (nI c) (nI n / 1440 / 360) < 0) 1 (cI (m 10 (c * 8 + 5) < nI n / 1440) 2 (cI (m 10 (c * 8 + 2) < 3 * (ah + (yd + 109) / 110 + wt) + 20) 3
    (cI (wq m (NM yd ((yd + 109) / 110 + wt) wt ni (rm (nI n / 1440) 7) (rm (nI n) 1440 / 60) pe bad (m 10 (c * 8 + 2))) 2 (nI n / 1440) (nI n / 1440) L = 0) 0 4)))
/-- the draft with a coach in it -/
def DC (m1 m2 : Nat → Nat → Int32) (c s : Nat) (g gi en : Int32) : Prop := (∀ a, a ≠ 20 → a ≠ 21 → a ≠ 26 → m2 a = m1 a) ∧ m2 26 0 = nI c ∧ m2 26 12 = nI s ∧ m2 26 11 = g ∧ m2 26 4 = gi ∧ m2 26 5 = en ∧ m2 26 1 = m1 26 1 ∧ m2 26 2 = m1 26 2 ∧ m2 26 3 = m1 26 3 ∧ m2 26 6 = m1 26 6 ∧ m2 26 7 = m1 26 7 ∧ m2 26 8 = m1 26 8 ∧ m2 26 9 = m1 26 9 ∧ m2 26 10 = m1 26 10
theorem DC.k {m3 : Nat → Nat → Int32} {c s : Nat} {g gi en : Int32} (h : DC m1 m2 c s g gi en) (e : ∀ a, a ≠ 20 → a ≠ 21 → m3 a = m2 a) : DC m1 m3 c s g gi en := by
  obtain ⟨h1, h2⟩ := h
  refine ⟨fun a k1 k2 k3 => (e a k1 k2).trans (h1 a k1 k2 k3), ?_⟩
  rw [e 26 (by decide) (by decide)]; exact h2
theorem DC.dt {n f t c s : Nat} {w g gi en : Int32} (h : DC m1 m2 c s g gi en) (k : DT m nS n f t w m1) : DT m nS n f t w m2 := by
  obtain ⟨h1, h2, h3, h4, h5, h6, h7, h8, h9, h10, h11, h12, h13, h14⟩ := h
  unfold DT
  rw [h7, h8, h9, h10, h11, h12, h13, h14]; exact k
set_option maxRecDepth 20000 in
set_option maxHeartbeats 2000000 in
theorem ct_whyNot (hI : Inv L z m) {f t c s a : Nat} {w : Int32} (hDR : DRW m (z 1) (z 8) f m1) (hDT : DT m (z 1) (z 8) f t w m1) (hc : c < z 2) (hs : s < z 3) (ha : a < z 0) (hp : m 14 (s * 13) = nI a) (hR : RC (GG m (z 1) (nI (z 8))) f a) : hk_Ct MX9_whyNot 4 0 0 [.ref 0, .int (nI c), .int (nI s)] (hk_h L m1) (fun r h => ∃ m2, r = some (.int (WV m L (z 12) c (z 8) (((nI (DD (GG m (z 1) (nI (z 8))) f a / 100)) + 109) / 110) (nI (DD (GG m (z 1) (nI (z 8))) f t / 100)) (nI (DD (GG m (z 1) (nI (z 8))) f t % 100)) (rm w 1000) (w / 1000) (bI (ngt (m 4) (m 5) (z 8))))) ∧ h = hk_h L m2 ∧ DC m1 m2 c s (m 10 (c * 8 + 2)) (nI (z 8) + (((nI (DD (GG m (z 1) (nI (z 8))) f a / 100)) + 109) / 110)) (nI (z 8) + ((((nI (DD (GG m (z 1) (nI (z 8))) f a / 100)) + 109) / 110) + ((nI (DD (GG m (z 1) (nI (z 8))) f t / 100)) + 109) / 110 + rm w 1000))) := by
  obtain ⟨g0, ⟨⟨a0, a1, a2, a3, a4, a5, a6, a7, a8, a9, a10, a11, a12, a13⟩, ⟨b0, b1, b2, b3, b4, b5, b6, b7, b8, b9, b10, b11, b12⟩, ⟨c0, c1, c2, c3, c4, c5, c6, c7, c8, c9, c10, c11, c12⟩⟩, g2, g3, g4, g5, g6, g7, g8, g9, g10, g11, g12, g13, g14⟩ := id hI
  obtain ⟨h1, h2, h3, h4, h5, h6, h7⟩ := Inv_gs hI
  obtain ⟨t1, t2, t3, t6, t7, t8, t9, t10⟩ := id hDT
  have eyv : yv (GG m (z 1) (nI (z 8))) f a = (nI (DD (GG m (z 1) (nI (z 8))) f a / 100)) := by unfold yv; exact if_pos hR
  have hDr : m1 25 3 = nI 1 := by rw [hDR.1.a (a := 25) (by decide)]; exact a13
  have e10 : m1 10 = m 10 := hDR.1.a (by decide)
  have e9 : m1 9 3 = nI (z 2) := by rw [hDR.1.a (a := 9) (by decide)]; exact a2
  refine hk_ofWP (by decide) (by simp [Value.category]) (Nat.le_of_ble_eq_true rfl) ?_
  show hk_WP _ _ _ _ _ _ _ [some (.ref 0), some (.int (nI c)), some (.int (nI s)), none, none] [] _ _
  refine hk_aload_n dX9_whyNot_0 rfl rfl ?_
  refine gfX9_23 rfl dX9_whyNot_1 (hk_lt (by decide)) rfl rfl ?_
  refine gfX9_112 rfl dX9_whyNot_4 (hk_lt (by decide)) rfl rfl ?_
  refine hk_iload_n dX9_whyNot_7 rfl rfl ?_
  refine hk_iconst (v := 2) dX9_whyNot_8 (by decide) ?_
  refine ivX9_124 rfl (ct_geti (m := m1) tb9 c2 e9 rfl hc (j := 2) (by decide)) dX9_whyNot_9 (hk_lt (by decide)) rfl rfl rfl (by decide) ⟨by decide, by decide⟩ (Nat.le_of_ble_eq_true rfl) (hk_kd ?_)
  rw [show m1 10 (c * 8 + 2) = m 10 (c * 8 + 2) by rw [e10]]
  refine hk_istore_n dX9_whyNot_12 rfl (by decide) rfl ?_
  refine hk_aload_n dX9_whyNot_13 rfl rfl ?_
  refine gfX9_37 rfl dX9_whyNot_14 (hk_lt (by decide)) rfl rfl ?_
  refine hk_iload_n dX9_whyNot_17 rfl rfl ?_
  refine hk_iload_n dX9_whyNot_18 rfl rfl ?_
  refine hk_iload_n dX9_whyNot_19 rfl rfl ?_
  refine ivX9_359 rfl (ct_draftCoach hDr _ _ _) dX9_whyNot_20 (hk_lt (by decide)) rfl rfl rfl (by decide) ⟨by decide, by decide⟩ (Nat.le_of_ble_eq_true rfl) (hk_kv ?_)
  obtain ⟨M1, e1, q1, q2⟩ : ∃ M1, hk_w (hk_w (hk_w m1 26 0 (nI c)) 26 12 (nI s)) 26 11 (m 10 (c * 8 + 2)) = M1 ∧ (∀ a, a ≠ 26 → M1 a = m1 a) ∧ (M1 26 0 = nI c ∧ M1 26 12 = nI s ∧ M1 26 11 = m 10 (c * 8 + 2) ∧ ∀ k, k ≠ 0 → k ≠ 12 → k ≠ 11 → M1 26 k = m1 26 k) := ⟨_, rfl, fun a h => by simp [hk_wo h], by simp [hk_w, upd], by simp [hk_w, upd], by simp [hk_w, upd], fun k h1 h2 h3 => by simp [hk_w, upd, h1, h2, h3]⟩
  rw [e1]
  have hDR1 : DRW m (z 1) (z 8) f M1 := hDR.k (fun a _ _ h _ _ => q1 a h)
  have hDr1 : M1 25 3 = nI 1 := by rw [q1 25 (by decide)]; exact hDr
  refine hk_aload_n dX9_whyNot_23 rfl rfl ?_
  refine gfX9_37 rfl dX9_whyNot_24 (hk_lt (by decide)) rfl rfl ?_
  refine hk_aload_n dX9_whyNot_27 rfl rfl ?_
  refine hk_iload_n dX9_whyNot_28 rfl rfl ?_
  refine ivX9_234 rfl (ct_yardsToCaller hI hDR1 hs ha hp) dX9_whyNot_29 (hk_lt (by decide)) rfl rfl rfl (by decide) ⟨by decide, by decide⟩ (Nat.le_of_ble_eq_true rfl) (hk_kd ?_)
  rw [eyv]
  refine ivX9_146 rfl (ct_timeOf _) dX9_whyNot_32 rfl rfl (by decide) ⟨by decide, by decide⟩ (Nat.le_of_ble_eq_true rfl) (hk_kd ?_)
  rw [y109]
  refine hk_aload_n dX9_whyNot_35 rfl rfl ?_
  refine gfX9_37 rfl dX9_whyNot_36 (hk_lt (by decide)) rfl rfl ?_
  refine gfX9_344 rfl dX9_whyNot_39 (hk_lt (by decide)) rfl rfl ?_
  refine hk_iconst (v := 0) dX9_whyNot_42 (by decide) ?_
  refine hk_bipush (v := 6) dX9_whyNot_43 (by decide) ?_
  refine ivX9_124 rfl (ct_geti (m := M1) tb25 (Nat.le_refl 1) hDr1 rfl (i := 0) (by decide) (j := 6) (by decide)) dX9_whyNot_45 (hk_lt (by decide)) rfl rfl rfl (by decide) ⟨by decide, by decide⟩ (Nat.le_of_ble_eq_true rfl) (hk_kd ?_)
  rw [show M1 26 (0 * 13 + 6) = (nI (DD (GG m (z 1) (nI (z 8))) f t / 100)) from (q2.2.2.2 6 (by decide) (by decide) (by decide)).trans t6]
  refine ivX9_146 rfl (ct_timeOf _) dX9_whyNot_48 rfl rfl (by decide) ⟨by decide, by decide⟩ (Nat.le_of_ble_eq_true rfl) (hk_kd ?_)
  rw [y109]
  refine ivX9_362 rfl (ct_draftTimes hDr1 _ _) dX9_whyNot_51 (hk_lt (by decide)) rfl rfl rfl (by decide) ⟨by decide, by decide⟩ (Nat.le_of_ble_eq_true rfl) (hk_kd ?_)
  rw [q2.2.2.2 9 (by decide) (by decide) (by decide), t9, q2.2.2.2 3 (by decide) (by decide) (by decide), t3]
  obtain ⟨M2, e2, q3, q4⟩ : ∃ M2, hk_w (hk_w M1 26 4 (nI (z 8) + (((nI (DD (GG m (z 1) (nI (z 8))) f a / 100)) + 109) / 110))) 26 5 (nI (z 8) + ((((nI (DD (GG m (z 1) (nI (z 8))) f a / 100)) + 109) / 110) + ((nI (DD (GG m (z 1) (nI (z 8))) f t / 100)) + 109) / 110 + rm w 1000)) = M2 ∧ (∀ a, a ≠ 26 → M2 a = M1 a) ∧ DC m1 M2 c s (m 10 (c * 8 + 2)) (nI (z 8) + (((nI (DD (GG m (z 1) (nI (z 8))) f a / 100)) + 109) / 110)) (nI (z 8) + ((((nI (DD (GG m (z 1) (nI (z 8))) f a / 100)) + 109) / 110) + ((nI (DD (GG m (z 1) (nI (z 8))) f t / 100)) + 109) / 110 + rm w 1000)) := ⟨_, rfl, fun a h => by simp [hk_wo h], fun a _ _ h => by simp only [hk_wo h]; exact q1 a h, by simp [hk_w, upd, q2], by simp [hk_w, upd, q2], by simp [hk_w, upd, q2], by simp [hk_w, upd], by simp [hk_w, upd], by simp [hk_w, upd, q2], by simp [hk_w, upd, q2], by simp [hk_w, upd, q2], by simp [hk_w, upd, q2], by simp [hk_w, upd, q2], by simp [hk_w, upd, q2], by simp [hk_w, upd, q2], by simp [hk_w, upd, q2]⟩
  rw [e2]
  have hDR2 : DRW m (z 1) (z 8) f M2 := hDR1.k (fun a _ _ h _ _ => q3 a h)
  have u0 : M2 0 0 = nI (z 8) := by rw [hDR2.1.a (a := 0) (by decide)]; exact a8
  have u9 : M2 9 3 = nI (z 2) := by rw [hDR2.1.a (a := 9) (by decide)]; exact a2
  have u10 : M2 10 = m 10 := hDR2.1.a (by decide)
  have u11 : M2 11 3 = nI (z 12) := by rw [hDR2.1.a (a := 11) (by decide)]; exact a12
  have u12 : M2 12 = m 12 := hDR2.1.a (by decide)
  have u25 : M2 25 3 = nI 1 := by rw [hDR2.1.a (a := 25) (by decide)]; exact a13
  refine hk_istore dX9_whyNot_54 (by decide) rfl ?_
  refine hk_aload_n dX9_whyNot_56 rfl rfl ?_
  refine gfX9_23 rfl dX9_whyNot_57 (hk_lt (by decide)) rfl rfl ?_
  refine hk_iload_n dX9_whyNot_60 rfl rfl ?_
  refine hk_aload_n dX9_whyNot_61 rfl rfl ?_
  refine ivX9_160 rfl ct_thisYear dX9_whyNot_62 (hk_lt (by decide)) rfl rfl rfl (by decide) ⟨by decide, by decide⟩ (Nat.le_of_ble_eq_true rfl) (hk_kd ?_)
  rw [u0]
  refine ivX9_115 rfl (ct_holderOf u11 c12 _ _) dX9_whyNot_65 (hk_lt (by decide)) rfl rfl rfl (by decide) ⟨by decide, by decide⟩ (Nat.le_of_ble_eq_true rfl) (hk_kd ?_)
  rw [show hol M2 12 (z 12) (nI c) (nI (z 8) / 1440 / 360) = hol m 12 (z 12) (nI c) (nI (z 8) / 1440 / 360) by unfold hol; rw [u12]]
  refine hk_if_ge (tgt := 73) dX9_whyNot_68 (by decide) (fun c68 => ?_) (fun c68 => ?_)
  · refine hk_aload_n dX9_whyNot_73 rfl rfl ?_
    refine gfX9_23 rfl dX9_whyNot_74 (hk_lt (by decide)) rfl rfl ?_
    refine gfX9_112 rfl dX9_whyNot_77 (hk_lt (by decide)) rfl rfl ?_
    refine hk_iload_n dX9_whyNot_80 rfl rfl ?_
    refine hk_iconst (v := 5) dX9_whyNot_81 (by decide) ?_
    refine ivX9_124 rfl (ct_geti (m := M2) tb9 c2 u9 rfl hc (j := 5) (by decide)) dX9_whyNot_82 (hk_lt (by decide)) rfl rfl rfl (by decide) ⟨by decide, by decide⟩ (Nat.le_of_ble_eq_true rfl) (hk_kd ?_)
    rw [u10]
    refine hk_aload_n dX9_whyNot_85 rfl rfl ?_
    refine ivX9_121 rfl ct_today dX9_whyNot_86 (hk_lt (by decide)) rfl rfl rfl (by decide) ⟨by decide, by decide⟩ (Nat.le_of_ble_eq_true rfl) (hk_kd ?_)
    rw [u0]
    refine hk_icmp_ge (tgt := 94) dX9_whyNot_89 (by decide) (fun c89 => ?_) (fun c89 => ?_)
    · refine hk_iload_n dX9_whyNot_94 rfl rfl ?_
      refine hk_iconst (v := 3) dX9_whyNot_95 (by decide) ?_
      refine hk_iload dX9_whyNot_96 rfl ?_
      refine hk_imul dX9_whyNot_98 ?_
      refine hk_bipush (v := 20) dX9_whyNot_99 (by decide) ?_
      refine hk_iadd dX9_whyNot_101 ?_
      refine hk_icmp_ge (tgt := 107) dX9_whyNot_102 (by decide) (fun c102 => ?_) (fun c102 => ?_)
      · refine hk_aload_n dX9_whyNot_107 rfl rfl ?_
        refine hk_aload_n dX9_whyNot_108 rfl rfl ?_
        refine gfX9_37 rfl dX9_whyNot_109 (hk_lt (by decide)) rfl rfl ?_
        refine gfX9_344 rfl dX9_whyNot_112 (hk_lt (by decide)) rfl rfl ?_
        refine hk_iconst (v := 0) dX9_whyNot_115 (by decide) ?_
        refine ivX9_305 rfl (ct_tellTripD (n := 1) (i := 0) u25 (Nat.le_refl 1) (by decide)) dX9_whyNot_116 (hk_lt (by decide)) rfl rfl rfl (by decide) ⟨by decide, by decide⟩ (Nat.le_of_ble_eq_true rfl) (fun r h1 hq => ?_)
        obtain ⟨M3, rfl, rfl, q5, q6⟩ := hq
        have hDC3 := q4.k (fun a h _ => q5 a h)
        obtain ⟨p1', p2', p3, p4, p5⟩ := Inv_gl hI
        have p1 : GL M2 L := p1'.w hDR2.1
        have p2 : M2 15 2 = nI L := by rw [hDR2.1.a (a := 15) (by decide)]; exact p2'
        have s3 : CF M2 M3 := fun a h _ => q5 a h
        have hL3 : M3 15 2 = nI L := by rw [q5 15 (by decide)]; exact p2
        have v0 : M3 0 0 = nI (z 8) := by rw [q5 0 (by decide)]; exact u0
        have elq : ∀ k d x, LQ M3 k d x L = LQ m k d x L := fun k d x => by unfold LQ; rw [q5 69 (by decide), q5 70 (by decide), q5 71 (by decide), hDR2.1.a (a := 69) (by decide), hDR2.1.a (a := 70) (by decide), hDR2.1.a (a := 71) (by decide)]
        have elv : LV M3 = LV m := by funext i; unfold LV; rw [q5 67 (by decide), q5 68 (by decide), hDR2.1.a (a := 67) (by decide), hDR2.1.a (a := 68) (by decide)]
        obtain ⟨w0, w1, w2, w3, w4, w5, w6, w7, w8, w9, w10, w11, w12, w13⟩ := id q4
        have enm : nmC M3 = NM (nI (DD (GG m (z 1) (nI (z 8))) f t / 100)) (((nI (DD (GG m (z 1) (nI (z 8))) f t / 100)) + 109) / 110 + rm w 1000) (rm w 1000) (bI (ngt (m 4) (m 5) (z 8))) (rm (nI (z 8) / 1440) 7) (rm (nI (z 8)) 1440 / 60) (w / 1000) (nI (DD (GG m (z 1) (nI (z 8))) f t % 100)) (m 10 (c * 8 + 2)) := by
          rw [q6]; unfold NTC
          simp only [Nat.zero_mul, Nat.zero_add]
          rw [w3, w9, w10, w11, w12, w13, w8, t3, t6, t7, t8, t9, t10]
        refine hk_aload_n dX9_whyNot_119 rfl rfl ?_
        refine gfX9_30 rfl dX9_whyNot_120 (hk_lt (by decide)) rfl rfl ?_
        refine hk_aload_n dX9_whyNot_123 rfl rfl ?_
        refine gfX9_30 rfl dX9_whyNot_124 (hk_lt (by decide)) rfl rfl ?_
        refine hk_iconst (v := 2) dX9_whyNot_127 (by decide) ?_
        refine hk_aload_n dX9_whyNot_128 rfl rfl ?_
        refine ivX9_121 rfl ct_today dX9_whyNot_129 (hk_lt (by decide)) rfl rfl rfl (by decide) ⟨by decide, by decide⟩ (Nat.le_of_ble_eq_true rfl) (hk_kd ?_)
        rw [v0]
        refine hk_aload_n dX9_whyNot_132 rfl rfl ?_
        refine ivX9_121 rfl ct_today dX9_whyNot_133 (hk_lt (by decide)) rfl rfl rfl (by decide) ⟨by decide, by decide⟩ (Nat.le_of_ble_eq_true rfl) (hk_kd ?_)
        rw [v0]
        refine ivX9_187 rfl (ct_lawInForce hL3 p3 (p1.k s3) _ _ _) dX9_whyNot_136 (hk_lt (by decide)) rfl rfl rfl (by decide) ⟨by decide, by decide⟩ (Nat.le_of_ble_eq_true rfl) (hk_kd ?_)
        refine ivX9_205 rfl (ct_worthF hL3 p3 (p1.k s3) _ _ _) dX9_whyNot_139 (hk_lt (by decide)) rfl rfl rfl (by decide) ⟨by decide, by decide⟩ (Nat.le_of_ble_eq_true rfl) (fun r h1 hq => ?_)
        obtain ⟨M4, rfl, rfl, q7⟩ := hq
        have ewq : wq M3 (nmC M3) 2 (nI (z 8) / 1440) (nI (z 8) / 1440) L = wq m (NM (nI (DD (GG m (z 1) (nI (z 8))) f t / 100)) (((nI (DD (GG m (z 1) (nI (z 8))) f t / 100)) + 109) / 110 + rm w 1000) (rm w 1000) (bI (ngt (m 4) (m 5) (z 8))) (rm (nI (z 8) / 1440) 7) (rm (nI (z 8)) 1440 / 60) (w / 1000) (nI (DD (GG m (z 1) (nI (z 8))) f t % 100)) (m 10 (c * 8 + 2))) 2 (nI (z 8) / 1440) (nI (z 8) / 1440) L := by unfold wq; rw [elq, elv, enm]
        rw [ewq]
        refine hk_if_eq (tgt := 149) dX9_whyNot_142 (by decide) (fun c142 => ?_) (fun c142 => ?_)
        · refine hk_iconst (v := 0) dX9_whyNot_149 (by decide) ?_
          exact hk_ireturn dX9_whyNot_150 rfl rfl (by decide) ⟨M4, by unfold WV; rw [cI_f (Int32.not_lt.mpr c68), cI_f (Int32.not_lt.mpr c89), cI_f (Int32.not_lt.mpr c102)]; first | rw [cI_t c142] | rw [cI_f c142], rfl, hDC3.k (fun a _ h => q7 a h)⟩
        · refine hk_iconst (v := 4) dX9_whyNot_145 (by decide) ?_
          refine hk_goto (tgt := 150) dX9_whyNot_146 (by decide) ?_
          exact hk_ireturn dX9_whyNot_150 rfl rfl (by decide) ⟨M4, by unfold WV; rw [cI_f (Int32.not_lt.mpr c68), cI_f (Int32.not_lt.mpr c89), cI_f (Int32.not_lt.mpr c102)]; first | rw [cI_t c142] | rw [cI_f c142], rfl, hDC3.k (fun a _ h => q7 a h)⟩
      · refine hk_iconst (v := 3) dX9_whyNot_105 (by decide) ?_
        exact hk_ireturn dX9_whyNot_106 rfl rfl (by decide) ⟨M2, by unfold WV; rw [cI_f (Int32.not_lt.mpr c68), cI_f (Int32.not_lt.mpr c89), cI_t (Int32.not_le.mp c102)], rfl, q4⟩
    · refine hk_iconst (v := 2) dX9_whyNot_92 (by decide) ?_
      exact hk_ireturn dX9_whyNot_93 rfl rfl (by decide) ⟨M2, by unfold WV; rw [cI_f (Int32.not_lt.mpr c68), cI_t (Int32.not_le.mp c89)], rfl, q4⟩
  · refine hk_iconst (v := 1) dX9_whyNot_71 (by decide) ?_
    exact hk_ireturn dX9_whyNot_72 rfl rfl (by decide) ⟨M2, by unfold WV; rw [cI_t (Int32.not_le.mp c68)], rfl, q4⟩
set_option maxRecDepth 20000 in
set_option maxHeartbeats 2000000 in
theorem md_whyNot (hI : Inv L z m) {c : Nat} {w ah yd bad x y : Int32} (hc : c < z 2) : hk_Ct MX10_whyNot 69 0 0 [.ref 37, .int (nI c), .int x, .int y, .int w, .int ah, .int yd, .int bad] (hk_h L m) (fun r h => ∃ m2, r = some (.int (WV m L (z 12) c (z 8) ah yd bad (rm w 1000) (w / 1000) (bI (ngt (m 4) (m 5) (z 8))))) ∧ h = hk_h L m2 ∧ SF m m2) := by
  obtain ⟨g0, ⟨⟨a0, a1, a2, a3, a4, a5, a6, a7, a8, a9, a10, a11, a12, a13⟩, ⟨b0, b1, b2, b3, b4, b5, b6, b7, b8, b9, b10, b11, b12⟩, ⟨c0, c1, c2, c3, c4, c5, c6, c7, c8, c9, c10, c11, c12⟩⟩, g2, g3, g4, g5, g6, g7, g8, g9, g10, g11, g12, g13, g14⟩ := id hI
  obtain ⟨p1, p2, p3, p4, p5⟩ := Inv_gl hI
  obtain ⟨e1, e2, e3, e4, e5, e6, _⟩ := g5.1 c hc
  have engt : ngt (m 38) (m 39) (z 8) ↔ ngt (m 4) (m 5) (z 8) := by rw [ngt_c g3]
  refine hk_ofWP (by decide) (by simp [Value.category]) (Nat.le_of_ble_eq_true rfl) ?_
  show hk_WP _ _ _ _ _ _ _ [some (.ref 37), some (.int (nI c)), some (.int x), some (.int y), some (.int w), some (.int ah), some (.int yd), some (.int bad), none] [] _ _
  refine hk_aload_n dX10_whyNot_0 rfl rfl ?_
  refine hk_iload_n dX10_whyNot_1 rfl rfl ?_
  refine hk_aload_n dX10_whyNot_2 rfl rfl ?_
  refine ivX10_262 rfl md_today dX10_whyNot_3 (hk_lt (by decide)) rfl rfl rfl (by decide) ⟨by decide, by decide⟩ (Nat.le_of_ble_eq_true rfl) (hk_kd ?_)
  rw [b8]
  refine hk_sipush (v := 360) dX10_whyNot_6 (by decide) ?_
  refine hk_idiv dX10_whyNot_9 (by decide) ?_
  refine ivX10_258 rfl (md_holder b12 c12 _ _) dX10_whyNot_10 (hk_lt (by decide)) rfl rfl rfl (by decide) ⟨by decide, by decide⟩ (Nat.le_of_ble_eq_true rfl) (hk_kd ?_)
  rw [← hol_c g6]
  refine hk_if_ge (tgt := 18) dX10_whyNot_13 (by decide) (fun c13 => ?_) (fun c13 => ?_)
  · refine hk_aload_n dX10_whyNot_18 rfl rfl ?_
    refine gfX10_58 rfl dX10_whyNot_19 (hk_lt (by decide)) rfl rfl ?_
    refine hk_iload_n dX10_whyNot_22 rfl rfl ?_
    refine hk_ian dX10_whyNot_23 (by decide) (fun _ => rfl) rfl (by omega) (by decide) ?_
    rw [← e4]
    refine hk_aload_n dX10_whyNot_24 rfl rfl ?_
    refine ivX10_262 rfl md_today dX10_whyNot_25 (hk_lt (by decide)) rfl rfl rfl (by decide) ⟨by decide, by decide⟩ (Nat.le_of_ble_eq_true rfl) (hk_kd ?_)
    rw [b8]
    refine hk_icmp_ge (tgt := 33) dX10_whyNot_28 (by decide) (fun c28 => ?_) (fun c28 => ?_)
    · refine hk_aload_n dX10_whyNot_33 rfl rfl ?_
      refine gfX10_55 rfl dX10_whyNot_34 (hk_lt (by decide)) rfl rfl ?_
      refine hk_iload_n dX10_whyNot_37 rfl rfl ?_
      refine hk_ian dX10_whyNot_38 (by decide) (fun _ => rfl) rfl (by omega) (by decide) ?_
      rw [← e3]
      refine hk_iconst (v := 3) dX10_whyNot_39 (by decide) ?_
      refine hk_iload dX10_whyNot_40 rfl ?_
      refine hk_iload dX10_whyNot_42 rfl ?_
      refine ivX10_277 rfl (md_minutesOf _) dX10_whyNot_44 rfl rfl (by decide) ⟨by decide, by decide⟩ (Nat.le_of_ble_eq_true rfl) (hk_kd ?_)
      refine hk_iadd dX10_whyNot_47 ?_
      refine hk_iload dX10_whyNot_48 rfl ?_
      refine hk_sipush (v := 1000) dX10_whyNot_50 (by decide) ?_
      refine hk_irem dX10_whyNot_53 (by decide) ?_
      refine hk_iadd dX10_whyNot_54 ?_
      refine hk_imul dX10_whyNot_55 ?_
      refine hk_bipush (v := 20) dX10_whyNot_56 (by decide) ?_
      refine hk_iadd dX10_whyNot_58 ?_
      refine hk_icmp_ge (tgt := 64) dX10_whyNot_59 (by decide) (fun c59 => ?_) (fun c59 => ?_)
      · refine hk_aload_n dX10_whyNot_64 rfl rfl ?_
        refine hk_iconst (v := 2) dX10_whyNot_65 (by decide) ?_
        refine hk_aload_n dX10_whyNot_66 rfl rfl ?_
        refine ivX10_262 rfl md_today dX10_whyNot_67 (hk_lt (by decide)) rfl rfl rfl (by decide) ⟨by decide, by decide⟩ (Nat.le_of_ble_eq_true rfl) (hk_kd ?_)
        rw [b8]
        refine hk_aload_n dX10_whyNot_70 rfl rfl ?_
        refine ivX10_262 rfl md_today dX10_whyNot_71 (hk_lt (by decide)) rfl rfl rfl (by decide) ⟨by decide, by decide⟩ (Nat.le_of_ble_eq_true rfl) (hk_kd ?_)
        rw [b8]
        refine ivX10_345 rfl (md_force p4 p3 _ _ _) dX10_whyNot_74 (hk_lt (by decide)) rfl rfl rfl (by decide) ⟨by decide, by decide⟩ (Nat.le_of_ble_eq_true rfl) (hk_kd ?_)
        cases hlq : LQ m 2 (nI (z 8) / 1440) (nI (z 8) / 1440) L with
        | none =>
          rw [show fo (-9) (none : Option Nat) = -9 from rfl]
          refine hk_istore dX10_whyNot_77 (by decide) rfl ?_
          refine hk_iload dX10_whyNot_79 rfl ?_
          refine hk_if_ge (tgt := 86) dX10_whyNot_81 (by decide) (fun c81 => absurd c81 (by decide)) (fun _ => ?_)
          refine hk_iconst (v := 0) dX10_whyNot_84 (by decide) ?_
          exact hk_ireturn dX10_whyNot_85 rfl rfl (by decide) ⟨m, by unfold WV; rw [cI_f (Int32.not_lt.mpr c13), cI_f (Int32.not_lt.mpr c28), cI_f (Int32.not_lt.mpr c59)]; unfold wq; rw [hlq, cI_t rfl], rfl, SF.refl⟩
        | some i =>
          have hi : i < L := (LQ_lt hlq).1
          rw [show fo (-9) (some i) = nI i from rfl]
          refine hk_istore dX10_whyNot_77 (by decide) rfl ?_
          refine hk_iload dX10_whyNot_79 rfl ?_
          refine hk_if_ge (tgt := 86) dX10_whyNot_81 (by decide) (fun _ => ?_) (fun c81 => absurd (Int32.not_lt.mp (nI_pos (by omega))) c81)
          refine hk_aload_n dX10_whyNot_86 rfl rfl ?_
          refine hk_iload dX10_whyNot_87 rfl ?_
          refine hk_iload dX10_whyNot_89 rfl ?_
          refine hk_sipush (v := 1000) dX10_whyNot_91 (by decide) ?_
          refine hk_irem dX10_whyNot_94 (by decide) ?_
          refine hk_aload_n dX10_whyNot_95 rfl rfl ?_
          refine hk_aload_n dX10_whyNot_96 rfl rfl ?_
          refine gfX10_194 rfl dX10_whyNot_97 (hk_lt (by decide)) rfl rfl ?_
          rw [b8]
          refine ivX10_223 rfl (md_isNight c8) dX10_whyNot_100 (hk_lt (by decide)) rfl rfl rfl (by decide) ⟨by decide, by decide⟩ (Nat.le_of_ble_eq_true rfl) (hk_kd ?_)
          rw [bI_c engt]
          refine hk_if_eq (tgt := 110) dX10_whyNot_103 (by decide) (fun c103 => ?_) (fun c103 => ?_)
          · rw [bI_0] at c103
            refine hk_iconst (v := 0) dX10_whyNot_110 (by decide) ?_
            refine hk_iload dX10_whyNot_111 rfl ?_
            refine hk_sipush (v := 1000) dX10_whyNot_113 (by decide) ?_
            refine hk_idiv dX10_whyNot_116 (by decide) ?_
            refine hk_iload dX10_whyNot_117 rfl ?_
            refine hk_aload_n dX10_whyNot_119 rfl rfl ?_
            refine ivX10_262 rfl md_today dX10_whyNot_120 (hk_lt (by decide)) rfl rfl rfl (by decide) ⟨by decide, by decide⟩ (Nat.le_of_ble_eq_true rfl) (hk_kd ?_)
            rw [b8]
            refine hk_bipush (v := 7) dX10_whyNot_123 (by decide) ?_
            refine hk_irem dX10_whyNot_125 (by decide) ?_
            refine hk_aload_n dX10_whyNot_126 rfl rfl ?_
            refine gfX10_194 rfl dX10_whyNot_127 (hk_lt (by decide)) rfl rfl ?_
            rw [b8]
            refine hk_sipush (v := 1440) dX10_whyNot_130 (by decide) ?_
            refine hk_irem dX10_whyNot_133 (by decide) ?_
            refine hk_bipush (v := 60) dX10_whyNot_134 (by decide) ?_
            refine hk_idiv dX10_whyNot_136 (by decide) ?_
            refine hk_aload_n dX10_whyNot_137 rfl rfl ?_
            refine gfX10_55 rfl dX10_whyNot_138 (hk_lt (by decide)) rfl rfl ?_
            refine hk_iload_n dX10_whyNot_141 rfl rfl ?_
            refine hk_ian dX10_whyNot_142 (by decide) (fun _ => rfl) rfl (by omega) (by decide) ?_
            rw [← e3]
            refine ivX10_350 rfl (md_name _ _ _ _ _ _ _ _) dX10_whyNot_143 (hk_lt (by decide)) rfl rfl rfl (by decide) ⟨by decide, by decide⟩ (Nat.le_of_ble_eq_true rfl) (fun r h1 hq => ?_)
            obtain ⟨m3, rfl, rfl, q1, q2⟩ := hq
            have s3 := SF.of72 q1
            obtain ⟨nn, cc, ht1, ht2, ht3⟩ := ((p5 i hi).k s3).pt
            refine hk_aload_n dX10_whyNot_146 rfl rfl ?_
            refine hk_sipush (v := 160) dX10_whyNot_147 (by decide) ?_
            refine hk_iload dX10_whyNot_150 rfl ?_
            refine hk_imul dX10_whyNot_152 ?_
            rw [show (160 : Int32) * nI i = nI (160 * i) from nI_mul 160 i]
            refine hk_aload_n dX10_whyNot_153 rfl rfl ?_
            refine gfX10_100 rfl dX10_whyNot_154 (hk_lt (by decide)) rfl rfl ?_
            refine hk_iload dX10_whyNot_157 rfl ?_
            refine hk_ian dX10_whyNot_159 (by decide) (fun _ => rfl) rfl (by omega) (by decide) ?_
            rw [ht1]
            refine ivX10_342 rfl (md_workOut (Or.inr ⟨i, by omega, rfl, rfl⟩) ht2) dX10_whyNot_160 (hk_lt (by decide)) rfl rfl rfl (by decide) ⟨by decide, by decide⟩ (Nat.le_of_ble_eq_true rfl) (fun r h1 hq => ?_)
            obtain ⟨m4, rfl, rfl, s4, s5⟩ := WOj hq ht3
            rw [q2]
            refine hk_if_eq (tgt := 170) dX10_whyNot_163 (by decide) (fun c163 => ?_) (fun c163 => ?_)
            · refine hk_iconst (v := 0) dX10_whyNot_170 (by decide) ?_
              exact hk_ireturn dX10_whyNot_171 rfl rfl (by decide) ⟨m4, by unfold WV; rw [cI_f (Int32.not_lt.mpr c13), cI_f (Int32.not_lt.mpr c28), cI_f (Int32.not_lt.mpr c59)]; unfold wq; rw [hlq]; (first | rw [bI_t (Classical.not_not.mp c103)] | rw [bI_f c103]); (first | exact congrArg (fun v => some (Value.int v)) (cI_t c163).symm | exact congrArg (fun v => some (Value.int v)) (cI_f c163).symm), rfl, s3.t s4.g.f⟩
            · refine hk_iconst (v := 4) dX10_whyNot_166 (by decide) ?_
              refine hk_goto (tgt := 171) dX10_whyNot_167 (by decide) ?_
              exact hk_ireturn dX10_whyNot_171 rfl rfl (by decide) ⟨m4, by unfold WV; rw [cI_f (Int32.not_lt.mpr c13), cI_f (Int32.not_lt.mpr c28), cI_f (Int32.not_lt.mpr c59)]; unfold wq; rw [hlq]; (first | rw [bI_t (Classical.not_not.mp c103)] | rw [bI_f c103]); (first | exact congrArg (fun v => some (Value.int v)) (cI_t c163).symm | exact congrArg (fun v => some (Value.int v)) (cI_f c163).symm), rfl, s3.t s4.g.f⟩
          · rw [bI_0] at c103
            refine hk_iconst (v := 1) dX10_whyNot_106 (by decide) ?_
            refine hk_goto (tgt := 111) dX10_whyNot_107 (by decide) ?_
            refine hk_iload dX10_whyNot_111 rfl ?_
            refine hk_sipush (v := 1000) dX10_whyNot_113 (by decide) ?_
            refine hk_idiv dX10_whyNot_116 (by decide) ?_
            refine hk_iload dX10_whyNot_117 rfl ?_
            refine hk_aload_n dX10_whyNot_119 rfl rfl ?_
            refine ivX10_262 rfl md_today dX10_whyNot_120 (hk_lt (by decide)) rfl rfl rfl (by decide) ⟨by decide, by decide⟩ (Nat.le_of_ble_eq_true rfl) (hk_kd ?_)
            rw [b8]
            refine hk_bipush (v := 7) dX10_whyNot_123 (by decide) ?_
            refine hk_irem dX10_whyNot_125 (by decide) ?_
            refine hk_aload_n dX10_whyNot_126 rfl rfl ?_
            refine gfX10_194 rfl dX10_whyNot_127 (hk_lt (by decide)) rfl rfl ?_
            rw [b8]
            refine hk_sipush (v := 1440) dX10_whyNot_130 (by decide) ?_
            refine hk_irem dX10_whyNot_133 (by decide) ?_
            refine hk_bipush (v := 60) dX10_whyNot_134 (by decide) ?_
            refine hk_idiv dX10_whyNot_136 (by decide) ?_
            refine hk_aload_n dX10_whyNot_137 rfl rfl ?_
            refine gfX10_55 rfl dX10_whyNot_138 (hk_lt (by decide)) rfl rfl ?_
            refine hk_iload_n dX10_whyNot_141 rfl rfl ?_
            refine hk_ian dX10_whyNot_142 (by decide) (fun _ => rfl) rfl (by omega) (by decide) ?_
            rw [← e3]
            refine ivX10_350 rfl (md_name _ _ _ _ _ _ _ _) dX10_whyNot_143 (hk_lt (by decide)) rfl rfl rfl (by decide) ⟨by decide, by decide⟩ (Nat.le_of_ble_eq_true rfl) (fun r h1 hq => ?_)
            obtain ⟨m3, rfl, rfl, q1, q2⟩ := hq
            have s3 := SF.of72 q1
            obtain ⟨nn, cc, ht1, ht2, ht3⟩ := ((p5 i hi).k s3).pt
            refine hk_aload_n dX10_whyNot_146 rfl rfl ?_
            refine hk_sipush (v := 160) dX10_whyNot_147 (by decide) ?_
            refine hk_iload dX10_whyNot_150 rfl ?_
            refine hk_imul dX10_whyNot_152 ?_
            rw [show (160 : Int32) * nI i = nI (160 * i) from nI_mul 160 i]
            refine hk_aload_n dX10_whyNot_153 rfl rfl ?_
            refine gfX10_100 rfl dX10_whyNot_154 (hk_lt (by decide)) rfl rfl ?_
            refine hk_iload dX10_whyNot_157 rfl ?_
            refine hk_ian dX10_whyNot_159 (by decide) (fun _ => rfl) rfl (by omega) (by decide) ?_
            rw [ht1]
            refine ivX10_342 rfl (md_workOut (Or.inr ⟨i, by omega, rfl, rfl⟩) ht2) dX10_whyNot_160 (hk_lt (by decide)) rfl rfl rfl (by decide) ⟨by decide, by decide⟩ (Nat.le_of_ble_eq_true rfl) (fun r h1 hq => ?_)
            obtain ⟨m4, rfl, rfl, s4, s5⟩ := WOj hq ht3
            rw [q2]
            refine hk_if_eq (tgt := 170) dX10_whyNot_163 (by decide) (fun c163 => ?_) (fun c163 => ?_)
            · refine hk_iconst (v := 0) dX10_whyNot_170 (by decide) ?_
              exact hk_ireturn dX10_whyNot_171 rfl rfl (by decide) ⟨m4, by unfold WV; rw [cI_f (Int32.not_lt.mpr c13), cI_f (Int32.not_lt.mpr c28), cI_f (Int32.not_lt.mpr c59)]; unfold wq; rw [hlq]; (first | rw [bI_t (Classical.not_not.mp c103)] | rw [bI_f c103]); (first | exact congrArg (fun v => some (Value.int v)) (cI_t c163).symm | exact congrArg (fun v => some (Value.int v)) (cI_f c163).symm), rfl, s3.t s4.g.f⟩
            · refine hk_iconst (v := 4) dX10_whyNot_166 (by decide) ?_
              refine hk_goto (tgt := 171) dX10_whyNot_167 (by decide) ?_
              exact hk_ireturn dX10_whyNot_171 rfl rfl (by decide) ⟨m4, by unfold WV; rw [cI_f (Int32.not_lt.mpr c13), cI_f (Int32.not_lt.mpr c28), cI_f (Int32.not_lt.mpr c59)]; unfold wq; rw [hlq]; (first | rw [bI_t (Classical.not_not.mp c103)] | rw [bI_f c103]); (first | exact congrArg (fun v => some (Value.int v)) (cI_t c163).symm | exact congrArg (fun v => some (Value.int v)) (cI_f c163).symm), rfl, s3.t s4.g.f⟩
      · refine hk_iconst (v := 3) dX10_whyNot_62 (by decide) ?_
        exact hk_ireturn dX10_whyNot_63 rfl rfl (by decide) ⟨m, by unfold WV; rw [cI_f (Int32.not_lt.mpr c13), cI_f (Int32.not_lt.mpr c28), cI_t (Int32.not_le.mp c59)], rfl, SF.refl⟩
    · refine hk_iconst (v := 2) dX10_whyNot_31 (by decide) ?_
      exact hk_ireturn dX10_whyNot_32 rfl rfl (by decide) ⟨m, by unfold WV; rw [cI_f (Int32.not_lt.mpr c13), cI_t (Int32.not_le.mp c28)], rfl, SF.refl⟩
  · refine hk_iconst (v := 1) dX10_whyNot_16 (by decide) ?_
    exact hk_ireturn dX10_whyNot_17 rfl rfl (by decide) ⟨m, by unfold WV; rw [cI_t (Int32.not_le.mp c13)], rfl, SF.refl⟩
end CBx
