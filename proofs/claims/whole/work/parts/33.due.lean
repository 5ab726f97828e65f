/-! CALLS: due; sums of fares -/
section OE
variable {L nT : Nat} {m m0 m1 m2 : Nat → Nat → Int32} {z : Nat → Nat}
/-- by the law of kind k in force on trip t's day, as known on day w -/
noncomputable def dx (m : Nat → Nat → Int32) (L t : Nat) (k w : Int32) : Option Int32 := fo1 m (NTR m t) k (m 76 t / 1440) w L
noncomputable def dv (m : Nat → Nat → Int32) (L t : Nat) (w : Int32) : Int32 := fv (dx m L t 0 w) (dx m L t 1 w)
noncomputable def dk (m : Nat → Nat → Int32) (L t : Nat) (w : Int32) : Int32 := fk (dx m L t 0 w) (dx m L t 1 w)
noncomputable def dc (m : Nat → Nat → Int32) (L t : Nat) (w : Int32) : Int32 := fvc (dx m L t 0 w) (dx m L t 1 w)
abbrev GT (m : Nat → Nat → Int32) (nT : Nat) : Prop := GTrip nT (m 24) (m 73) (m 74) (m 75) (m 76) (m 77) (m 78) (m 79) (m 80) (m 81) (m 82) (m 84) (m 83) (m 85)
/-- what the class's fares rest on, and the reference's -/
def LI (m : Nat → Nat → Int32) (L nT : Nat) : Prop := m 15 2 = nI L ∧ L ≤ 40 ∧ GL m L ∧ m 23 3 = nI nT ∧ nT ≤ 300 ∧ GT m nT
def LM (m : Nat → Nat → Int32) (L nT : Nat) : Prop := m 37 43 = nI L ∧ L ≤ 40 ∧ AL m L ∧ m 37 60 = nI nT ∧ nT ≤ 300 ∧ ∀ t, t < nT → m 84 t = 0 ∨ m 84 t = 1
theorem LI.k (h : LI m L nT) (s : CF m m1) : LI m1 L nT := by
  obtain ⟨h1, h2, h3, h4, h5, h6⟩ := h
  refine ⟨by rw [s 15 (by decide) (by decide)]; exact h1, h2, h3.k s, by rw [s 23 (by decide) (by decide)]; exact h4, h5, ?_⟩
  unfold GT
  rw [s 24 (by decide) (by decide), s 73 (by decide) (by decide), s 74 (by decide) (by decide), s 75 (by decide) (by decide), s 76 (by decide) (by decide), s 77 (by decide) (by decide), s 78 (by decide) (by decide), s 79 (by decide) (by decide), s 80 (by decide) (by decide), s 81 (by decide) (by decide), s 82 (by decide) (by decide), s 83 (by decide) (by decide), s 84 (by decide) (by decide), s 85 (by decide) (by decide)]
  exact h6
theorem LM.k (h : LM m L nT) (s : SF m m1) : LM m1 L nT := by
  obtain ⟨h1, h2, h3, h4, h5, h6⟩ := h
  refine ⟨by rw [s.2 43 (by decide) (by decide) (by decide) (by decide) (by decide)]; exact h1, h2, h3.k s, by rw [s.2 60 (by decide) (by decide) (by decide) (by decide) (by decide)]; exact h4, h5, ?_⟩
  rw [s.1 84 (by decide) (by decide)]
  exact h6
theorem Inv_li (hI : Inv L z m) : LI m L (z 5) := by
  obtain ⟨g0, ⟨⟨a0, a1, a2, a3, a4, a5, a6, a7, a8, a9, a10, a11, a12, a13⟩, ⟨b0, b1, b2, b3, b4, b5, b6, b7, b8, b9, b10, b11, b12⟩, ⟨c0, c1, c2, c3, c4, c5, c6, c7, c8, c9, c10, c11, c12⟩⟩, g2, g3, g4, g5, g6, g7, g8, g9, g10, g11, g12, g13, g14⟩ := id hI
  subst g0
  exact ⟨a4, c4, g9, a5, c5, g10⟩
theorem Inv_lm (hI : Inv L z m) : LM m L (z 5) := by
  obtain ⟨g0, ⟨⟨a0, a1, a2, a3, a4, a5, a6, a7, a8, a9, a10, a11, a12, a13⟩, ⟨b0, b1, b2, b3, b4, b5, b6, b7, b8, b9, b10, b11, b12⟩, ⟨c0, c1, c2, c3, c4, c5, c6, c7, c8, c9, c10, c11, c12⟩⟩, g2, g3, g4, g5, g6, g7, g8, g9, g10, g11, g12, g13, g14⟩ := id hI
  subst g0
  exact ⟨b4, c4, GL.al g9 c4, b5, c5, fun t ht => (g10 t ht).2.2.2.2.2.2.2.2.2.2.2.2.2.1⟩
theorem CF.dxk (s : CF m m1) {t : Nat} {k w : Int32} : dx m1 L t k w = dx m L t k w := by
  unfold dx
  rw [s.fq]
  unfold NTR
  rw [s 76 (by decide) (by decide), s 79 (by decide) (by decide), s 80 (by decide) (by decide), s 81 (by decide) (by decide), s 82 (by decide) (by decide), s 83 (by decide) (by decide), s 84 (by decide) (by decide)]
theorem SF.dxk (s : SF m m1) {t : Nat} {k w : Int32} : dx m1 L t k w = dx m L t k w := by
  unfold dx
  rw [fo1_k s]
  unfold NTR
  rw [s.1 76 (by decide) (by decide), s.1 79 (by decide) (by decide), s.1 80 (by decide) (by decide), s.1 81 (by decide) (by decide), s.1 82 (by decide) (by decide), s.1 83 (by decide) (by decide), s.1 84 (by decide) (by decide)]
theorem SCR.a (s : SCR m m1) {a : Nat} (h : ∀ b, b ∈ [3, 6, 16, 18, 20, 21, 26, 37, 47, 48, 49, 72] → a ≠ b) : m1 a = m a := s.1 a (h 3 (by decide)) (h 6 (by decide)) (h 16 (by decide)) (h 18 (by decide)) (h 20 (by decide)) (h 21 (by decide)) (h 26 (by decide)) (h 37 (by decide)) (h 47 (by decide)) (h 48 (by decide)) (h 49 (by decide)) (h 72 (by decide))
theorem SCR.dxk (s : SCR m m1) {t : Nat} {k w : Int32} : dx m1 L t k w = dx m L t k w := by
  unfold dx fo1 LQ LV NTR
  rw [s.a (a := 67) (by decide), s.a (a := 68) (by decide), s.a (a := 69) (by decide), s.a (a := 70) (by decide), s.a (a := 71) (by decide), s.a (a := 76) (by decide), s.a (a := 79) (by decide), s.a (a := 80) (by decide), s.a (a := 81) (by decide), s.a (a := 82) (by decide), s.a (a := 83) (by decide), s.a (a := 84) (by decide)]
theorem NTC_R (h : GT m nT) {t : Nat} (ht : t < nT) : NTC m 24 t = NTR m t ∧ m 24 (t * 13 + 3) = m 76 t := by
  obtain ⟨h0, h1, h2, h3, h4, h5, h6, h7, h8, h9, h10, h11, _⟩ := h t ht
  unfold NTC NTR
  rw [h3, h6, h7, h8, h9, h10, h11]
  exact ⟨rfl, rfl⟩
theorem dx_0 {t : Nat} {k w : Int32} : ∀ a, dx m L t k w = some a → ¬ a < 0 := fo1_0
theorem ct_due1 (hi : LI m L nT) {t : Nat} (ht : t < nT) (w : Int32) : hk_Ct MX9_fareDue 3 0 0 [.ref 0, .int (nI t), .int w] (hk_h L m) (fun r h => ∃ m1, r = some (.int (dc m L t w)) ∧ h = hk_h L m1 ∧ CF m m1) := by
  obtain ⟨h1, h2, h3, h4, h5, h6⟩ := hi
  have e := NTC_R h6 ht
  refine hk_imp ?_ (ct_fareDue h1 h2 h3 h4 h5 ht w)
  rintro r h ⟨m1, q1, q2, q3, _⟩
  rw [e.1, e.2] at q1
  exact ⟨m1, q1, q2, q3⟩
theorem ct_due2 (hi : LI m L nT) {t : Nat} (ht : t < nT) (w : Int32) (hf : ¬ dc m L t w < 0) : hk_Ct MX9_kindDue 4 0 0 [.ref 0, .int (nI t), .int w] (hk_h L m) (fun r h => ∃ m1, r = some (.int (dk m L t w)) ∧ h = hk_h L m1 ∧ CF m m1) := by
  obtain ⟨h1, h2, h3, h4, h5, h6⟩ := hi
  have e := NTC_R h6 ht
  refine hk_imp ?_ (ct_kindDue h1 h2 h3 h4 h5 ht w)
  rintro r h ⟨m1, q1, q2, q3⟩
  rw [e.1, e.2] at q1
  exact ⟨m1, by rw [q1]; exact congrArg (fun x => some (Value.int x)) (kd_eq dx_0 dx_0 hf).1, q2, q3⟩
theorem dc_n {t : Nat} {w : Int32} (h : dc m L t w < 0) : dv m L t w = -9 ∧ dk m L t w = -9 := by
  obtain ⟨h1, h2⟩ := fvc_0 dx_0 dx_0 h
  unfold dv dk
  rw [h1, h2]
  exact ⟨rfl, rfl⟩
theorem dc_y {t : Nat} {w : Int32} (h : ¬ dc m L t w < 0) : dc m L t w = dv m L t w := (kd_eq dx_0 dx_0 h).2
theorem md_due1 (hi : LM m L nT) {t : Nat} (ht : t < nT) (w : Int32) : hk_Ct MX10_dueOf 70 0 0 [.ref 37, .int (nI t), .int w] (hk_h L m) (fun r h => ∃ m1, r = some (.int (dv m L t w)) ∧ h = hk_h L m1 ∧ SF m m1 ∧ m1 37 80 = dk m L t w) := by
  obtain ⟨h1, h2, h3, h4, h5, h6⟩ := hi
  exact md_dueOf h1 h2 h3 (by omega) (h6 t ht) w
abbrev okDue (nT : Nat) (t w u : Int32) : Prop := inR t nT ∧ inR w 10000 ∧ ¬ u < 0 ∧ ¬ 1 < u
set_option maxRecDepth 20000 in
set_option maxHeartbeats 2000000 in
theorem ct_due_no (hi : LI m L nT) (t w u : Int32) (h : ¬ okDue nT t w u) : hk_Cd MX9_due 5 0 0 [.ref 0, .int t, .int w, .int u] (hk_h L m) (some (.int (-9))) (hk_h L m) := by
  refine hk_ofWP (by decide) (by simp [Value.category]) (Nat.le_of_ble_eq_true rfl) ?_
  show hk_WP _ _ _ _ _ _ _ [some (.ref 0), some (.int t), some (.int w), some (.int u), none] [] _ _
  refine hk_aload_n dX9_due_0 rfl rfl ?_
  refine gfX9_37 rfl dX9_due_1 (hk_lt (by decide)) rfl rfl ?_
  refine gfX9_215 rfl dX9_due_4 (hk_lt (by decide)) rfl rfl ?_
  refine hk_iload_n dX9_due_7 rfl rfl ?_
  refine ivX9_71 rfl (ct_has tb23 hi.2.2.2.2.1 hi.2.2.2.1 t) dX9_due_8 (hk_lt (by decide)) rfl rfl rfl (by decide) ⟨by decide, by decide⟩ (Nat.le_of_ble_eq_true rfl) (hk_kd ?_)
  refine hk_if_eq (tgt := 30) dX9_due_11 (by decide) (fun c11 => ?_) (fun c11 => ?_)
  · rw [bI_0] at c11
    refine hk_bipush (v := (-9)) dX9_due_30 (by decide) ?_
    exact hk_ireturn dX9_due_32 rfl rfl (by decide) ⟨rfl, rfl⟩
  · rw [bI_0] at c11
    refine hk_iload_n dX9_due_14 rfl rfl ?_
    refine ivX9_184 rfl (ct_isDay w) dX9_due_15 rfl rfl (by decide) ⟨by decide, by decide⟩ (Nat.le_of_ble_eq_true rfl) (hk_kd ?_)
    refine hk_if_eq (tgt := 30) dX9_due_18 (by decide) (fun c18 => ?_) (fun c18 => ?_)
    · rw [bI_0] at c18
      refine hk_bipush (v := (-9)) dX9_due_30 (by decide) ?_
      exact hk_ireturn dX9_due_32 rfl rfl (by decide) ⟨rfl, rfl⟩
    · rw [bI_0] at c18
      refine hk_iload_n dX9_due_21 rfl rfl ?_
      refine hk_if_lt (tgt := 30) dX9_due_22 (by decide) (fun c22 => ?_) (fun c22 => ?_)
      · refine hk_bipush (v := (-9)) dX9_due_30 (by decide) ?_
        exact hk_ireturn dX9_due_32 rfl rfl (by decide) ⟨rfl, rfl⟩
      · refine hk_iload_n dX9_due_25 rfl rfl ?_
        refine hk_iconst (v := 1) dX9_due_26 (by decide) ?_
        refine hk_icmp_le (tgt := 33) dX9_due_27 (by decide) (fun c27 => ?_) (fun c27 => ?_)
        · exact absurd ⟨Classical.not_not.mp c11, Classical.not_not.mp c18, c22, Int32.not_lt.mpr c27⟩ h
        · refine hk_bipush (v := (-9)) dX9_due_30 (by decide) ?_
          exact hk_ireturn dX9_due_32 rfl rfl (by decide) ⟨rfl, rfl⟩
set_option maxRecDepth 20000 in
set_option maxHeartbeats 2000000 in
theorem ct_due (hi : LI m L nT) {t : Nat} (ht : t < nT) (w u : Int32) (h : okDue nT (nI t) w u) : hk_Ct MX9_due 5 0 0 [.ref 0, .int (nI t), .int w, .int u] (hk_h L m) (fun r h => ∃ m1, r = some (.int (if u = 0 then dv m L t w else dk m L t w)) ∧ h = hk_h L m1 ∧ SCR m m1) := by
  refine hk_ofWP (by decide) (by simp [Value.category]) (Nat.le_of_ble_eq_true rfl) ?_
  show hk_WP _ _ _ _ _ _ _ [some (.ref 0), some (.int (nI t)), some (.int w), some (.int u), none] [] _ _
  refine hk_aload_n dX9_due_0 rfl rfl ?_
  refine gfX9_37 rfl dX9_due_1 (hk_lt (by decide)) rfl rfl ?_
  refine gfX9_215 rfl dX9_due_4 (hk_lt (by decide)) rfl rfl ?_
  refine hk_iload_n dX9_due_7 rfl rfl ?_
  refine ivX9_71 rfl (ct_has tb23 hi.2.2.2.2.1 hi.2.2.2.1 _) dX9_due_8 (hk_lt (by decide)) rfl rfl rfl (by decide) ⟨by decide, by decide⟩ (Nat.le_of_ble_eq_true rfl) (hk_kd ?_)
  refine hk_if_eq (tgt := 30) dX9_due_11 (by decide) (fun c11 => absurd c11 (fun e => bI_0.mp e h.1)) (fun _ => ?_)
  refine hk_iload_n dX9_due_14 rfl rfl ?_
  refine ivX9_184 rfl (ct_isDay w) dX9_due_15 rfl rfl (by decide) ⟨by decide, by decide⟩ (Nat.le_of_ble_eq_true rfl) (hk_kd ?_)
  refine hk_if_eq (tgt := 30) dX9_due_18 (by decide) (fun c18 => absurd c18 (fun e => bI_0.mp e h.2.1)) (fun _ => ?_)
  refine hk_iload_n dX9_due_21 rfl rfl ?_
  refine hk_if_lt (tgt := 30) dX9_due_22 (by decide) (fun c22 => absurd c22 h.2.2.1) (fun _ => ?_)
  refine hk_iload_n dX9_due_25 rfl rfl ?_
  refine hk_iconst (v := 1) dX9_due_26 (by decide) ?_
  refine hk_icmp_le (tgt := 33) dX9_due_27 (by decide) (fun _ => ?_) (fun c27 => absurd (Int32.not_lt.mp h.2.2.2) c27)
  refine hk_aload_n dX9_due_33 rfl rfl ?_
  refine hk_iload_n dX9_due_34 rfl rfl ?_
  refine hk_iload_n dX9_due_35 rfl rfl ?_
  refine ivX9_249 rfl (ct_due1 hi ht w) dX9_due_36 (hk_lt (by decide)) rfl rfl rfl (by decide) ⟨by decide, by decide⟩ (Nat.le_of_ble_eq_true rfl) (fun r h1 hq => ?_)
  obtain ⟨m3, rfl, rfl, s3⟩ := hq
  refine hk_istore dX9_due_39 (by decide) rfl ?_
  refine hk_iload dX9_due_41 rfl ?_
  refine hk_if_ge (tgt := 49) dX9_due_43 (by decide) (fun c43 => ?_) (fun c43 => ?_)
  · refine hk_iload_n dX9_due_49 rfl rfl ?_
    refine hk_if_ne (tgt := 58) dX9_due_50 (by decide) (fun c50 => ?_) (fun c50 => ?_)
    · refine hk_aload_n dX9_due_58 rfl rfl ?_
      refine hk_iload_n dX9_due_59 rfl rfl ?_
      refine hk_iload_n dX9_due_60 rfl rfl ?_
      refine ivX9_252 rfl (ct_due2 (hi.k s3) ht w (by rw [show dc m3 L t w = dc m L t w from by unfold dc; rw [s3.dxk, s3.dxk]]; exact Int32.not_lt.mpr c43)) dX9_due_61 (hk_lt (by decide)) rfl rfl rfl (by decide) ⟨by decide, by decide⟩ (Nat.le_of_ble_eq_true rfl) (fun r h1 hq => ?_)
      obtain ⟨m4, rfl, rfl, s4⟩ := hq
      have e4 : dk m3 L t w = dk m L t w := by unfold dk; rw [s3.dxk, s3.dxk]
      rw [e4]
      exact hk_ireturn dX9_due_64 rfl rfl (by decide) (by first | exact ⟨m4, congrArg (fun x => some (Value.int x)) (if_neg c50).symm, rfl, (s3.t s4).scr⟩ | exact ⟨m3, by rw [dc_y (Int32.not_lt.mpr c43)]; exact congrArg (fun x => some (Value.int x)) (if_pos c50).symm, rfl, s3.scr⟩)
    · refine hk_iload dX9_due_53 rfl ?_
      refine hk_goto (tgt := 64) dX9_due_55 (by decide) ?_
      exact hk_ireturn dX9_due_64 rfl rfl (by decide) (by first | exact ⟨m4, congrArg (fun x => some (Value.int x)) (if_neg c50).symm, rfl, (s3.t s4).scr⟩ | exact ⟨m3, by rw [dc_y (Int32.not_lt.mpr c43)]; exact congrArg (fun x => some (Value.int x)) (if_pos c50).symm, rfl, s3.scr⟩)
  · refine hk_bipush (v := (-9)) dX9_due_46 (by decide) ?_
    exact hk_ireturn dX9_due_48 rfl rfl (by decide) ⟨m3, by obtain ⟨e1, e2⟩ := dc_n (Int32.not_le.mp c43); rw [e1, e2]; exact congrArg (fun x => some (Value.int x)) (ite_self (-9)).symm, rfl, s3.scr⟩
set_option maxRecDepth 20000 in
set_option maxHeartbeats 2000000 in
theorem md_due_no (hi : LM m L nT) (t w u : Int32) (h : ¬ okDue nT t w u) : hk_Cd MX10_due 71 0 0 [.ref 37, .int t, .int w, .int u] (hk_h L m) (some (.int (-9))) (hk_h L m) := by
  refine hk_ofWP (by decide) (by simp [Value.category]) (Nat.le_of_ble_eq_true rfl) ?_
  show hk_WP _ _ _ _ _ _ _ [some (.ref 37), some (.int t), some (.int w), some (.int u), none] [] _ _
  refine hk_aload_n dX10_due_0 rfl rfl ?_
  refine hk_iload_n dX10_due_1 rfl rfl ?_
  refine ivX10_389 rfl (md_isTrip hi.2.2.2.1 t) dX10_due_2 (hk_lt (by decide)) rfl rfl rfl (by decide) ⟨by decide, by decide⟩ (Nat.le_of_ble_eq_true rfl) (hk_kd ?_)
  refine hk_if_eq (tgt := 24) dX10_due_5 (by decide) (fun c5 => ?_) (fun c5 => ?_)
  · rw [bI_0] at c5
    refine hk_bipush (v := (-9)) dX10_due_24 (by decide) ?_
    exact hk_ireturn dX10_due_26 rfl rfl (by decide) ⟨rfl, rfl⟩
  · rw [bI_0] at c5
    refine hk_iload_n dX10_due_8 rfl rfl ?_
    refine ivX10_336 rfl (md_isDay w) dX10_due_9 rfl rfl (by decide) ⟨by decide, by decide⟩ (Nat.le_of_ble_eq_true rfl) (hk_kd ?_)
    refine hk_if_eq (tgt := 24) dX10_due_12 (by decide) (fun c12 => ?_) (fun c12 => ?_)
    · rw [bI_0] at c12
      refine hk_bipush (v := (-9)) dX10_due_24 (by decide) ?_
      exact hk_ireturn dX10_due_26 rfl rfl (by decide) ⟨rfl, rfl⟩
    · rw [bI_0] at c12
      refine hk_iload_n dX10_due_15 rfl rfl ?_
      refine hk_iconst (v := 0) dX10_due_16 (by decide) ?_
      refine hk_iconst (v := 1) dX10_due_17 (by decide) ?_
      refine ivX10_208 rfl (ct_within u 0 1) dX10_due_18 rfl rfl (by decide) ⟨by decide, by decide⟩ (Nat.le_of_ble_eq_true rfl) (hk_kd ?_)
      refine hk_if_ne (tgt := 27) dX10_due_21 (by decide) (fun c21 => ?_) (fun c21 => ?_)
      · rw [bI_0] at c21
        exact absurd ⟨Classical.not_not.mp c5, Classical.not_not.mp c12, (Classical.not_not.mp c21).1, (Classical.not_not.mp c21).2⟩ h
      · rw [bI_0] at c21
        refine hk_bipush (v := (-9)) dX10_due_24 (by decide) ?_
        exact hk_ireturn dX10_due_26 rfl rfl (by decide) ⟨rfl, rfl⟩
set_option maxRecDepth 20000 in
set_option maxHeartbeats 2000000 in
theorem md_due (hi : LM m L nT) {t : Nat} (ht : t < nT) (w u : Int32) (h : okDue nT (nI t) w u) : hk_Ct MX10_due 71 0 0 [.ref 37, .int (nI t), .int w, .int u] (hk_h L m) (fun r h => ∃ m1, r = some (.int (if u = 0 then dv m L t w else dk m L t w)) ∧ h = hk_h L m1 ∧ SCR m m1) := by
  refine hk_ofWP (by decide) (by simp [Value.category]) (Nat.le_of_ble_eq_true rfl) ?_
  show hk_WP _ _ _ _ _ _ _ [some (.ref 37), some (.int (nI t)), some (.int w), some (.int u), none] [] _ _
  refine hk_aload_n dX10_due_0 rfl rfl ?_
  refine hk_iload_n dX10_due_1 rfl rfl ?_
  refine ivX10_389 rfl (md_isTrip hi.2.2.2.1 _) dX10_due_2 (hk_lt (by decide)) rfl rfl rfl (by decide) ⟨by decide, by decide⟩ (Nat.le_of_ble_eq_true rfl) (hk_kd ?_)
  refine hk_if_eq (tgt := 24) dX10_due_5 (by decide) (fun c5 => absurd c5 (fun e => bI_0.mp e h.1)) (fun _ => ?_)
  refine hk_iload_n dX10_due_8 rfl rfl ?_
  refine ivX10_336 rfl (md_isDay w) dX10_due_9 rfl rfl (by decide) ⟨by decide, by decide⟩ (Nat.le_of_ble_eq_true rfl) (hk_kd ?_)
  refine hk_if_eq (tgt := 24) dX10_due_12 (by decide) (fun c12 => absurd c12 (fun e => bI_0.mp e h.2.1)) (fun _ => ?_)
  refine hk_iload_n dX10_due_15 rfl rfl ?_
  refine hk_iconst (v := 0) dX10_due_16 (by decide) ?_
  refine hk_iconst (v := 1) dX10_due_17 (by decide) ?_
  refine ivX10_208 rfl (ct_within u 0 1) dX10_due_18 rfl rfl (by decide) ⟨by decide, by decide⟩ (Nat.le_of_ble_eq_true rfl) (hk_kd ?_)
  refine hk_if_ne (tgt := 27) dX10_due_21 (by decide) (fun _ => ?_) (fun c21 => absurd c21 (fun e => bI_0.mp e h.2.2))
  refine hk_aload_n dX10_due_27 rfl rfl ?_
  refine hk_iload_n dX10_due_28 rfl rfl ?_
  refine hk_iload_n dX10_due_29 rfl rfl ?_
  refine ivX10_290 rfl (md_due1 hi ht w) dX10_due_30 (hk_lt (by decide)) rfl rfl rfl (by decide) ⟨by decide, by decide⟩ (Nat.le_of_ble_eq_true rfl) (fun r h1 hq => ?_)
  obtain ⟨m3, rfl, rfl, s3, s4⟩ := hq
  refine hk_istore dX10_due_33 (by decide) rfl ?_
  refine hk_iload_n dX10_due_35 rfl rfl ?_
  refine hk_if_ne (tgt := 44) dX10_due_36 (by decide) (fun c36 => ?_) (fun c36 => ?_)
  · refine hk_aload_n dX10_due_44 rfl rfl ?_
    refine gfX10_355 rfl dX10_due_45 (hk_lt (by decide)) rfl rfl ?_
    exact hk_ireturn dX10_due_48 rfl rfl (by decide) ⟨m3, by first | exact congrArg (fun x => some (Value.int x)) (if_pos c36).symm | (rw [s4]; exact congrArg (fun x => some (Value.int x)) (if_neg c36).symm), rfl, s3.scr⟩
  · refine hk_iload dX10_due_39 rfl ?_
    refine hk_goto (tgt := 48) dX10_due_41 (by decide) ?_
    exact hk_ireturn dX10_due_48 rfl rfl (by decide) ⟨m3, by first | exact congrArg (fun x => some (Value.int x)) (if_pos c36).symm | (rw [s4]; exact congrArg (fun x => some (Value.int x)) (if_neg c36).symm), rfl, s3.scr⟩
theorem op_due (hI : Inv L z m) (t w u : Int32) : OpE L m MX9_due MX10_due [.int t, .int w, .int u] := by
  have h1 := Inv_li hI
  have h2 := Inv_lm hI
  have h3 := h1.2.2.2.2.1
  by_cases ho : okDue (z 5) t w u
  · obtain ⟨i, hi, rfl⟩ := inR_of ho.1 (by omega)
    refine OpE.of (d1 := 5) (d2 := 71) hI (by decide) (by decide) (ct_due h1 hi w u ho) (fun m1 hI1 s1 => ?_)
    have := md_due (Inv_lm hI1) hi w u ho
    have e1 : dv m1 L i w = dv m L i w := by unfold dv; rw [s1.dxk, s1.dxk]
    have e2 : dk m1 L i w = dk m L i w := by unfold dk; rw [s1.dxk, s1.dxk]
    rwa [e1, e2] at this
  · exact OpOK.e ⟨5, 0, 0, 71, -9, L, m, m, z, by decide, by decide, by decide, by decide, ct_due_no h1 t w u ho, md_due_no h2 t w u ho, hI⟩
end OE
