/-! a call drafted; why a coach does not come: the class's -/
section CAx
variable {L nC nS nK nD : Nat} {m m0 m1 m2 : Nat → Nat → Int32} {z : Nat → Nat}
/-- measured from f at minute n -/
def DR (m : Nat → Nat → Int32) (nS n f : Nat) (m1 : Nat → Nat → Int32) : Prop := SCR m m1 ∧ (∀ c, c < 24 → m1 6 c = nI (DD (GG m nS (nI n)) f c)) ∧ ∀ s, s < nS → m1 3 (s * 13 + 3) = bI (opn m s (nI n))
theorem DR.k {n f : Nat} (h : DR m nS n f m1) (e : ∀ a, a ≠ 20 → a ≠ 21 → a ≠ 26 → m2 a = m1 a) : DR m nS n f m2 := by
  obtain ⟨⟨s1, s2, s3, s4⟩, h2, h3⟩ := h
  have e3 := e 3 (by decide) (by decide) (by decide)
  have e6 := e 6 (by decide) (by decide) (by decide)
  refine ⟨⟨fun a k3 k6 k16 k18 k20 k21 k26 k37 k47 k48 k49 k72 => (e a k20 k21 k26).trans (s1 a k3 k6 k16 k18 k20 k21 k26 k37 k47 k48 k49 k72), fun j hj => by rw [e3]; exact s2 j hj, by rw [e 16 (by decide) (by decide) (by decide)]; exact s3, fun j k1 k2 k3 k4 k5 k6 => by rw [e 37 (by decide) (by decide) (by decide)]; exact s4 j k1 k2 k3 k4 k5 k6⟩, by rw [e6]; exact h2, by rw [e3]; exact h3⟩
/-- as DR, the class's refusals apart (they are noted while a call asks) -/
def SCW (m m1 : Nat → Nat → Int32) : Prop := (∀ a, a ≠ 3 → a ≠ 6 → a ≠ 16 → a ≠ 18 → a ≠ 20 → a ≠ 21 → a ≠ 26 → a ≠ 27 → a ≠ 28 → a ≠ 37 → a ≠ 47 → a ≠ 48 → a ≠ 49 → a ≠ 72 → m1 a = m a) ∧ (∀ j, j % 13 ≠ 3 → m1 3 j = m 3 j) ∧ m1 16 2 = m 16 2 ∧ ∀ j, j ≠ 15 → j ≠ 44 → j ≠ 45 → j ≠ 78 → j ≠ 79 → j ≠ 80 → m1 37 j = m 37 j
theorem SCW.a (s : SCW m m1) {a : Nat} (h : ∀ b, b ∈ [3, 6, 16, 18, 20, 21, 26, 27, 28, 37, 47, 48, 49, 72] → a ≠ b) : m1 a = m a := s.1 a (h 3 (by decide)) (h 6 (by decide)) (h 16 (by decide)) (h 18 (by decide)) (h 20 (by decide)) (h 21 (by decide)) (h 26 (by decide)) (h 27 (by decide)) (h 28 (by decide)) (h 37 (by decide)) (h 47 (by decide)) (h 48 (by decide)) (h 49 (by decide)) (h 72 (by decide))
theorem SCR.w (s : SCR m m1) : SCW m m1 := ⟨fun a k3 k6 k16 k18 k20 k21 k26 _ _ k37 k47 k48 k49 k72 => s.1 a k3 k6 k16 k18 k20 k21 k26 k37 k47 k48 k49 k72, s.2⟩
def DRW (m : Nat → Nat → Int32) (nS n f : Nat) (m1 : Nat → Nat → Int32) : Prop := SCW m m1 ∧ (∀ c, c < 24 → m1 6 c = nI (DD (GG m nS (nI n)) f c)) ∧ ∀ s, s < nS → m1 3 (s * 13 + 3) = bI (opn m s (nI n))
theorem DR.w {n f : Nat} (h : DR m nS n f m1) : DRW m nS n f m1 := ⟨h.1.w, h.2⟩
theorem DRW.k {n f : Nat} (h : DRW m nS n f m1) (e : ∀ a, a ≠ 20 → a ≠ 21 → a ≠ 26 → a ≠ 27 → a ≠ 28 → m2 a = m1 a) : DRW m nS n f m2 := by
  obtain ⟨⟨s1, s2⟩, h2, h3⟩ := h
  have e3 := e 3 (by decide) (by decide) (by decide) (by decide) (by decide)
  have e6 := e 6 (by decide) (by decide) (by decide) (by decide) (by decide)
  refine ⟨⟨fun a k3 k6 k16 k18 k20 k21 k26 k27 k28 k37 k47 k48 k49 k72 => (e a k20 k21 k26 k27 k28).trans (s1 a k3 k6 k16 k18 k20 k21 k26 k27 k28 k37 k47 k48 k49 k72), fun j hj => by rw [e3]; exact s2.1 j hj, by rw [e 16 (by decide) (by decide) (by decide) (by decide) (by decide)]; exact s2.2.1, by rw [e 37 (by decide) (by decide) (by decide) (by decide) (by decide)]; exact s2.2.2⟩, by rw [e6]; exact h2, by rw [e3]; exact h3⟩
theorem GL.w (g : GL m L) (s : SCW m m1) : GL m1 L := by
  unfold GL at g ⊢
  rw [s.a (a := 67) (by decide), s.a (a := 68) (by decide), s.a (a := 69) (by decide), s.a (a := 70) (by decide), s.a (a := 71) (by decide)]
  rw [show (fun k => m1 (99 + k)) = fun k => m (99 + k) from by funext k; exact s.1 _ (by omega) (by omega) (by omega) (by omega) (by omega) (by omega) (by omega) (by omega) (by omega) (by omega) (by omega) (by omega) (by omega) (by omega)]
  exact g
theorem DRW.cx {n f : Nat} (hI : Inv L z m) (h : DRW m (z 1) n f m1) : ∃ m0, CX m0 (z 1) (nI n) f (fun c => DD (GG m0 (z 1) (nI n)) f c) m1 ∧ GG m0 (z 1) (nI n) = GG m (z 1) (nI n) ∧ GS m0 (z 0) (z 1) ∧ m0 1 0 = nI (z 0) := by
  obtain ⟨s, h2, h3⟩ := h
  obtain ⟨i1, i2, i3, i4, i5, i6, i7⟩ := Inv_gs hI
  refine ⟨fun a => if a = 3 then m 3 else if a = 6 then m 6 else m1 a, ?_⟩
  have ea : ∀ a, a ≠ 3 → a ≠ 6 → (fun a => if a = 3 then m 3 else if a = 6 then m 6 else m1 a) a = m1 a := fun a k3 k6 => by
    show (if a = 3 then m 3 else if a = 6 then m 6 else m1 a) = m1 a
    rw [if_neg k3, if_neg k6]
  have eg : GG (fun a => if a = 3 then m 3 else if a = 6 then m 6 else m1 a) (z 1) (nI n) = GG m (z 1) (nI n) := by
    unfold GG opn
    rw [ea 40 (by decide) (by decide), ea 41 (by decide) (by decide), ea 42 (by decide) (by decide), ea 43 (by decide) (by decide), ea 44 (by decide) (by decide), ea 45 (by decide) (by decide), ea 46 (by decide) (by decide), s.a (a := 40) (by decide), s.a (a := 41) (by decide), s.a (a := 42) (by decide), s.a (a := 43) (by decide), s.a (a := 44) (by decide), s.a (a := 45) (by decide), s.a (a := 46) (by decide)]
  have eo : ∀ x, opn (fun a => if a = 3 then m 3 else if a = 6 then m 6 else m1 a) x (nI n) = opn m x (nI n) := by
    intro x
    unfold opn
    rw [ea 44 (by decide) (by decide), ea 45 (by decide) (by decide), ea 46 (by decide) (by decide), s.a (a := 44) (by decide), s.a (a := 45) (by decide), s.a (a := 46) (by decide)]
  have gm := GS.gm i4 (nI n) i5
  refine ⟨⟨⟨fun a k3 k6 => (ea a k3 k6).symm, fun j hj => s.2.1 j hj⟩, ?_, ?_, ?_, ?_⟩, eg, ?_, ?_⟩
  · intro c hc; rw [eg]; exact h2 c hc
  · intro x hx; rw [eo x]; exact h3 x hx
  · show DD (GG _ (z 1) (nI n)) f f = 0
    rw [eg]; exact DD_t
  · intro c
    show DD (GG _ (z 1) (nI n)) f c = 1000000000 ∨ _
    rw [eg]
    by_cases hR : RC (GG m (z 1) (nI n)) f c
    · obtain ⟨k, y, b, _, w, e, _⟩ := DD_s gm hR
      exact Or.inr ⟨DD_lt gm hR, k, y, b, w, e⟩
    · exact Or.inl (DD_inf hR)
  · unfold GS
    rw [ea 40 (by decide) (by decide), ea 41 (by decide) (by decide), ea 42 (by decide) (by decide), ea 43 (by decide) (by decide), ea 44 (by decide) (by decide), ea 45 (by decide) (by decide), ea 46 (by decide) (by decide), s.a (a := 40) (by decide), s.a (a := 41) (by decide), s.a (a := 42) (by decide), s.a (a := 43) (by decide), s.a (a := 44) (by decide), s.a (a := 45) (by decide), s.a (a := 46) (by decide)]
    exact i4
  · rw [ea 1 (by decide) (by decide), s.a (a := 1) (by decide)]; exact i6
theorem ct_yardsFrom2 {n f c : Nat} (hI : Inv L z m) (h : DRW m (z 1) n f m1) (hc : c < z 0) : hk_Cd MX0_yardsFrom 2 0 0 [.ref 1, .int (nI c)] (hk_h L m1) (some (.int (yv (GG m (z 1) (nI n)) f c))) (hk_h L m1) := by
  obtain ⟨m0, k1, k2, k3, k4⟩ := h.cx hI
  have := ct_yardsFrom k3 (Inv_gs hI).2.2.2.2.1 k4 (L := L) k1 hc
  rwa [k2] at this
theorem ct_badFrom2 {n f c : Nat} (hI : Inv L z m) (h : DRW m (z 1) n f m1) (hc : c < z 0) : hk_Cd MX0_badFrom 2 0 0 [.ref 1, .int (nI c)] (hk_h L m1) (some (.int (nI (DD (GG m (z 1) (nI n)) f c % 100)))) (hk_h L m1) := by
  obtain ⟨m0, k1, k2, k3, k4⟩ := h.cx hI
  have := ct_badFrom k3 (Inv_gs hI).2.2.2.2.1 k4 (L := L) k1 hc
  rwa [k2] at this
/-- the trip's draft -/
def DT (m : Nat → Nat → Int32) (nS n f t : Nat) (w : Int32) (m1 : Nat → Nat → Int32) : Prop := m1 26 1 = nI f ∧ m1 26 2 = nI t ∧ m1 26 3 = nI n ∧ m1 26 6 = nI (DD (GG m nS (nI n)) f t / 100) ∧ m1 26 7 = nI (DD (GG m nS (nI n)) f t % 100) ∧ m1 26 8 = w / 1000 ∧ m1 26 9 = rm w 1000 ∧ m1 26 10 = bI (ngt (m 4) (m 5) n)
set_option maxRecDepth 20000 in
set_option maxHeartbeats 2000000 in
theorem ct_draftTrip (hI : Inv L z m) {f t : Nat} (hf : f < z 0) (ht : t < z 0) (w : Int32) (hR : RC (GG m (z 1) (nI (z 8))) f t) : hk_Ct MX9_draftTrip 4 0 0 [.ref 0, .int (nI f), .int (nI t), .int w] (hk_h L m) (fun r h => ∃ m1, r = some (.int 1) ∧ h = hk_h L m1 ∧ DR m (z 1) (z 8) f m1 ∧ DT m (z 1) (z 8) f t w m1) := by
  obtain ⟨g0, ⟨⟨a0, a1, a2, a3, a4, a5, a6, a7, a8, a9, a10, a11, a12, a13⟩, ⟨b0, b1, b2, b3, b4, b5, b6, b7, b8, b9, b10, b11, b12⟩, ⟨c0, c1, c2, c3, c4, c5, c6, c7, c8, c9, c10, c11, c12⟩⟩, g2, g3, g4, g5, g6, g7, g8, g9, g10, g11, g12, g13, g14⟩ := id hI
  obtain ⟨h1, h2, h3, h4, h5, h6, h7⟩ := Inv_gs hI
  have eyv : yv (GG m (z 1) (nI (z 8))) f t = nI (DD (GG m (z 1) (nI (z 8))) f t / 100) := by unfold yv; exact if_pos hR
  have hDb := DDb (u := nI (z 8)) (GS.gm h4 _ h5) (t := f) (c := t)
  refine hk_ofWP (by decide) (by simp [Value.category]) (Nat.le_of_ble_eq_true rfl) ?_
  show hk_WP _ _ _ _ _ _ _ [some (.ref 0), some (.int (nI f)), some (.int (nI t)), some (.int w), none] [] _ _
  refine hk_aload_n dX9_draftTrip_0 rfl rfl ?_
  refine gfX9_16 rfl dX9_draftTrip_1 (hk_lt (by decide)) rfl rfl ?_
  refine hk_iload_n dX9_draftTrip_4 rfl rfl ?_
  refine hk_aload_n dX9_draftTrip_5 rfl rfl ?_
  refine gfX9_7 rfl dX9_draftTrip_6 (hk_lt (by decide)) rfl rfl ?_
  rw [a8]
  refine ivX9_88 rfl (ct_measure h1 h3 h4 h5 h6 (nI (z 8)) (by omega)) dX9_draftTrip_9 (hk_lt (by decide)) rfl rfl rfl (by decide) ⟨by decide, by decide⟩ (Nat.le_of_ble_eq_true rfl) (fun r h1 hq => ?_)
  obtain ⟨m1, rfl, rfl, hX⟩ := hq
  have hDr : m1 25 3 = nI 1 := by rw [hX.1.1 25 (by decide) (by decide)]; exact a13
  have hDR : DR m (z 1) (z 8) f m1 := ⟨hX.1.scr, hX.2.1, hX.2.2.1⟩
  have e0 : m1 0 0 = nI (z 8) := by rw [hX.1.1 0 (by decide) (by decide)]; exact a8
  have e4 : m1 4 = m 4 := hX.1.1 4 (by decide) (by decide)
  have e5 : m1 5 = m 5 := hX.1.1 5 (by decide) (by decide)
  refine hk_aload_n dX9_draftTrip_12 rfl rfl ?_
  refine gfX9_16 rfl dX9_draftTrip_13 (hk_lt (by decide)) rfl rfl ?_
  refine hk_iload_n dX9_draftTrip_16 rfl rfl ?_
  refine ivX9_92 rfl (ct_yardsFrom2 hI hDR.w ht) dX9_draftTrip_17 (hk_lt (by decide)) rfl rfl rfl (by decide) ⟨by decide, by decide⟩ (Nat.le_of_ble_eq_true rfl) (hk_kd ?_)
  rw [eyv]
  refine hk_istore dX9_draftTrip_20 (by decide) rfl ?_
  refine hk_iload dX9_draftTrip_22 rfl ?_
  refine hk_if_ge (tgt := 29) dX9_draftTrip_24 (by decide) (fun _ => ?_) (fun c24 => absurd (Int32.not_lt.mp (nI_pos (by omega))) c24)
  refine hk_aload_n dX9_draftTrip_29 rfl rfl ?_
  refine gfX9_37 rfl dX9_draftTrip_30 (hk_lt (by decide)) rfl rfl ?_
  refine gfX9_344 rfl dX9_draftTrip_33 (hk_lt (by decide)) rfl rfl ?_
  refine hk_iconst (v := 0) dX9_draftTrip_36 (by decide) ?_
  refine hk_iconst (v := 1) dX9_draftTrip_37 (by decide) ?_
  refine hk_iload_n dX9_draftTrip_38 rfl rfl ?_
  refine ivX9_127 rfl (ct_seti (m := m1) tb25 (Nat.le_refl 1) (by simp [hk_w, hDr]) rfl (i := 0) (by decide) (j := 1) (by decide) _) dX9_draftTrip_39 (hk_lt (by decide)) rfl rfl rfl (by decide) ⟨by decide, by decide⟩ (Nat.le_of_ble_eq_true rfl) (hk_kv ?_)
  refine hk_aload_n dX9_draftTrip_42 rfl rfl ?_
  refine gfX9_37 rfl dX9_draftTrip_43 (hk_lt (by decide)) rfl rfl ?_
  refine gfX9_344 rfl dX9_draftTrip_46 (hk_lt (by decide)) rfl rfl ?_
  refine hk_iconst (v := 0) dX9_draftTrip_49 (by decide) ?_
  refine hk_iconst (v := 2) dX9_draftTrip_50 (by decide) ?_
  refine hk_iload_n dX9_draftTrip_51 rfl rfl ?_
  refine ivX9_127 rfl (ct_seti (m := (hk_w m1 26 (0 * 13 + 1) (nI f))) tb25 (Nat.le_refl 1) (by simp [hk_w, hDr]) rfl (i := 0) (by decide) (j := 2) (by decide) _) dX9_draftTrip_52 (hk_lt (by decide)) rfl rfl rfl (by decide) ⟨by decide, by decide⟩ (Nat.le_of_ble_eq_true rfl) (hk_kv ?_)
  refine hk_aload_n dX9_draftTrip_55 rfl rfl ?_
  refine gfX9_37 rfl dX9_draftTrip_56 (hk_lt (by decide)) rfl rfl ?_
  refine gfX9_344 rfl dX9_draftTrip_59 (hk_lt (by decide)) rfl rfl ?_
  refine hk_iconst (v := 0) dX9_draftTrip_62 (by decide) ?_
  refine hk_iconst (v := 3) dX9_draftTrip_63 (by decide) ?_
  refine hk_aload_n dX9_draftTrip_64 rfl rfl ?_
  refine gfX9_7 rfl dX9_draftTrip_65 (hk_lt (by decide)) rfl rfl ?_
  rw [show hk_w (hk_w m1 26 (0 * 13 + 1) (nI f)) 26 (0 * 13 + 2) (nI t) 0 0 = nI (z 8) by rw [hk_wo (by decide), hk_wo (by decide)]; exact e0]
  refine ivX9_127 rfl (ct_seti (m := (hk_w (hk_w m1 26 (0 * 13 + 1) (nI f)) 26 (0 * 13 + 2) (nI t))) tb25 (Nat.le_refl 1) (by simp [hk_w, hDr]) rfl (i := 0) (by decide) (j := 3) (by decide) _) dX9_draftTrip_68 (hk_lt (by decide)) rfl rfl rfl (by decide) ⟨by decide, by decide⟩ (Nat.le_of_ble_eq_true rfl) (hk_kv ?_)
  refine hk_aload_n dX9_draftTrip_71 rfl rfl ?_
  refine gfX9_37 rfl dX9_draftTrip_72 (hk_lt (by decide)) rfl rfl ?_
  refine gfX9_344 rfl dX9_draftTrip_75 (hk_lt (by decide)) rfl rfl ?_
  refine hk_iconst (v := 0) dX9_draftTrip_78 (by decide) ?_
  refine hk_bipush (v := 6) dX9_draftTrip_79 (by decide) ?_
  refine hk_iload dX9_draftTrip_81 rfl ?_
  refine ivX9_127 rfl (ct_seti (m := (hk_w (hk_w (hk_w m1 26 (0 * 13 + 1) (nI f)) 26 (0 * 13 + 2) (nI t)) 26 (0 * 13 + 3) (nI (z 8)))) tb25 (Nat.le_refl 1) (by simp [hk_w, hDr]) rfl (i := 0) (by decide) (j := 6) (by decide) _) dX9_draftTrip_83 (hk_lt (by decide)) rfl rfl rfl (by decide) ⟨by decide, by decide⟩ (Nat.le_of_ble_eq_true rfl) (hk_kv ?_)
  refine hk_aload_n dX9_draftTrip_86 rfl rfl ?_
  refine gfX9_37 rfl dX9_draftTrip_87 (hk_lt (by decide)) rfl rfl ?_
  refine gfX9_344 rfl dX9_draftTrip_90 (hk_lt (by decide)) rfl rfl ?_
  refine hk_iconst (v := 0) dX9_draftTrip_93 (by decide) ?_
  refine hk_bipush (v := 7) dX9_draftTrip_94 (by decide) ?_
  refine hk_aload_n dX9_draftTrip_96 rfl rfl ?_
  refine gfX9_16 rfl dX9_draftTrip_97 (hk_lt (by decide)) rfl rfl ?_
  refine hk_iload_n dX9_draftTrip_100 rfl rfl ?_
  refine ivX9_347 rfl (ct_badFrom2 (m1 := (hk_w (hk_w (hk_w (hk_w m1 26 (0 * 13 + 1) (nI f)) 26 (0 * 13 + 2) (nI t)) 26 (0 * 13 + 3) (nI (z 8))) 26 (0 * 13 + 6) (nI (DD (GG m (z 1) (nI (z 8))) f t / 100)))) hI (hDR.k (fun a _ _ h => by simp [hk_wo h])).w ht) dX9_draftTrip_101 (hk_lt (by decide)) rfl rfl rfl (by decide) ⟨by decide, by decide⟩ (Nat.le_of_ble_eq_true rfl) (hk_kd ?_)
  refine ivX9_127 rfl (ct_seti (m := (hk_w (hk_w (hk_w (hk_w m1 26 (0 * 13 + 1) (nI f)) 26 (0 * 13 + 2) (nI t)) 26 (0 * 13 + 3) (nI (z 8))) 26 (0 * 13 + 6) (nI (DD (GG m (z 1) (nI (z 8))) f t / 100)))) tb25 (Nat.le_refl 1) (by simp [hk_w, hDr]) rfl (i := 0) (by decide) (j := 7) (by decide) _) dX9_draftTrip_104 (hk_lt (by decide)) rfl rfl rfl (by decide) ⟨by decide, by decide⟩ (Nat.le_of_ble_eq_true rfl) (hk_kv ?_)
  refine hk_aload_n dX9_draftTrip_107 rfl rfl ?_
  refine gfX9_37 rfl dX9_draftTrip_108 (hk_lt (by decide)) rfl rfl ?_
  refine gfX9_344 rfl dX9_draftTrip_111 (hk_lt (by decide)) rfl rfl ?_
  refine hk_iconst (v := 0) dX9_draftTrip_114 (by decide) ?_
  refine hk_bipush (v := 8) dX9_draftTrip_115 (by decide) ?_
  refine hk_iload_n dX9_draftTrip_117 rfl rfl ?_
  refine hk_sipush (v := 1000) dX9_draftTrip_118 (by decide) ?_
  refine hk_idiv dX9_draftTrip_121 (by decide) ?_
  refine ivX9_127 rfl (ct_seti (m := (hk_w (hk_w (hk_w (hk_w (hk_w m1 26 (0 * 13 + 1) (nI f)) 26 (0 * 13 + 2) (nI t)) 26 (0 * 13 + 3) (nI (z 8))) 26 (0 * 13 + 6) (nI (DD (GG m (z 1) (nI (z 8))) f t / 100))) 26 (0 * 13 + 7) (nI (DD (GG m (z 1) (nI (z 8))) f t % 100)))) tb25 (Nat.le_refl 1) (by simp [hk_w, hDr]) rfl (i := 0) (by decide) (j := 8) (by decide) _) dX9_draftTrip_122 (hk_lt (by decide)) rfl rfl rfl (by decide) ⟨by decide, by decide⟩ (Nat.le_of_ble_eq_true rfl) (hk_kv ?_)
  refine hk_aload_n dX9_draftTrip_125 rfl rfl ?_
  refine gfX9_37 rfl dX9_draftTrip_126 (hk_lt (by decide)) rfl rfl ?_
  refine gfX9_344 rfl dX9_draftTrip_129 (hk_lt (by decide)) rfl rfl ?_
  refine hk_iconst (v := 0) dX9_draftTrip_132 (by decide) ?_
  refine hk_bipush (v := 9) dX9_draftTrip_133 (by decide) ?_
  refine hk_iload_n dX9_draftTrip_135 rfl rfl ?_
  refine hk_sipush (v := 1000) dX9_draftTrip_136 (by decide) ?_
  refine hk_irem dX9_draftTrip_139 (by decide) ?_
  refine ivX9_127 rfl (ct_seti (m := (hk_w (hk_w (hk_w (hk_w (hk_w (hk_w m1 26 (0 * 13 + 1) (nI f)) 26 (0 * 13 + 2) (nI t)) 26 (0 * 13 + 3) (nI (z 8))) 26 (0 * 13 + 6) (nI (DD (GG m (z 1) (nI (z 8))) f t / 100))) 26 (0 * 13 + 7) (nI (DD (GG m (z 1) (nI (z 8))) f t % 100))) 26 (0 * 13 + 8) (w / 1000))) tb25 (Nat.le_refl 1) (by simp [hk_w, hDr]) rfl (i := 0) (by decide) (j := 9) (by decide) _) dX9_draftTrip_140 (hk_lt (by decide)) rfl rfl rfl (by decide) ⟨by decide, by decide⟩ (Nat.le_of_ble_eq_true rfl) (hk_kv ?_)
  refine hk_aload_n dX9_draftTrip_143 rfl rfl ?_
  refine gfX9_37 rfl dX9_draftTrip_144 (hk_lt (by decide)) rfl rfl ?_
  refine gfX9_344 rfl dX9_draftTrip_147 (hk_lt (by decide)) rfl rfl ?_
  refine hk_iconst (v := 0) dX9_draftTrip_150 (by decide) ?_
  refine hk_bipush (v := 10) dX9_draftTrip_151 (by decide) ?_
  refine hk_aload_n dX9_draftTrip_153 rfl rfl ?_
  refine gfX9_16 rfl dX9_draftTrip_154 (hk_lt (by decide)) rfl rfl ?_
  refine hk_aload_n dX9_draftTrip_157 rfl rfl ?_
  refine gfX9_7 rfl dX9_draftTrip_158 (hk_lt (by decide)) rfl rfl ?_
  rw [show (hk_w (hk_w (hk_w (hk_w (hk_w (hk_w (hk_w m1 26 (0 * 13 + 1) (nI f)) 26 (0 * 13 + 2) (nI t)) 26 (0 * 13 + 3) (nI (z 8))) 26 (0 * 13 + 6) (nI (DD (GG m (z 1) (nI (z 8))) f t / 100))) 26 (0 * 13 + 7) (nI (DD (GG m (z 1) (nI (z 8))) f t % 100))) 26 (0 * 13 + 8) (w / 1000)) 26 (0 * 13 + 9) (rm w 1000)) 0 0 = nI (z 8) by simp [hk_w, e0]]
  refine ivX9_102 rfl (ct_nightIn (m := (hk_w (hk_w (hk_w (hk_w (hk_w (hk_w (hk_w m1 26 (0 * 13 + 1) (nI f)) 26 (0 * 13 + 2) (nI t)) 26 (0 * 13 + 3) (nI (z 8))) 26 (0 * 13 + 6) (nI (DD (GG m (z 1) (nI (z 8))) f t / 100))) 26 (0 * 13 + 7) (nI (DD (GG m (z 1) (nI (z 8))) f t % 100))) 26 (0 * 13 + 8) (w / 1000)) 26 (0 * 13 + 9) (rm w 1000))) c8) dX9_draftTrip_161 (hk_lt (by decide)) rfl rfl rfl (by decide) ⟨by decide, by decide⟩ (Nat.le_of_ble_eq_true rfl) (hk_kd ?_)
  rw [show (hk_w (hk_w (hk_w (hk_w (hk_w (hk_w (hk_w m1 26 (0 * 13 + 1) (nI f)) 26 (0 * 13 + 2) (nI t)) 26 (0 * 13 + 3) (nI (z 8))) 26 (0 * 13 + 6) (nI (DD (GG m (z 1) (nI (z 8))) f t / 100))) 26 (0 * 13 + 7) (nI (DD (GG m (z 1) (nI (z 8))) f t % 100))) 26 (0 * 13 + 8) (w / 1000)) 26 (0 * 13 + 9) (rm w 1000)) 4 = m 4 by simp [hk_w, e4], show (hk_w (hk_w (hk_w (hk_w (hk_w (hk_w (hk_w m1 26 (0 * 13 + 1) (nI f)) 26 (0 * 13 + 2) (nI t)) 26 (0 * 13 + 3) (nI (z 8))) 26 (0 * 13 + 6) (nI (DD (GG m (z 1) (nI (z 8))) f t / 100))) 26 (0 * 13 + 7) (nI (DD (GG m (z 1) (nI (z 8))) f t % 100))) 26 (0 * 13 + 8) (w / 1000)) 26 (0 * 13 + 9) (rm w 1000)) 5 = m 5 by simp [hk_w, e5]]
  refine ivX9_127 rfl (ct_seti (m := (hk_w (hk_w (hk_w (hk_w (hk_w (hk_w (hk_w m1 26 (0 * 13 + 1) (nI f)) 26 (0 * 13 + 2) (nI t)) 26 (0 * 13 + 3) (nI (z 8))) 26 (0 * 13 + 6) (nI (DD (GG m (z 1) (nI (z 8))) f t / 100))) 26 (0 * 13 + 7) (nI (DD (GG m (z 1) (nI (z 8))) f t % 100))) 26 (0 * 13 + 8) (w / 1000)) 26 (0 * 13 + 9) (rm w 1000))) tb25 (Nat.le_refl 1) (by simp [hk_w, hDr]) rfl (i := 0) (by decide) (j := 10) (by decide) _) dX9_draftTrip_164 (hk_lt (by decide)) rfl rfl rfl (by decide) ⟨by decide, by decide⟩ (Nat.le_of_ble_eq_true rfl) (hk_kv ?_)
  refine hk_iconst (v := 1) dX9_draftTrip_167 (by decide) ?_
  exact hk_ireturn dX9_draftTrip_168 rfl rfl (by decide) ⟨_, rfl, rfl, hDR.k (fun a _ _ h => by simp [hk_wo h]), by simp [DT, hk_w, upd]⟩
set_option maxRecDepth 20000 in
set_option maxHeartbeats 2000000 in
theorem ct_draftTrip_nw (hI : Inv L z m) {f t : Nat} (hf : f < z 0) (ht : t < z 0) (w : Int32) (hR : ¬ RC (GG m (z 1) (nI (z 8))) f t) : hk_Ct MX9_draftTrip 4 0 0 [.ref 0, .int (nI f), .int (nI t), .int w] (hk_h L m) (fun r h => ∃ m1, r = some (.int 0) ∧ h = hk_h L m1 ∧ SCR m m1) := by
  obtain ⟨g0, ⟨⟨a0, a1, a2, a3, a4, a5, a6, a7, a8, a9, a10, a11, a12, a13⟩, ⟨b0, b1, b2, b3, b4, b5, b6, b7, b8, b9, b10, b11, b12⟩, ⟨c0, c1, c2, c3, c4, c5, c6, c7, c8, c9, c10, c11, c12⟩⟩, g2, g3, g4, g5, g6, g7, g8, g9, g10, g11, g12, g13, g14⟩ := id hI
  obtain ⟨h1, h2, h3, h4, h5, h6, h7⟩ := Inv_gs hI
  refine hk_ofWP (by decide) (by simp [Value.category]) (Nat.le_of_ble_eq_true rfl) ?_
  show hk_WP _ _ _ _ _ _ _ [some (.ref 0), some (.int (nI f)), some (.int (nI t)), some (.int w), none] [] _ _
  refine hk_aload_n dX9_draftTrip_0 rfl rfl ?_
  refine gfX9_16 rfl dX9_draftTrip_1 (hk_lt (by decide)) rfl rfl ?_
  refine hk_iload_n dX9_draftTrip_4 rfl rfl ?_
  refine hk_aload_n dX9_draftTrip_5 rfl rfl ?_
  refine gfX9_7 rfl dX9_draftTrip_6 (hk_lt (by decide)) rfl rfl ?_
  rw [a8]
  refine ivX9_88 rfl (ct_measure h1 h3 h4 h5 h6 (nI (z 8)) (by omega)) dX9_draftTrip_9 (hk_lt (by decide)) rfl rfl rfl (by decide) ⟨by decide, by decide⟩ (Nat.le_of_ble_eq_true rfl) (fun r h1 hq => ?_)
  obtain ⟨m1, rfl, rfl, hX⟩ := hq
  have hDR : DR m (z 1) (z 8) f m1 := ⟨hX.1.scr, hX.2.1, hX.2.2.1⟩
  refine hk_aload_n dX9_draftTrip_12 rfl rfl ?_
  refine gfX9_16 rfl dX9_draftTrip_13 (hk_lt (by decide)) rfl rfl ?_
  refine hk_iload_n dX9_draftTrip_16 rfl rfl ?_
  refine ivX9_92 rfl (ct_yardsFrom2 hI hDR.w ht) dX9_draftTrip_17 (hk_lt (by decide)) rfl rfl rfl (by decide) ⟨by decide, by decide⟩ (Nat.le_of_ble_eq_true rfl) (hk_kd ?_)
  refine hk_istore dX9_draftTrip_20 (by decide) rfl ?_
  refine hk_iload dX9_draftTrip_22 rfl ?_
  refine hk_if_ge (tgt := 29) dX9_draftTrip_24 (by decide) (fun c24 => absurd c24 (Int32.not_le.mpr ((yv_0 (GS.gm h4 _ h5)).mpr hR))) (fun _ => ?_)
  refine hk_iconst (v := 0) dX9_draftTrip_27 (by decide) ?_
  exact hk_ireturn dX9_draftTrip_28 rfl rfl (by decide) ⟨m1, rfl, rfl, hX.1.scr⟩
set_option maxRecDepth 20000 in
set_option maxHeartbeats 2000000 in
theorem ct_yardsToCaller (hI : Inv L z m) {n f s a : Nat} (h : DRW m (z 1) n f m1) (hs : s < z 3) (ha : a < z 0) (hp : m 14 (s * 13) = nI a) : hk_Cd MX9_yardsToCaller 3 0 0 [.ref 0, .int (nI s)] (hk_h L m1) (some (.int (yv (GG m (z 1) (nI n)) f a))) (hk_h L m1) := by
  obtain ⟨g0, ⟨⟨a0, a1, a2, a3, a4, a5, a6, a7, a8, a9, a10, a11, a12, a13⟩, ⟨b0, b1, b2, b3, b4, b5, b6, b7, b8, b9, b10, b11, b12⟩, ⟨c0, c1, c2, c3, c4, c5, c6, c7, c8, c9, c10, c11, c12⟩⟩, g2, g3, g4, g5, g6, g7, g8, g9, g10, g11, g12, g13, g14⟩ := id hI
  refine hk_ofWP (by decide) (by simp [Value.category]) (Nat.le_of_ble_eq_true rfl) ?_
  show hk_WP _ _ _ _ _ _ _ [some (.ref 0), some (.int (nI s))] [] _ _
  refine hk_aload_n dX9_yardsToCaller_0 rfl rfl ?_
  refine gfX9_16 rfl dX9_yardsToCaller_1 (hk_lt (by decide)) rfl rfl ?_
  refine hk_aload_n dX9_yardsToCaller_4 rfl rfl ?_
  refine gfX9_23 rfl dX9_yardsToCaller_5 (hk_lt (by decide)) rfl rfl ?_
  refine gfX9_133 rfl dX9_yardsToCaller_8 (hk_lt (by decide)) rfl rfl ?_
  refine hk_iload_n dX9_yardsToCaller_11 rfl rfl ?_
  refine hk_iconst (v := 0) dX9_yardsToCaller_12 (by decide) ?_
  refine ivX9_124 rfl (ct_geti (m := m1) tb13 c3 (by rw [h.1.a (a := 13) (by decide)]; exact a3) rfl hs (j := 0) (by decide)) dX9_yardsToCaller_13 (hk_lt (by decide)) rfl rfl rfl (by decide) ⟨by decide, by decide⟩ (Nat.le_of_ble_eq_true rfl) (hk_kd ?_)
  rw [show m1 14 (s * 13 + 0) = nI a by rw [h.1.a (a := 14) (by decide)]; exact hp]
  refine ivX9_92 rfl (ct_yardsFrom2 hI h ha) dX9_yardsToCaller_16 (hk_lt (by decide)) rfl rfl rfl (by decide) ⟨by decide, by decide⟩ (Nat.le_of_ble_eq_true rfl) (hk_kd ?_)
  exact hk_ireturn dX9_yardsToCaller_19 rfl rfl (by decide) ⟨rfl, rfl⟩
end CAx
