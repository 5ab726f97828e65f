/-! call: both -/
section CMy
variable {L nC nS nK nD : Nat} {m m0 m1 m2 ms : Nat → Nat → Int32} {z : Nat → Nat}
theorem DD_y {G : MP} {nC t c : Nat} (g : GM G nC) (h : RC G t c) (hne : c ≠ t) : ∃ y b, DD G t c = 100 * y + b ∧ b ≤ 23 ∧ 1 ≤ y ∧ y ≤ 46000 := by
  obtain ⟨k, y, b, _, w, e, hb, hy⟩ := DD_s g h
  refine ⟨y, b, e, hb, ?_, hy⟩
  cases k with
  | zero => exact absurd w.1 hne
  | succ k =>
    obtain ⟨s, n, y', b', e2, _, h3, _⟩ := w
    have := (g.2 s e2.1).2.2.1
    omega
theorem SCR.cr (s : SCR m m1) : CR m m1 := ⟨fun a h => s.1 a (ni_e h (by decide)) (ni_e h (by decide)) (ni_e h (by decide)) (ni_e h (by decide)) (ni_e h (by decide)) (ni_e h (by decide)) (ni_e h (by decide)) (ni_e h (by decide)) (ni_e h (by decide)) (ni_e h (by decide)) (ni_e h (by decide)) (ni_e h (by decide)), s.2.1, s.2.2.1, fun c => by rw [s.1 10 (by decide) (by decide) (by decide) (by decide) (by decide) (by decide) (by decide) (by decide) (by decide) (by decide) (by decide) (by decide)]; exact ⟨rfl, rfl⟩, fun j h => s.2.2.2 j (ni_e h (by decide)) (ni_e h (by decide)) (ni_e h (by decide)) (ni_e h (by decide)) (ni_e h (by decide)) (ni_e h (by decide))⟩
theorem SCW.cr (s : SCW m m1) : CR m m1 := ⟨fun a h => s.1 a (ni_e h (by decide)) (ni_e h (by decide)) (ni_e h (by decide)) (ni_e h (by decide)) (ni_e h (by decide)) (ni_e h (by decide)) (ni_e h (by decide)) (ni_e h (by decide)) (ni_e h (by decide)) (ni_e h (by decide)) (ni_e h (by decide)) (ni_e h (by decide)) (ni_e h (by decide)) (ni_e h (by decide)), s.2.1, s.2.2.1, fun c => by rw [s.a (a := 10) (by decide)]; exact ⟨rfl, rfl⟩, fun j h => s.2.2.2 j (ni_e h (by decide)) (ni_e h (by decide)) (ni_e h (by decide)) (ni_e h (by decide)) (ni_e h (by decide)) (ni_e h (by decide))⟩
/-- coaches, stands, trips and refusals written anew, and scratch -/
theorem Inv_cl {n5 n6 : Nat} {F : Nat → Nat → Int32} (hI : Inv L z m) (hF : ∀ a, a ∉ [3, 6, 10, 14, 16, 18, 20, 21, 23, 24, 26, 27, 28, 37, 47, 48, 49, 55, 56, 57, 64, 65, 72, 73, 74, 75, 76, 77, 78, 79, 80, 81, 82, 83, 84, 85, 86, 87, 88, 89] → F a = m a) (h3 : ∀ j, j % 13 ≠ 3 → F 3 j = m 3 j) (h16 : F 16 2 = m 16 2) (h37 : ∀ j, j ∉ [15, 44, 45, 60, 65, 78, 79, 80] → F 37 j = m 37 j) (k5 : z 5 ≤ n5) (k5' : n5 ≤ 300) (k6 : n6 ≤ 300) (e23 : F 23 3 = nI n5) (e60 : F 37 60 = nI n5) (e27 : F 27 3 = nI n6) (e65 : F 37 65 = nI n6)
    (hco : GCo (z 0) (z 2) (z 3) (z 8) (F 10) (m 51) (m 52) (m 53) (m 54) (F 55) (F 56) (F 57) (m 58) (F 14)) (hst : GSt (z 0) (z 2) (z 3) (F 14) (m 62) (m 63) (F 64) (F 65) (F 10)) (htr : GTrip n5 (F 24) (F 73) (F 74) (F 75) (F 76) (F 77) (F 78) (F 79) (F 80) (F 81) (F 82) (F 84) (F 83) (F 85)) (hrf : GRef n6 (F 28) (F 86) (F 87) (F 88) (F 89)) : Inv L (up (up z 5 n5) 6 n6) F := by
  obtain ⟨g0, ⟨⟨a0, a1, a2, a3, a4, a5, a6, a7, a8, a9, a10, a11, a12, a13⟩, ⟨b0, b1, b2, b3, b4, b5, b6, b7, b8, b9, b10, b11, b12⟩, ⟨c0, c1, c2, c3, c4, c5, c6, c7, c8, c9, c10, c11, c12⟩⟩, g2, g3, g4, g5, g6, g7, g8, g9, g10, g11, g12, g13, g14⟩ := id hI
  refine ⟨g0, ⟨⟨?_, ?_, ?_, ?_, ?_, e23, e27, ?_, ?_, ?_, ?_, ?_, ?_, ?_⟩, ⟨?_, ?_, ?_, ?_, ?_, e60, e65, ?_, ?_, ?_, ?_, ?_, ?_⟩, ⟨c0, c1, c2, c3, c4, k5', k6, c7, c8, c9, c10, c11, c12⟩⟩, ?_, ?_, ?_, ?_, ?_, ?_, ?_, ?_, htr, hrf, ?_, ?_, ?_⟩
  · rw [hF 1 (by decide)]; exact a0
  · rw [hF 2 (by decide)]; exact a1
  · rw [hF 9 (by decide)]; exact a2
  · rw [hF 13 (by decide)]; exact a3
  · rw [hF 15 (by decide)]; exact a4
  · rw [hF 30 (by decide)]; exact a7
  · rw [hF 0 (by decide)]; exact a8
  · rw [h16]; exact a9
  · rw [hF 33 (by decide)]; exact a10
  · rw [hF 35 (by decide)]; exact a11
  · rw [hF 11 (by decide)]; exact a12
  · rw [hF 25 (by decide)]; exact a13
  · rw [h37 3 (by decide)]; exact b0
  · rw [h37 11 (by decide)]; exact b1
  · rw [h37 26 (by decide)]; exact b2
  · rw [h37 35 (by decide)]; exact b3
  · rw [h37 43 (by decide)]; exact b4
  · rw [h37 68 (by decide)]; exact b7
  · rw [h37 0 (by decide)]; exact b8
  · rw [h37 37 (by decide)]; exact b9
  · rw [h37 73 (by decide)]; exact b10
  · rw [h37 77 (by decide)]; exact b11
  · rw [h37 30 (by decide)]; exact b12
  · rw [hF 40 (by decide), hF 41 (by decide), hF 42 (by decide), hF 43 (by decide), hF 44 (by decide), hF 45 (by decide), hF 46 (by decide)]; exact GStr_scr g2 h3
  · rw [hF 4 (by decide), hF 5 (by decide), hF 38 (by decide), hF 39 (by decide)]; exact g3
  · rw [hF 1 (by decide), hF 7 (by decide), hF 50 (by decide), h37 17 (by decide)]; exact g4
  · rw [hF 51 (by decide), hF 52 (by decide), hF 53 (by decide), hF 54 (by decide), hF 58 (by decide)]; exact hco
  · rw [hF 12 (by decide), hF 59 (by decide), hF 60 (by decide), hF 61 (by decide)]; exact g6
  · rw [hF 62 (by decide), hF 63 (by decide)]; exact hst
  · rw [hF 17 (by decide), hF 66 (by decide)]; exact g8
  · rw [hF 67 (by decide), hF 68 (by decide), hF 69 (by decide), hF 70 (by decide), hF 71 (by decide)]
    rw [show (fun k => F (99 + k)) = fun k => m (99 + k) from by funext k; exact hF _ (by simp only [List.mem_cons, List.not_mem_nil, or_false]; omega)]
    exact g9
  · rw [hF 31 (by decide), hF 90 (by decide), hF 91 (by decide)]
    refine ⟨fun i hi => ?_, g12.2⟩
    obtain ⟨k1, k2, k, k3, k4⟩ := g12.1 i hi
    exact ⟨k1, k2, k, k3, Nat.lt_of_lt_of_le k4 k5⟩
  · rw [hF 34 (by decide), hF 92 (by decide), hF 93 (by decide), hF 94 (by decide), hF 95 (by decide)]; exact g13
  · rw [hF 36 (by decide), hF 96 (by decide), hF 97 (by decide), hF 98 (by decide)]; exact g14
/-- both have noted one list -/
theorem GRef_of {r0 n f t : Nat} {rl : List Nat} {F : Nat → Nat → Int32} (h : GRef r0 (m 28) (m 86) (m 87) (m 88) (m 89)) (hc : RFc m r0 n f t rl m1) (hr : RFr m r0 n f t rl m2) (e : F 28 = m1 28) (e86 : F 86 = m2 86) (e87 : F 87 = m2 87) (e88 : F 88 = m2 88) (e89 : F 89 = m2 89) : GRef (min 300 (r0 + rl.length)) (F 28) (F 86) (F 87) (F 88) (F 89) := by
  obtain ⟨_, c2, c3⟩ := hc
  obtain ⟨_, r2, r3⟩ := hr
  rw [e, e86, e87, e88, e89]
  intro i hi
  by_cases hi0 : i < r0
  · obtain ⟨k1, k2, k3, k4⟩ := h i hi0
    obtain ⟨q1, q2, q3, q4⟩ := r2 i hi0
    have x0 := c2 i 0 hi0 (by decide)
    rw [Nat.add_zero] at x0
    rw [x0, c2 i 1 hi0 (by decide), c2 i 2 hi0 (by decide), c2 i 3 hi0 (by decide), q1, q2, q3, q4]
    exact ⟨k1, k2, k3, k4⟩
  · obtain ⟨j, rfl⟩ : ∃ j, i = r0 + j := ⟨i - r0, by omega⟩
    obtain ⟨x0, x1, x2, x3⟩ := c3 j (by omega) (by omega)
    obtain ⟨q1, q2, q3, q4⟩ := r3 j (by omega) (by omega)
    rw [Nat.add_zero] at x0
    exact ⟨x0.trans q1.symm, x1.trans q2.symm, x2.trans q3.symm, x3.trans q4.symm⟩
theorem hk_w_off2 {M : Nat → Nat → Int32} {a b i j : Nat} {x : Int32} (h : b = a → j ≠ i) : hk_w M a i x b j = M b j := by
  by_cases e : b = a
  · subst e; exact hk_w_off (h rfl)
  · rw [hk_wo e]
theorem tkr_at {q c f t n : Nat} {ah yd bd w g ni sd : Int32} (M : Nat → Nat → Int32) : (∀ a, a < 73 ∨ 85 < a → tkr M q c f t n ah yd bd w g ni sd a = M a) ∧ (∀ a j, j ≠ q → tkr M q c f t n ah yd bd w g ni sd a j = M a j) ∧
    tkr M q c f t n ah yd bd w g ni sd 73 q = nI c ∧ tkr M q c f t n ah yd bd w g ni sd 74 q = nI f ∧ tkr M q c f t n ah yd bd w g ni sd 75 q = nI t ∧ tkr M q c f t n ah yd bd w g ni sd 76 q = nI n ∧ tkr M q c f t n ah yd bd w g ni sd 77 q = nI n + ah ∧ tkr M q c f t n ah yd bd w g ni sd 78 q = nI n + ah + (yd + 109) / 110 + rm w 1000 ∧ tkr M q c f t n ah yd bd w g ni sd 79 q = yd ∧ tkr M q c f t n ah yd bd w g ni sd 80 q = bd ∧ tkr M q c f t n ah yd bd w g ni sd 81 q = w / 1000 ∧ tkr M q c f t n ah yd bd w g ni sd 82 q = rm w 1000 ∧ tkr M q c f t n ah yd bd w g ni sd 83 q = g ∧ tkr M q c f t n ah yd bd w g ni sd 84 q = ni ∧ tkr M q c f t n ah yd bd w g ni sd 85 q = sd := by
  unfold tkr
  refine ⟨fun a h => ?_, fun a j h => ?_, ?_, ?_, ?_, ?_, ?_, ?_, ?_, ?_, ?_, ?_, ?_, ?_, ?_⟩
  · rw [hk_wo (by omega), hk_wo (by omega), hk_wo (by omega), hk_wo (by omega), hk_wo (by omega), hk_wo (by omega), hk_wo (by omega), hk_wo (by omega), hk_wo (by omega), hk_wo (by omega), hk_wo (by omega), hk_wo (by omega), hk_wo (by omega)]
  · rw [hk_w_off2 (fun _ => h), hk_w_off2 (fun _ => h), hk_w_off2 (fun _ => h), hk_w_off2 (fun _ => h), hk_w_off2 (fun _ => h), hk_w_off2 (fun _ => h), hk_w_off2 (fun _ => h), hk_w_off2 (fun _ => h), hk_w_off2 (fun _ => h), hk_w_off2 (fun _ => h), hk_w_off2 (fun _ => h), hk_w_off2 (fun _ => h), hk_w_off2 (fun _ => h)]
  · rw [hk_wo (by decide), hk_wo (by decide), hk_wo (by decide), hk_wo (by decide), hk_wo (by decide), hk_wo (by decide), hk_wo (by decide), hk_wo (by decide), hk_wo (by decide), hk_wo (by decide), hk_wo (by decide), hk_wo (by decide)]; exact hk_w_eq
  · rw [hk_wo (by decide), hk_wo (by decide), hk_wo (by decide), hk_wo (by decide), hk_wo (by decide), hk_wo (by decide), hk_wo (by decide), hk_wo (by decide), hk_wo (by decide), hk_wo (by decide), hk_wo (by decide)]; exact hk_w_eq
  · rw [hk_wo (by decide), hk_wo (by decide), hk_wo (by decide), hk_wo (by decide), hk_wo (by decide), hk_wo (by decide), hk_wo (by decide), hk_wo (by decide), hk_wo (by decide), hk_wo (by decide)]; exact hk_w_eq
  · rw [hk_wo (by decide), hk_wo (by decide), hk_wo (by decide), hk_wo (by decide), hk_wo (by decide), hk_wo (by decide), hk_wo (by decide), hk_wo (by decide), hk_wo (by decide)]; exact hk_w_eq
  · rw [hk_wo (by decide), hk_wo (by decide), hk_wo (by decide), hk_wo (by decide), hk_wo (by decide), hk_wo (by decide), hk_wo (by decide), hk_wo (by decide)]; exact hk_w_eq
  · rw [hk_wo (by decide), hk_wo (by decide), hk_wo (by decide), hk_wo (by decide), hk_wo (by decide), hk_wo (by decide), hk_wo (by decide)]; exact hk_w_eq
  · rw [hk_wo (by decide), hk_wo (by decide), hk_wo (by decide), hk_wo (by decide), hk_wo (by decide), hk_wo (by decide)]; exact hk_w_eq
  · rw [hk_wo (by decide), hk_wo (by decide), hk_wo (by decide), hk_wo (by decide), hk_wo (by decide)]; exact hk_w_eq
  · rw [hk_wo (by decide), hk_wo (by decide), hk_wo (by decide), hk_wo (by decide)]; exact hk_w_eq
  · rw [hk_wo (by decide), hk_wo (by decide), hk_wo (by decide)]; exact hk_w_eq
  · rw [hk_wo (by decide), hk_wo (by decide)]; exact hk_w_eq
  · rw [hk_wo (by decide)]; exact hk_w_eq
  · exact hk_w_eq
theorem op_call (hI : Inv L z m) (f t w : Int32) : OpE L m MX9_call MX10_call [.int f, .int t, .int w] := by
  obtain ⟨g0, ⟨⟨a0, a1, a2, a3, a4, a5, a6, a7, a8, a9, a10, a11, a12, a13⟩, ⟨b0, b1, b2, b3, b4, b5, b6, b7, b8, b9, b10, b11, b12⟩, ⟨c0, c1, c2, c3, c4, c5, c6, c7, c8, c9, c10, c11, c12⟩⟩, g2, g3, g4, g5, g6, g7, g8, g9, g10, g11, g12, g13, g14⟩ := id hI
  by_cases ho : okOrd (z 0) f t w
  rotate_left 1
  · exact OpOK.e ⟨7, 0, 0, 70, -1, L, m, m, z, by decide, by decide, by decide, by decide, ct_call_no hI f t w ho, md_call_no hI f t w ho, hI⟩
  obtain ⟨f, hf, rfl⟩ := inR_of ho.1 (by omega)
  obtain ⟨t, ht, rfl⟩ := inR_of ho.2.1 (by omega)
  by_cases hR : RC (GG m (z 1) (nI (z 8))) f t
  rotate_left 1
  · refine OpE.of (d1 := 7) (d2 := 70) hI (by decide) (by decide) (ct_call_nw hI hf ht ho hR) (fun m1 hI1 s1 => ?_)
    refine hk_imp ?_ (md_call_nw hI1 hf ht ho SCR.refl.cr (by rw [s1.gg]; exact hR))
    rintro r h ⟨m3, q1, q2, q3⟩
    exact ⟨m3, q1, q2, q3.scr⟩
  by_cases hF3 : z 5 = 300
  · refine OpE.of (d1 := 7) (d2 := 70) hI (by decide) (by decide) (ct_call_full hI hf ht ho hR hF3) (fun m1 hI1 s1 => ?_)
    refine hk_imp ?_ (md_call_full hI1 hf ht ho SCR.refl.cr (by rw [s1.gg]; exact hR) hF3)
    rintro r h ⟨m3, q1, q2, q3⟩
    exact ⟨m3, q1, q2, q3.scr⟩
  have hT3 : z 5 < 300 := by omega
  obtain ⟨h1, h2, h3, h4, h5, h6, h7⟩ := Inv_gs hI
  have gm := GS.gm h4 (nI (z 8)) h5
  have hne : t ≠ f := fun e => ho.2.2.1 (by rw [e])
  obtain ⟨LVc, LVr, hLV⟩ : ∃ LVc LVr : Nat → (Nat → Nat → Int32) → Nat → Nat → Int32, ∀ c, c < z 2 → LVP L (z 0) (z 2) (z 3) m c (LVc c) (LVr c) := by
    have hx : ∀ c, ∃ p : ((Nat → Nat → Int32) → Nat → Nat → Int32) × ((Nat → Nat → Int32) → Nat → Nat → Int32), c < z 2 → LVP L (z 0) (z 2) (z 3) m c p.1 p.2 := by
      intro c
      by_cases hc : c < z 2
      · obtain ⟨x, y, h⟩ := LVP_of hI hc
        exact ⟨(x, y), fun _ => h⟩
      · exact ⟨(fun M => M, fun M => M), fun h => absurd h hc⟩
    exact ⟨fun c => (Classical.choose (hx c)).1, fun c => (Classical.choose (hx c)).2, fun c hc => Classical.choose_spec (hx c) hc⟩
  refine ⟨7, 0, 0, 70, by decide, by decide, by decide, by decide, hk_imp ?_ (ct_call_ok hI hf ht ho hR hT3 LVc LVr hLV)⟩
  rintro r h ⟨m2, hDR, hDT, hRc, hh⟩
  have hW := hDR.1
  have hCR := hW.cr
  rcases hh with ⟨hn, rfl, rfl⟩ | ⟨s1, c1, hsm, hs1, hrk, ⟨ir, hir, hirc⟩, hDC, rfl, rfl⟩
  · refine ⟨_, L, m2, rfl, rfl, hk_imp ?_ (md_call_ok hI hf ht ho hCR hR hT3 LVc LVr hLV ⟨hW.a (by decide), hW.a (by decide), hW.a (by decide), hW.a (by decide), hW.2.2.2 65 (by decide) (by decide) (by decide) (by decide) (by decide) (by decide)⟩)⟩
    rintro r h ⟨M, hM, hRr, hh⟩
    rcases hh with ⟨_, rfl, rfl⟩ | ⟨s2, c2', hsm2, _⟩
    rotate_left 1
    · rw [hn] at hsm2; cases hsm2
    rw [List.nil_append] at hRr
    have q : ∀ a, a ∉ [3, 6, 16, 18, 20, 21, 26, 27, 28, 37, 47, 48, 49, 72, 86, 87, 88, 89] → M a = m a := fun a ha => (hM.1 a (ni_l ha (by decide))).trans (hW.a (fun b hb => ni_e ha (by revert hb b; decide)))
    have hend := Inv_cl (n5 := z 5) (n6 := min 300 (z 6 + (ouc (RK m (z 1) (z 8) f) (KK m (z 1) (z 8) f) (GR m L z f t w) (z 3) (z 3) none).2.length)) hI (F := M) (fun a ha => q a (ni_l ha (by decide))) (fun j hj => by rw [hM.1 3 (by decide)]; exact hW.2.1 j hj) (by rw [hM.1 16 (by decide)]; exact hW.2.2.1) (fun j hj => (hM.2 j (ni_l hj (by decide))).trans (hW.2.2.2 j (ni_e hj (by decide)) (ni_e hj (by decide)) (ni_e hj (by decide)) (ni_e hj (by decide)) (ni_e hj (by decide)) (ni_e hj (by decide)))) (Nat.le_refl _) c5 (Nat.min_le_left _ _)
      (by rw [q 23 (by decide)]; exact a5) (by rw [hM.2 60 (by decide), hW.2.2.2 60 (by decide) (by decide) (by decide) (by decide) (by decide) (by decide)]; exact b5) (by rw [hM.1 27 (by decide)]; exact hRc.1) hRr.1 (by rw [q 10 (by decide), q 55 (by decide), q 56 (by decide), q 57 (by decide), q 14 (by decide)]; exact g5) (by rw [q 10 (by decide), q 14 (by decide), q 64 (by decide), q 65 (by decide)]; exact g7)
      (by rw [q 24 (by decide), q 73 (by decide), q 74 (by decide), q 75 (by decide), q 76 (by decide), q 77 (by decide), q 78 (by decide), q 79 (by decide), q 80 (by decide), q 81 (by decide), q 82 (by decide), q 83 (by decide), q 84 (by decide), q 85 (by decide)]; exact g10)
      (GRef_of (F := M) g11 hRc hRr (hM.1 28 (by decide)) rfl rfl rfl rfl)
    exact ⟨M, _, rfl, rfl, hend⟩
  · obtain ⟨_, _, w3, w4⟩ := rw_ok hI hs1
    have hcz : c1 < z 2 := by rw [← hirc]; exact (w4 ir hir).2.2.1
    obtain ⟨d1, d2, d3, d4, d5⟩ := hDC
    obtain ⟨u1, u2, u3, u4, u5, u6, u7, u8⟩ := hDT
    obtain ⟨l1, l2, l3, l4, l5, l6, l7, l8⟩ := hLV c1 hcz
    -- the class's state
    obtain ⟨ms, ems⟩ : ∃ ms, ms = snd9 (LVc c1) m2 c1 t (z 5) (m2 26 5) := ⟨_, rfl⟩
    have s0 : ∀ a, a ≠ 24 → a ≠ 23 → a ≠ 10 → a ≠ 14 → ms a = m2 a := fun a n24 n23 n10 n14 => by
      rw [ems]; unfold snd9; funext j
      rw [kd_off n24, hk_wo n23, sot_ne n10, l1 m2 a n14]
    have s10 : ms 10 = sot m c1 3 (nI t) (-1) (m2 26 5) 10 := by
      rw [ems]; unfold snd9; funext j
      rw [kd_off (by decide), hk_wo (by decide), sot_at, sot_at, l1 m2 10 (by decide), hW.a (a := 10) (by decide)]
    have s14 : ms 14 = LVc c1 m 14 := by
      rw [ems]; unfold snd9; funext j
      rw [kd_off (by decide), hk_wo (by decide), sot_ne (by decide), l3 m2 (hW.a (by decide))]
    have s23 : ms 23 3 = nI (z 5 + 1) := by
      rw [ems]; unfold snd9
      rw [kd_off (by decide)]; exact hk_w_eq
    have s24o : ∀ i k, i < z 5 → k < 13 → ms 24 (i * 13 + k) = m 24 (i * 13 + k) := fun i k hi hk => by
      rw [ems]; unfold snd9
      rw [kd_at, if_neg (by omega), hk_wo (by decide), sot_ne (by decide), l1 m2 24 (by decide), hW.a (a := 24) (by decide)]
    have s24n : ∀ k, k < 13 → ms 24 (z 5 * 13 + k) = m2 26 k := fun k hk => by
      rw [ems]; unfold snd9
      rw [kd_at, if_pos (by omega), hk_wo (by decide), sot_ne (by decide), l1 m2 26 (by decide)]
      congr 1; omega
    rw [← ems]
    have hCS : CR m ms := by
      obtain ⟨x1, x2, x3, x4, x5⟩ := hCR
      refine ⟨fun a ha => (s0 a (ni_e ha (by decide)) (ni_e ha (by decide)) (ni_e ha (by decide)) (ni_e ha (by decide))).trans (x1 a ha), fun j hj => by rw [s0 3 (by decide) (by decide) (by decide) (by decide)]; exact x2 j hj, by rw [s0 16 (by decide) (by decide) (by decide) (by decide)]; exact x3, fun x => ?_, fun j hj => by rw [s0 37 (by decide) (by decide) (by decide) (by decide)]; exact x5 j hj⟩
      rw [s10]
      by_cases hx : x = c1
      · rw [hx, sot_k (by decide) (by decide) (by decide) (by decide), sot_k (by decide) (by decide) (by decide) (by decide)]; exact ⟨rfl, rfl⟩
      · rw [sot_o hx (by decide), sot_o hx (by decide)]; exact ⟨rfl, rfl⟩
    refine ⟨_, L, ms, rfl, rfl, hk_imp ?_ (md_call_ok hI hf ht ho hCS hR hT3 LVc LVr hLV ⟨(s0 86 (by decide) (by decide) (by decide) (by decide)).trans (hW.a (by decide)), (s0 87 (by decide) (by decide) (by decide) (by decide)).trans (hW.a (by decide)), (s0 88 (by decide) (by decide) (by decide) (by decide)).trans (hW.a (by decide)), (s0 89 (by decide) (by decide) (by decide) (by decide)).trans (hW.a (by decide)), by rw [s0 37 (by decide) (by decide) (by decide) (by decide)]; exact hW.2.2.2 65 (by decide) (by decide) (by decide) (by decide) (by decide) (by decide)⟩)⟩
    rintro r h ⟨M, hM, hRr, hh⟩
    rcases hh with ⟨hn2, _⟩ | ⟨s2, c2', hsm2, hs2, hc2, rfl, rfl⟩
    · rw [hsm] at hn2; cases hn2
    rw [hsm] at hsm2
    cases hsm2
    rw [List.nil_append] at hRr
    obtain ⟨T1, eF, t0, to, t73, t74, t75, t76, t77, t78, t79, t80, t81, t82, t83, t84, t85⟩ : ∃ T1 : Nat → Nat → Int32, drv (LVr c1) M (z 5) c1 f t (z 8) ((nI (DD (GG m (z 1) (nI (z 8))) f (pn m s1) / 100) + 109) / 110) (nI (DD (GG m (z 1) (nI (z 8))) f t / 100)) (nI (DD (GG m (z 1) (nI (z 8))) f t % 100)) w s1 = hk_w (hk_w (hk_w (LVr c1 (hk_w T1 37 60 (nI (z 5 + 1)))) 55 c1 3) 56 c1 (nI t)) 57 c1 (nI (z 8) + ((nI (DD (GG m (z 1) (nI (z 8))) f (pn m s1) / 100) + 109) / 110) + ((nI (DD (GG m (z 1) (nI (z 8))) f t / 100)) + 109) / 110 + rm w 1000) ∧ (∀ a, a < 73 ∨ 85 < a → T1 a = M a) ∧ (∀ a j, j ≠ z 5 → T1 a j = M a j) ∧ T1 73 (z 5) = nI c1 ∧ T1 74 (z 5) = nI f ∧ T1 75 (z 5) = nI t ∧ T1 76 (z 5) = nI (z 8) ∧ T1 77 (z 5) = nI (z 8) + ((nI (DD (GG m (z 1) (nI (z 8))) f (pn m s1) / 100) + 109) / 110) ∧ T1 78 (z 5) = nI (z 8) + ((nI (DD (GG m (z 1) (nI (z 8))) f (pn m s1) / 100) + 109) / 110) + ((nI (DD (GG m (z 1) (nI (z 8))) f t / 100)) + 109) / 110 + rm w 1000 ∧ T1 79 (z 5) = (nI (DD (GG m (z 1) (nI (z 8))) f t / 100)) ∧ T1 80 (z 5) = (nI (DD (GG m (z 1) (nI (z 8))) f t % 100)) ∧ T1 81 (z 5) = w / 1000 ∧ T1 82 (z 5) = rm w 1000 ∧ T1 83 (z 5) = M 53 c1 ∧ T1 84 (z 5) = bI (ngt (M 38) (M 39) (z 8)) ∧ T1 85 (z 5) = nI s1 := ⟨_, rfl, tkr_at M⟩
    obtain ⟨F, hF⟩ : ∃ F, F = hk_w (hk_w (hk_w (LVr c1 (hk_w T1 37 60 (nI (z 5 + 1)))) 55 c1 3) 56 c1 (nI t)) 57 c1 (nI (z 8) + ((nI (DD (GG m (z 1) (nI (z 8))) f (pn m s1) / 100) + 109) / 110) + ((nI (DD (GG m (z 1) (nI (z 8))) f t / 100)) + 109) / 110 + rm w 1000) := ⟨_, rfl⟩
    rw [eF, ← hF]
    have fa : ∀ a, a ∉ [37, 55, 56, 57, 64, 65] → F a = T1 a := fun a ha => by
      rw [hF, hk_wo (ni_e ha (by decide)), hk_wo (ni_e ha (by decide)), hk_wo (ni_e ha (by decide)), l2 _ a (ni_e ha (by decide)) (ni_e ha (by decide)), hk_wo (ni_e ha (by decide))]
    have q : ∀ a, a ∉ [3, 6, 10, 14, 16, 18, 20, 21, 23, 24, 26, 27, 28, 37, 47, 48, 49, 72, 86, 87, 88, 89] → M a = m a := fun a ha => (hM.1 a (ni_l ha (by decide))).trans (hCS.1 a ha)
    have fb : ∀ a, a ∉ [37, 55, 56, 57, 64, 65] → (a < 73 ∨ 85 < a) → F a = M a := fun a h1 h2 => (fa a h1).trans (t0 a h2)
    have f37 : ∀ j, j ≠ 60 → F 37 j = M 37 j := fun j hj => by rw [hF, hk_wo (by decide), hk_wo (by decide), hk_wo (by decide), l2 _ 37 (by decide) (by decide), hk_w_off hj, t0 37 (Or.inl (by decide))]
    have f60 : F 37 60 = nI (z 5 + 1) := by rw [hF, hk_wo (by decide), hk_wo (by decide), hk_wo (by decide), l2 _ 37 (by decide) (by decide), hk_w_eq]
    have hl4 := l4 (hk_w T1 37 60 (nI (z 5 + 1))) (by rw [hk_wo (by decide), t0 64 (Or.inl (by decide)), q 64 (by decide)]) (by rw [hk_wo (by decide), t0 65 (Or.inl (by decide)), q 65 (by decide)])
    have f64 : F 64 = LVr c1 m 64 := by rw [hF, hk_wo (by decide), hk_wo (by decide), hk_wo (by decide)]; exact hl4.1
    have f65 : F 65 = LVr c1 m 65 := by rw [hF, hk_wo (by decide), hk_wo (by decide), hk_wo (by decide)]; exact hl4.2
    have f55 : F 55 = upd (m 55) c1 3 := by rw [hF, hk_wo (by decide), hk_wo (by decide), hk_wt, l2 _ 55 (by decide) (by decide), hk_wo (by decide), t0 55 (Or.inl (by decide)), q 55 (by decide)]
    have f56 : F 56 = upd (m 56) c1 (nI t) := by rw [hF, hk_wo (by decide), hk_wt, hk_wo (by decide), l2 _ 56 (by decide) (by decide), hk_wo (by decide), t0 56 (Or.inl (by decide)), q 56 (by decide)]
    have f57 : F 57 = upd (m 57) c1 (nI (z 8) + ((nI (DD (GG m (z 1) (nI (z 8))) f (pn m s1) / 100) + 109) / 110) + ((nI (DD (GG m (z 1) (nI (z 8))) f t / 100)) + 109) / 110 + rm w 1000) := by rw [hF, hk_wt, hk_wo (by decide), hk_wo (by decide), l2 _ 57 (by decide) (by decide), hk_wo (by decide), t0 57 (Or.inl (by decide)), q 57 (by decide)]
    have f10 : F 10 = sot m c1 3 (nI t) (-1) (m2 26 5) 10 := by rw [fb 10 (by decide) (Or.inl (by decide)), hM.1 10 (by decide), s10]
    have f14 : F 14 = LVc c1 m 14 := by rw [fb 14 (by decide) (Or.inl (by decide)), hM.1 14 (by decide), s14]
    have f24 : F 24 = ms 24 := by rw [fb 24 (by decide) (Or.inl (by decide)), hM.1 24 (by decide)]
    obtain ⟨yt, bt, eyt, hbt, hyt1, hyt2⟩ := DD_y gm hR hne
    obtain ⟨_, ya, ba, _, _, eya, hba, hya⟩ := DD_s gm hrk
    obtain ⟨wn, hwn, ewn⟩ := hk_dn (n := 241) (x := rm w 1000) ho.2.2.2.2.1 (fun e => ho.2.2.2.2.2 (Int32.lt_of_lt_of_le (by decide) e)) (by decide)
    have eA : ((nI (DD (GG m (z 1) (nI (z 8))) f (pn m s1) / 100) + 109) / 110) = nI ((DD (GG m (z 1) (nI (z 8))) f (pn m s1) / 100 + 109) / 110) := tm_I2 (by omega)
    have eB : ((nI (DD (GG m (z 1) (nI (z 8))) f t / 100)) + 109) / 110 = nI ((DD (GG m (z 1) (nI (z 8))) f t / 100 + 109) / 110) := tm_I2 (by omega)
    have eU : (nI (z 8) + ((nI (DD (GG m (z 1) (nI (z 8))) f (pn m s1) / 100) + 109) / 110) + ((nI (DD (GG m (z 1) (nI (z 8))) f t / 100)) + 109) / 110 + rm w 1000) = nI (z 8 + (DD (GG m (z 1) (nI (z 8))) f (pn m s1) / 100 + 109) / 110 + (DD (GG m (z 1) (nI (z 8))) f t / 100 + 109) / 110 + wn) := by rw [eA, eB, ewn, nI_add, nI_add, nI_add]
    have eE : m2 26 5 = (nI (z 8) + ((nI (DD (GG m (z 1) (nI (z 8))) f (pn m s1) / 100) + 109) / 110) + ((nI (DD (GG m (z 1) (nI (z 8))) f t / 100)) + 109) / 110 + rm w 1000) := by
      rw [eU, d5, eA, eB, ewn, nI_add, nI_add, nI_add]
      congr 1; omega
    obtain ⟨e1, e2, e3, e4, _⟩ := g5.1 c1 hcz
    have hend := Inv_cl (n5 := z 5 + 1) (n6 := min 300 (z 6 + (ouc (RK m (z 1) (z 8) f) (KK m (z 1) (z 8) f) (GR m L z f t w) (z 3) (z 3) none).2.length)) hI (F := F) (fun a ha => by
        have hr : a < 73 ∨ 85 < a := by
          have r73 := ni_e (x := 73) ha (by decide)
          have r74 := ni_e (x := 74) ha (by decide)
          have r75 := ni_e (x := 75) ha (by decide)
          have r76 := ni_e (x := 76) ha (by decide)
          have r77 := ni_e (x := 77) ha (by decide)
          have r78 := ni_e (x := 78) ha (by decide)
          have r79 := ni_e (x := 79) ha (by decide)
          have r80 := ni_e (x := 80) ha (by decide)
          have r81 := ni_e (x := 81) ha (by decide)
          have r82 := ni_e (x := 82) ha (by decide)
          have r83 := ni_e (x := 83) ha (by decide)
          have r84 := ni_e (x := 84) ha (by decide)
          have r85 := ni_e (x := 85) ha (by decide)
          omega
        exact (fb a (ni_l ha (by decide)) hr).trans (q a (ni_l ha (by decide))))
      (fun j hj => by rw [fb 3 (by decide) (Or.inl (by decide)), hM.1 3 (by decide)]; exact hCS.2.1 j hj) (by rw [fb 16 (by decide) (Or.inl (by decide)), hM.1 16 (by decide)]; exact hCS.2.2.1)
      (fun j hj => (f37 j (ni_e hj (by decide))).trans ((hM.2 j (ni_l hj (by decide))).trans (hCS.2.2.2.2 j (ni_l hj (by decide))))) (Nat.le_succ _) hT3 (Nat.min_le_left _ _)
      (by rw [fb 23 (by decide) (Or.inl (by decide)), hM.1 23 (by decide)]; exact s23) f60
      (by rw [fb 27 (by decide) (Or.inl (by decide)), hM.1 27 (by decide), s0 27 (by decide) (by decide) (by decide) (by decide)]; exact hRc.1) ((f37 65 (by decide)).trans hRr.1) ?_ ?_ ?_
      (GRef_of (F := F) g11 hRc hRr (by rw [fb 28 (by decide) (Or.inl (by decide)), hM.1 28 (by decide), s0 28 (by decide) (by decide) (by decide) (by decide)]) (fb 86 (by decide) (Or.inr (by decide))) (fb 87 (by decide) (Or.inr (by decide))) (fb 88 (by decide) (Or.inr (by decide))) (fb 89 (by decide) (Or.inr (by decide))))
    · exact ⟨F, _, rfl, rfl, hend⟩
    · rw [f10, f14, f55, f56, f57]
      have u55 : upd (m 55) c1 3 c1 = nI 3 := if_pos rfl
      have u56 : upd (m 56) c1 (nI t) c1 = nI t := if_pos rfl
      have u57 : upd (m 57) c1 (nI (z 8) + ((nI (DD (GG m (z 1) (nI (z 8))) f (pn m s1) / 100) + 109) / 110) + ((nI (DD (GG m (z 1) (nI (z 8))) f t / 100)) + 109) / 110 + rm w 1000) c1 = (nI (z 8) + ((nI (DD (GG m (z 1) (nI (z 8))) f (pn m s1) / 100) + 109) / 110) + ((nI (DD (GG m (z 1) (nI (z 8))) f t / 100)) + 109) / 110 + rm w 1000) := if_pos rfl
      refine GCo_row (g := 3) (tc := t) (GCo_sd g5 l5) hcz c2 (fun x k hx hk => sot_o hx hk) (fun x hx => ⟨if_neg hx, if_neg hx, if_neg hx, rfl⟩) (sot_k (by decide) (by decide) (by decide) (by decide)) (sot_k (by decide) (by decide) (by decide) (by decide)) (sot_k (by decide) (by decide) (by decide) (by decide)) (sot_k (by decide) (by decide) (by decide) (by decide)) (by rw [sot_0, u55]; rfl) (by rw [sot_1, u56]) u55 (by decide) u56 ht (fun _ => ?_) (fun k => absurd (Or.inr rfl) k) (fun k => absurd k (by decide)) (fun k => absurd k (by decide)) (fun _ => sot_4)
      rw [sot_3, u57]
      exact ⟨eE, _, eU, by omega, by omega⟩
    · rw [f10, f14, f64, f65]
      exact l6 _ (by rw [sot_0]; decide) (fun x hx hxc => ⟨sot_o (k := 0) hxc (by decide), sot_o hxc (by decide)⟩)
    · rw [f24]
      intro i hi
      by_cases hi5 : i = z 5
      · subst hi5
        rw [fa 73 (by decide), t73, fa 74 (by decide), t74, fa 75 (by decide), t75, fa 76 (by decide), t76, fa 77 (by decide), t77, fa 78 (by decide), t78, fa 79 (by decide), t79, fa 80 (by decide), t80, fa 81 (by decide), t81, fa 82 (by decide), t82, fa 83 (by decide), t83, fa 84 (by decide), t84, fa 85 (by decide), t85]
        have s24z := s24n 0 (by decide)
        rw [Nat.add_zero] at s24z
        rw [s24z, s24n 1 (by decide), s24n 2 (by decide), s24n 3 (by decide), s24n 4 (by decide), s24n 5 (by decide), s24n 6 (by decide), s24n 7 (by decide), s24n 8 (by decide), s24n 9 (by decide), s24n 10 (by decide), s24n 11 (by decide), s24n 12 (by decide)]
        refine ⟨d1, u1, u2, u3, d4, eE, u4, u5, u6, u7, ?_, ?_, d2, ?_, z 8, rfl, c8⟩
        · rw [u8, q 38 (by decide), q 39 (by decide)]; exact bI_c (ngt_c g3 _)
        · rw [d3, q 53 (by decide)]; exact e3
        · by_cases k : ngt (M 38) (M 39) (z 8)
          · rw [bI_t k]; exact Or.inr rfl
          · rw [bI_f k]; exact Or.inl rfl
      · have hlt : i < z 5 := by omega
        have hrow := g10 i hlt
        rw [fa 73 (by decide), to 73 i hi5, q 73 (by decide), fa 74 (by decide), to 74 i hi5, q 74 (by decide), fa 75 (by decide), to 75 i hi5, q 75 (by decide), fa 76 (by decide), to 76 i hi5, q 76 (by decide), fa 77 (by decide), to 77 i hi5, q 77 (by decide), fa 78 (by decide), to 78 i hi5, q 78 (by decide), fa 79 (by decide), to 79 i hi5, q 79 (by decide), fa 80 (by decide), to 80 i hi5, q 80 (by decide), fa 81 (by decide), to 81 i hi5, q 81 (by decide), fa 82 (by decide), to 82 i hi5, q 82 (by decide), fa 83 (by decide), to 83 i hi5, q 83 (by decide), fa 84 (by decide), to 84 i hi5, q 84 (by decide), fa 85 (by decide), to 85 i hi5, q 85 (by decide)]
        have s24z := s24o i 0 hlt (by decide)
        rw [Nat.add_zero] at s24z
        rw [s24z, s24o i 1 hlt (by decide), s24o i 2 hlt (by decide), s24o i 3 hlt (by decide), s24o i 4 hlt (by decide), s24o i 5 hlt (by decide), s24o i 6 hlt (by decide), s24o i 7 hlt (by decide), s24o i 8 hlt (by decide), s24o i 9 hlt (by decide), s24o i 10 hlt (by decide), s24o i 11 hlt (by decide), s24o i 12 hlt (by decide)]
        exact hrow
end CMy
