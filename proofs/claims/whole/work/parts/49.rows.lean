/-! rows and coaches: what one leaving or coming does to them -/
section GPx
variable {L nC nK nD : Nat} {m m0 m1 m2 : Nat → Nat → Int32} {z : Nat → Nat}
theorem GCo_sd {now : Nat} {t pl ho st lo sta co th go sd sd' : Nat → Int32} (h : GCo nC nK nD now t pl ho st lo sta co th go sd) (e : ∀ s, s < nD → sd' (s * 13) = sd (s * 13)) : GCo nC nK nD now t pl ho st lo sta co th go sd' := by
  refine ⟨fun c hc => ?_, h.2⟩
  obtain ⟨e1, e2, e3, e4, e5, e6, e7, e8, e9, e10, e11, e12⟩ := h.1 c hc
  refine ⟨e1, e2, e3, e4, e5, e6, e7, e8, e9, fun q => ?_, fun q => ?_, e12⟩
  · obtain ⟨s, hs, k1, k2⟩ := e10 q
    exact ⟨s, hs, k1, by rw [e s hs]; exact k2⟩
  · obtain ⟨k1, k2⟩ := e11 q
    refine ⟨k1, k2.elim Or.inl (fun ⟨s, hs, k3, k4⟩ => Or.inr ⟨s, hs, k3, by rw [e s hs]; exact k4⟩)⟩
theorem GSt_ct {t sc pl ro rm ct ct' : Nat → Int32} (h : GSt nC nK nD t sc pl ro rm ct) (hK : nK ≤ 30) {c : Nat} (h1 : ¬ ct (c * 8) = 1) (h2 : ¬ ct' (c * 8) = 1) (ho : ∀ x, x < nK → x ≠ c → ct' (x * 8) = ct (x * 8) ∧ ct' (x * 8 + 4) = ct (x * 8 + 4)) : GSt nC nK nD t sc pl ro rm ct' := by
  refine ⟨fun s hs => ?_, h.2⟩
  obtain ⟨e1, e2, e3, a, p, q, g1, g2, g3, g4, g5, g6, g7, g8, g9, g10⟩ := h.1 s hs
  refine ⟨e1, e2, e3, a, p, q, g1, g2, g3, g4, g5, g6, g7, fun i hi => ?_, g9, fun x hx k1 k2 => ?_⟩
  · obtain ⟨k1, x, hx, k2, k3, k4⟩ := g8 i hi
    have hxc : x ≠ c := fun e => h1 (by rw [← e]; exact k3)
    obtain ⟨o1, o2⟩ := ho x hx hxc
    exact ⟨k1, x, hx, k2, o1.trans k3, o2.trans k4⟩
  · have hxc : x ≠ c := fun e => h2 (by rw [← e]; exact k1)
    obtain ⟨o1, o2⟩ := ho x hx hxc
    exact g10 x hx (o1.symm.trans k1) (o2.symm.trans k2)
def gp (p i : Nat) : Nat := if p ≤ i then i + 1 else i
theorem cm_in {f : Nat → Int32} {b p q i : Nat} (h : i + 1 < q) : cm f b p q (b + i) = f (b + gp p i) := by
  unfold cm gp
  by_cases hp : p ≤ i
  · rw [if_pos ⟨by omega, by omega⟩, if_pos hp]; rfl
  · rw [if_neg (by omega), if_neg hp]
theorem gp_lt {p q i : Nat} (h : i + 1 < q) : gp p i < q ∧ gp p i ≠ p := by
  unfold gp
  by_cases hp : p ≤ i
  · rw [if_pos hp]; omega
  · rw [if_neg hp]; omega
theorem gp_mono {p i j : Nat} (h : i < j) : gp p i < gp p j := by
  unfold gp
  by_cases hp : p ≤ i
  · rw [if_pos hp, if_pos (by omega)]; omega
  · rw [if_neg hp]
    by_cases hq : p ≤ j
    · rw [if_pos hq]; omega
    · rw [if_neg hq]; omega
theorem gp_onto {p q i : Nat} (h : i < q) (hn : i ≠ p) : ∃ j, j + 1 < q + (if p < q then 0 else 1) ∧ gp p j = i := by
  by_cases hp : i < p
  · exact ⟨i, by split <;> omega, if_neg (by omega)⟩
  · exact ⟨i - 1, by split <;> omega, by unfold gp; rw [if_pos (by omega)]; omega⟩
theorem GSt_out (h : GSt nC nK nD (m 14) (m 62) (m 63) (m 64) (m 65) (m 10)) (hK : nK ≤ 30) (hD : nD ≤ 12) {c s p q : Nat} (hc : c < nK) (hF : FND m nD c s p q) {ct' : Nat → Int32} (h2 : ¬ ct' (c * 8) = 1) (ho : ∀ x, x < nK → x ≠ c → ct' (x * 8) = m 10 (x * 8) ∧ ct' (x * 8 + 4) = m 10 (x * 8 + 4)) :
    GSt nC nK nD (upd (cm (m 14) (s * 13 + 3) p q) (s * 13 + 2) (nI (q - 1))) (m 62) (m 63) (cm (m 64) (10 * s) p q) (upd (m 65) s (nI (q - 1))) ct' := by
  obtain ⟨f1, f2, f3, f4, f5, f6, f7, f8, f9, f10⟩ := id hF
  have hu : ∀ j, j ≠ s * 13 + 2 → (∀ i, i < q → j ≠ s * 13 + 3 + i) → upd (cm (m 14) (s * 13 + 3) p q) (s * 13 + 2) (nI (q - 1)) j = m 14 j := by
    intro j h1 h3
    have e : ¬ (s * 13 + 3 + p ≤ j ∧ j + 1 < s * 13 + 3 + q) := by
      rintro ⟨k1, k2⟩
      exact h3 (j - (s * 13 + 3)) (by omega) (by omega)
    unfold upd
    rw [if_neg h1]
    exact if_neg e
  refine ⟨fun s2 hs2 => ?_, fun s2 k1 k2 => ?_⟩
  · obtain ⟨e1, e2, e3, a, p2, q2, g1, g2, g3, g4, g5, g6, g7, g8, g9, g10⟩ := h.1 s2 hs2
    rw [hu (s2 * 13) (by omega) (by omega), hu (s2 * 13 + 1) (by omega) (by omega)]
    by_cases es : s2 = s
    · subst es
      have hq2 : q2 = q := by
        rw [f5, nI_eq (by omega) (by omega)] at g6; exact g6.symm
      subst hq2
      have er : ∀ i, i + 1 < q2 → upd (cm (m 14) (s2 * 13 + 3) p q2) (s2 * 13 + 2) (nI (q2 - 1)) (s2 * 13 + (3 + i)) = m 14 (s2 * 13 + (3 + gp p i)) := by
        intro i hi
        unfold upd
        rw [if_neg (by omega), show s2 * 13 + (3 + i) = s2 * 13 + 3 + i by omega, cm_in hi, show s2 * 13 + (3 + gp p i) = s2 * 13 + 3 + gp p i by omega]
      refine ⟨e1, e2, by unfold upd; rw [if_pos rfl, if_pos rfl], a, p2, q2 - 1, g1, g2, g3, g4, g5, by unfold upd; rw [if_pos rfl], by omega, fun i hi => ?_, fun i j hi hj => ?_, fun x hx k1 k2 => ?_⟩
      · have hi2 : i + 1 < q2 := by omega
        obtain ⟨l1, l2⟩ := @gp_lt p q2 i hi2
        rw [er i hi2, cm_in hi2]
        obtain ⟨k1, x, hx, k2, k3, k4⟩ := g8 (gp p i) l1
        have hxc : x ≠ c := fun e => f10 (gp p i) l1 l2 (by rw [k2, e])
        obtain ⟨o1, o2⟩ := ho x hx hxc
        exact ⟨k1, x, hx, k2, o1.trans k3, o2.trans k4⟩
      · rw [cm_in (by omega), cm_in (by omega)]
        exact g9 _ _ (gp_mono hi) (@gp_lt p q2 j (by omega)).1
      · have hxc : x ≠ c := fun e => h2 (by rw [← e]; exact k1)
        obtain ⟨o1, o2⟩ := ho x hx hxc
        obtain ⟨i, hi, ei⟩ := g10 x hx (o1.symm.trans k1) (o2.symm.trans k2)
        have hip : i ≠ p := by
          intro e
          rw [e, f9, nI_eq (by omega) (by omega)] at ei
          exact hxc ei.symm
        obtain ⟨j, hj, ej⟩ := @gp_onto p q2 i hi hip
        rw [if_pos f7] at hj
        exact ⟨j, by omega, by rw [cm_in (by omega), ej]; exact ei⟩
    · have er : ∀ i, i < 10 → cm (m 64) (10 * s) p q (10 * s2 + i) = m 64 (10 * s2 + i) := by
        intro i hi
        unfold cm
        rw [if_neg (by omega)]
      refine ⟨e1, e2, ?_, a, p2, q2, g1, g2, g3, g4, g5, by unfold upd; rw [if_neg es]; exact g6, g7, fun i hi => ?_, fun i j hi hj => ?_, fun x hx k1 k2 => ?_⟩
      · rw [hu (s2 * 13 + 2) (by omega) (by omega)]
        unfold upd; rw [if_neg es]; exact e3
      · rw [hu (s2 * 13 + (3 + i)) (by omega) (by omega), er i (by omega)]
        obtain ⟨k1, x, hx, k2, k3, k4⟩ := g8 i hi
        have hxc : x ≠ c := by
          intro e
          rw [e, f3, nI_eq (by omega) (by omega)] at k4
          exact es k4.symm
        obtain ⟨o1, o2⟩ := ho x hx hxc
        exact ⟨k1, x, hx, k2, o1.trans k3, o2.trans k4⟩
      · rw [er i (by omega), er j (by omega)]
        exact g9 i j hi hj
      · have hxc : x ≠ c := fun e => h2 (by rw [← e]; exact k1)
        obtain ⟨o1, o2⟩ := ho x hx hxc
        obtain ⟨i, hi, ei⟩ := g10 x hx (o1.symm.trans k1) (o2.symm.trans k2)
        exact ⟨i, hi, by rw [er i (by omega)]; exact ei⟩
  · rw [hu (s2 * 13 + 2) (by omega) (by omega)]
    unfold upd; rw [if_neg (by omega)]
    exact h.2 s2 k1 k2
theorem GSt_in {t sc pl ro rm ct ct' : Nat → Int32} (h : GSt nC nK nD t sc pl ro rm ct) (hK : nK ≤ 30) (hD : nD ≤ 12) {c s p q : Nat} (hc : c < nK) (hs : s < nD) (h1 : ¬ ct (c * 8) = 1) (ep : t (s * 13 + 1) = nI p) (eq : t (s * 13 + 2) = nI q) (hqp : q < p) (hp : p ≤ 10) (c1 : ct' (c * 8) = 1) (c4 : ct' (c * 8 + 4) = nI s) (ho : ∀ x, x < nK → x ≠ c → ct' (x * 8) = ct (x * 8) ∧ ct' (x * 8 + 4) = ct (x * 8 + 4)) :
    GSt nC nK nD (upd (upd t (s * 13 + (3 + q)) (nI c)) (s * 13 + 2) (nI (q + 1))) sc pl (upd ro (10 * s + q) (nI c)) (upd rm s (nI (q + 1))) ct' := by
  have hu : ∀ j, j ≠ s * 13 + 2 → j ≠ s * 13 + (3 + q) → upd (upd t (s * 13 + (3 + q)) (nI c)) (s * 13 + 2) (nI (q + 1)) j = t j := by
    intro j k1 k2
    unfold upd
    rw [if_neg k1, if_neg k2]
  have hr : ∀ j, j ≠ 10 * s + q → upd ro (10 * s + q) (nI c) j = ro j := fun j k1 => if_neg k1
  refine ⟨fun s2 hs2 => ?_, fun s2 k1 k2 => ?_⟩
  · obtain ⟨e1, e2, e3, a, p2, q2, g1, g2, g3, g4, g5, g6, g7, g8, g9, g10⟩ := h.1 s2 hs2
    rw [hu (s2 * 13) (by omega) (by omega), hu (s2 * 13 + 1) (by omega) (by omega)]
    by_cases es : s2 = s
    · subst es
      have hq2 : q2 = q := by
        rw [← e3, eq, nI_eq (by omega) (by omega)] at g6; exact g6.symm
      subst hq2
      have hp2 : p2 = p := by
        rw [← e2, ep, nI_eq (by omega) (by omega)] at g3; exact g3.symm
      subst hp2
      refine ⟨e1, e2, by unfold upd; rw [if_pos rfl, if_pos rfl], a, p2, q2 + 1, g1, g2, g3, g4, g5, by unfold upd; rw [if_pos rfl], by omega, fun i hi => ?_, fun i j hi hj => ?_, fun x hx k1 k2 => ?_⟩
      · by_cases ei : i = q2
        · subst ei
          refine ⟨?_, c, hc, by unfold upd; rw [if_pos rfl], c1, c4⟩
          unfold upd
          rw [if_neg (by omega), if_pos rfl, if_pos rfl]
        · rw [hu (s2 * 13 + (3 + i)) (by omega) (by omega), hr _ (by omega)]
          obtain ⟨k1, x, hx, k2, k3, k4⟩ := g8 i (by omega)
          have hxc : x ≠ c := fun e => h1 (by rw [← e]; exact k3)
          obtain ⟨o1, o2⟩ := ho x hx hxc
          exact ⟨k1, x, hx, k2, o1.trans k3, o2.trans k4⟩
      · rw [hr (10 * s2 + i) (by omega)]
        by_cases ej : j = q2
        · subst ej
          unfold upd
          rw [if_pos rfl]
          obtain ⟨k1, x, hx, k2, k3, k4⟩ := g8 i hi
          intro e
          rw [k2, nI_eq (by omega) (by omega)] at e
          exact h1 (by rw [← e]; exact k3)
        · rw [hr (10 * s2 + j) (by omega)]
          exact g9 i j hi (by omega)
      · by_cases exc : x = c
        · subst exc
          exact ⟨q2, by omega, by unfold upd; rw [if_pos rfl]⟩
        · obtain ⟨o1, o2⟩ := ho x hx exc
          obtain ⟨i, hi, ei⟩ := g10 x hx (o1.symm.trans k1) (o2.symm.trans k2)
          exact ⟨i, by omega, by rw [hr _ (by omega)]; exact ei⟩
    · refine ⟨e1, e2, ?_, a, p2, q2, g1, g2, g3, g4, g5, by unfold upd; rw [if_neg es]; exact g6, g7, fun i hi => ?_, fun i j hi hj => ?_, fun x hx k1 k2 => ?_⟩
      · rw [hu (s2 * 13 + 2) (by omega) (by omega)]
        unfold upd; rw [if_neg es]; exact e3
      · rw [hu (s2 * 13 + (3 + i)) (by omega) (by omega), hr _ (by omega)]
        obtain ⟨k1, x, hx, k2, k3, k4⟩ := g8 i hi
        have hxc : x ≠ c := fun e => h1 (by rw [← e]; exact k3)
        obtain ⟨o1, o2⟩ := ho x hx hxc
        exact ⟨k1, x, hx, k2, o1.trans k3, o2.trans k4⟩
      · rw [hr _ (by omega), hr _ (by omega)]
        exact g9 i j hi hj
      · by_cases exc : x = c
        · subst exc
          rw [c4, nI_eq (by omega) (by omega)] at k2
          exact absurd k2.symm es
        · obtain ⟨o1, o2⟩ := ho x hx exc
          obtain ⟨i, hi, ei⟩ := g10 x hx (o1.symm.trans k1) (o2.symm.trans k2)
          exact ⟨i, hi, by rw [hr _ (by omega)]; exact ei⟩
  · rw [hu (s2 * 13 + 2) (by omega) (by omega)]
    unfold upd; rw [if_neg (by omega)]
    exact h.2 s2 k1 k2
/-- coaches, stands and the minute written anew, and scratch -/
theorem Inv_co {n : Nat} (hI : Inv L z m) (hn : n < 720000) (h1 : ∀ a, a ≠ 3 → a ≠ 6 → a ≠ 16 → a ≠ 18 → a ≠ 20 → a ≠ 21 → a ≠ 26 → a ≠ 37 → a ≠ 47 → a ≠ 48 → a ≠ 49 → a ≠ 72 → a ≠ 0 → a ≠ 10 → a ≠ 14 → a ≠ 53 → a ≠ 55 → a ≠ 56 → a ≠ 57 → a ≠ 58 → a ≠ 64 → a ≠ 65 → m2 a = m a) (h3 : ∀ j, j % 13 ≠ 3 → m2 3 j = m 3 j) (h16 : m2 16 2 = m 16 2) (h37 : ∀ j, j ≠ 0 → j ≠ 15 → j ≠ 44 → j ≠ 45 → j ≠ 78 → j ≠ 79 → j ≠ 80 → m2 37 j = m 37 j) (n1 : m2 0 0 = nI n) (n2 : m2 37 0 = nI n)
    (hco : GCo (z 0) (z 2) (z 3) n (m2 10) (m2 51) (m2 52) (m2 53) (m2 54) (m2 55) (m2 56) (m2 57) (m2 58) (m2 14)) (hst : GSt (z 0) (z 2) (z 3) (m2 14) (m2 62) (m2 63) (m2 64) (m2 65) (m2 10)) : Inv L (up z 8 n) m2 := by
  have hs : SCR m (fun a => if a = 0 then m 0 else if a = 10 then m 10 else if a = 14 then m 14 else if a = 53 then m 53 else if a = 55 then m 55 else if a = 56 then m 56 else if a = 57 then m 57 else if a = 58 then m 58 else if a = 64 then m 64 else if a = 65 then m 65 else if a = 37 then (fun j => if j = 0 then m 37 0 else m2 37 j) else m2 a) := by
    refine ⟨fun a k3 k6 k16 k18 k20 k21 k26 k37 k47 k48 k49 k72 => ?_, fun j hj => h3 j hj, h16, fun j k15 k44 k45 k78 k79 k80 => ?_⟩
    · show (if a = 0 then m 0 else if a = 10 then m 10 else if a = 14 then m 14 else if a = 53 then m 53 else if a = 55 then m 55 else if a = 56 then m 56 else if a = 57 then m 57 else if a = 58 then m 58 else if a = 64 then m 64 else if a = 65 then m 65 else if a = 37 then (fun j => if j = 0 then m 37 0 else m2 37 j) else m2 a) = m a
      by_cases e0 : a = 0
      · subst e0; rfl
      rw [if_neg e0]
      by_cases e10 : a = 10
      · subst e10; rfl
      rw [if_neg e10]
      by_cases e14 : a = 14
      · subst e14; rfl
      rw [if_neg e14]
      by_cases e53 : a = 53
      · subst e53; rfl
      rw [if_neg e53]
      by_cases e55 : a = 55
      · subst e55; rfl
      rw [if_neg e55]
      by_cases e56 : a = 56
      · subst e56; rfl
      rw [if_neg e56]
      by_cases e57 : a = 57
      · subst e57; rfl
      rw [if_neg e57]
      by_cases e58 : a = 58
      · subst e58; rfl
      rw [if_neg e58]
      by_cases e64 : a = 64
      · subst e64; rfl
      rw [if_neg e64]
      by_cases e65 : a = 65
      · subst e65; rfl
      rw [if_neg e65]
      rw [if_neg k37]
      exact h1 a k3 k6 k16 k18 k20 k21 k26 k37 k47 k48 k49 k72 e0 e10 e14 e53 e55 e56 e57 e58 e64 e65
    · show (if j = 0 then m 37 0 else m2 37 j) = m 37 j
      by_cases e : j = 0
      · subst e; rfl
      · rw [if_neg e]; exact h37 j e k15 k44 k45 k78 k79 k80
  have hI1 := Inv_scr hI hs
  obtain ⟨g0, ⟨a, b, c⟩, g2, g3, g4, g5, g6, g7, g8, g9, g10, g11, g12, g13, g14⟩ := hI1
  obtain ⟨a0, a1, a2, a3, a4, a5, a6, a7, a8, a9, a10, a11, a12, a13⟩ := a
  obtain ⟨b0, b1, b2, b3, b4, b5, b6, b7, b8, b9, b10, b11, b12⟩ := b
  obtain ⟨c0, c1, c2, c3, c4, c5, c6, c7, c8, c9, c10, c11, c12⟩ := c
  refine ⟨g0, ⟨⟨a0, a1, a2, a3, a4, a5, a6, a7, n1, a9, a10, a11, a12, a13⟩, ⟨b0, b1, b2, b3, b4, b5, b6, b7, n2, b9, b10, b11, b12⟩, ⟨c0, c1, c2, c3, c4, c5, c6, c7, hn, c9, c10, c11, c12⟩⟩, g2, g3, g4, hco, g6, hst, g8, ?_, g10, g11, g12, g13, g14⟩
  have e : (fun k => (fun a => if a = 0 then m 0 else if a = 10 then m 10 else if a = 14 then m 14 else if a = 53 then m 53 else if a = 55 then m 55 else if a = 56 then m 56 else if a = 57 then m 57 else if a = 58 then m 58 else if a = 64 then m 64 else if a = 65 then m 65 else if a = 37 then (fun j => if j = 0 then m 37 0 else m2 37 j) else m2 a) (99 + k)) = fun k => m2 (99 + k) := by
    funext k
    show (if 99 + k = 0 then m 0 else if 99 + k = 10 then m 10 else if 99 + k = 14 then m 14 else if 99 + k = 53 then m 53 else if 99 + k = 55 then m 55 else if 99 + k = 56 then m 56 else if 99 + k = 57 then m 57 else if 99 + k = 58 then m 58 else if 99 + k = 64 then m 64 else if 99 + k = 65 then m 65 else if 99 + k = 37 then (fun j => if j = 0 then m 37 0 else m2 37 j) else m2 (99 + k)) = _
    rw [if_neg (by omega), if_neg (by omega), if_neg (by omega), if_neg (by omega), if_neg (by omega), if_neg (by omega), if_neg (by omega), if_neg (by omega), if_neg (by omega), if_neg (by omega), if_neg (by omega)]
  rw [e] at g9
  exact g9
end GPx
