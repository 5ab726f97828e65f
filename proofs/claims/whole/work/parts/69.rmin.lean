/-! minutes: the reference's -/
section CPy
variable {L nC nS nK nD : Nat} {m m0 m1 m2 ms C X : Nat → Nat → Int32} {z : Nat → Nat}
theorem st_eq {M : hk_M} {d mc ms k n pc : Nat} {ls : List (Option Value)} {st : List Value} {h : hk_H} {Q : Option Value → hk_H → Prop} {v w : Int32} (e : w = v) (hk : hk_WP M d mc ms k n pc ls (.int v :: st) h Q) : hk_WP M d mc ms k n pc ls (.int w :: st) h Q := by rw [e]; exact hk
/-- the class's coaches and stands C beside the reference's X, at minute u -/
def RelA (nC nK nD u : Nat) (C X : Nat → Nat → Int32) : Prop := GCo nC nK nD u (C 10) (X 51) (X 52) (X 53) (X 54) (X 55) (X 56) (X 57) (X 58) (C 14) ∧ GSt nC nK nD (C 14) (X 62) (X 63) (X 64) (X 65) (C 10)
theorem arr_co {u c g : Nat} {t p51 p52 p53 p54 r55 r56 r57 r58 sd sd' : Nat → Int32} {s1 : Int32} (g5 : GCo nC nK nD u t p51 p52 p53 p54 r55 r56 r57 r58 sd) (hc : c < nK) (hK30 : nK ≤ 30) (hg : g ≤ 4) (hg2 : ¬ (g = 2 ∨ g = 3)) (hs1 : g = 1 → ∃ s : Nat, s < nD ∧ s1 = nI s ∧ r56 c = sd (s * 13)) (hs2 : ¬ g = 1 → s1 = -1) (hsd : ∀ s, s < nD → sd' (s * 13) = sd (s * 13)) :
    GCo nC nK nD u (upd (upd (upd t (c * 8 + 0) (nI g)) (c * 8 + 4) s1) (c * 8 + 3) (-1)) p51 p52 p53 p54 (upd r55 c (nI g)) r56 r57 r58 sd' := by
  obtain ⟨e1, e2, e3, e4, e5, e6, ⟨g0, a, s0, h, k1, k2, k3, k4, k5, k6, k7, k8⟩, _⟩ := g5.1 c hc
  have hXo : ∀ x k, x ≠ c → k < 8 → upd (upd (upd t (c * 8 + 0) (nI g)) (c * 8 + 4) s1) (c * 8 + 3) (-1) (x * 8 + k) = t (x * 8 + k) := by
    intro x k hx hk
    unfold upd
    rw [if_neg (by omega), if_neg (by omega), if_neg (by omega)]
  have hXc : ∀ (k : Nat), k ≠ 0 → k ≠ 4 → k ≠ 3 → upd (upd (upd t (c * 8 + 0) (nI g)) (c * 8 + 4) s1) (c * 8 + 3) (-1) (c * 8 + k) = t (c * 8 + k) := by
    intro k h0 h4 h3
    unfold upd
    rw [if_neg (by omega), if_neg (by omega), if_neg (by omega)]
  have hX0 : upd (upd (upd t (c * 8 + 0) (nI g)) (c * 8 + 4) s1) (c * 8 + 3) (-1) (c * 8) = nI g := by
    unfold upd
    rw [if_neg (by omega), if_neg (by omega), if_pos (by omega)]
  have hX4 : upd (upd (upd t (c * 8 + 0) (nI g)) (c * 8 + 4) s1) (c * 8 + 3) (-1) (c * 8 + 4) = s1 := by
    unfold upd
    rw [if_neg (by omega), if_pos rfl]
  have hX3 : upd (upd (upd t (c * 8 + 0) (nI g)) (c * 8 + 4) s1) (c * 8 + 3) (-1) (c * 8 + 3) = -1 := by
    unfold upd
    rw [if_pos rfl]
  have eu : upd r55 c (nI g) c = nI g := if_pos rfl
  refine GCo_row (g := g) (tc := a) (GCo_sd g5 hsd) hc hK30 hXo (fun x hxc => ⟨if_neg hxc, rfl, rfl, rfl⟩) (hXc 2 (by decide) (by decide) (by decide)) (hXc 5 (by decide) (by decide) (by decide)) (hXc 6 (by decide) (by decide) (by decide)) (hXc 7 (by decide) (by decide) (by decide))
    (by rw [hX0, eu]) (by rw [hXc 1 (by decide) (by decide) (by decide)]; exact e2) eu hg k3 k4 (fun q => absurd q hg2) (fun _ => hX3) (fun q => ?_) (fun q => absurd (Or.inl q) hg2) (fun q => ?_)
  · obtain ⟨s', k1, k2, k3⟩ := hs1 q
    exact ⟨s', k1, by rw [hX4]; exact k2, by rw [hsd s' k1]; exact k3⟩
  · rw [hX4]; exact hs2 (fun e => q (Or.inl e))
theorem arr_ct {c : Nat} {d s1 : Int32} {t f14 r62 r63 r64 r65 : Nat → Int32} (g7 : GSt nC nK nD f14 r62 r63 r64 r65 t) (hK30 : nK ≤ 30) (h1 : ¬ t (c * 8) = 1) (h2 : ¬ d = 1) : GSt nC nK nD f14 r62 r63 r64 r65 (upd (upd (upd t (c * 8 + 0) d) (c * 8 + 4) s1) (c * 8 + 3) (-1)) := by
  have hX : ∀ x k, x ≠ c → k < 8 → upd (upd (upd t (c * 8 + 0) d) (c * 8 + 4) s1) (c * 8 + 3) (-1) (x * 8 + k) = t (x * 8 + k) := by
    intro x k hx hk
    unfold upd
    rw [if_neg (by omega), if_neg (by omega), if_neg (by omega)]
  refine GSt_ct g7 hK30 h1 ?_ (fun x _ hx => ⟨hX x 0 hx (by decide), hX x 4 hx (by decide)⟩)
  unfold upd
  rw [if_neg (by omega), if_neg (by omega), if_pos (by omega)]; exact h2
/-- c has arrived in X1 -/
def ARX (nC nK nD u : Nat) (C X : Nat → Nat → Int32) (c : Nat) (X1 : Nat → Nat → Int32) : Prop := RelA nC nK nD u (arCm C c) X1 ∧ (∀ a, a ≠ 55 → a ≠ 64 → a ≠ 65 → X1 a = X a) ∧ (∀ x, x ≠ c → X1 55 x = X 55 x) ∧ ¬ (X1 55 c = 2 ∨ X1 55 c = 3)
theorem RelA_55 {u c : Nat} {v : Int32} (e10 : m1 10 = upd (upd (upd (C 10) (c * 8 + 0) v) (c * 8 + 4) (-1)) (c * 8 + 3) (-1)) (e14 : m1 14 = C 14) {g : Nat} (hv : v = nI g) (hg : g ≤ 4) (hg2 : ¬ (g = 2 ∨ g = 3)) (hg1 : ¬ g = 1) (hR : RelA nC nK nD u C X) (hc : c < nK) (hK30 : nK ≤ 30) (h1 : ¬ C 10 (c * 8) = 1) : RelA nC nK nD u m1 (hk_w X 55 c v) := by
  subst hv
  obtain ⟨g5, g7⟩ := hR
  unfold RelA
  rw [e10, e14, hk_wt, hk_wo (by decide), hk_wo (by decide), hk_wo (by decide), hk_wo (by decide), hk_wo (by decide), hk_wo (by decide), hk_wo (by decide), hk_wo (by decide), hk_wo (by decide), hk_wo (by decide), hk_wo (by decide)]
  refine ⟨arr_co g5 hc hK30 hg hg2 (fun q => absurd q hg1) (fun _ => rfl) (fun _ _ => rfl), arr_ct g7 hK30 h1 ?_⟩
  rw [show (1 : Int32) = nI 1 from rfl, nI_eq (by omega) (by decide)]; exact hg1
theorem ARX_55 {u c : Nat} {v : Int32} (e : arCm C c = stl C c v (-1)) {g : Nat} (hv : v = nI g) (hg : g ≤ 4) (hg2 : ¬ (g = 2 ∨ g = 3)) (hg1 : ¬ g = 1) (hR : RelA nC nK nD u C X) (hc : c < nK) (hK30 : nK ≤ 30) (h1 : ¬ C 10 (c * 8) = 1) : ARX nC nK nD u C X c (hk_w X 55 c v) := by
  refine ⟨RelA_55 (by rw [e, stl_at]) (by rw [e]; unfold stl; rw [hk_wo (by decide), hk_wo (by decide), hk_wo (by decide)]) hv hg hg2 hg1 hR hc hK30 h1, fun a h _ _ => hk_wo h, fun x hx => hk_w_off hx, ?_⟩
  rw [hk_w_eq, hv, show (2 : Int32) = nI 2 from rfl, show (3 : Int32) = nI 3 from rfl, nI_eq (by omega) (by decide), nI_eq (by omega) (by decide)]
  exact hg2
theorem ARX_3 {u c : Nat} (hR : RelA nC nK nD u C X) (hc : c < nK) (hK30 : nK ≤ 30) (h3 : X 55 c = 3) : ARX nC nK nD u C X c (hk_w X 55 c 4) := by
  have e0 := (hR.1.1 c hc).1
  have h3' : C 10 (c * 8 + 0) = 3 := by rw [Nat.add_zero, e0]; exact h3
  refine ARX_55 (g := 4) (by unfold arCm; rw [if_pos h3']) rfl (by decide) (by decide) (by decide) hR hc hK30 (by rw [e0, h3]; decide)
theorem md_arrive_m {u c : Nat} (hR : RelA nC nK nD u C X) (hc : c < nK) (hK30 : nK ≤ 30) (hD12 : nD ≤ 12) (h2 : X 55 c = 2) : hk_Ct MX10_arrive 0 0 0 [.ref 37, .int (nI c)] (hk_h L X) (fun r h => ∃ X1, r = none ∧ h = hk_h L X1 ∧ ARX nC nK nD u C X c X1) := by
  obtain ⟨g5, g7⟩ := id hR
  obtain ⟨e1, e2, e3, e4, e5, e6, e7, e8, e9, e10, e11, e12⟩ := g5.1 c hc
  obtain ⟨e4', hst⟩ := e11 h2
  have h3' : ¬ C 10 (c * 8 + 0) = 3 := by rw [Nat.add_zero, e1, h2]; decide
  have n1 : ¬ C 10 (c * 8) = 1 := by rw [e1, h2]; decide
  rcases hst with hst | ⟨s, hs, hst, hcs⟩
  · have h4 : C 10 (c * 8 + 4) < 0 := by rw [e4', hst]; decide
    refine hk_imp ?_ (md_arrive_0 (m := X) (by omega) (by rw [hst]; decide))
    rintro r h ⟨rfl, rfl⟩
    exact ⟨_, rfl, rfl, ARX_55 (g := 0) (by unfold arCm; rw [if_neg h3', if_pos h4]) rfl (by decide) (by decide) (by decide) hR hc hK30 n1⟩
  · have e4s : C 10 (c * 8 + 4) = nI s := by rw [e4', hst]
    have h4 : ¬ C 10 (c * 8 + 4) < 0 := by rw [e4s]; exact nI_pos (by omega)
    have es : (C 10 (c * 8 + 4)).toNatClampNeg = s := by rw [e4s, nI_clamp (by omega)]
    obtain ⟨f1, f2, f3, a, p, q, k1, k2, k3, k4, k5, k6, k7, k8, k9, k10⟩ := g7.1 s hs
    have e13 : C 14 (s * 13 + 1) = nI p := f2.trans k3
    have e23 : C 14 (s * 13 + 2) = nI q := f3.trans k6
    have eq : (C 14 (s * 13 + 2)).toNatClampNeg = q := by rw [e23, nI_clamp (by omega)]
    by_cases hqp : q = p
    · refine hk_imp ?_ (md_arrive_4 (m := X) (s := s) (p := p) (q := q) (by omega) (by omega) hst k3 k6 k5 hqp)
      rintro r h ⟨rfl, rfl⟩
      refine ⟨_, rfl, rfl, ARX_55 (g := 4) ?_ rfl (by decide) (by decide) (by decide) hR hc hK30 n1⟩
      unfold arCm; rw [if_neg h3', if_neg h4, es, if_pos (by rw [e13, e23, hqp])]
    · refine hk_imp ?_ (md_arrive_1 (m := X) (s := s) (p := p) (q := q) (by omega) (by omega) hst k3 k6 k5 (by omega))
      rintro r h ⟨rfl, rfl⟩
      have hne : ¬ C 14 (s * 13 + 2) = C 14 (s * 13 + 1) := by
        rw [e13, e23, nI_eq (by omega) (by omega)]; exact hqp
      have eC : arCm C c = stl (rin C 14 (s * 13) (3 + q) 14 (s * 13 + 2) (nI c) q) c 1 (nI s) := by
        unfold arCm; rw [if_neg h3', if_neg h4, es, if_neg hne, eq]
      have e10' : arCm C c 10 = upd (upd (upd (C 10) (c * 8 + 0) (nI 1)) (c * 8 + 4) (nI s)) (c * 8 + 3) (-1) := by
        rw [eC, stl_at]; unfold rin; rw [hk_wo (by decide), hk_wo (by decide)]; rfl
      have e14' : arCm C c 14 = upd (upd (C 14) (s * 13 + (3 + q)) (nI c)) (s * 13 + 2) (nI (q + 1)) := by
        rw [eC]; unfold stl rin; rw [hk_wo (by decide), hk_wo (by decide), hk_wo (by decide), hk_wt, hk_wt]
      have xo : ∀ a, a ≠ 55 → a ≠ 64 → a ≠ 65 → rin (hk_w X 55 c 1) 64 (10 * s) q 65 s (nI c) q a = X a := fun a h h' h'' => by
        unfold rin; rw [hk_wo h'', hk_wo h', hk_wo h]
      have x55 : rin (hk_w X 55 c 1) 64 (10 * s) q 65 s (nI c) q 55 = upd (X 55) c (nI 1) := by
        unfold rin; rw [hk_wo (by decide), hk_wo (by decide), hk_wt]; rfl
      have x64 : rin (hk_w X 55 c 1) 64 (10 * s) q 65 s (nI c) q 64 = upd (X 64) (10 * s + q) (nI c) := by
        unfold rin; rw [hk_wo (by decide), hk_wt, hk_wo (by decide)]
      have x65 : rin (hk_w X 55 c 1) 64 (10 * s) q 65 s (nI c) q 65 = upd (X 65) s (nI (q + 1)) := by
        unfold rin; rw [hk_wt, hk_wo (by decide), hk_wo (by decide)]
      have hX0 : ∀ (d s1 : Int32), upd (upd (upd (C 10) (c * 8 + 0) d) (c * 8 + 4) s1) (c * 8 + 3) (-1) (c * 8) = d := by
        intro d s1
        unfold upd
        rw [if_neg (by omega), if_neg (by omega), if_pos (by omega)]
      have hX4 : ∀ (d s1 : Int32), upd (upd (upd (C 10) (c * 8 + 0) d) (c * 8 + 4) s1) (c * 8 + 3) (-1) (c * 8 + 4) = s1 := by
        intro d s1
        unfold upd
        rw [if_neg (by omega), if_pos rfl]
      have hX : ∀ (d s1 : Int32) (x k : Nat), x ≠ c → k < 8 → upd (upd (upd (C 10) (c * 8 + 0) d) (c * 8 + 4) s1) (c * 8 + 3) (-1) (x * 8 + k) = C 10 (x * 8 + k) := by
        intro d s1 x k hx hk
        unfold upd
        rw [if_neg (by omega), if_neg (by omega), if_neg (by omega)]
      refine ⟨_, rfl, rfl, ⟨?_, ?_⟩, xo, fun x hx => ?_, ?_⟩
      · rw [e10', e14', xo 51 (by decide) (by decide) (by decide), xo 52 (by decide) (by decide) (by decide), xo 53 (by decide) (by decide) (by decide), xo 54 (by decide) (by decide) (by decide), x55, xo 56 (by decide) (by decide) (by decide), xo 57 (by decide) (by decide) (by decide), xo 58 (by decide) (by decide) (by decide)]
        refine arr_co g5 hc hK30 (by decide) (by decide) (fun _ => ⟨s, hs, rfl, hcs⟩) (fun q => absurd rfl q) (fun x hx => ?_)
        unfold upd
        rw [if_neg (by omega), if_neg (by omega)]
      · rw [e10', e14', xo 62 (by decide) (by decide) (by decide), xo 63 (by decide) (by decide) (by decide), x64, x65]
        exact GSt_in g7 hK30 hD12 hc hs n1 e13 e23 (by omega) k5 (hX0 _ _) (hX4 _ _) (fun x hx hxc => ⟨hX _ _ x 0 hxc (by decide), hX _ _ x 4 hxc (by decide)⟩)
      · rw [x55]; exact if_neg hx
      · rw [x55, show upd (X 55) c (nI 1) c = nI 1 from if_pos rfl]; decide
/-- strengths of the first n, a minute on -/
def spR (X : Nat → Nat → Int32) (n : Nat) : Nat → Nat → Int32 := fun a j => if a = 53 ∧ j < n then nI (gk (X 55 j) 1 (X 53 j).toNatClampNeg) else X a j
theorem spR_ne {n a : Nat} (h : a ≠ 53) : spR X n a = X a := by
  funext j; exact if_neg (fun q => h q.1)
theorem spR_0 : spR X 0 = X := by
  funext a j; exact if_neg (by omega)
theorem spR_i {n i : Nat} (h : i < n) : spR X n 53 i = nI (gk (X 55 i) 1 (X 53 i).toNatClampNeg) := if_pos ⟨rfl, h⟩
theorem spR_s {n : Nat} : hk_w (spR X n) 53 n (nI (gk (X 55 n) 1 (X 53 n).toNatClampNeg)) = spR X (n + 1) := by
  funext a j
  by_cases ha : a = 53
  · subst ha
    by_cases hj : j = n
    · subst hj; rw [hk_w_eq, spR_i (Nat.lt_succ_self j)]
    · rw [hk_w_off hj]
      unfold spR
      by_cases hc : j < n
      · rw [if_pos ⟨rfl, hc⟩, if_pos ⟨rfl, by omega⟩]
      · rw [if_neg (fun q => hc q.2), if_neg (by omega)]
  · rw [hk_wo ha, spR_ne ha, spR_ne ha]
theorem RelA_sp {u v : Nat} {w : Int32} (hR : RelA nC nK nD u C X) (hK30 : nK ≤ 30) : RelA nC nK nD u (spC nK C 1 v) (hk_w (spR X nK) 37 0 w) := by
  obtain ⟨g5, g7⟩ := hR
  unfold RelA
  have e : ∀ a, a ≠ 37 → a ≠ 53 → hk_w (spR X nK) 37 0 w a = X a := fun a h h' => by rw [hk_wo h, spR_ne h']
  have e53 : hk_w (spR X nK) 37 0 w 53 = spR X nK 53 := hk_wo (by decide)
  have e14 : spC nK C 1 v 14 = C 14 := spC_ne (by decide) (by decide)
  rw [e14, e53, e 51 (by decide) (by decide), e 52 (by decide) (by decide), e 54 (by decide) (by decide), e 55 (by decide) (by decide), e 56 (by decide) (by decide), e 57 (by decide) (by decide), e 58 (by decide) (by decide), e 62 (by decide) (by decide), e 63 (by decide) (by decide), e 64 (by decide) (by decide), e 65 (by decide) (by decide)]
  have hk : ∀ (x k : Nat), k < 8 → k ≠ 2 → spC nK C 1 v 10 (x * 8 + k) = C 10 (x * 8 + k) := fun x k h1 h2 => spC_k h1 h2
  refine ⟨⟨fun c hc => ?_, g5.2⟩, ⟨fun s hs => ?_, g7.2⟩⟩
  · obtain ⟨e1, e2, e3, e4, e5, e6, ⟨g0, a, s0, h, k1, k2, k3, k4, k5, k6, k7, k8⟩, e8⟩ := g5.1 c hc
    rw [spC_0, hk c 1 (by decide) (by decide), spC_2 hc, hk c 3 (by decide) (by decide), hk c 4 (by decide) (by decide), hk c 5 (by decide) (by decide), hk c 6 (by decide) (by decide), hk c 7 (by decide) (by decide), spR_i hc]
    refine ⟨e1, e2, by rw [e1, e3], e4, e5, e6, ⟨g0, a, _, h, k1, k2, k3, k4, rfl, ?_, k7, k8⟩, e8⟩
    rw [k5, nI_clamp (by omega)]
    exact gk_1000 k6
  · obtain ⟨e1, e2, e3, a, p, q, k1, k2, k3, k4, k5, k6, k7, k8, k9, k10⟩ := g7.1 s hs
    refine ⟨e1, e2, e3, a, p, q, k1, k2, k3, k4, k5, k6, k7, fun i hi => ?_, k9, fun c hc h1 h4 => ?_⟩
    · obtain ⟨r1, c, hc, r2, r3, r4⟩ := k8 i hi
      exact ⟨r1, c, hc, r2, by rw [spC_0]; exact r3, by rw [hk c 4 (by decide) (by decide)]; exact r4⟩
    · rw [spC_0] at h1
      rw [hk c 4 (by decide) (by decide)] at h4
      exact k10 c hc h1 h4
/-- nobody is there at the minute: it is over -/
theorem RelA_now {u : Nat} (hR : RelA nC nK nD u C X) (hn : ∀ x, x < nK → ¬ ((X 55 x = 2 ∨ X 55 x = 3) ∧ X 57 x = nI (u + 1))) : RelA nC nK nD (u + 1) C X := by
  obtain ⟨g5, g7⟩ := hR
  refine ⟨⟨fun c hc => ?_, g5.2⟩, g7⟩
  obtain ⟨e1, e2, e3, e4, e5, e6, e7, e8, e9⟩ := g5.1 c hc
  refine ⟨e1, e2, e3, e4, e5, e6, e7, fun q => ?_, e9⟩
  obtain ⟨k1, w, k2, k3, k4⟩ := e8 q
  refine ⟨k1, w, k2, ?_, k4⟩
  have : w ≠ u + 1 := fun e => hn c hc ⟨q, by rw [k2, e]⟩
  omega
/-- a minute is over in X1 -/
def MIN (nC nK nD u : Nat) (C X X1 : Nat → Nat → Int32) : Prop := RelA nC nK nD (u + 1) (tick nK C (u + 1)) X1 ∧ (∀ a, a ∉ [37, 53, 55, 64, 65] → X1 a = X a) ∧ (∀ j, j ≠ 0 → X1 37 j = X 37 j) ∧ X1 37 0 = nI (u + 1)
set_option maxRecDepth 20000 in
set_option maxHeartbeats 2000000 in
theorem lp_one2 (hK30 : nK ≤ 30) (hD12 : nD ≤ 12) {u : Nat} (hu : u + 1 < 1000000) (hN : X 37 26 = nI nK) (i : Nat) (hi : i ≤ nK) : ∀ (X1 : Nat → Nat → Int32) (l2 : Option Value), RelA nC nK nD u (arrs (spC nK C 1 (u + 1)) (u + 1) i) X1 → (∀ x, x < i → ¬ ((X1 55 x = 2 ∨ X1 55 x = 3) ∧ X1 57 x = nI (u + 1))) → (∀ a, a ≠ 55 → a ≠ 64 → a ≠ 65 → X1 a = (hk_w (spR X nK) 37 0 (nI (u + 1))) a) → hk_WP MX10_oneMinute 1 0 0 0 0 107 [some (.ref 37), some (.int (nI i)), l2] [] (hk_h L X1) (fun r h => r = none ∧ ∃ X1, h = hk_h L X1 ∧ MIN nC nK nD u C X X1) := by
  intro X1 l2 hR hn hf
  have e26 : X1 37 26 = nI nK := by rw [hf 37 (by decide) (by decide) (by decide), hk_w_off (by decide), spR_ne (by decide)]; exact hN
  have e00 : X1 37 0 = nI (u + 1) := by rw [hf 37 (by decide) (by decide) (by decide), hk_w_eq]
  refine hk_iload_n dX10_oneMinute_107 rfl rfl ?_
  refine hk_aload_n dX10_oneMinute_108 rfl rfl ?_
  refine gfX10_201 rfl dX10_oneMinute_109 (hk_lt (by decide)) rfl rfl ?_
  refine hk_icmp_ge (tgt := 179) dX10_oneMinute_112 (by decide) (fun c112 => ?_) (fun c112 => ?_)
  · rw [e26, nI_leI (by omega) (by omega)] at c112
    have hiK : i = nK := by omega
    subst hiK
    exact hk_return dX10_oneMinute_179 rfl (by decide) ⟨rfl, X1, rfl, RelA_now hR hn, fun a ha => by rw [hf a (ni_e ha (by decide)) (ni_e ha (by decide)) (ni_e ha (by decide)), hk_wo (ni_e ha (by decide)), spR_ne (ni_e ha (by decide))], fun j hj => by rw [hf 37 (by decide) (by decide) (by decide), hk_w_off hj, spR_ne (by decide)], e00⟩
  · rw [e26, nI_leI (by omega) (by omega)] at c112
    have hlt : i < nK := by omega
    have ih := lp_one2 hK30 hD12 hu hN (i + 1) hlt
    have hg := hR.1.1 i hlt
    have hiff : (mvg (arrs (spC nK C 1 (u + 1)) (u + 1) i) i ∧ arrs (spC nK C 1 (u + 1)) (u + 1) i 10 (i * 8 + 3) = nI (u + 1)) ↔ ((X1 55 i = 2 ∨ X1 55 i = 3) ∧ X1 57 i = nI (u + 1)) := by
      have em : mvg (arrs (spC nK C 1 (u + 1)) (u + 1) i) i ↔ (X1 55 i = 2 ∨ X1 55 i = 3) := by unfold mvg; rw [hg.1]
      constructor
      · rintro ⟨q1, q2⟩
        exact ⟨em.mp q1, by rw [← (hg.2.2.2.2.2.2.2.1 (em.mp q1)).1]; exact q2⟩
      · rintro ⟨q1, q2⟩
        exact ⟨em.mpr q1, by rw [(hg.2.2.2.2.2.2.2.1 q1).1]; exact q2⟩
    have hno : ¬ ((X1 55 i = 2 ∨ X1 55 i = 3) ∧ X1 57 i = nI (u + 1)) → ∀ l2 : Option Value, hk_WP MX10_oneMinute 1 0 0 0 0 107 [some (.ref 37), some (.int (nI (i + 1))), l2] [] (hk_h L X1) (fun r h => r = none ∧ ∃ X1, h = hk_h L X1 ∧ MIN nC nK nD u C X X1) := fun q l2 => by
      refine ih X1 l2 (by rw [arrs_n (fun p => q (hiff.mp p))]; exact hR) (fun x hx => ?_) hf
      by_cases e : x = i
      · subst e; exact q
      · exact hn x (by omega)
    have hyes : (X1 55 i = 2 ∨ X1 55 i = 3) → X1 57 i = nI (u + 1) → ∀ (X2 : Nat → Nat → Int32), ARX nC nK nD u (arrs (spC nK C 1 (u + 1)) (u + 1) i) X1 i X2 → ∀ l2 : Option Value, hk_WP MX10_oneMinute 1 0 0 0 0 107 [some (.ref 37), some (.int (nI (i + 1))), l2] [] (hk_h L X2) (fun r h => r = none ∧ ∃ X1, h = hk_h L X1 ∧ MIN nC nK nD u C X X1) := fun q1 q2 X2 ha l2 => by
      obtain ⟨a1, a2, a3, a4⟩ := ha
      refine ih X2 l2 (by rw [arrs_y (hiff.mpr ⟨q1, q2⟩)]; exact a1) (fun x hx => ?_) (fun a k1 k2 k3 => (a2 a k1 k2 k3).trans (hf a k1 k2 k3))
      by_cases e : x = i
      · subst e; exact fun p => a4 p.1
      · rw [a3 x e, a2 57 (by decide) (by decide) (by decide)]; exact hn x (by omega)
    refine hk_aload_n dX10_oneMinute_115 rfl rfl ?_
    refine gfX10_61 rfl dX10_oneMinute_116 (hk_lt (by decide)) rfl rfl ?_
    refine hk_iload_n dX10_oneMinute_119 rfl rfl ?_
    refine hk_ian dX10_oneMinute_120 (by decide) (fun _ => rfl) rfl (by omega) (by decide) ?_
    refine hk_iconst (v := 2) dX10_oneMinute_121 (by decide) ?_
    refine hk_icmp_eq (tgt := 135) dX10_oneMinute_122 (by decide) (fun c122 => ?_) (fun c122 => ?_)
    · refine hk_aload_n dX10_oneMinute_135 rfl rfl ?_
      refine gfX10_67 rfl dX10_oneMinute_136 (hk_lt (by decide)) rfl rfl ?_
      refine hk_iload_n dX10_oneMinute_139 rfl rfl ?_
      refine hk_ian dX10_oneMinute_140 (by decide) (fun _ => rfl) rfl (by omega) (by decide) ?_
      refine hk_aload_n dX10_oneMinute_141 rfl rfl ?_
      refine gfX10_194 rfl dX10_oneMinute_142 (hk_lt (by decide)) rfl rfl ?_
      refine hk_icmp_ne (tgt := 173) dX10_oneMinute_145 (by decide) (fun c145 => ?_) (fun c145 => ?_)
      · rw [e00] at c145
        refine hk_iinc (v := nI (i + 1)) dX10_oneMinute_173 rfl (nI_1 i) (by decide) rfl ?_
        refine hk_goto (tgt := 107) dX10_oneMinute_176 (by decide) ?_
        first
        | exact hno (fun q => q.1.elim c122 c132) _
        | exact hno (fun q => c145 q.2) _
        | exact hyes (Or.inr c155) c145 _ (ARX_3 hR hlt hK30 c155) _
        | exact hyes (Or.inl h2) c145 _ hA _
      · rw [e00] at c145
        refine hk_aload_n dX10_oneMinute_148 rfl rfl ?_
        refine gfX10_61 rfl dX10_oneMinute_149 (hk_lt (by decide)) rfl rfl ?_
        refine hk_iload_n dX10_oneMinute_152 rfl rfl ?_
        refine hk_ian dX10_oneMinute_153 (by decide) (fun _ => rfl) rfl (by omega) (by decide) ?_
        refine hk_iconst (v := 3) dX10_oneMinute_154 (by decide) ?_
        refine hk_icmp_ne (tgt := 168) dX10_oneMinute_155 (by decide) (fun c155 => ?_) (fun c155 => ?_)
        · have h2 : X1 55 i = 2 := by
            first
            | exact c122
            | exact absurd c132 c155
          refine hk_aload_n dX10_oneMinute_168 rfl rfl ?_
          refine hk_iload_n dX10_oneMinute_169 rfl rfl ?_
          refine ivX10_280 rfl (md_arrive_m hR hlt hK30 hD12 h2) dX10_oneMinute_170 (hk_lt (by decide)) rfl rfl rfl (by decide) ⟨by decide, by decide⟩ (Nat.le_of_ble_eq_true rfl) (fun r h1 hq => ?_)
          obtain ⟨X2, rfl, rfl, hA⟩ := hq
          refine hk_iinc (v := nI (i + 1)) dX10_oneMinute_173 rfl (nI_1 i) (by decide) rfl ?_
          refine hk_goto (tgt := 107) dX10_oneMinute_176 (by decide) ?_
          exact hyes (Or.inl h2) c145 _ hA _
        · refine hk_aload_n dX10_oneMinute_158 rfl rfl ?_
          refine gfX10_61 rfl dX10_oneMinute_159 (hk_lt (by decide)) rfl rfl ?_
          refine hk_iload_n dX10_oneMinute_162 rfl rfl ?_
          refine hk_iconst (v := 4) dX10_oneMinute_163 (by decide) ?_
          refine hk_isn dX10_oneMinute_164 (by decide) (fun _ => rfl) rfl (by omega) (by decide) ?_
          refine hk_goto (tgt := 173) dX10_oneMinute_165 (by decide) ?_
          refine hk_iinc (v := nI (i + 1)) dX10_oneMinute_173 rfl (nI_1 i) (by decide) rfl ?_
          refine hk_goto (tgt := 107) dX10_oneMinute_176 (by decide) ?_
          first
          | exact hno (fun q => q.1.elim c122 c132) _
          | exact hno (fun q => c145 q.2) _
          | exact hyes (Or.inr c155) c145 _ (ARX_3 hR hlt hK30 c155) _
          | exact hyes (Or.inl h2) c145 _ hA _
    · refine hk_aload_n dX10_oneMinute_125 rfl rfl ?_
      refine gfX10_61 rfl dX10_oneMinute_126 (hk_lt (by decide)) rfl rfl ?_
      refine hk_iload_n dX10_oneMinute_129 rfl rfl ?_
      refine hk_ian dX10_oneMinute_130 (by decide) (fun _ => rfl) rfl (by omega) (by decide) ?_
      refine hk_iconst (v := 3) dX10_oneMinute_131 (by decide) ?_
      refine hk_icmp_ne (tgt := 173) dX10_oneMinute_132 (by decide) (fun c132 => ?_) (fun c132 => ?_)
      · refine hk_iinc (v := nI (i + 1)) dX10_oneMinute_173 rfl (nI_1 i) (by decide) rfl ?_
        refine hk_goto (tgt := 107) dX10_oneMinute_176 (by decide) ?_
        first
        | exact hno (fun q => q.1.elim c122 c132) _
        | exact hno (fun q => c145 q.2) _
        | exact hyes (Or.inr c155) c145 _ (ARX_3 hR hlt hK30 c155) _
        | exact hyes (Or.inl h2) c145 _ hA _
      · refine hk_aload_n dX10_oneMinute_135 rfl rfl ?_
        refine gfX10_67 rfl dX10_oneMinute_136 (hk_lt (by decide)) rfl rfl ?_
        refine hk_iload_n dX10_oneMinute_139 rfl rfl ?_
        refine hk_ian dX10_oneMinute_140 (by decide) (fun _ => rfl) rfl (by omega) (by decide) ?_
        refine hk_aload_n dX10_oneMinute_141 rfl rfl ?_
        refine gfX10_194 rfl dX10_oneMinute_142 (hk_lt (by decide)) rfl rfl ?_
        refine hk_icmp_ne (tgt := 173) dX10_oneMinute_145 (by decide) (fun c145 => ?_) (fun c145 => ?_)
        · rw [e00] at c145
          refine hk_iinc (v := nI (i + 1)) dX10_oneMinute_173 rfl (nI_1 i) (by decide) rfl ?_
          refine hk_goto (tgt := 107) dX10_oneMinute_176 (by decide) ?_
          first
          | exact hno (fun q => q.1.elim c122 c132) _
          | exact hno (fun q => c145 q.2) _
          | exact hyes (Or.inr c155) c145 _ (ARX_3 hR hlt hK30 c155) _
          | exact hyes (Or.inl h2) c145 _ hA _
        · rw [e00] at c145
          refine hk_aload_n dX10_oneMinute_148 rfl rfl ?_
          refine gfX10_61 rfl dX10_oneMinute_149 (hk_lt (by decide)) rfl rfl ?_
          refine hk_iload_n dX10_oneMinute_152 rfl rfl ?_
          refine hk_ian dX10_oneMinute_153 (by decide) (fun _ => rfl) rfl (by omega) (by decide) ?_
          refine hk_iconst (v := 3) dX10_oneMinute_154 (by decide) ?_
          refine hk_icmp_ne (tgt := 168) dX10_oneMinute_155 (by decide) (fun c155 => ?_) (fun c155 => ?_)
          · have h2 : X1 55 i = 2 := by
              first
              | exact c122
              | exact absurd c132 c155
            refine hk_aload_n dX10_oneMinute_168 rfl rfl ?_
            refine hk_iload_n dX10_oneMinute_169 rfl rfl ?_
            refine ivX10_280 rfl (md_arrive_m hR hlt hK30 hD12 h2) dX10_oneMinute_170 (hk_lt (by decide)) rfl rfl rfl (by decide) ⟨by decide, by decide⟩ (Nat.le_of_ble_eq_true rfl) (fun r h1 hq => ?_)
            obtain ⟨X2, rfl, rfl, hA⟩ := hq
            refine hk_iinc (v := nI (i + 1)) dX10_oneMinute_173 rfl (nI_1 i) (by decide) rfl ?_
            refine hk_goto (tgt := 107) dX10_oneMinute_176 (by decide) ?_
            exact hyes (Or.inl h2) c145 _ hA _
          · refine hk_aload_n dX10_oneMinute_158 rfl rfl ?_
            refine gfX10_61 rfl dX10_oneMinute_159 (hk_lt (by decide)) rfl rfl ?_
            refine hk_iload_n dX10_oneMinute_162 rfl rfl ?_
            refine hk_iconst (v := 4) dX10_oneMinute_163 (by decide) ?_
            refine hk_isn dX10_oneMinute_164 (by decide) (fun _ => rfl) rfl (by omega) (by decide) ?_
            refine hk_goto (tgt := 173) dX10_oneMinute_165 (by decide) ?_
            refine hk_iinc (v := nI (i + 1)) dX10_oneMinute_173 rfl (nI_1 i) (by decide) rfl ?_
            refine hk_goto (tgt := 107) dX10_oneMinute_176 (by decide) ?_
            first
            | exact hno (fun q => q.1.elim c122 c132) _
            | exact hno (fun q => c145 q.2) _
            | exact hyes (Or.inr c155) c145 _ (ARX_3 hR hlt hK30 c155) _
            | exact hyes (Or.inl h2) c145 _ hA _
termination_by nK - i
decreasing_by all_goals omega
set_option maxRecDepth 20000 in
set_option maxHeartbeats 2000000 in
theorem lp_one1 (hK30 : nK ≤ 30) (hD12 : nD ≤ 12) {u : Nat} (hu : u + 1 < 1000000) (hN : X 37 26 = nI nK) (h0 : X 37 0 = nI u) (hR : RelA nC nK nD u C X) (i : Nat) (hi : i ≤ nK) : ∀ l2 : Option Value, hk_WP MX10_oneMinute 1 0 0 0 0 2 [some (.ref 37), some (.int (nI i)), l2] [] (hk_h L (spR X i)) (fun r h => r = none ∧ ∃ X1, h = hk_h L X1 ∧ MIN nC nK nD u C X X1) := by
  intro l2
  have e26 : spR X i 37 26 = nI nK := by rw [spR_ne (by decide)]; exact hN
  refine hk_iload_n dX10_oneMinute_2 rfl rfl ?_
  refine hk_aload_n dX10_oneMinute_3 rfl rfl ?_
  refine gfX10_201 rfl dX10_oneMinute_4 (hk_lt (by decide)) rfl rfl ?_
  refine hk_icmp_ge (tgt := 95) dX10_oneMinute_7 (by decide) (fun c7 => ?_) (fun c7 => ?_)
  · rw [e26, nI_leI (by omega) (by omega)] at c7
    refine hk_aload_n dX10_oneMinute_95 rfl rfl ?_
    refine hk_dup dX10_oneMinute_96 rfl ?_
    refine gfX10_194 rfl dX10_oneMinute_97 (hk_lt (by decide)) rfl rfl ?_
    refine hk_iconst (v := 1) dX10_oneMinute_100 (by decide) ?_
    refine hk_iadd dX10_oneMinute_101 ?_
    rw [show spR X i 37 0 = nI u by rw [spR_ne (by decide)]; exact h0, nI_1]
    refine pfX10_194 rfl dX10_oneMinute_102 (hk_lt (by decide)) rfl (Nat.le_of_ble_eq_true rfl) (hk_st (j := 0) rfl ?_)
    refine hk_iconst (v := 0) dX10_oneMinute_105 (by decide) ?_
    refine hk_istore_n dX10_oneMinute_106 rfl (by decide) rfl ?_
    have hiK : i = nK := by omega
    subst hiK
    exact lp_one2 hK30 hD12 hu hN 0 (Nat.zero_le _) _ _ (RelA_sp hR hK30) (fun x hx => absurd hx (Nat.not_lt_zero _)) (fun _ _ _ _ => rfl)
  · rw [e26, nI_leI (by omega) (by omega)] at c7
    have hlt : i < nK := by omega
    have ih := lp_one1 hK30 hD12 hu hN h0 hR (i + 1) hlt
    obtain ⟨_, _, _, _, _, _, ⟨g0, a0, st, h0', k1, k2, k3, k4, k5, k6, k7, k8⟩, _⟩ := hR.1.1 i hlt
    have hcl : cl (nI st + gn (X 55 i)) = nI (gk (X 55 i) 1 st) := by
      have h := gk_cl (x := X 55 i) (d := 1) k6 (by decide)
      rwa [show nI 1 = 1 from rfl, Int32.one_mul] at h
    refine hk_aload_n dX10_oneMinute_10 rfl rfl ?_
    refine gfX10_55 rfl dX10_oneMinute_11 (hk_lt (by decide)) rfl rfl ?_
    refine hk_iload_n dX10_oneMinute_14 rfl rfl ?_
    refine hk_ian dX10_oneMinute_15 (by decide) (fun _ => rfl) rfl (by omega) (by decide) ?_
    rw [show spR X i 53 i = nI st by rw [← k5]; exact if_neg (by omega)]
    refine hk_aload_n dX10_oneMinute_16 rfl rfl ?_
    refine gfX10_61 rfl dX10_oneMinute_17 (hk_lt (by decide)) rfl rfl ?_
    refine hk_iload_n dX10_oneMinute_20 rfl rfl ?_
    refine hk_ian dX10_oneMinute_21 (by decide) (fun _ => rfl) rfl (by omega) (by decide) ?_
    rw [show spR X i 55 i = X 55 i by rw [spR_ne (by decide)]]
    refine hk_if_ne (tgt := 29) dX10_oneMinute_22 (by decide) (fun c22 => ?_) (fun c22 => ?_)
    · refine hk_aload_n dX10_oneMinute_29 rfl rfl ?_
      refine gfX10_61 rfl dX10_oneMinute_30 (hk_lt (by decide)) rfl rfl ?_
      refine hk_iload_n dX10_oneMinute_33 rfl rfl ?_
      refine hk_ian dX10_oneMinute_34 (by decide) (fun _ => rfl) rfl (by omega) (by decide) ?_
      rw [show spR X i 55 i = X 55 i by rw [spR_ne (by decide)]]
      refine hk_iconst (v := 2) dX10_oneMinute_35 (by decide) ?_
      refine hk_icmp_ne (tgt := 43) dX10_oneMinute_36 (by decide) (fun c36 => ?_) (fun c36 => ?_)
      · refine hk_aload_n dX10_oneMinute_43 rfl rfl ?_
        refine gfX10_61 rfl dX10_oneMinute_44 (hk_lt (by decide)) rfl rfl ?_
        refine hk_iload_n dX10_oneMinute_47 rfl rfl ?_
        refine hk_ian dX10_oneMinute_48 (by decide) (fun _ => rfl) rfl (by omega) (by decide) ?_
        rw [show spR X i 55 i = X 55 i by rw [spR_ne (by decide)]]
        refine hk_iconst (v := 3) dX10_oneMinute_49 (by decide) ?_
        refine hk_icmp_ne (tgt := 58) dX10_oneMinute_50 (by decide) (fun c50 => ?_) (fun c50 => ?_)
        · refine hk_iconst (v := 0) dX10_oneMinute_58 (by decide) ?_
          refine st_eq (v := gn (X 55 i)) ?_ ?_
          · unfold gn
            first
            | rw [if_pos c22]
            | rw [if_neg c22, if_pos c36]
            | rw [if_neg c22, if_neg c36, if_pos c50]
            | rw [if_neg c22, if_neg c36, if_neg c50]
          refine hk_iadd dX10_oneMinute_59 ?_
          refine hk_istore_n dX10_oneMinute_60 rfl (by decide) rfl ?_
          refine hk_aload_n dX10_oneMinute_61 rfl rfl ?_
          refine gfX10_55 rfl dX10_oneMinute_62 (hk_lt (by decide)) rfl rfl ?_
          refine hk_iload_n dX10_oneMinute_65 rfl rfl ?_
          refine hk_iload_n dX10_oneMinute_66 rfl rfl ?_
          refine hk_if_ge (tgt := 74) dX10_oneMinute_67 (by decide) (fun c67 => ?_) (fun c67 => ?_)
          · refine hk_iload_n dX10_oneMinute_74 rfl rfl ?_
            refine hk_sipush (v := 1000) dX10_oneMinute_75 (by decide) ?_
            refine hk_icmp_le (tgt := 87) dX10_oneMinute_78 (by decide) (fun c78 => ?_) (fun c78 => ?_)
            · refine hk_iload_n dX10_oneMinute_87 rfl rfl ?_
              refine st_eq (v := nI (gk (X 55 i) 1 st)) ?_ ?_
              · rw [← hcl]
                unfold cl
                first
                | rw [if_pos (Int32.not_le.mp c67)]
                | rw [if_neg (Int32.not_lt.mpr c67), if_pos c78]
                | rw [if_neg (Int32.not_lt.mpr c67), if_neg c78]
              refine hk_isn dX10_oneMinute_88 (by decide) (fun _ => rfl) rfl (by omega) (by decide) ?_
              rw [show gk (X 55 i) 1 st = gk (X 55 i) 1 (X 53 i).toNatClampNeg by rw [k5, nI_clamp (by omega)], spR_s]
              refine hk_iinc (v := nI (i + 1)) dX10_oneMinute_89 rfl (nI_1 i) (by decide) rfl ?_
              refine hk_goto (tgt := 2) dX10_oneMinute_92 (by decide) ?_
              exact ih _
            · refine hk_sipush (v := 1000) dX10_oneMinute_81 (by decide) ?_
              refine hk_goto (tgt := 88) dX10_oneMinute_84 (by decide) ?_
              refine st_eq (v := nI (gk (X 55 i) 1 st)) ?_ ?_
              · rw [← hcl]
                unfold cl
                first
                | rw [if_pos (Int32.not_le.mp c67)]
                | rw [if_neg (Int32.not_lt.mpr c67), if_pos c78]
                | rw [if_neg (Int32.not_lt.mpr c67), if_neg c78]
              refine hk_isn dX10_oneMinute_88 (by decide) (fun _ => rfl) rfl (by omega) (by decide) ?_
              rw [show gk (X 55 i) 1 st = gk (X 55 i) 1 (X 53 i).toNatClampNeg by rw [k5, nI_clamp (by omega)], spR_s]
              refine hk_iinc (v := nI (i + 1)) dX10_oneMinute_89 rfl (nI_1 i) (by decide) rfl ?_
              refine hk_goto (tgt := 2) dX10_oneMinute_92 (by decide) ?_
              exact ih _
          · refine hk_iconst (v := 0) dX10_oneMinute_70 (by decide) ?_
            refine hk_goto (tgt := 88) dX10_oneMinute_71 (by decide) ?_
            refine st_eq (v := nI (gk (X 55 i) 1 st)) ?_ ?_
            · rw [← hcl]
              unfold cl
              first
              | rw [if_pos (Int32.not_le.mp c67)]
              | rw [if_neg (Int32.not_lt.mpr c67), if_pos c78]
              | rw [if_neg (Int32.not_lt.mpr c67), if_neg c78]
            refine hk_isn dX10_oneMinute_88 (by decide) (fun _ => rfl) rfl (by omega) (by decide) ?_
            rw [show gk (X 55 i) 1 st = gk (X 55 i) 1 (X 53 i).toNatClampNeg by rw [k5, nI_clamp (by omega)], spR_s]
            refine hk_iinc (v := nI (i + 1)) dX10_oneMinute_89 rfl (nI_1 i) (by decide) rfl ?_
            refine hk_goto (tgt := 2) dX10_oneMinute_92 (by decide) ?_
            exact ih _
        · refine hk_bipush (v := (-3)) dX10_oneMinute_53 (by decide) ?_
          refine hk_goto (tgt := 59) dX10_oneMinute_55 (by decide) ?_
          refine st_eq (v := gn (X 55 i)) ?_ ?_
          · unfold gn
            first
            | rw [if_pos c22]
            | rw [if_neg c22, if_pos c36]
            | rw [if_neg c22, if_neg c36, if_pos c50]
            | rw [if_neg c22, if_neg c36, if_neg c50]
          refine hk_iadd dX10_oneMinute_59 ?_
          refine hk_istore_n dX10_oneMinute_60 rfl (by decide) rfl ?_
          refine hk_aload_n dX10_oneMinute_61 rfl rfl ?_
          refine gfX10_55 rfl dX10_oneMinute_62 (hk_lt (by decide)) rfl rfl ?_
          refine hk_iload_n dX10_oneMinute_65 rfl rfl ?_
          refine hk_iload_n dX10_oneMinute_66 rfl rfl ?_
          refine hk_if_ge (tgt := 74) dX10_oneMinute_67 (by decide) (fun c67 => ?_) (fun c67 => ?_)
          · refine hk_iload_n dX10_oneMinute_74 rfl rfl ?_
            refine hk_sipush (v := 1000) dX10_oneMinute_75 (by decide) ?_
            refine hk_icmp_le (tgt := 87) dX10_oneMinute_78 (by decide) (fun c78 => ?_) (fun c78 => ?_)
            · refine hk_iload_n dX10_oneMinute_87 rfl rfl ?_
              refine st_eq (v := nI (gk (X 55 i) 1 st)) ?_ ?_
              · rw [← hcl]
                unfold cl
                first
                | rw [if_pos (Int32.not_le.mp c67)]
                | rw [if_neg (Int32.not_lt.mpr c67), if_pos c78]
                | rw [if_neg (Int32.not_lt.mpr c67), if_neg c78]
              refine hk_isn dX10_oneMinute_88 (by decide) (fun _ => rfl) rfl (by omega) (by decide) ?_
              rw [show gk (X 55 i) 1 st = gk (X 55 i) 1 (X 53 i).toNatClampNeg by rw [k5, nI_clamp (by omega)], spR_s]
              refine hk_iinc (v := nI (i + 1)) dX10_oneMinute_89 rfl (nI_1 i) (by decide) rfl ?_
              refine hk_goto (tgt := 2) dX10_oneMinute_92 (by decide) ?_
              exact ih _
            · refine hk_sipush (v := 1000) dX10_oneMinute_81 (by decide) ?_
              refine hk_goto (tgt := 88) dX10_oneMinute_84 (by decide) ?_
              refine st_eq (v := nI (gk (X 55 i) 1 st)) ?_ ?_
              · rw [← hcl]
                unfold cl
                first
                | rw [if_pos (Int32.not_le.mp c67)]
                | rw [if_neg (Int32.not_lt.mpr c67), if_pos c78]
                | rw [if_neg (Int32.not_lt.mpr c67), if_neg c78]
              refine hk_isn dX10_oneMinute_88 (by decide) (fun _ => rfl) rfl (by omega) (by decide) ?_
              rw [show gk (X 55 i) 1 st = gk (X 55 i) 1 (X 53 i).toNatClampNeg by rw [k5, nI_clamp (by omega)], spR_s]
              refine hk_iinc (v := nI (i + 1)) dX10_oneMinute_89 rfl (nI_1 i) (by decide) rfl ?_
              refine hk_goto (tgt := 2) dX10_oneMinute_92 (by decide) ?_
              exact ih _
          · refine hk_iconst (v := 0) dX10_oneMinute_70 (by decide) ?_
            refine hk_goto (tgt := 88) dX10_oneMinute_71 (by decide) ?_
            refine st_eq (v := nI (gk (X 55 i) 1 st)) ?_ ?_
            · rw [← hcl]
              unfold cl
              first
              | rw [if_pos (Int32.not_le.mp c67)]
              | rw [if_neg (Int32.not_lt.mpr c67), if_pos c78]
              | rw [if_neg (Int32.not_lt.mpr c67), if_neg c78]
            refine hk_isn dX10_oneMinute_88 (by decide) (fun _ => rfl) rfl (by omega) (by decide) ?_
            rw [show gk (X 55 i) 1 st = gk (X 55 i) 1 (X 53 i).toNatClampNeg by rw [k5, nI_clamp (by omega)], spR_s]
            refine hk_iinc (v := nI (i + 1)) dX10_oneMinute_89 rfl (nI_1 i) (by decide) rfl ?_
            refine hk_goto (tgt := 2) dX10_oneMinute_92 (by decide) ?_
            exact ih _
      · refine hk_iconst (v := (-1)) dX10_oneMinute_39 (by decide) ?_
        refine hk_goto (tgt := 59) dX10_oneMinute_40 (by decide) ?_
        refine st_eq (v := gn (X 55 i)) ?_ ?_
        · unfold gn
          first
          | rw [if_pos c22]
          | rw [if_neg c22, if_pos c36]
          | rw [if_neg c22, if_neg c36, if_pos c50]
          | rw [if_neg c22, if_neg c36, if_neg c50]
        refine hk_iadd dX10_oneMinute_59 ?_
        refine hk_istore_n dX10_oneMinute_60 rfl (by decide) rfl ?_
        refine hk_aload_n dX10_oneMinute_61 rfl rfl ?_
        refine gfX10_55 rfl dX10_oneMinute_62 (hk_lt (by decide)) rfl rfl ?_
        refine hk_iload_n dX10_oneMinute_65 rfl rfl ?_
        refine hk_iload_n dX10_oneMinute_66 rfl rfl ?_
        refine hk_if_ge (tgt := 74) dX10_oneMinute_67 (by decide) (fun c67 => ?_) (fun c67 => ?_)
        · refine hk_iload_n dX10_oneMinute_74 rfl rfl ?_
          refine hk_sipush (v := 1000) dX10_oneMinute_75 (by decide) ?_
          refine hk_icmp_le (tgt := 87) dX10_oneMinute_78 (by decide) (fun c78 => ?_) (fun c78 => ?_)
          · refine hk_iload_n dX10_oneMinute_87 rfl rfl ?_
            refine st_eq (v := nI (gk (X 55 i) 1 st)) ?_ ?_
            · rw [← hcl]
              unfold cl
              first
              | rw [if_pos (Int32.not_le.mp c67)]
              | rw [if_neg (Int32.not_lt.mpr c67), if_pos c78]
              | rw [if_neg (Int32.not_lt.mpr c67), if_neg c78]
            refine hk_isn dX10_oneMinute_88 (by decide) (fun _ => rfl) rfl (by omega) (by decide) ?_
            rw [show gk (X 55 i) 1 st = gk (X 55 i) 1 (X 53 i).toNatClampNeg by rw [k5, nI_clamp (by omega)], spR_s]
            refine hk_iinc (v := nI (i + 1)) dX10_oneMinute_89 rfl (nI_1 i) (by decide) rfl ?_
            refine hk_goto (tgt := 2) dX10_oneMinute_92 (by decide) ?_
            exact ih _
          · refine hk_sipush (v := 1000) dX10_oneMinute_81 (by decide) ?_
            refine hk_goto (tgt := 88) dX10_oneMinute_84 (by decide) ?_
            refine st_eq (v := nI (gk (X 55 i) 1 st)) ?_ ?_
            · rw [← hcl]
              unfold cl
              first
              | rw [if_pos (Int32.not_le.mp c67)]
              | rw [if_neg (Int32.not_lt.mpr c67), if_pos c78]
              | rw [if_neg (Int32.not_lt.mpr c67), if_neg c78]
            refine hk_isn dX10_oneMinute_88 (by decide) (fun _ => rfl) rfl (by omega) (by decide) ?_
            rw [show gk (X 55 i) 1 st = gk (X 55 i) 1 (X 53 i).toNatClampNeg by rw [k5, nI_clamp (by omega)], spR_s]
            refine hk_iinc (v := nI (i + 1)) dX10_oneMinute_89 rfl (nI_1 i) (by decide) rfl ?_
            refine hk_goto (tgt := 2) dX10_oneMinute_92 (by decide) ?_
            exact ih _
        · refine hk_iconst (v := 0) dX10_oneMinute_70 (by decide) ?_
          refine hk_goto (tgt := 88) dX10_oneMinute_71 (by decide) ?_
          refine st_eq (v := nI (gk (X 55 i) 1 st)) ?_ ?_
          · rw [← hcl]
            unfold cl
            first
            | rw [if_pos (Int32.not_le.mp c67)]
            | rw [if_neg (Int32.not_lt.mpr c67), if_pos c78]
            | rw [if_neg (Int32.not_lt.mpr c67), if_neg c78]
          refine hk_isn dX10_oneMinute_88 (by decide) (fun _ => rfl) rfl (by omega) (by decide) ?_
          rw [show gk (X 55 i) 1 st = gk (X 55 i) 1 (X 53 i).toNatClampNeg by rw [k5, nI_clamp (by omega)], spR_s]
          refine hk_iinc (v := nI (i + 1)) dX10_oneMinute_89 rfl (nI_1 i) (by decide) rfl ?_
          refine hk_goto (tgt := 2) dX10_oneMinute_92 (by decide) ?_
          exact ih _
    · refine hk_iconst (v := 2) dX10_oneMinute_25 (by decide) ?_
      refine hk_goto (tgt := 59) dX10_oneMinute_26 (by decide) ?_
      refine st_eq (v := gn (X 55 i)) ?_ ?_
      · unfold gn
        first
        | rw [if_pos c22]
        | rw [if_neg c22, if_pos c36]
        | rw [if_neg c22, if_neg c36, if_pos c50]
        | rw [if_neg c22, if_neg c36, if_neg c50]
      refine hk_iadd dX10_oneMinute_59 ?_
      refine hk_istore_n dX10_oneMinute_60 rfl (by decide) rfl ?_
      refine hk_aload_n dX10_oneMinute_61 rfl rfl ?_
      refine gfX10_55 rfl dX10_oneMinute_62 (hk_lt (by decide)) rfl rfl ?_
      refine hk_iload_n dX10_oneMinute_65 rfl rfl ?_
      refine hk_iload_n dX10_oneMinute_66 rfl rfl ?_
      refine hk_if_ge (tgt := 74) dX10_oneMinute_67 (by decide) (fun c67 => ?_) (fun c67 => ?_)
      · refine hk_iload_n dX10_oneMinute_74 rfl rfl ?_
        refine hk_sipush (v := 1000) dX10_oneMinute_75 (by decide) ?_
        refine hk_icmp_le (tgt := 87) dX10_oneMinute_78 (by decide) (fun c78 => ?_) (fun c78 => ?_)
        · refine hk_iload_n dX10_oneMinute_87 rfl rfl ?_
          refine st_eq (v := nI (gk (X 55 i) 1 st)) ?_ ?_
          · rw [← hcl]
            unfold cl
            first
            | rw [if_pos (Int32.not_le.mp c67)]
            | rw [if_neg (Int32.not_lt.mpr c67), if_pos c78]
            | rw [if_neg (Int32.not_lt.mpr c67), if_neg c78]
          refine hk_isn dX10_oneMinute_88 (by decide) (fun _ => rfl) rfl (by omega) (by decide) ?_
          rw [show gk (X 55 i) 1 st = gk (X 55 i) 1 (X 53 i).toNatClampNeg by rw [k5, nI_clamp (by omega)], spR_s]
          refine hk_iinc (v := nI (i + 1)) dX10_oneMinute_89 rfl (nI_1 i) (by decide) rfl ?_
          refine hk_goto (tgt := 2) dX10_oneMinute_92 (by decide) ?_
          exact ih _
        · refine hk_sipush (v := 1000) dX10_oneMinute_81 (by decide) ?_
          refine hk_goto (tgt := 88) dX10_oneMinute_84 (by decide) ?_
          refine st_eq (v := nI (gk (X 55 i) 1 st)) ?_ ?_
          · rw [← hcl]
            unfold cl
            first
            | rw [if_pos (Int32.not_le.mp c67)]
            | rw [if_neg (Int32.not_lt.mpr c67), if_pos c78]
            | rw [if_neg (Int32.not_lt.mpr c67), if_neg c78]
          refine hk_isn dX10_oneMinute_88 (by decide) (fun _ => rfl) rfl (by omega) (by decide) ?_
          rw [show gk (X 55 i) 1 st = gk (X 55 i) 1 (X 53 i).toNatClampNeg by rw [k5, nI_clamp (by omega)], spR_s]
          refine hk_iinc (v := nI (i + 1)) dX10_oneMinute_89 rfl (nI_1 i) (by decide) rfl ?_
          refine hk_goto (tgt := 2) dX10_oneMinute_92 (by decide) ?_
          exact ih _
      · refine hk_iconst (v := 0) dX10_oneMinute_70 (by decide) ?_
        refine hk_goto (tgt := 88) dX10_oneMinute_71 (by decide) ?_
        refine st_eq (v := nI (gk (X 55 i) 1 st)) ?_ ?_
        · rw [← hcl]
          unfold cl
          first
          | rw [if_pos (Int32.not_le.mp c67)]
          | rw [if_neg (Int32.not_lt.mpr c67), if_pos c78]
          | rw [if_neg (Int32.not_lt.mpr c67), if_neg c78]
        refine hk_isn dX10_oneMinute_88 (by decide) (fun _ => rfl) rfl (by omega) (by decide) ?_
        rw [show gk (X 55 i) 1 st = gk (X 55 i) 1 (X 53 i).toNatClampNeg by rw [k5, nI_clamp (by omega)], spR_s]
        refine hk_iinc (v := nI (i + 1)) dX10_oneMinute_89 rfl (nI_1 i) (by decide) rfl ?_
        refine hk_goto (tgt := 2) dX10_oneMinute_92 (by decide) ?_
        exact ih _
termination_by nK - i
decreasing_by all_goals omega
set_option maxRecDepth 20000 in
set_option maxHeartbeats 2000000 in
theorem md_one (hK30 : nK ≤ 30) (hD12 : nD ≤ 12) {u : Nat} (hu : u + 1 < 1000000) (hN : X 37 26 = nI nK) (h0 : X 37 0 = nI u) (hR : RelA nC nK nD u C X) : hk_Ct MX10_oneMinute 1 0 0 [.ref 37] (hk_h L X) (fun r h => r = none ∧ ∃ X1, h = hk_h L X1 ∧ MIN nC nK nD u C X X1) := by
  refine hk_ofWP (by decide) (by simp [Value.category]) (Nat.le_of_ble_eq_true rfl) ?_
  show hk_WP _ _ _ _ _ _ _ [some (.ref 37), none, none] [] _ _
  refine hk_iconst (v := 0) dX10_oneMinute_0 (by decide) ?_
  refine hk_istore_n dX10_oneMinute_1 rfl (by decide) rfl ?_
  have hx := lp_one1 (L := L) hK30 hD12 hu hN h0 hR 0 (Nat.zero_le _) none
  rw [spR_0] at hx
  exact hx
set_option maxRecDepth 20000 in
set_option maxHeartbeats 2000000 in
theorem lp_minr (hK30 : nK ≤ 30) (hD12 : nD ≤ 12) {X0 CF : Nat → Nat → Int32} {d v : Nat} (hd : d ≤ 2000) (hv : v < 1000000) (hN : X0 37 26 = nI nK) (i : Nat) (hi : i ≤ d) : ∀ (C X : Nat → Nat → Int32) (u : Nat), u + (d - i) = v → tk nK C u (d - i) = CF → RelA nC nK nD u C X → (∀ a, a ∉ [37, 53, 55, 64, 65] → X a = X0 a) → (∀ j, j ≠ 0 → X 37 j = X0 37 j) → X 37 0 = nI u → hk_WP MX10_minutes 2 0 0 0 0 26 [some (.ref 37), some (.int (nI d)), some (.int (nI i))] [] (hk_h L X) (fun r h => r = some (.int (nI v)) ∧ ∃ X1, h = hk_h L X1 ∧ RelA nC nK nD v (CF) X1 ∧ (∀ a, a ∉ [37, 53, 55, 64, 65] → X1 a = X0 a) ∧ (∀ j, j ≠ 0 → X1 37 j = X0 37 j) ∧ X1 37 0 = nI v) := by
  intro C X u huv hC hR hf hf37 h0
  refine hk_iload_n dX10_minutes_26 rfl rfl ?_
  refine hk_iload_n dX10_minutes_27 rfl rfl ?_
  refine hk_icmp_ge (tgt := 41) dX10_minutes_28 (by decide) (fun c28 => ?_) (fun c28 => ?_)
  · rw [nI_leI (by omega) (by omega)] at c28
    refine hk_aload_n dX10_minutes_41 rfl rfl ?_
    refine gfX10_194 rfl dX10_minutes_42 (hk_lt (by decide)) rfl rfl ?_
    rw [h0]
    exact hk_ireturn dX10_minutes_45 rfl rfl (by decide) ⟨by rw [show u = v by omega], X, rfl, by rw [← hC, show d - i = 0 by omega, show v = u by omega]; exact hR, hf, hf37, by rw [h0, show u = v by omega]⟩
  · rw [nI_leI (by omega) (by omega)] at c28
    have hlt : i < d := by omega
    have ih := lp_minr hK30 hD12 (CF := CF) hd hv hN (i + 1) hlt
    refine hk_aload_n dX10_minutes_31 rfl rfl ?_
    refine ivX10_386 rfl (md_one hK30 hD12 (by omega) (by rw [hf37 26 (by decide)]; exact hN) h0 hR) dX10_minutes_32 (hk_lt (by decide)) rfl rfl rfl (by decide) ⟨by decide, by decide⟩ (Nat.le_of_ble_eq_true rfl) (fun r h1 hq => ?_)
    obtain ⟨rfl, X1, rfl, r1, r2, r3, r4⟩ := hq
    refine hk_iinc (v := nI (i + 1)) dX10_minutes_35 rfl (nI_1 i) (by decide) rfl ?_
    refine hk_goto (tgt := 26) dX10_minutes_38 (by decide) ?_
    refine ih (tick nK C (u + 1)) X1 (u + 1) (by omega) ?_ r1 (fun a ha => (r2 a ha).trans (hf a ha)) (fun j hj => (r3 j hj).trans (hf37 j hj)) r4
    rw [← hC, show d - i = (d - (i + 1)) + 1 by omega]
    rfl
termination_by d - i
decreasing_by all_goals omega
set_option maxRecDepth 20000 in
set_option maxHeartbeats 2000000 in
theorem md_min_no {u : Nat} (hu : m 37 0 = nI u) (hu2 : u < 720000) {n : Int32} (hno : ¬ (¬ n < 1 ∧ ¬ 1440 < n ∧ nI u + n < 720000)) : hk_Cd MX10_minutes 2 0 0 [.ref 37, .int n] (hk_h L m) (some (.int (-1))) (hk_h L m) := by
  refine hk_ofWP (by decide) (by simp [Value.category]) (Nat.le_of_ble_eq_true rfl) ?_
  show hk_WP _ _ _ _ _ _ _ [some (.ref 37), some (.int n), none] [] _ _
  refine hk_iload_n dX10_minutes_0 rfl rfl ?_
  refine hk_iconst (v := 1) dX10_minutes_1 (by decide) ?_
  refine hk_sipush (v := 1440) dX10_minutes_2 (by decide) ?_
  refine ivX10_208 rfl (ct_within _ _ _) dX10_minutes_5 rfl rfl (by decide) ⟨by decide, by decide⟩ (Nat.le_of_ble_eq_true rfl) (hk_kd ?_)
  refine hk_if_eq (tgt := 22) dX10_minutes_8 (by decide) (fun c8 => ?_) (fun c8 => ?_)
  · rw [bI_0] at c8
    refine hk_iconst (v := (-1)) dX10_minutes_22 (by decide) ?_
    exact hk_ireturn dX10_minutes_23 rfl rfl (by decide) ⟨rfl, rfl⟩
  · rw [bI_0] at c8
    refine hk_aload_n dX10_minutes_11 rfl rfl ?_
    refine gfX10_194 rfl dX10_minutes_12 (hk_lt (by decide)) rfl rfl ?_
    rw [hu]
    refine hk_iload_n dX10_minutes_15 rfl rfl ?_
    refine hk_iadd dX10_minutes_16 ?_
    refine hk_ldc dX10_minutes_17 hk_k10_207 ?_
    refine hk_icmp_le (tgt := 24) dX10_minutes_19 (by decide) (fun c19 => ?_) (fun c19 => ?_)
    · have hw := Classical.not_not.mp c8
      obtain ⟨j, hj, rfl⟩ : ∃ j : Nat, j < 1441 ∧ n = nI j := hk_dn (fun e => hw.1 (Int32.lt_trans e (by decide))) (fun e => hw.2 (Int32.lt_of_lt_of_le (by decide) e)) (by decide)
      refine absurd ⟨hw.1, hw.2, ?_⟩ hno
      rw [nI_add] at c19 ⊢
      have h3 : u + j ≤ 719999 := (nI_leI (by omega) (by decide)).mp c19
      show nI (u + j) < nI 720000
      exact (nI_ltI (by omega) (by decide)).mpr (by omega)
    · refine hk_iconst (v := (-1)) dX10_minutes_22 (by decide) ?_
      exact hk_ireturn dX10_minutes_23 rfl rfl (by decide) ⟨rfl, rfl⟩
set_option maxRecDepth 20000 in
set_option maxHeartbeats 2000000 in
theorem md_min (hK30 : nK ≤ 30) (hD12 : nD ≤ 12) {X0 : Nat → Nat → Int32} {u d : Nat} (hd1 : 1 ≤ d) (hd2 : d ≤ 1440) (hv : u + d < 720000) (hN : X0 37 26 = nI nK) (h0 : X0 37 0 = nI u) (hR : RelA nC nK nD u C X0) : hk_Ct MX10_minutes 2 0 0 [.ref 37, .int (nI d)] (hk_h L X0) (fun r h => r = some (.int (nI (u + d))) ∧ ∃ X1, h = hk_h L X1 ∧ RelA nC nK nD (u + d) (tk nK C u d) X1 ∧ (∀ a, a ∉ [37, 53, 55, 64, 65] → X1 a = X0 a) ∧ (∀ j, j ≠ 0 → X1 37 j = X0 37 j) ∧ X1 37 0 = nI (u + d)) := by
  refine hk_ofWP (by decide) (by simp [Value.category]) (Nat.le_of_ble_eq_true rfl) ?_
  show hk_WP _ _ _ _ _ _ _ [some (.ref 37), some (.int (nI d)), none] [] _ _
  refine hk_iload_n dX10_minutes_0 rfl rfl ?_
  refine hk_iconst (v := 1) dX10_minutes_1 (by decide) ?_
  refine hk_sipush (v := 1440) dX10_minutes_2 (by decide) ?_
  refine ivX10_208 rfl (ct_within _ _ _) dX10_minutes_5 rfl rfl (by decide) ⟨by decide, by decide⟩ (Nat.le_of_ble_eq_true rfl) (hk_kd ?_)
  refine hk_if_eq (tgt := 22) dX10_minutes_8 (by decide) (fun c8 => absurd c8 (fun e => bI_0.mp e ⟨show ¬ nI d < nI 1 by rw [nI_ltI (by omega) (by decide)]; omega, show ¬ nI 1440 < nI d by rw [nI_ltI (by decide) (by omega)]; omega⟩)) (fun _ => ?_)
  refine hk_aload_n dX10_minutes_11 rfl rfl ?_
  refine gfX10_194 rfl dX10_minutes_12 (hk_lt (by decide)) rfl rfl ?_
  rw [h0]
  refine hk_iload_n dX10_minutes_15 rfl rfl ?_
  refine hk_iadd dX10_minutes_16 ?_
  rw [nI_add]
  refine hk_ldc dX10_minutes_17 hk_k10_207 ?_
  refine hk_icmp_le (tgt := 24) dX10_minutes_19 (by decide) (fun _ => ?_) (fun c19 => absurd (show nI (u + d) ≤ nI 719999 by rw [nI_leI (by omega) (by decide)]; omega) c19)
  refine hk_iconst (v := 0) dX10_minutes_24 (by decide) ?_
  refine hk_istore_n dX10_minutes_25 rfl (by decide) rfl ?_
  exact lp_minr (L := L) hK30 hD12 (by omega) (by omega) hN 0 (Nat.zero_le _) C X0 u (by omega) rfl hR (fun _ _ => rfl) (fun _ _ => rfl) h0
end CPy
