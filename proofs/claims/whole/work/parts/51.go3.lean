/-! go: both -/
section GVx
variable {L nC nS nK nD : Nat} {m m0 m1 m2 : Nat → Nat → Int32} {z : Nat → Nat}
theorem GCo_row {now c : Nat} {t pl ho st lo sta co th go sd t' sta' co' th' go' : Nat → Int32} (h : GCo nC nK nD now t pl ho st lo sta co th go sd) (hc : c < nK) (hK : nK ≤ 30)
    (ht : ∀ x k, x ≠ c → k < 8 → t' (x * 8 + k) = t (x * 8 + k)) (hm : ∀ x, x ≠ c → sta' x = sta x ∧ co' x = co x ∧ th' x = th x ∧ go' x = go x)
    (r2 : t' (c * 8 + 2) = t (c * 8 + 2)) (r5 : t' (c * 8 + 5) = t (c * 8 + 5)) (r6 : t' (c * 8 + 6) = t (c * 8 + 6)) (r7 : t' (c * 8 + 7) = t (c * 8 + 7))
    (r0 : t' (c * 8) = sta' c) (r1 : t' (c * 8 + 1) = co' c) {g tc : Nat} (hg : sta' c = nI g) (hg4 : g ≤ 4) (hcc : co' c = nI tc) (htc : tc < nC)
    (d1 : g = 2 ∨ g = 3 → t' (c * 8 + 3) = th' c ∧ ∃ u : Nat, th' c = nI u ∧ now < u ∧ u < 1000000) (d2 : ¬ (g = 2 ∨ g = 3) → t' (c * 8 + 3) = -1)
    (d3 : g = 1 → ∃ s : Nat, s < nD ∧ t' (c * 8 + 4) = nI s ∧ co' c = sd (s * 13)) (d4 : g = 2 → t' (c * 8 + 4) = go' c ∧ (go' c = -1 ∨ ∃ s : Nat, s < nD ∧ go' c = nI s ∧ co' c = sd (s * 13)))
    (d5 : ¬ (g = 1 ∨ g = 2) → t' (c * 8 + 4) = -1) : GCo nC nK nD now t' pl ho st lo sta' co' th' go' sd := by
  have hb : ∀ k, k ≤ 4 → (sta' c = nI k ↔ g = k) := fun k hk => by rw [hg, nI_eq (by omega) (by omega)]
  refine GCo_set h hc (Or.inl rfl) ht (fun x hx => ?_) ?_
  · obtain ⟨h1, h2, h3, h4⟩ := hm x hx
    exact ⟨rfl, rfl, rfl, rfl, h1, h2, h3, h4⟩
  · obtain ⟨e1, e2, e3, e4, e5, e6, ⟨g0, a0, s0, h0, k1, k2, k3, k4, k5, k6, k7, k8⟩, _⟩ := h.1 c hc
    rw [r2, r5, r6, r7]
    refine ⟨r0, r1, e3, e4, e5, e6, ⟨g, tc, s0, h0, hg, hg4, hcc, htc, k5, k6, k7, k8⟩, fun q => ?_, fun q => ?_, fun q => ?_, fun q => ?_, fun q => ?_⟩
    · exact d1 (q.elim (fun q => Or.inl ((hb 2 (by decide)).mp q)) (fun q => Or.inr ((hb 3 (by decide)).mp q)))
    · exact d2 (fun q2 => q (q2.elim (fun q => Or.inl ((hb 2 (by decide)).mpr q)) (fun q => Or.inr ((hb 3 (by decide)).mpr q))))
    · exact d3 ((hb 1 (by decide)).mp q)
    · exact d4 ((hb 2 (by decide)).mp q)
    · exact d5 (fun q2 => q (q2.elim (fun q => Or.inl ((hb 1 (by decide)).mpr q)) (fun q => Or.inr ((hb 2 (by decide)).mpr q))))
/-- how a coach leaves, by both -/
def LVP (L nC nK nD : Nat) (m : Nat → Nat → Int32) (c : Nat) (LVc LVr : (Nat → Nat → Int32) → Nat → Nat → Int32) : Prop :=
  (∀ M a, a ≠ 14 → LVc M a = M a) ∧ (∀ M a, a ≠ 64 → a ≠ 65 → LVr M a = M a) ∧ (∀ M, M 14 = m 14 → LVc M 14 = LVc m 14) ∧ (∀ M, M 64 = m 64 → M 65 = m 65 → LVr M 64 = LVr m 64 ∧ LVr M 65 = LVr m 65) ∧
  (∀ s, s < nD → LVc m 14 (s * 13) = m 14 (s * 13)) ∧
  (∀ ct' : Nat → Int32, ¬ ct' (c * 8) = 1 → (∀ x, x < nK → x ≠ c → ct' (x * 8) = m 10 (x * 8) ∧ ct' (x * 8 + 4) = m 10 (x * 8 + 4)) → GSt nC nK nD (LVc m 14) (m 62) (m 63) (LVr m 64) (LVr m 65) ct') ∧
  (∀ M, M 9 = m 9 → M 13 = m 13 → M 10 = m 10 → M 14 = m 14 → M 64 = m 64 → M 65 = m 65 → hk_Cd MX2_leaveRow 3 0 0 [.ref 8, .int (nI c)] (hk_h L M) none (hk_h L (LVc M))) ∧
  (∀ M, M 37 35 = m 37 35 → M 64 = m 64 → M 65 = m 65 → hk_Cd MX10_leaveRow 1 0 0 [.ref 37, .int (nI c)] (hk_h L M) none (hk_h L (LVr M)))
theorem so_c {M : Nat → Nat → Int32} (e1 : M 64 = m 64) (e2 : M 65 = m 65) (c : Int32) : so M nD c = so m nD c := by
  unfold so inRow; rw [e1, e2]
theorem LVP_of (hI : Inv L z m) {c : Nat} (hc : c < z 2) : ∃ LVc LVr, LVP L (z 0) (z 2) (z 3) m c LVc LVr := by
  obtain ⟨g0, ⟨⟨a0, a1, a2, a3, a4, a5, a6, a7, a8, a9, a10, a11, a12, a13⟩, ⟨b0, b1, b2, b3, b4, b5, b6, b7, b8, b9, b10, b11, b12⟩, ⟨c0, c1, c2, c3, c4, c5, c6, c7, c8, c9, c10, c11, c12⟩⟩, g2, g3, g4, g5, g6, g7, g8, g9, g10, g11, g12, g13, g14⟩ := id hI
  by_cases h1 : m 10 (c * 8) = 1
  · obtain ⟨s, p, q, hF⟩ := FND.of g5 g7 hc h1
    obtain ⟨f1, f2, f3, f4, f5, f6, f7, f8, f9, f10⟩ := id hF
    have hso := (so_in g5 g7 c2 c3 hc h1).1.trans f3
    refine ⟨fun M => hk_w (mK M 14 (s * 13 + 3) p q) 14 (s * 13 + 2) (nI (q - 1)), fun M => hk_w (mK M 64 (10 * s) p q) 65 s (nI (q - 1)), fun M a h => ?_, fun M a h h' => ?_, fun M h => ?_, fun M h h' => ⟨?_, ?_⟩, fun x hx => ?_, fun ct' k1 k2 => ?_, fun M h9 h13 h10 h14 h64 h65 => ?_, fun M h37 h64 h65 => ?_⟩
    · show hk_w (mK M 14 (s * 13 + 3) p q) 14 (s * 13 + 2) (nI (q - 1)) a = M a
      rw [hk_wo h, mK_ne h]
    · show hk_w (mK M 64 (10 * s) p q) 65 s (nI (q - 1)) a = M a
      rw [hk_wo h', mK_ne h]
    · show hk_w (mK M 14 (s * 13 + 3) p q) 14 (s * 13 + 2) (nI (q - 1)) 14 = hk_w (mK m 14 (s * 13 + 3) p q) 14 (s * 13 + 2) (nI (q - 1)) 14
      rw [hk_wt, hk_wt, mK_at, mK_at, h]
    · show hk_w (mK M 64 (10 * s) p q) 65 s (nI (q - 1)) 64 = hk_w (mK m 64 (10 * s) p q) 65 s (nI (q - 1)) 64
      rw [hk_wo (by decide), hk_wo (by decide), mK_at, mK_at, h]
    · show hk_w (mK M 64 (10 * s) p q) 65 s (nI (q - 1)) 65 = hk_w (mK m 64 (10 * s) p q) 65 s (nI (q - 1)) 65
      rw [hk_wt, hk_wt, mK_ne (by decide), mK_ne (by decide), h']
    · show hk_w (mK m 14 (s * 13 + 3) p q) 14 (s * 13 + 2) (nI (q - 1)) 14 (x * 13) = m 14 (x * 13)
      rw [hk_w_off (by omega), mK_at]
      exact if_neg (by omega)
    · show GSt (z 0) (z 2) (z 3) (hk_w (mK m 14 (s * 13 + 3) p q) 14 (s * 13 + 2) (nI (q - 1)) 14) (m 62) (m 63) (hk_w (mK m 64 (10 * s) p q) 65 s (nI (q - 1)) 64) (hk_w (mK m 64 (10 * s) p q) 65 s (nI (q - 1)) 65) ct'
      rw [hk_wt, hk_wt, hk_wo (by decide), mK_at, mK_at, mK_ne (by decide)]
      exact GSt_out g7 c2 c3 hc hF k1 k2
    · refine ct_leaveRow_in (nD := z 3) (by rw [h9]; exact a2) c2 (by rw [h13]; exact a3) c3 hc ?_
      unfold FND; rw [h10, h14, h64, h65]; exact hF
    · refine md_leaveRow_in (nD := z 3) (by rw [h37]; exact b3) c3 (by rw [h65]; exact g7.q) (by omega) ?_ ?_
      · unfold FNR; rw [h64, h65]; exact hF.r
      · rw [so_c h64 h65]; exact hso
  · refine ⟨fun M => M, fun M => M, fun M a h => rfl, fun M a h h' => rfl, fun M h => h, fun M h h' => ⟨h, h'⟩, fun x hx => rfl, fun ct' k1 k2 => GSt_ct g7 c2 h1 k1 k2, fun M h9 h13 h10 h14 h64 h65 => ?_, fun M h37 h64 h65 => ?_⟩
    · exact ct_leaveRow_no (by rw [h9]; exact a2) c2 hc (by rw [h10]; exact h1)
    · exact md_leaveRow_no (nD := z 3) (by rw [h37]; exact b3) c3 (by rw [h65]; exact g7.q) (by rw [so_c h64 h65]; exact so_out g7 c2 hc h1)
/-- how a coach that goes arrives, by both -/
def ARP (L nC nK nD now : Nat) (m : Nat → Nat → Int32) (c : Nat) (cc st : Int32) (t f14 f64 f65 : Nat → Int32) (ARc ARr : (Nat → Nat → Int32) → Nat → Nat → Int32) : Prop :=
  (∀ M a, a ≠ 10 → a ≠ 14 → ARc M a = M a) ∧ (∀ M a, a ≠ 55 → a ≠ 64 → a ≠ 65 → ARr M a = M a) ∧
  (∃ X10 X14 X55 X64 X65 : Nat → Int32, (∀ M, M 10 = t → M 14 = f14 → ARc M 10 = X10 ∧ ARc M 14 = X14) ∧ (∀ M, M 55 = m 55 → M 64 = f64 → M 65 = f65 → ARr M 55 = X55 ∧ ARr M 64 = X64 ∧ ARr M 65 = X65) ∧
    (∀ co' th' go' : Nat → Int32, (∀ x, x ≠ c → co' x = m 56 x ∧ th' x = m 57 x ∧ go' x = m 58 x) → co' c = cc → GCo nC nK nD now X10 (m 51) (m 52) (m 53) (m 54) X55 co' th' go' X14) ∧ GSt nC nK nD X14 (m 62) (m 63) X64 X65 X10 ∧ ¬ (X55 c = 2 ∨ X55 c = 3) ∧ ∀ x, x ≠ c → X55 x = m 55 x ∧ ∀ k, k < 8 → X10 (x * 8 + k) = t (x * 8 + k)) ∧
  (∀ M, M 9 = m 9 → M 13 = m 13 → M 10 = t → M 14 = f14 → hk_Cd MX2_arrive 4 0 0 [.ref 8, .int (nI c)] (hk_h L M) none (hk_h L (ARc M))) ∧
  (∀ M, M 58 c = st → M 63 = m 63 → M 64 = f64 → M 65 = f65 → hk_Cd MX10_arrive 0 0 0 [.ref 37, .int (nI c)] (hk_h L M) none (hk_h L (ARr M)))
theorem ARP_of {now c s tc : Nat} {cc st : Int32} {t f14 f64 f65 : Nat → Int32} (hK : m 9 3 = nI nK) (hK30 : nK ≤ 30) (hD : m 13 3 = nI nD) (hD12 : nD ≤ 12) (hc : c < nK) (g5 : GCo nC nK nD now (m 10) (m 51) (m 52) (m 53) (m 54) (m 55) (m 56) (m 57) (m 58) (m 14))
    (g7 : GSt nC nK nD f14 (m 62) (m 63) f64 f65 t) (hsd : ∀ s, s < nD → f14 (s * 13) = m 14 (s * 13)) (hcc : cc = nI tc) (htc : tc < nC) (hst : st = -1 ∨ (st = nI s ∧ s < nD ∧ cc = m 14 (s * 13)))
    (t0 : t (c * 8) = 2) (t1 : t (c * 8 + 1) = cc) (t4 : t (c * 8 + 4) = st) (to : ∀ x k, x ≠ c → k < 8 → t (x * 8 + k) = m 10 (x * 8 + k)) (r2 : t (c * 8 + 2) = m 10 (c * 8 + 2)) (r5 : t (c * 8 + 5) = m 10 (c * 8 + 5)) (r6 : t (c * 8 + 6) = m 10 (c * 8 + 6)) (r7 : t (c * 8 + 7) = m 10 (c * 8 + 7)) :
    ∃ ARc ARr, ARP L nC nK nD now m c cc st t f14 f64 f65 ARc ARr := by
  have n3 : ¬ t (c * 8 + 0) = 3 := by rw [Nat.add_zero, t0]; decide
  have ne1 : ¬ t (c * 8) = 1 := by rw [t0]; decide
  have hX : ∀ (d s1 : Int32) (x k : Nat), x ≠ c → k < 8 → upd (upd (upd t (c * 8 + 0) d) (c * 8 + 4) s1) (c * 8 + 3) (-1) (x * 8 + k) = t (x * 8 + k) := by
    intro d s1 x k hx hk
    unfold upd
    rw [if_neg (by omega), if_neg (by omega), if_neg (by omega)]
  have hXc : ∀ (d s1 : Int32) (k : Nat), k ≠ 0 → k ≠ 4 → k ≠ 3 → upd (upd (upd t (c * 8 + 0) d) (c * 8 + 4) s1) (c * 8 + 3) (-1) (c * 8 + k) = t (c * 8 + k) := by
    intro d s1 k h0 h4 h3
    unfold upd
    rw [if_neg (by omega), if_neg (by omega), if_neg (by omega)]
  have hX0 : ∀ (d s1 : Int32), upd (upd (upd t (c * 8 + 0) d) (c * 8 + 4) s1) (c * 8 + 3) (-1) (c * 8) = d := by
    intro d s1
    unfold upd
    rw [if_neg (by omega), if_neg (by omega), if_pos (by omega)]
  have hX4 : ∀ (d s1 : Int32), upd (upd (upd t (c * 8 + 0) d) (c * 8 + 4) s1) (c * 8 + 3) (-1) (c * 8 + 4) = s1 := by
    intro d s1
    unfold upd
    rw [if_neg (by omega), if_pos rfl]
  have hX3 : ∀ (d s1 : Int32), upd (upd (upd t (c * 8 + 0) d) (c * 8 + 4) s1) (c * 8 + 3) (-1) (c * 8 + 3) = -1 := by
    intro d s1
    unfold upd
    rw [if_pos rfl]
  have hco : ∀ (g : Nat) (s1 : Int32) (sd co' th' go' : Nat → Int32), g ≤ 4 → ¬ (g = 2 ∨ g = 3) → (g = 1 → ∃ s : Nat, s < nD ∧ s1 = nI s ∧ cc = m 14 (s * 13)) → (¬ g = 1 → s1 = -1) → (∀ s, s < nD → sd (s * 13) = m 14 (s * 13)) → (∀ x, x ≠ c → co' x = m 56 x ∧ th' x = m 57 x ∧ go' x = m 58 x) → co' c = cc →
      GCo nC nK nD now (upd (upd (upd t (c * 8 + 0) (nI g)) (c * 8 + 4) s1) (c * 8 + 3) (-1)) (m 51) (m 52) (m 53) (m 54) (upd (m 55) c (nI g)) co' th' go' sd := by
    intro g s1 sd co' th' go' hg hg2 hs1 hs2 hsd' hx he
    have eu : upd (m 55) c (nI g) c = nI g := if_pos rfl
    refine GCo_row (g := g) (tc := tc) (GCo_sd g5 hsd') hc hK30 (fun x k hx hk => (hX _ _ x k hx hk).trans (to x k hx hk)) (fun x hxc => ⟨if_neg hxc, hx x hxc⟩) ((hXc _ _ 2 (by decide) (by decide) (by decide)).trans r2) ((hXc _ _ 5 (by decide) (by decide) (by decide)).trans r5) ((hXc _ _ 6 (by decide) (by decide) (by decide)).trans r6) ((hXc _ _ 7 (by decide) (by decide) (by decide)).trans r7)
      (by rw [hX0, eu]) (by rw [hXc _ _ 1 (by decide) (by decide) (by decide), t1, he]) eu hg (he.trans hcc) htc (fun q => absurd q hg2) (fun _ => hX3 _ _) (fun q => ?_) (fun q => absurd (Or.inl q) hg2) (fun q => ?_)
    · obtain ⟨s', k1, k2, k3⟩ := hs1 q
      exact ⟨s', k1, by rw [hX4]; exact k2, by rw [he, hsd' s' k1]; exact k3⟩
    · rw [hX4]; exact hs2 (fun e => q (Or.inl e))
  have hctn : ∀ (g : Nat) (s1 : Int32), g ≤ 4 → g ≠ 1 → GSt nC nK nD f14 (m 62) (m 63) f64 f65 (upd (upd (upd t (c * 8 + 0) (nI g)) (c * 8 + 4) s1) (c * 8 + 3) (-1)) := by
    intro g s1 hg hg1
    refine GSt_ct g7 hK30 ne1 (by rw [hX0, show (1 : Int32) = nI 1 from rfl, nI_eq (by omega) (by omega)]; exact hg1) (fun x hx hxc => ⟨hX _ _ x 0 hxc (by decide), hX _ _ x 4 hxc (by decide)⟩)
  rcases hst with hst | ⟨hst, hs, hcs⟩
  · refine ⟨fun M => stl M c 0 (-1), fun M => hk_w M 55 c 0, fun M a h _ => ?_, fun M a h _ _ => hk_wo h, ⟨upd (upd (upd t (c * 8 + 0) (nI 0)) (c * 8 + 4) (-1)) (c * 8 + 3) (-1), f14, upd (m 55) c (nI 0), f64, f65, fun M h h' => ⟨?_, ?_⟩, fun M h h' h'' => ⟨?_, ?_, ?_⟩, fun co' th' go' h h' => ?_, hctn 0 _ (by decide) (by decide), ?_, fun x hx => ⟨if_neg hx, fun k hk => hX _ _ x k hx hk⟩⟩, fun M h9 h13 h10 h14 => ?_, fun M h58 h63 h64 h65 => ?_⟩
    · show stl M c 0 (-1) a = M a
      unfold stl; rw [hk_wo h, hk_wo h, hk_wo h]
    · show stl M c 0 (-1) 10 = _
      unfold stl; rw [hk_wt, hk_wt, hk_wt, h]; rfl
    · show stl M c 0 (-1) 14 = _
      unfold stl; rw [hk_wo (by decide), hk_wo (by decide), hk_wo (by decide), h']
    · show hk_w M 55 c 0 55 = _
      rw [hk_wt, h]; rfl
    · show hk_w M 55 c 0 64 = _
      rw [hk_wo (by decide), h']
    · show hk_w M 55 c 0 65 = _
      rw [hk_wo (by decide), h'']
    · exact hco 0 (-1) f14 co' th' go' (by decide) (by decide) (fun q => absurd q (by decide)) (fun _ => rfl) hsd h h'
    · rw [show upd (m 55) c (nI 0) c = nI 0 from if_pos rfl]; decide
    · exact ct_arrive_0 (by rw [h9]; exact hK) hK30 (by rw [h13]; exact hD) hD12 hc (by rw [h10]; exact n3) (by rw [h10, t4, hst]; decide)
    · exact md_arrive_0 (by omega) (by rw [h58, hst]; decide)
  · obtain ⟨e1, e2, e3, a, p, q, g1, g2, g3, g4, g5', g6, g7', g8, g9, g10⟩ := g7.1 s hs
    by_cases hqp : q = p
    · refine ⟨fun M => stl M c 4 (-1), fun M => hk_w M 55 c 4, fun M a h _ => ?_, fun M a h _ _ => hk_wo h, ⟨upd (upd (upd t (c * 8 + 0) (nI 4)) (c * 8 + 4) (-1)) (c * 8 + 3) (-1), f14, upd (m 55) c (nI 4), f64, f65, fun M h h' => ⟨?_, ?_⟩, fun M h h' h'' => ⟨?_, ?_, ?_⟩, fun co' th' go' h h' => ?_, hctn 4 _ (by decide) (by decide), ?_, fun x hx => ⟨if_neg hx, fun k hk => hX _ _ x k hx hk⟩⟩, fun M h9 h13 h10 h14 => ?_, fun M h58 h63 h64 h65 => ?_⟩
      · show stl M c 4 (-1) a = M a
        unfold stl; rw [hk_wo h, hk_wo h, hk_wo h]
      · show stl M c 4 (-1) 10 = _
        unfold stl; rw [hk_wt, hk_wt, hk_wt, h]; rfl
      · show stl M c 4 (-1) 14 = _
        unfold stl; rw [hk_wo (by decide), hk_wo (by decide), hk_wo (by decide), h']
      · show hk_w M 55 c 4 55 = _
        rw [hk_wt, h]; rfl
      · show hk_w M 55 c 4 64 = _
        rw [hk_wo (by decide), h']
      · show hk_w M 55 c 4 65 = _
        rw [hk_wo (by decide), h'']
      · exact hco 4 (-1) f14 co' th' go' (by decide) (by decide) (fun q => absurd q (by decide)) (fun _ => rfl) hsd h h'
      · rw [show upd (m 55) c (nI 4) c = nI 4 from if_pos rfl]; decide
      · exact ct_arrive_4 (s := s) (p := p) (q := q) (by rw [h9]; exact hK) hK30 (by rw [h13]; exact hD) hD12 hc (by rw [h10]; exact n3) hs (by rw [h10, t4, hst]) (by rw [h14]; exact e2.trans g3) (by rw [h14]; exact e3.trans g6) g5' hqp
      · exact md_arrive_4 (s := s) (p := p) (q := q) (by omega) (by omega) (by rw [h58, hst]) (by rw [h63]; exact g3) (by rw [h65]; exact g6) g5' hqp
    · have hlt : q < p := by omega
      refine ⟨fun M => stl (rin M 14 (s * 13) (3 + q) 14 (s * 13 + 2) (nI c) q) c 1 (nI s), fun M => rin (hk_w M 55 c 1) 64 (10 * s) q 65 s (nI c) q, fun M a h h' => ?_, fun M a h h' h'' => ?_, ⟨upd (upd (upd t (c * 8 + 0) (nI 1)) (c * 8 + 4) (nI s)) (c * 8 + 3) (-1), upd (upd f14 (s * 13 + (3 + q)) (nI c)) (s * 13 + 2) (nI (q + 1)), upd (m 55) c (nI 1), upd f64 (10 * s + q) (nI c), upd f65 s (nI (q + 1)), fun M h h' => ⟨?_, ?_⟩, fun M h h' h'' => ⟨?_, ?_, ?_⟩, fun co' th' go' h h' => ?_, ?_, ?_, fun x hx => ⟨if_neg hx, fun k hk => hX _ _ x k hx hk⟩⟩, fun M h9 h13 h10 h14 => ?_, fun M h58 h63 h64 h65 => ?_⟩
      · show stl (rin M 14 (s * 13) (3 + q) 14 (s * 13 + 2) (nI c) q) c 1 (nI s) a = M a
        unfold stl rin; rw [hk_wo h, hk_wo h, hk_wo h, hk_wo h', hk_wo h']
      · show rin (hk_w M 55 c 1) 64 (10 * s) q 65 s (nI c) q a = M a
        unfold rin; rw [hk_wo h'', hk_wo h', hk_wo h]
      · show stl (rin M 14 (s * 13) (3 + q) 14 (s * 13 + 2) (nI c) q) c 1 (nI s) 10 = _
        unfold stl rin; rw [hk_wt, hk_wt, hk_wt, hk_wo (by decide), hk_wo (by decide), h]; rfl
      · show stl (rin M 14 (s * 13) (3 + q) 14 (s * 13 + 2) (nI c) q) c 1 (nI s) 14 = _
        unfold stl rin; rw [hk_wo (by decide), hk_wo (by decide), hk_wo (by decide), hk_wt, hk_wt, h']
      · show rin (hk_w M 55 c 1) 64 (10 * s) q 65 s (nI c) q 55 = _
        unfold rin; rw [hk_wo (by decide), hk_wo (by decide), hk_wt, h]; rfl
      · show rin (hk_w M 55 c 1) 64 (10 * s) q 65 s (nI c) q 64 = _
        unfold rin; rw [hk_wo (by decide), hk_wt, hk_wo (by decide), h']
      · show rin (hk_w M 55 c 1) 64 (10 * s) q 65 s (nI c) q 65 = _
        unfold rin; rw [hk_wt, hk_wo (by decide), hk_wo (by decide), h'']
      · refine hco 1 (nI s) _ co' th' go' (by decide) (by decide) (fun _ => ⟨s, hs, rfl, hcs⟩) (fun q => absurd rfl q) (fun x hx => ?_) h h'
        rw [← hsd x hx]
        unfold upd
        rw [if_neg (by omega), if_neg (by omega)]
      · exact GSt_in g7 hK30 hD12 hc hs ne1 (e2.trans g3) (e3.trans g6) hlt g5' (hX0 _ _) (hX4 _ _) (fun x hx hxc => ⟨hX _ _ x 0 hxc (by decide), hX _ _ x 4 hxc (by decide)⟩)
      · rw [show upd (m 55) c (nI 1) c = nI 1 from if_pos rfl]; decide
      · exact ct_arrive_1 (s := s) (p := p) (q := q) (by rw [h9]; exact hK) hK30 (by rw [h13]; exact hD) hD12 hc (by rw [h10]; exact n3) hs (by rw [h10, t4, hst]) (by rw [h14]; exact e2.trans g3) (by rw [h14]; exact e3.trans g6) g5' hlt
      · exact md_arrive_1 (s := s) (p := p) (q := q) (by omega) (by omega) (by rw [h58, hst]) (by rw [h63]; exact g3) (by rw [h65]; exact g6) g5' hlt
end GVx
