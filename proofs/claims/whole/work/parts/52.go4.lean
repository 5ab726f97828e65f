/-! go: both -/
section GUx
variable {L nC nS nK nD : Nat} {m m0 m1 m2 : Nat → Nat → Int32} {z : Nat → Nat}
theorem go_end {F : Nat → Nat → Int32} (hI : Inv L z m) (hF : ∀ q, q ≠ 3 → q ≠ 6 → q ≠ 47 → q ≠ 48 → q ≠ 10 → q ≠ 14 → q ≠ 55 → q ≠ 56 → q ≠ 57 → q ≠ 58 → q ≠ 64 → q ≠ 65 → F q = m q) (h3 : ∀ j, j % 13 ≠ 3 → F 3 j = m 3 j)
    (hco : GCo (z 0) (z 2) (z 3) (z 8) (F 10) (m 51) (m 52) (m 53) (m 54) (F 55) (F 56) (F 57) (F 58) (F 14)) (hst : GSt (z 0) (z 2) (z 3) (F 14) (m 62) (m 63) (F 64) (F 65) (F 10)) : Inv L (up z 8 (z 8)) F := by
  obtain ⟨g0, ⟨⟨a0, a1, a2, a3, a4, a5, a6, a7, a8, a9, a10, a11, a12, a13⟩, ⟨b0, b1, b2, b3, b4, b5, b6, b7, b8, b9, b10, b11, b12⟩, ⟨c0, c1, c2, c3, c4, c5, c6, c7, c8, c9, c10, c11, c12⟩⟩, g2, g3, g4, g5, g6, g7, g8, g9, g10, g11, g12, g13, g14⟩ := id hI
  refine Inv_co hI c8 (fun a n3 n6 n16 n18 n20 n21 n26 n37 n47 n48 n49 n72 n0 n10 n14 n53 n55 n56 n57 n58 n64 n65 => hF a n3 n6 n47 n48 n10 n14 n55 n56 n57 n58 n64 n65) h3 ?_ (fun j n0 n15 n44 n45 n78 n79 n80 => ?_) ?_ ?_ ?_ ?_
  · rw [hF 16 (by decide) (by decide) (by decide) (by decide) (by decide) (by decide) (by decide) (by decide) (by decide) (by decide) (by decide) (by decide)]
  · rw [hF 37 (by decide) (by decide) (by decide) (by decide) (by decide) (by decide) (by decide) (by decide) (by decide) (by decide) (by decide) (by decide)]
  · rw [hF 0 (by decide) (by decide) (by decide) (by decide) (by decide) (by decide) (by decide) (by decide) (by decide) (by decide) (by decide) (by decide)]; exact a8
  · rw [hF 37 (by decide) (by decide) (by decide) (by decide) (by decide) (by decide) (by decide) (by decide) (by decide) (by decide) (by decide) (by decide)]; exact b8
  · rw [hF 51 (by decide) (by decide) (by decide) (by decide) (by decide) (by decide) (by decide) (by decide) (by decide) (by decide) (by decide) (by decide), hF 52 (by decide) (by decide) (by decide) (by decide) (by decide) (by decide) (by decide) (by decide) (by decide) (by decide) (by decide) (by decide), hF 53 (by decide) (by decide) (by decide) (by decide) (by decide) (by decide) (by decide) (by decide) (by decide) (by decide) (by decide) (by decide), hF 54 (by decide) (by decide) (by decide) (by decide) (by decide) (by decide) (by decide) (by decide) (by decide) (by decide) (by decide) (by decide)]
    exact hco
  · rw [hF 62 (by decide) (by decide) (by decide) (by decide) (by decide) (by decide) (by decide) (by decide) (by decide) (by decide) (by decide) (by decide), hF 63 (by decide) (by decide) (by decide) (by decide) (by decide) (by decide) (by decide) (by decide) (by decide) (by decide) (by decide) (by decide)]
    exact hst
/-- one coach's rows in both, and where it would go -/
theorem go_row (hI : Inv L z m) {c : Nat} (hc : c < z 2) {s : Nat} {st : Int32} (hst : st = -1 ∨ (st = nI s ∧ s < z 3)) :
    m 10 (c * 8) = m 55 c ∧ (m 55 c = 1 → so m (z 3) (nI c) = m 10 (c * 8 + 4)) ∧ ∃ a tc, a < z 0 ∧ tc < z 0 ∧ m 56 c = nI a ∧ m 10 (c * 8 + 1) = nI a ∧ (st < 0 → m 10 (c * 8 + 7) = nI tc ∧ m 52 c = nI tc) ∧ (¬ st < 0 → m 14 (s * 13) = nI tc ∧ m 62 s = nI tc ∧ tg m 13 13 (z 3) st 0 = nI tc) := by
  obtain ⟨g0, ⟨⟨a0, a1, a2, a3, a4, a5, a6, a7, a8, a9, a10, a11, a12, a13⟩, ⟨b0, b1, b2, b3, b4, b5, b6, b7, b8, b9, b10, b11, b12⟩, ⟨c0, c1, c2, c3, c4, c5, c6, c7, c8, c9, c10, c11, c12⟩⟩, g2, g3, g4, g5, g6, g7, g8, g9, g10, g11, g12, g13, g14⟩ := id hI
  obtain ⟨e1, e2, e3, e4, e5, e6, ⟨g, a, s0, h, k1, k2, k3, k4, k5, k6, k7, k8⟩, _⟩ := g5.1 c hc
  refine ⟨e1, fun q => (so_in g5 g7 c2 c3 hc (e1.trans q)).1, ?_⟩
  rcases hst with rfl | ⟨rfl, hs⟩
  · exact ⟨a, h, k4, k8, k3, e2.trans k3, fun _ => ⟨e6.trans k7, k7⟩, fun q => absurd (by decide) q⟩
  · obtain ⟨f1, f2, f3, b, p, q, l1, l2, l3, _⟩ := g7.1 s hs
    refine ⟨a, b, k4, l2, k3, e2.trans k3, fun q => absurd q (nI_pos (by omega)), fun _ => ⟨f1.trans l1, l1, ?_⟩⟩
    rw [tg_in2 (c := 0) (j := 0) rfl (by omega) (by decide) hs (by decide)]
    exact f1.trans l1
theorem sot_at {M : Nat → Nat → Int32} {c : Nat} {d cc s1 a1 : Int32} : sot M c d cc s1 a1 10 = upd (upd (upd (upd (M 10) (c * 8 + 0) d) (c * 8 + 1) cc) (c * 8 + 4) s1) (c * 8 + 3) a1 := rfl
theorem sot_ne {M : Nat → Nat → Int32} {c q : Nat} {d cc s1 a1 : Int32} (h : q ≠ 10) : sot M c d cc s1 a1 q = M q := by
  unfold sot; rw [hk_wo h, hk_wo h, hk_wo h, hk_wo h]
theorem sot_o {M : Nat → Nat → Int32} {c x k : Nat} {d cc s1 a1 : Int32} (hx : x ≠ c) (hk : k < 8) : sot M c d cc s1 a1 10 (x * 8 + k) = M 10 (x * 8 + k) := by
  rw [sot_at]; unfold upd; rw [if_neg (by omega), if_neg (by omega), if_neg (by omega), if_neg (by omega)]
theorem sot_k {M : Nat → Nat → Int32} {c k : Nat} {d cc s1 a1 : Int32} (h0 : k ≠ 0) (h1 : k ≠ 1) (h4 : k ≠ 4) (h3 : k ≠ 3) : sot M c d cc s1 a1 10 (c * 8 + k) = M 10 (c * 8 + k) := by
  rw [sot_at]; unfold upd; rw [if_neg (by omega), if_neg (by omega), if_neg (by omega), if_neg (by omega)]
theorem sot_0 {M : Nat → Nat → Int32} {c : Nat} {d cc s1 a1 : Int32} : sot M c d cc s1 a1 10 (c * 8) = d := by
  rw [sot_at]; unfold upd; rw [if_neg (by omega), if_neg (by omega), if_neg (by omega), if_pos (by omega)]
theorem sot_1 {M : Nat → Nat → Int32} {c : Nat} {d cc s1 a1 : Int32} : sot M c d cc s1 a1 10 (c * 8 + 1) = cc := by
  rw [sot_at]; unfold upd; rw [if_neg (by omega), if_neg (by omega), if_pos (by omega)]
theorem sot_4 {M : Nat → Nat → Int32} {c : Nat} {d cc s1 a1 : Int32} : sot M c d cc s1 a1 10 (c * 8 + 4) = s1 := by
  rw [sot_at]; unfold upd; rw [if_neg (by omega), if_pos (by omega)]
theorem sot_3 {M : Nat → Nat → Int32} {c : Nat} {d cc s1 a1 : Int32} : sot M c d cc s1 a1 10 (c * 8 + 3) = a1 := by
  rw [sot_at]; unfold upd; rw [if_pos (by omega)]
theorem op_go (hI : Inv L z m) (c st : Int32) : OpE L m MX9_go MX10_go [.int c, .int st] := by
  obtain ⟨g0, ⟨⟨a0, a1, a2, a3, a4, a5, a6, a7, a8, a9, a10, a11, a12, a13⟩, ⟨b0, b1, b2, b3, b4, b5, b6, b7, b8, b9, b10, b11, b12⟩, ⟨c0, c1, c2, c3, c4, c5, c6, c7, c8, c9, c10, c11, c12⟩⟩, g2, g3, g4, g5, g6, g7, g8, g9, g10, g11, g12, g13, g14⟩ := id hI
  by_cases hno : ¬ inR c (z 2) ∨ st < -1 ∨ ¬ st < nI (z 3)
  · exact OpOK.e ⟨6, 0, 0, 4, -1, L, m, m, z, by decide, by decide, by decide, by decide, ct_go_no hI hno, md_go_no b2 b3 c3 hno, hI⟩
  have hcr : inR c (z 2) := Classical.byContradiction (fun h => hno (Or.inl h))
  have hs1 : ¬ st < -1 := fun h => hno (Or.inr (Or.inl h))
  have hs2 : st < nI (z 3) := Classical.byContradiction (fun h => hno (Or.inr (Or.inr h)))
  obtain ⟨c, hc, rfl⟩ := inR_of hcr (by omega)
  have hst : ∃ s, st = -1 ∨ (st = nI s ∧ s < z 3) := by
    by_cases h0 : st < 0
    · refine ⟨0, Or.inl ?_⟩
      rw [Int32.lt_iff_toInt_lt] at h0 hs1
      apply Int32.toInt_inj.mp
      rw [show ((-1 : Int32)).toInt = -1 from by decide] at hs1 ⊢
      rw [show ((0 : Int32)).toInt = 0 from by decide] at h0
      omega
    · obtain ⟨s, k1, k2⟩ := hk_dn h0 (fun e => Int32.not_le.mpr hs2 e) (by omega)
      exact ⟨s, Or.inr ⟨k2, k1⟩⟩
  obtain ⟨s, hst⟩ := hst
  obtain ⟨e1, hso, a, tc, ha, htc, h56, h10, ht1, ht2⟩ := go_row hI hc hst
  by_cases hms : (m 10 (c * 8) = 2 ∨ m 10 (c * 8) = 3) ∨ (m 10 (c * 8) = 1 ∧ m 10 (c * 8 + 4) = st)
  · refine OpOK.e ⟨6, 0, 0, 4, -3, L, m, m, z, by decide, by decide, by decide, by decide, ct_go_st (tc := 0) (a := 0) hI hc hst hms, md_go_st (tc := 0) (a := 0) (n := 0) hc b2 c2 b3 c3 g7.q hst ?_, hI⟩
    rw [e1] at hms
    exact hms.elim Or.inl (fun ⟨k1, k2⟩ => Or.inr ⟨k1, (hso k1).trans k2⟩)
  have hmv : ¬ (m 10 (c * 8) = 2 ∨ m 10 (c * 8) = 3) := fun h => hms (Or.inl h)
  have hsa : ¬ (m 10 (c * 8) = 1 ∧ m 10 (c * 8 + 4) = st) := fun h => hms (Or.inr h)
  have hmv2 : ¬ (m 55 c = 2 ∨ m 55 c = 3) := by rw [← e1]; exact hmv
  have hsa2 : ¬ (m 55 c = 1 ∧ so m (z 3) (nI c) = st) := fun ⟨k1, k2⟩ => hsa ⟨e1.trans k1, (hso k1).symm.trans k2⟩
  obtain ⟨h1, h2, h3, h4, h5, h6, h7⟩ := Inv_gs hI
  have hgm := GS.gm h4 (nI (z 8)) h5
  by_cases hR : RC (GG m (z 1) (nI (z 8))) tc a
  · obtain ⟨LVc, LVr, l1, l2, l3, l4, l5, l6, l7, l8⟩ := LVP_of hI hc
    obtain ⟨_, yD, bD, _, _, hDl, hDb1, hDb2⟩ := DD_s hgm hR
    obtain ⟨T, hT⟩ : ∃ T, T = (DD (GG m (z 1) (nI (z 8))) tc a / 100 + 109) / 110 := ⟨_, rfl⟩
    have hTb : T < 100000 := by omega
    have hfr : ∀ {m1 : Nat → Nat → Int32}, CYF m m1 → ∀ q, q ≠ 3 → q ≠ 6 → m1 q = m q := fun hC => hC.1
    have g7' := l6 (sot m c 2 (nI tc) st (nI (z 8 + T)) 10) (by rw [sot_0]; decide) (fun x hx hxc => ⟨sot_o (k := 0) hxc (by decide), sot_o hxc (by decide)⟩)
    have hgs : ∀ {M : Nat → Nat → Int32}, (∀ q, q ≠ 3 → q ≠ 6 → q ≠ 10 → q ≠ 14 → M q = m q) → (∀ j, j % 13 ≠ 3 → M 3 j = m 3 j) → GS M (z 0) (z 1) ∧ GG M (z 1) (nI (z 8)) = GG m (z 1) (nI (z 8)) := by
      intro M k1 k2
      have q40 := k1 40 (by decide) (by decide) (by decide) (by decide)
      have q41 := k1 41 (by decide) (by decide) (by decide) (by decide)
      have q42 := k1 42 (by decide) (by decide) (by decide) (by decide)
      have q43 := k1 43 (by decide) (by decide) (by decide) (by decide)
      have q44 := k1 44 (by decide) (by decide) (by decide) (by decide)
      have q45 := k1 45 (by decide) (by decide) (by decide) (by decide)
      have q46 := k1 46 (by decide) (by decide) (by decide) (by decide)
      refine ⟨?_, ?_⟩
      · unfold GS; rw [q40, q41, q42, q43, q44, q45, q46]; exact GStr_scr h4 k2
      · unfold GG opn; rw [q40, q41, q42, q43, q44, q45, q46]
    have hall : ∀ (ARc ARr : (Nat → Nat → Int32) → Nat → Nat → Int32) (fc : ∀ M q, q ≠ 10 → q ≠ 14 → ARc M q = M q) (fr : ∀ M q, q ≠ 55 → q ≠ 64 → q ≠ 65 → ARr M q = M q)
        (kc : T = 0 → ∀ M, M 9 = m 9 → M 13 = m 13 → M 10 = sot m c 2 (nI tc) st (nI (z 8 + T)) 10 → M 14 = LVc m 14 → hk_Cd MX2_arrive 4 0 0 [.ref 8, .int (nI c)] (hk_h L M) none (hk_h L (ARc M)))
        (kr : T = 0 → ∀ M, M 58 c = st → M 63 = m 63 → M 64 = LVr m 64 → M 65 = LVr m 65 → hk_Cd MX10_arrive 0 0 0 [.ref 37, .int (nI c)] (hk_h L M) none (hk_h L (ARr M)))
        (ke : ∀ m1 m4 : Nat → Nat → Int32, CYF m m1 → ((¬ T = 0 ∧ (∀ q, q ≠ 47 → q ≠ 48 → m4 q = sot (LVc m1) c 2 (nI tc) st (nI (z 8 + T)) q)) → Inv L (up z 8 (z 8)) (hk_w (hk_w (hk_w (hk_w (LVr m4) 58 c st) 56 c (nI tc)) 55 c 2) 57 c (nI (z 8 + T)))) ∧
          ((T = 0 ∧ (∀ q, q ≠ 47 → q ≠ 48 → m4 q = ARc (sot (LVc m1) c 2 (nI tc) st (nI (z 8 + T))) q)) → Inv L (up z 8 (z 8)) (ARr (hk_w (hk_w (LVr m4) 58 c st) 56 c (nI tc))))),
        OpE L m MX9_go MX10_go [.int (nI c), .int st] := by
      intro ARc ARr fc fr kc kr ke
      have hSO : ∀ {m1 : Nat → Nat → Int32}, CYF m m1 → (sot (LVc m1) c 2 (nI tc) st (nI (z 8 + T)) 10 = sot m c 2 (nI tc) st (nI (z 8 + T)) 10 ∧ sot (LVc m1) c 2 (nI tc) st (nI (z 8 + T)) 14 = LVc m 14) := by
        intro m1 hC
        refine ⟨?_, ?_⟩
        · rw [sot_at, sot_at, l1 m1 10 (by decide), hC.1 10 (by decide) (by decide)]
        · rw [sot_ne (by decide)]; exact l3 m1 (hC.1 14 (by decide) (by decide))
      refine ⟨6, 0, 0, 4, by decide, by decide, by decide, by decide, hk_imp ?_ (ct_go_ok hI hc hst hmv hsa htc (fun h => (ht1 h).1) (fun h => (ht2 h).2.2) ha h10 hR hT LVc ARc l1
        (fun m1 hC => l7 m1 (hC.1 9 (by decide) (by decide)) (hC.1 13 (by decide) (by decide)) (hC.1 10 (by decide) (by decide)) (hC.1 14 (by decide) (by decide)) (hC.1 64 (by decide) (by decide)) (hC.1 65 (by decide) (by decide)))
        (fun hT0 m1 hC => kc hT0 _ (by rw [sot_ne (by decide), l1 m1 9 (by decide)]; exact hC.1 9 (by decide) (by decide)) (by rw [sot_ne (by decide), l1 m1 13 (by decide)]; exact hC.1 13 (by decide) (by decide)) (hSO hC).1 (hSO hC).2))⟩
      rintro r h ⟨m1, rfl, hC, hh⟩
      have hm3 : ∃ m3 : Nat → Nat → Int32, h = hk_h L m3 ∧ (∀ q, q ≠ 3 → q ≠ 6 → q ≠ 10 → q ≠ 14 → m3 q = m q) ∧ (∀ j, j % 13 ≠ 3 → m3 3 j = m 3 j) ∧ ((¬ T = 0 ∧ m3 = sot (LVc m1) c 2 (nI tc) st (nI (z 8 + T))) ∨ (T = 0 ∧ m3 = ARc (sot (LVc m1) c 2 (nI tc) st (nI (z 8 + T))))) := by
        rcases hh with ⟨k, e⟩ | ⟨k, e⟩
        · refine ⟨_, e, fun q n3 n6 n10 n14 => ?_, fun j hj => ?_, Or.inl ⟨k, rfl⟩⟩
          · rw [sot_ne n10, l1 m1 q n14]; exact hC.1 q n3 n6
          · rw [sot_ne (by decide), l1 m1 3 (by decide)]; exact hC.2 j hj
        · refine ⟨_, e, fun q n3 n6 n10 n14 => ?_, fun j hj => ?_, Or.inr ⟨k, rfl⟩⟩
          · rw [fc _ q n10 n14, sot_ne n10, l1 m1 q n14]; exact hC.1 q n3 n6
          · rw [fc _ 3 (by decide) (by decide), sot_ne (by decide), l1 m1 3 (by decide)]; exact hC.2 j hj
      obtain ⟨m3, rfl, hm3, h33, hwh⟩ := hm3
      obtain ⟨hg3, hgg⟩ := hgs hm3 h33
      have q37 := hm3 37 (by decide) (by decide) (by decide) (by decide)
      have q52 := hm3 52 (by decide) (by decide) (by decide) (by decide)
      have q55 := hm3 55 (by decide) (by decide) (by decide) (by decide)
      have q56 := hm3 56 (by decide) (by decide) (by decide) (by decide)
      have q62 := hm3 62 (by decide) (by decide) (by decide) (by decide)
      have q63 := hm3 63 (by decide) (by decide) (by decide) (by decide)
      have q64 := hm3 64 (by decide) (by decide) (by decide) (by decide)
      have q65 := hm3 65 (by decide) (by decide) (by decide) (by decide)
      refine ⟨_, L, m3, rfl, rfl, hk_imp ?_ (md_go_ok (m := m3) (nS := z 1) (nC := z 0) (n := z 8) hc (by rw [q37]; exact b2) c2 (by rw [q37]; exact b3) c3 (by rw [q65]; exact g7.q) hst (by rw [q55]; exact hmv2) (by rw [q55, so_c q64 q65]; exact hsa2) (by rw [q37]; exact h2) h3 hg3 h5 (by rw [q37]; exact h7) htc (fun h => by rw [q52]; exact (ht1 h).2) (fun h => by rw [q62]; exact (ht2 h).2.1) ha (by rw [q56]; exact h56) (by rw [q37]; exact b8) (by rw [hgg]; exact hR) (by rw [hgg]; exact hT) LVr ARr l2
        (fun m4 k => l8 m4 (congrFun ((k 37 (by decide) (by decide)).trans q37) 35) ((k 64 (by decide) (by decide)).trans q64) ((k 65 (by decide) (by decide)).trans q65))
        (fun hT0 m4 k => kr hT0 _ (by rw [hk_wo (by decide)]; exact hk_w_eq) (by rw [hk_wo (by decide), hk_wo (by decide), l2 m4 63 (by decide) (by decide), k 63 (by decide) (by decide)]; exact q63) (by rw [hk_wo (by decide), hk_wo (by decide)]; exact (l4 m4 ((k 64 (by decide) (by decide)).trans q64) ((k 65 (by decide) (by decide)).trans q65)).1) (by rw [hk_wo (by decide), hk_wo (by decide)]; exact (l4 m4 ((k 64 (by decide) (by decide)).trans q64) ((k 65 (by decide) (by decide)).trans q65)).2)))⟩
      rintro r h ⟨m4, rfl, hm4, hh2⟩
      obtain ⟨ke1, ke2⟩ := ke m1 m4 hC
      rcases hwh with ⟨kT, rfl⟩ | ⟨kT, rfl⟩
      · rcases hh2 with ⟨_, rfl⟩ | ⟨k, _⟩
        · exact ⟨_, _, rfl, rfl, ke1 ⟨kT, hm4⟩⟩
        · exact absurd k kT
      · rcases hh2 with ⟨k, _⟩ | ⟨_, rfl⟩
        · exact absurd kT k
        · exact ⟨_, _, rfl, rfl, ke2 ⟨kT, hm4⟩⟩
    have hst' : st = -1 ∨ (st = nI s ∧ s < z 3 ∧ nI tc = m 14 (s * 13)) := hst.elim Or.inl (fun ⟨k1, k2⟩ => Or.inr ⟨k1, k2, (ht2 (by rw [k1]; exact nI_pos (by omega))).1.symm⟩)
    by_cases hT0 : T = 0
    · obtain ⟨ARc, ARr, r1, r2, ⟨X10, X14, X55, X64, X65, x1, x2, x3, x4, x5, x6⟩, r3, r4⟩ := ARP_of (now := z 8) a2 c2 a3 c3 hc g5 g7' l5 (rfl : nI tc = nI tc) htc hst' sot_0 sot_1 sot_4 (fun x k hx hk => sot_o hx hk) (sot_k (by decide) (by decide) (by decide) (by decide)) (sot_k (by decide) (by decide) (by decide) (by decide)) (sot_k (by decide) (by decide) (by decide) (by decide)) (sot_k (by decide) (by decide) (by decide) (by decide))
      refine hall ARc ARr r1 r2 (fun _ => r3) (fun _ => r4) (fun m1 m4 hC => ⟨fun k => absurd hT0 k.1, fun k => ?_⟩)
      have hk := k.2
      obtain ⟨y1, y2⟩ := x1 (sot (LVc m1) c 2 (nI tc) st (nI (z 8 + T))) (by rw [sot_at, sot_at, l1 m1 10 (by decide), hC.1 10 (by decide) (by decide)]) (by rw [sot_ne (by decide)]; exact l3 m1 (hC.1 14 (by decide) (by decide)))
      have hq : ∀ q, q ≠ 47 → q ≠ 48 → q ≠ 3 → q ≠ 6 → q ≠ 10 → q ≠ 14 → m4 q = m q := fun q n47 n48 n3 n6 n10 n14 => by
        rw [hk q n47 n48, r1 _ q n10 n14, sot_ne n10, l1 m1 q n14]; exact hC.1 q n3 n6
      have hq64 := hq 64 (by decide) (by decide) (by decide) (by decide) (by decide) (by decide)
      have hq65 := hq 65 (by decide) (by decide) (by decide) (by decide) (by decide) (by decide)
      obtain ⟨w1, w2, w3⟩ := x2 (hk_w (hk_w (LVr m4) 58 c st) 56 c (nI tc)) (by rw [hk_wo (by decide), hk_wo (by decide), l2 m4 55 (by decide) (by decide)]; exact hq 55 (by decide) (by decide) (by decide) (by decide) (by decide) (by decide)) (by rw [hk_wo (by decide), hk_wo (by decide)]; exact (l4 m4 hq64 hq65).1) (by rw [hk_wo (by decide), hk_wo (by decide)]; exact (l4 m4 hq64 hq65).2)
      have f10 : ARr (hk_w (hk_w (LVr m4) 58 c st) 56 c (nI tc)) 10 = X10 := by
        rw [r2 _ 10 (by decide) (by decide) (by decide), hk_wo (by decide), hk_wo (by decide), l2 m4 10 (by decide) (by decide), hk 10 (by decide) (by decide)]; exact y1
      have f14 : ARr (hk_w (hk_w (LVr m4) 58 c st) 56 c (nI tc)) 14 = X14 := by
        rw [r2 _ 14 (by decide) (by decide) (by decide), hk_wo (by decide), hk_wo (by decide), l2 m4 14 (by decide) (by decide), hk 14 (by decide) (by decide)]; exact y2
      refine go_end hI (fun q n3 n6 n47 n48 n10 n14 n55 n56 n57 n58 n64 n65 => ?_) (fun j hj => ?_) ?_ ?_
      · rw [r2 _ q n55 n64 n65, hk_wo n56, hk_wo n58, l2 m4 q n64 n65]; exact hq q n47 n48 n3 n6 n10 n14
      · rw [r2 _ 3 (by decide) (by decide) (by decide), hk_wo (by decide), hk_wo (by decide), l2 m4 3 (by decide) (by decide), hk 3 (by decide) (by decide), r1 _ 3 (by decide) (by decide), sot_ne (by decide), l1 m1 3 (by decide)]; exact hC.2 j hj
      · rw [f10, f14, w1]
        refine x3 _ _ _ (fun x hx => ⟨?_, ?_, ?_⟩) ?_
        · rw [r2 _ 56 (by decide) (by decide) (by decide), hk_w_off hx, hk_wo (by decide), l2 m4 56 (by decide) (by decide), hq 56 (by decide) (by decide) (by decide) (by decide) (by decide) (by decide)]
        · rw [r2 _ 57 (by decide) (by decide) (by decide), hk_wo (by decide), hk_wo (by decide), l2 m4 57 (by decide) (by decide), hq 57 (by decide) (by decide) (by decide) (by decide) (by decide) (by decide)]
        · rw [r2 _ 58 (by decide) (by decide) (by decide), hk_wo (by decide), hk_w_off hx, l2 m4 58 (by decide) (by decide), hq 58 (by decide) (by decide) (by decide) (by decide) (by decide) (by decide)]
        · rw [r2 _ 56 (by decide) (by decide) (by decide)]; exact hk_w_eq
      · rw [f10, f14, w2, w3]; exact x4
    · refine hall (fun M => M) (fun M => M) (fun _ _ _ _ => rfl) (fun _ _ _ _ _ => rfl) (fun k => absurd k hT0) (fun k => absurd k hT0) (fun m1 m4 hC => ⟨fun k => ?_, fun k => absurd k.1 hT0⟩)
      have hk := k.2
      have hq : ∀ q, q ≠ 47 → q ≠ 48 → q ≠ 3 → q ≠ 6 → q ≠ 10 → q ≠ 14 → m4 q = m q := fun q n47 n48 n3 n6 n10 n14 => by
        rw [hk q n47 n48, sot_ne n10, l1 m1 q n14]; exact hC.1 q n3 n6
      have hq64 := hq 64 (by decide) (by decide) (by decide) (by decide) (by decide) (by decide)
      have hq65 := hq 65 (by decide) (by decide) (by decide) (by decide) (by decide) (by decide)
      obtain ⟨w2, w3⟩ := l4 m4 hq64 hq65
      have e10 : m4 10 = sot m c 2 (nI tc) st (nI (z 8 + T)) 10 := by
        rw [hk 10 (by decide) (by decide), sot_at, sot_at, l1 m1 10 (by decide), hC.1 10 (by decide) (by decide)]
      have e14 : m4 14 = LVc m 14 := by
        rw [hk 14 (by decide) (by decide), sot_ne (by decide)]; exact l3 m1 (hC.1 14 (by decide) (by decide))
      refine go_end hI (fun q n3 n6 n47 n48 n10 n14 n55 n56 n57 n58 n64 n65 => ?_) (fun j hj => ?_) ?_ ?_
      · rw [hk_wo n57, hk_wo n55, hk_wo n56, hk_wo n58, l2 m4 q n64 n65]; exact hq q n47 n48 n3 n6 n10 n14
      · rw [hk_wo (by decide), hk_wo (by decide), hk_wo (by decide), hk_wo (by decide), l2 m4 3 (by decide) (by decide), hk 3 (by decide) (by decide), sot_ne (by decide), l1 m1 3 (by decide)]; exact hC.2 j hj
      · rw [show hk_w (hk_w (hk_w (hk_w (LVr m4) 58 c st) 56 c (nI tc)) 55 c 2) 57 c (nI (z 8 + T)) 10 = sot m c 2 (nI tc) st (nI (z 8 + T)) 10 by rw [hk_wo (by decide), hk_wo (by decide), hk_wo (by decide), hk_wo (by decide), l2 m4 10 (by decide) (by decide)]; exact e10,
          show hk_w (hk_w (hk_w (hk_w (LVr m4) 58 c st) 56 c (nI tc)) 55 c 2) 57 c (nI (z 8 + T)) 14 = LVc m 14 by rw [hk_wo (by decide), hk_wo (by decide), hk_wo (by decide), hk_wo (by decide), l2 m4 14 (by decide) (by decide)]; exact e14,
          show hk_w (hk_w (hk_w (hk_w (LVr m4) 58 c st) 56 c (nI tc)) 55 c 2) 57 c (nI (z 8 + T)) 55 = upd (m 55) c 2 by rw [hk_wo (by decide), hk_wt, hk_wo (by decide), hk_wo (by decide), l2 m4 55 (by decide) (by decide), hq 55 (by decide) (by decide) (by decide) (by decide) (by decide) (by decide)],
          show hk_w (hk_w (hk_w (hk_w (LVr m4) 58 c st) 56 c (nI tc)) 55 c 2) 57 c (nI (z 8 + T)) 56 = upd (m 56) c (nI tc) by rw [hk_wo (by decide), hk_wo (by decide), hk_wt, hk_wo (by decide), l2 m4 56 (by decide) (by decide), hq 56 (by decide) (by decide) (by decide) (by decide) (by decide) (by decide)],
          show hk_w (hk_w (hk_w (hk_w (LVr m4) 58 c st) 56 c (nI tc)) 55 c 2) 57 c (nI (z 8 + T)) 57 = upd (m 57) c (nI (z 8 + T)) by rw [hk_wt, hk_wo (by decide), hk_wo (by decide), hk_wo (by decide), l2 m4 57 (by decide) (by decide), hq 57 (by decide) (by decide) (by decide) (by decide) (by decide) (by decide)],
          show hk_w (hk_w (hk_w (hk_w (LVr m4) 58 c st) 56 c (nI tc)) 55 c 2) 57 c (nI (z 8 + T)) 58 = upd (m 58) c st by rw [hk_wo (by decide), hk_wo (by decide), hk_wo (by decide), hk_wt, l2 m4 58 (by decide) (by decide), hq 58 (by decide) (by decide) (by decide) (by decide) (by decide) (by decide)]]
        have u1 : ∀ (f : Nat → Int32) (v : Int32), upd f c v c = v := fun f v => if_pos rfl
        refine GCo_row (g := 2) (tc := tc) (GCo_sd g5 l5) hc c2 (fun x k hx hk => sot_o hx hk) (fun x hx => ⟨if_neg hx, if_neg hx, if_neg hx, if_neg hx⟩) (sot_k (by decide) (by decide) (by decide) (by decide)) (sot_k (by decide) (by decide) (by decide) (by decide)) (sot_k (by decide) (by decide) (by decide) (by decide)) (sot_k (by decide) (by decide) (by decide) (by decide))
          (by rw [sot_0, u1]) (by rw [sot_1, u1]) (u1 _ _) (by decide) (u1 _ _) htc (fun _ => ⟨by rw [sot_3, u1], z 8 + T, u1 _ _, by omega, by omega⟩) (fun q => absurd (Or.inl rfl) q) (fun q => absurd q (by decide)) (fun _ => ⟨by rw [sot_4, u1], ?_⟩) (fun q => absurd (Or.inr rfl) q)
        rw [u1, u1]
        exact hst'.elim Or.inl (fun ⟨k1, k2, k3⟩ => Or.inr ⟨s, k2, k1, by rw [l5 s k2]; exact k3⟩)
      · rw [hk_wo (by decide), hk_wo (by decide), hk_wo (by decide), hk_wo (by decide), hk_wo (by decide), hk_wo (by decide), hk_wo (by decide), hk_wo (by decide), hk_wo (by decide), hk_wo (by decide), hk_wo (by decide), hk_wo (by decide), hk_wo (by decide), hk_wo (by decide), hk_wo (by decide), hk_wo (by decide), l2 m4 14 (by decide) (by decide), l2 m4 10 (by decide) (by decide), w2, w3, e10, e14]
        exact g7'
  · refine OpE.of (d1 := 6) (d2 := 4) (v := -5) hI (by decide) (by decide) (ct_go_nw hI hc hst hmv hsa htc (fun h => (ht1 h).1) (fun h => (ht2 h).2.2) ha h10 hR) (fun m1 hI1 s1 => ?_)
    obtain ⟨k1, k2, k3, k4, k5, k6, k7⟩ := Inv_gs hI1
    have q55 : m1 55 = m 55 := s1.a (by decide)
    have q64 : m1 64 = m 64 := s1.a (by decide)
    have q65 : m1 65 = m 65 := s1.a (by decide)
    refine md_go_nw (n := z 8) hc (by rw [s1.2.2.2 26 (by decide) (by decide) (by decide) (by decide) (by decide) (by decide)]; exact b2) c2 (by rw [s1.2.2.2 35 (by decide) (by decide) (by decide) (by decide) (by decide) (by decide)]; exact b3) c3 (by rw [q65]; exact g7.q) hst (by rw [q55]; exact hmv2) (by rw [q55, so_c q64 q65]; exact hsa2) k2 k3 k4 k5 k7 htc (fun h => by rw [s1.a (by decide)]; exact (ht1 h).2) (fun h => by rw [s1.a (by decide)]; exact (ht2 h).2.1) ha (by rw [s1.a (by decide)]; exact h56) (by rw [s1.2.2.2 0 (by decide) (by decide) (by decide) (by decide) (by decide) (by decide)]; exact b8) (by rw [s1.gg]; exact hR)
end GUx
