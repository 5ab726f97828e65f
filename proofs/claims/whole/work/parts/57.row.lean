/-! a row asked: the class's -/
section CEx
variable {L nC nS nK nD : Nat} {m m0 m1 m2 : Nat → Nat → Int32} {z : Nat → Nat}
/-- a row asked from place i on, k of it: who comes, who refuses -/
noncomputable def gor (W : Nat → Int32) (row : Nat → Nat) : Nat → Nat → Option Nat × List Nat
  | 0, _ => (none, [])
  | k + 1, i => @ite _ (W (row i) = 0) (Classical.propDecidable _) (some (row i), []) ((gor W row k (i + 1)).1, @ite _ (W (row i) = 4) (Classical.propDecidable _) (row i :: (gor W row k (i + 1)).2) (gor W row k (i + 1)).2)
theorem gor_0 {W : Nat → Int32} {row : Nat → Nat} {k i : Nat} (h : W (row i) = 0) : gor W row (k + 1) i = (some (row i), []) := if_pos h
theorem gor_4 {W : Nat → Int32} {row : Nat → Nat} {k i : Nat} (h : ¬ W (row i) = 0) (h4 : W (row i) = 4) : gor W row (k + 1) i = ((gor W row k (i + 1)).1, row i :: (gor W row k (i + 1)).2) := by
  show @ite _ (W (row i) = 0) (Classical.propDecidable _) _ _ = _
  rw [if_neg h, if_pos h4]
theorem gor_n {W : Nat → Int32} {row : Nat → Nat} {k i : Nat} (h : ¬ W (row i) = 0) (h4 : ¬ W (row i) = 4) : gor W row (k + 1) i = gor W row k (i + 1) := by
  show @ite _ (W (row i) = 0) (Classical.propDecidable _) _ _ = _
  rw [if_neg h, if_neg h4]
/-- the class's refusals: those of m, and behind them a list's -/
def RFc (m : Nat → Nat → Int32) (r0 n f t : Nat) (rl : List Nat) (m1 : Nat → Nat → Int32) : Prop := m1 27 3 = nI (min 300 (r0 + rl.length)) ∧ (∀ j k, j < r0 → k < 4 → m1 28 (j * 4 + k) = m 28 (j * 4 + k)) ∧
  ∀ j, j < rl.length → r0 + j < 300 → m1 28 ((r0 + j) * 4 + 0) = nI (rl.getD j 0) ∧ m1 28 ((r0 + j) * 4 + 1) = nI n ∧ m1 28 ((r0 + j) * 4 + 2) = nI f ∧ m1 28 ((r0 + j) * 4 + 3) = nI t
theorem RFc.k {r0 n f t : Nat} {rl : List Nat} (h : RFc m r0 n f t rl m1) (e1 : m2 27 = m1 27) (e2 : m2 28 = m1 28) : RFc m r0 n f t rl m2 := by
  unfold RFc; rw [e1, e2]; exact h
theorem getD_snoc1 {rl : List Nat} {c j : Nat} (h : j < rl.length) : (rl ++ [c]).getD j 0 = rl.getD j 0 := by
  simp [List.getD_eq_getElem?_getD, List.getElem?_append_left h]
theorem getD_snoc2 {rl : List Nat} {c : Nat} : (rl ++ [c]).getD rl.length 0 = c := by
  simp [List.getD_eq_getElem?_getD]
theorem ct_note {r0 n f t c : Nat} {rl : List Nat} (hr : r0 ≤ 300) (hDr : m1 25 3 = nI 1) (h : RFc m r0 n f t rl m1) (d0 : m1 26 0 = nI c) (d3 : m1 26 3 = nI n) (d1 : m1 26 1 = nI f) (d2 : m1 26 2 = nI t) :
    hk_Ct MX8_noteRefusal 2 0 0 [.ref 22] (hk_h L m1) (fun r h => ∃ m2, r = none ∧ h = hk_h L m2 ∧ (∀ a, a ≠ 27 → a ≠ 28 → m2 a = m1 a) ∧ RFc m r0 n f t (rl ++ [c]) m2) := by
  obtain ⟨h1, h2, h3⟩ := h
  by_cases hf : r0 + rl.length < 300
  · have e : min 300 (r0 + rl.length) = r0 + rl.length := by omega
    rw [e] at h1
    refine hk_imp ?_ (ct_noteRefusal hDr h1 hf)
    rintro r h ⟨rfl, rfl⟩
    refine ⟨_, rfl, rfl, fun a k1 k2 => by simp [hk_wo k1, hk_wo k2], ?_, fun j k hj hk => ?_, fun j hj hj3 => ?_⟩
    · rw [List.length_append, List.length_singleton, show min 300 (r0 + (rl.length + 1)) = r0 + rl.length + 1 by omega]
      simp [hk_w, upd]
    · rw [hk_w_off (by omega), hk_w_off (by omega), hk_w_off (by omega), hk_w_off (by omega), hk_w_ne (by decide)]
      exact h2 j k hj hk
    · rw [List.length_append, List.length_singleton] at hj
      by_cases ej : j = rl.length
      · subst ej
        rw [getD_snoc2]
        refine ⟨?_, ?_, ?_, ?_⟩
        · rw [hk_w_off (by omega), hk_w_off (by omega), hk_w_off (by omega), hk_w_eq]; simp [hk_w, d0]
        · rw [hk_w_off (by omega), hk_w_off (by omega), hk_w_eq]; simp [hk_w, d3]
        · rw [hk_w_off (by omega), hk_w_eq]; simp [hk_w, d1]
        · rw [hk_w_eq]; simp [hk_w, d2]
      · have hj2 : j < rl.length := by omega
        rw [getD_snoc1 hj2]
        obtain ⟨q1, q2, q3, q4⟩ := h3 j hj2 hj3
        refine ⟨?_, ?_, ?_, ?_⟩
        · rw [hk_w_off (by omega), hk_w_off (by omega), hk_w_off (by omega), hk_w_off (by omega), hk_w_ne (by decide)]; exact q1
        · rw [hk_w_off (by omega), hk_w_off (by omega), hk_w_off (by omega), hk_w_off (by omega), hk_w_ne (by decide)]; exact q2
        · rw [hk_w_off (by omega), hk_w_off (by omega), hk_w_off (by omega), hk_w_off (by omega), hk_w_ne (by decide)]; exact q3
        · rw [hk_w_off (by omega), hk_w_off (by omega), hk_w_off (by omega), hk_w_off (by omega), hk_w_ne (by decide)]; exact q4
  · have e : min 300 (r0 + rl.length) = 300 := by omega
    rw [e] at h1
    refine hk_imp ?_ (ct_noteRefusal_full hDr h1)
    rintro r h ⟨rfl, rfl⟩
    refine ⟨m1, rfl, rfl, fun _ _ _ => rfl, ?_, h2, fun j hj hj3 => ?_⟩
    · rw [List.length_append, List.length_singleton, show min 300 (r0 + (rl.length + 1)) = 300 by omega]; exact h1
    · have hj2 : j < rl.length := by omega
      rw [getD_snoc1 hj2]; exact h3 j hj2 hj3
/-- the row of a stand -/
def rwn (m : Nat → Nat → Int32) (s i : Nat) : Nat := (m 14 (s * 13 + (3 + i))).toNatClampNeg
def rq (m : Nat → Nat → Int32) (s : Nat) : Nat := (m 14 (s * 13 + 2)).toNatClampNeg
theorem rw_ok (hI : Inv L z m) {s : Nat} (hs : s < z 3) : m 14 (s * 13 + 2) = nI (rq m s) ∧ m 65 s = nI (rq m s) ∧ rq m s ≤ 10 ∧ ∀ i, i < rq m s → m 14 (s * 13 + (3 + i)) = nI (rwn m s i) ∧ m 64 (10 * s + i) = nI (rwn m s i) ∧ rwn m s i < z 2 ∧ m 10 (rwn m s i * 8) = 1 ∧ m 10 (rwn m s i * 8 + 4) = nI s := by
  obtain ⟨g0, ⟨a, b, ⟨c0, c1, c2, _⟩⟩, g2, g3, g4, g5, g6, g7, _⟩ := id hI
  obtain ⟨e1, _, e3, x, p, q, k1, k2, k3, k4, k5, k6, k7, k8, _⟩ := g7.1 s hs
  have e : rq m s = q := by unfold rq; rw [e3, k6, nI_clamp (by omega)]
  refine ⟨by rw [e]; exact e3.trans k6, by rw [e]; exact k6, by omega, fun i hi => ?_⟩
  obtain ⟨l1, c, hc, l2, l3, l4⟩ := k8 i (by omega)
  have ec : rwn m s i = c := by unfold rwn; rw [l1, l2, nI_clamp (by omega)]
  rw [ec]; exact ⟨l1.trans l2, l2, hc, l3, l4⟩
/-- what a coach of stand s answers to a call -/
noncomputable def WS2 (m : Nat → Nat → Int32) (L : Nat) (z : Nat → Nat) (f t : Nat) (w : Int32) (s c : Nat) : Int32 := WV m L (z 12) c (z 8) ((nI (DD (GG m (z 1) (nI (z 8))) f (pn m s) / 100) + 109) / 110) (nI (DD (GG m (z 1) (nI (z 8))) f t / 100)) (nI (DD (GG m (z 1) (nI (z 8))) f t % 100)) (rm w 1000) (w / 1000) (bI (ngt (m 4) (m 5) (z 8)))
/-- the draft, a coach c of stand s in it -/
def DCS (m : Nat → Nat → Int32) (z : Nat → Nat) (f t : Nat) (w : Int32) (s c : Nat) (m1 : Nat → Nat → Int32) : Prop := m1 26 0 = nI c ∧ m1 26 12 = nI s ∧ m1 26 11 = m 10 (c * 8 + 2) ∧ m1 26 4 = nI (z 8) + (nI (DD (GG m (z 1) (nI (z 8))) f (pn m s) / 100) + 109) / 110 ∧ m1 26 5 = nI (z 8) + ((nI (DD (GG m (z 1) (nI (z 8))) f (pn m s) / 100) + 109) / 110 + (nI (DD (GG m (z 1) (nI (z 8))) f t / 100) + 109) / 110 + rm w 1000)
set_option maxRecDepth 20000 in
set_option maxHeartbeats 2000000 in
theorem lp_ftc (hI : Inv L z m) {f t s : Nat} {w : Int32} (hs : s < z 3) (hR : RK m (z 1) (z 8) f s) (i : Nat) (hi : i ≤ rq m s) : ∀ (rl : List Nat) (m1 : Nat → Nat → Int32) (l3 l4 : Option Value), DRW m (z 1) (z 8) f m1 → DT m (z 1) (z 8) f t w m1 → RFc m (z 6) (z 8) f t rl m1 → hk_WP MX9_firstToCome 5 0 0 0 0 2 [some (.ref 0), some (.int (nI s)), some (.int (nI i)), l3, l4] [] (hk_h L m1) (fun r h => ∃ m2, r = some (.int (fo (-1) (gor (WS2 m L z f t w s) (rwn m s) (rq m s - i) i).1)) ∧ h = hk_h L m2 ∧ DRW m (z 1) (z 8) f m2 ∧ DT m (z 1) (z 8) f t w m2 ∧ RFc m (z 6) (z 8) f t (rl ++ (gor (WS2 m L z f t w s) (rwn m s) (rq m s - i) i).2) m2 ∧ ∀ c, (gor (WS2 m L z f t w s) (rwn m s) (rq m s - i) i).1 = some c → DCS m z f t w s c m2) := by
  intro rl m1 l3 l4 hDR hDT hRF
  obtain ⟨g0, ⟨⟨a0, a1, a2, a3, a4, a5, a6, a7, a8, a9, a10, a11, a12, a13⟩, ⟨b0, b1, b2, b3, b4, b5, b6, b7, b8, b9, b10, b11, b12⟩, ⟨c0, c1, c2, c3, c4, c5, c6, c7, c8, c9, c10, c11, c12⟩⟩, g2, g3, g4, g5, g6, g7, g8, g9, g10, g11, g12, g13, g14⟩ := id hI
  obtain ⟨p1, p2, p3⟩ := pn_ok hI hs
  obtain ⟨r1, r2, r3, r4⟩ := rw_ok hI hs
  have e13 : m1 13 3 = nI (z 3) := by rw [hDR.1.a (a := 13) (by decide)]; exact a3
  have e14 : m1 14 = m 14 := hDR.1.a (by decide)
  have ern : tg m1 13 13 (z 3) (nI s) 2 = nI (rq m s) := by rw [tg_in2 (c := 2) (j := 2) rfl (by omega) (by decide) hs (by decide), e14]; exact r1
  refine hk_iload_n dX9_firstToCome_2 rfl rfl ?_
  refine hk_aload_n dX9_firstToCome_3 rfl rfl ?_
  refine gfX9_23 rfl dX9_firstToCome_4 (hk_lt (by decide)) rfl rfl ?_
  refine hk_iload_n dX9_firstToCome_7 rfl rfl ?_
  refine ivX9_353 rfl (ct_rowLength e13 c3 _) dX9_firstToCome_8 (hk_lt (by decide)) rfl rfl rfl (by decide) ⟨by decide, by decide⟩ (Nat.le_of_ble_eq_true rfl) (hk_kd ?_)
  rw [ern]
  refine hk_icmp_ge (tgt := 58) dX9_firstToCome_11 (by decide) (fun c11 => ?_) (fun c11 => ?_)
  · rw [nI_leI (by omega) (by omega)] at c11
    refine hk_iconst (v := (-1)) dX9_firstToCome_58 (by decide) ?_
    exact hk_ireturn dX9_firstToCome_59 rfl rfl (by decide) ⟨m1, by rw [show rq m s - i = 0 by omega]; rfl, rfl, hDR, hDT, by rw [show rq m s - i = 0 by omega]; show RFc _ _ _ _ _ (rl ++ []) _; rw [List.append_nil]; exact hRF, fun c hc => by rw [show rq m s - i = 0 by omega] at hc; cases hc⟩
  · rw [nI_leI (by omega) (by omega)] at c11
    have hlt : i < rq m s := by omega
    refine hk_aload_n dX9_firstToCome_14 rfl rfl ?_
    refine gfX9_23 rfl dX9_firstToCome_15 (hk_lt (by decide)) rfl rfl ?_
    refine hk_iload_n dX9_firstToCome_18 rfl rfl ?_
    refine hk_iload_n dX9_firstToCome_19 rfl rfl ?_
    refine ivX9_169 rfl (ct_coachInRow e13 c3 _ _) dX9_firstToCome_20 (hk_lt (by decide)) rfl rfl rfl (by decide) ⟨by decide, by decide⟩ (Nat.le_of_ble_eq_true rfl) (hk_kd ?_)
    rw [cir (m := m1) c3 hs (by rw [e14]; exact r1) r3 hlt, e14, (r4 i hlt).1]
    refine hk_istore_n dX9_firstToCome_23 rfl (by decide) rfl ?_
    refine hk_aload_n dX9_firstToCome_24 rfl rfl ?_
    refine hk_iload_n dX9_firstToCome_25 rfl rfl ?_
    refine hk_iload_n dX9_firstToCome_26 rfl rfl ?_
    refine ivX9_237 rfl (ct_whyNot hI hDR hDT (r4 i hlt).2.2.1 hs p1 p2 hR) dX9_firstToCome_27 (hk_lt (by decide)) rfl rfl rfl (by decide) ⟨by decide, by decide⟩ (Nat.le_of_ble_eq_true rfl) (fun r h1 hq => ?_)
    obtain ⟨m2, rfl, rfl, hDC⟩ := hq
    have hDR2 : DRW m (z 1) (z 8) f m2 := hDR.k (fun a k1 k2 k3 _ _ => hDC.1 a k1 k2 k3)
    have hDT2 := hDC.dt hDT
    have hRF2 : RFc m (z 6) (z 8) f t rl m2 := hRF.k (hDC.1 27 (by decide) (by decide) (by decide)) (hDC.1 28 (by decide) (by decide) (by decide))
    have h25 : m2 25 3 = nI 1 := by rw [hDR2.1.a (a := 25) (by decide)]; exact a13
    obtain ⟨x1, x2, x3, x4, x5, x6, x7, x8, x9, _⟩ := id hDC
    obtain ⟨t1, t2, t3, _⟩ := id hDT2
    obtain ⟨kk, hkk⟩ : ∃ kk, rq m s - i = kk + 1 := ⟨rq m s - i - 1, by omega⟩
    have hkk2 : rq m s - (i + 1) = kk := by omega
    have ih := lp_ftc hI (t := t) (w := w) hs hR (i + 1) (by omega)
    rw [hkk2] at ih
    rw [hkk]
    refine hk_istore dX9_firstToCome_30 (by decide) rfl ?_
    refine hk_iload dX9_firstToCome_32 rfl ?_
    refine hk_if_ne (tgt := 39) dX9_firstToCome_34 (by decide) (fun c34 => ?_) (fun c34 => ?_)
    · refine hk_iload dX9_firstToCome_39 rfl ?_
      refine hk_iconst (v := 4) dX9_firstToCome_41 (by decide) ?_
      refine hk_icmp_ne (tgt := 52) dX9_firstToCome_42 (by decide) (fun c42 => ?_) (fun c42 => ?_)
      · refine hk_iinc (v := nI (i + 1)) dX9_firstToCome_52 rfl (nI_1 i) (by decide) rfl ?_
        refine hk_goto (tgt := 2) dX9_firstToCome_55 (by decide) ?_
        first
        | (rw [gor_n c34 c42]
           exact ih rl m2 _ _ hDR2 hDT2 hRF2)
        | (rw [gor_4 c34 c42]
           have this := fun (l3 l4 : Option Value) => ih (rl ++ [rwn m s i]) m3 l3 l4 hDR3 hDT3 hRF3
           rw [List.append_assoc] at this
           exact this _ _)
      · refine hk_aload_n dX9_firstToCome_45 rfl rfl ?_
        refine gfX9_37 rfl dX9_firstToCome_46 (hk_lt (by decide)) rfl rfl ?_
        refine ivX9_356 rfl (ct_note c6 h25 hRF2 x2 t3 t1 t2) dX9_firstToCome_49 (hk_lt (by decide)) rfl rfl rfl (by decide) ⟨by decide, by decide⟩ (Nat.le_of_ble_eq_true rfl) (fun r h1 hq => ?_)
        obtain ⟨m3, rfl, rfl, hfr, hRF3⟩ := hq
        have hDR3 : DRW m (z 1) (z 8) f m3 := hDR2.k (fun a _ _ _ k4 k5 => hfr a k4 k5)
        have hDT3 : DT m (z 1) (z 8) f t w m3 := by unfold DT; rw [hfr 26 (by decide) (by decide)]; exact hDT2
        refine hk_iinc (v := nI (i + 1)) dX9_firstToCome_52 rfl (nI_1 i) (by decide) rfl ?_
        refine hk_goto (tgt := 2) dX9_firstToCome_55 (by decide) ?_
        first
        | (rw [gor_n c34 c42]
           exact ih rl m2 _ _ hDR2 hDT2 hRF2)
        | (rw [gor_4 c34 c42]
           have this := fun (l3 l4 : Option Value) => ih (rl ++ [rwn m s i]) m3 l3 l4 hDR3 hDT3 hRF3
           rw [List.append_assoc] at this
           exact this _ _)
    · refine hk_iload_n dX9_firstToCome_37 rfl rfl ?_
      exact hk_ireturn dX9_firstToCome_38 rfl rfl (by decide) ⟨m2, by rw [gor_0 c34]; rfl, rfl, hDR2, hDT2, by rw [gor_0 c34, List.append_nil]; exact hRF2, fun c hc => by rw [gor_0 c34] at hc; cases hc; exact ⟨x2, x3, x4, x5, x6⟩⟩
termination_by rq m s - i
decreasing_by all_goals omega
end CEx
