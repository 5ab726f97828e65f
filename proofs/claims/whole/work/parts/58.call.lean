/-! call: the class's -/
section CFy
variable {L nC nS nK nD : Nat} {m m0 m1 m2 : Nat → Nat → Int32} {z : Nat → Nat}
/-- the stands asked one after another, k of them, behind lo: who comes from where, who refuses -/
noncomputable def ouc (R : Nat → Prop) (K : Nat → Nat) (G : Nat → Option Nat × List Nat) (D : Nat) : Nat → Option Nat → Option (Nat × Nat) × List Nat
  | 0, _ => (none, [])
  | k + 1, lo => match mk R K (bo K lo) D with
    | none => (none, [])
    | some s => match (G s).1 with
      | some c => (some (s, c), (G s).2)
      | none => ((ouc R K G D k (some s)).1, (G s).2 ++ (ouc R K G D k (some s)).2)
theorem ouc_no {R : Nat → Prop} {K : Nat → Nat} {G : Nat → Option Nat × List Nat} {D k : Nat} {lo : Option Nat} (h : mk R K (bo K lo) D = none) : ouc R K G D k lo = (none, []) := by
  cases k with
  | zero => rfl
  | succ k => unfold ouc; rw [h]
theorem ouc_y {R : Nat → Prop} {K : Nat → Nat} {G : Nat → Option Nat × List Nat} {D k s c : Nat} {lo : Option Nat} (h : mk R K (bo K lo) D = some s) (hg : (G s).1 = some c) : ouc R K G D (k + 1) lo = (some (s, c), (G s).2) := by
  conv => lhs; unfold ouc
  rw [h]; simp only; rw [hg]
theorem ouc_go {R : Nat → Prop} {K : Nat → Nat} {G : Nat → Option Nat × List Nat} {D k s : Nat} {lo : Option Nat} (h : mk R K (bo K lo) D = some s) (hg : (G s).1 = none) : ouc R K G D (k + 1) lo = ((ouc R K G D k (some s)).1, (G s).2 ++ (ouc R K G D k (some s)).2) := by
  conv => lhs; unfold ouc
  rw [h]; simp only; rw [hg]
/-- what asking a stand gives -/
noncomputable def GR (m : Nat → Nat → Int32) (L : Nat) (z : Nat → Nat) (f t : Nat) (w : Int32) (s : Nat) : Option Nat × List Nat := gor (WS2 m L z f t w s) (rwn m s) (rq m s) 0
theorem gor_mem {W : Nat → Int32} {row : Nat → Nat} : ∀ {k i c : Nat}, (gor W row k i).1 = some c → ∃ j, i ≤ j ∧ j < i + k ∧ row j = c
  | 0, i, c, h => by cases h
  | k + 1, i, c, h => by
    by_cases c0 : W (row i) = 0
    · rw [gor_0 c0] at h; cases h; exact ⟨i, Nat.le_refl _, by omega, rfl⟩
    · have e : (gor W row (k + 1) i).1 = (gor W row k (i + 1)).1 := by
        by_cases c4 : W (row i) = 4
        · rw [gor_4 c0 c4]
        · rw [gor_n c0 c4]
      rw [e] at h
      obtain ⟨j, h1, h2, h3⟩ := gor_mem h
      exact ⟨j, by omega, by omega, h3⟩
/-- a coach sent: the class's state behind it -/
def snd9 (LVc : (Nat → Nat → Int32) → Nat → Nat → Int32) (M : Nat → Nat → Int32) (c t nT : Nat) (e : Int32) : Nat → Nat → Int32 := kd (hk_w (sot (LVc M) c 3 (nI t) (-1) e) 23 3 (nI (nT + 1))) nT 13
set_option maxRecDepth 20000 in
set_option maxHeartbeats 2000000 in
theorem ct_sendToCaller (hI : Inv L z m) {f t c : Nat} {w e : Int32} (hc : c < z 2) (hT3 : z 5 < 300) (LVc LVr : (Nat → Nat → Int32) → Nat → Nat → Int32) (hL : LVP L (z 0) (z 2) (z 3) m c LVc LVr) (hDR : DRW m (z 1) (z 8) f m1) (hDT : DT m (z 1) (z 8) f t w m1) (he : m1 26 5 = e) : hk_Cd MX9_sendToCaller 4 0 0 [.ref 0, .int (nI c)] (hk_h L m1) (some (.int (nI (z 5)))) (hk_h L (snd9 LVc m1 c t (z 5) e)) := by
  obtain ⟨g0, ⟨⟨a0, a1, a2, a3, a4, a5, a6, a7, a8, a9, a10, a11, a12, a13⟩, ⟨b0, b1, b2, b3, b4, b5, b6, b7, b8, b9, b10, b11, b12⟩, ⟨c0, c1, c2, c3, c4, c5, c6, c7, c8, c9, c10, c11, c12⟩⟩, g2, g3, g4, g5, g6, g7, g8, g9, g10, g11, g12, g13, g14⟩ := id hI
  obtain ⟨l1, l2, l3, l4, l5, l6, l7, l8⟩ := hL
  obtain ⟨t1, t2, t3, _⟩ := id hDT
  have e25 : m1 25 3 = nI 1 := by rw [hDR.1.a (a := 25) (by decide)]; exact a13
  have e23 : m1 23 3 = nI (z 5) := by rw [hDR.1.a (a := 23) (by decide)]; exact a5
  have e9 : m1 9 3 = nI (z 2) := by rw [hDR.1.a (a := 9) (by decide)]; exact a2
  refine hk_ofWP (by decide) (by simp [Value.category]) (Nat.le_of_ble_eq_true rfl) ?_
  show hk_WP _ _ _ _ _ _ _ [some (.ref 0), some (.int (nI c)), none] [] _ _
  refine hk_aload_n dX9_sendToCaller_0 rfl rfl ?_
  refine gfX9_23 rfl dX9_sendToCaller_1 (hk_lt (by decide)) rfl rfl ?_
  refine hk_iload_n dX9_sendToCaller_4 rfl rfl ?_
  refine ivX9_149 rfl (l7 m1 (hDR.1.a (by decide)) (hDR.1.a (by decide)) (hDR.1.a (by decide)) (hDR.1.a (by decide)) (hDR.1.a (by decide)) (hDR.1.a (by decide))) dX9_sendToCaller_5 (hk_lt (by decide)) rfl rfl rfl (by decide) ⟨by decide, by decide⟩ (Nat.le_of_ble_eq_true rfl) (hk_kv ?_)
  refine hk_aload_n dX9_sendToCaller_8 rfl rfl ?_
  refine gfX9_37 rfl dX9_sendToCaller_9 (hk_lt (by decide)) rfl rfl ?_
  refine gfX9_344 rfl dX9_sendToCaller_12 (hk_lt (by decide)) rfl rfl ?_
  refine hk_iconst (v := 0) dX9_sendToCaller_15 (by decide) ?_
  refine hk_iconst (v := 5) dX9_sendToCaller_16 (by decide) ?_
  refine ivX9_124 rfl (ct_geti (m := LVc m1) tb25 (Nat.le_refl 1) (by rw [l1 m1 25 (by decide)]; exact e25) rfl (i := 0) (by decide) (j := 5) (by decide)) dX9_sendToCaller_17 (hk_lt (by decide)) rfl rfl rfl (by decide) ⟨by decide, by decide⟩ (Nat.le_of_ble_eq_true rfl) (hk_kd ?_)
  rw [show LVc m1 26 (0 * 13 + 5) = e by rw [l1 m1 26 (by decide)]; exact he]
  refine hk_istore_n dX9_sendToCaller_20 rfl (by decide) rfl ?_
  refine hk_aload_n dX9_sendToCaller_21 rfl rfl ?_
  refine gfX9_23 rfl dX9_sendToCaller_22 (hk_lt (by decide)) rfl rfl ?_
  refine hk_iload_n dX9_sendToCaller_25 rfl rfl ?_
  refine hk_iconst (v := 3) dX9_sendToCaller_26 (by decide) ?_
  refine hk_aload_n dX9_sendToCaller_27 rfl rfl ?_
  refine gfX9_37 rfl dX9_sendToCaller_28 (hk_lt (by decide)) rfl rfl ?_
  refine gfX9_344 rfl dX9_sendToCaller_31 (hk_lt (by decide)) rfl rfl ?_
  refine hk_iconst (v := 0) dX9_sendToCaller_34 (by decide) ?_
  refine hk_iconst (v := 2) dX9_sendToCaller_35 (by decide) ?_
  refine ivX9_124 rfl (ct_geti (m := LVc m1) tb25 (Nat.le_refl 1) (by rw [l1 m1 25 (by decide)]; exact e25) rfl (i := 0) (by decide) (j := 2) (by decide)) dX9_sendToCaller_36 (hk_lt (by decide)) rfl rfl rfl (by decide) ⟨by decide, by decide⟩ (Nat.le_of_ble_eq_true rfl) (hk_kd ?_)
  rw [show LVc m1 26 (0 * 13 + 2) = nI t by rw [l1 m1 26 (by decide)]; exact t2]
  refine hk_iconst (v := (-1)) dX9_sendToCaller_39 (by decide) ?_
  refine hk_iload_n dX9_sendToCaller_40 rfl rfl ?_
  refine ivX9_153 rfl (ct_setOut (m := LVc m1) (by rw [l1 m1 9 (by decide)]; exact e9) c2 hc _ _ _ _) dX9_sendToCaller_41 (hk_lt (by decide)) rfl rfl rfl (by decide) ⟨by decide, by decide⟩ (Nat.le_of_ble_eq_true rfl) (hk_kv ?_)
  refine hk_aload_n dX9_sendToCaller_44 rfl rfl ?_
  refine gfX9_37 rfl dX9_sendToCaller_45 (hk_lt (by decide)) rfl rfl ?_
  refine ivX9_365 rfl (ct_keepDraft (m := sot (LVc m1) c 3 (nI t) (-1) e) (by rw [sot_ne (by decide), l1 m1 25 (by decide)]; exact e25) (by rw [sot_ne (by decide), l1 m1 23 (by decide)]; exact e23) hT3) dX9_sendToCaller_48 (hk_lt (by decide)) rfl rfl rfl (by decide) ⟨by decide, by decide⟩ (Nat.le_of_ble_eq_true rfl) (hk_kd ?_)
  exact hk_ireturn dX9_sendToCaller_51 rfl rfl (by decide) ⟨rfl, rfl⟩
set_option maxRecDepth 20000 in
set_option maxHeartbeats 2000000 in
theorem ct_ftc (hI : Inv L z m) {f t s : Nat} {w : Int32} {rl : List Nat} (hs : s < z 3) (hR : RK m (z 1) (z 8) f s) (hDR : DRW m (z 1) (z 8) f m1) (hDT : DT m (z 1) (z 8) f t w m1) (hRF : RFc m (z 6) (z 8) f t rl m1) : hk_Ct MX9_firstToCome 5 0 0 [.ref 0, .int (nI s)] (hk_h L m1) (fun r h => ∃ m2, r = some (.int (fo (-1) (GR m L z f t w s).1)) ∧ h = hk_h L m2 ∧ DRW m (z 1) (z 8) f m2 ∧ DT m (z 1) (z 8) f t w m2 ∧ RFc m (z 6) (z 8) f t (rl ++ (GR m L z f t w s).2) m2 ∧ ∀ c, (GR m L z f t w s).1 = some c → DCS m z f t w s c m2) := by
  refine hk_ofWP (by decide) (by simp [Value.category]) (Nat.le_of_ble_eq_true rfl) ?_
  show hk_WP _ _ _ _ _ _ _ [some (.ref 0), some (.int (nI s)), none, none, none] [] _ _
  refine hk_iconst (v := 0) dX9_firstToCome_0 (by decide) ?_
  refine hk_istore_n dX9_firstToCome_1 rfl (by decide) rfl ?_
  exact lp_ftc hI (t := t) (w := w) hs hR 0 (Nat.zero_le _) rl m1 _ _ hDR hDT hRF
set_option maxRecDepth 20000 in
set_option maxHeartbeats 2000000 in
theorem lq_call (hI : Inv L z m) {f t : Nat} {w : Int32} (hT3 : z 5 < 300) (LVc LVr : Nat → (Nat → Nat → Int32) → Nat → Nat → Int32) (hLV : ∀ c, c < z 2 → LVP L (z 0) (z 2) (z 3) m c (LVc c) (LVr c)) {i s : Nat} {lo : Option Nat} {rl : List Nat} (hi : i < z 3) (hm : (mk (RK m (z 1) (z 8) f) (KK m (z 1) (z 8) f) (bo (KK m (z 1) (z 8) f) lo) (z 3)) = some s) (hDR : DRW m (z 1) (z 8) f m1) (hDT : DT m (z 1) (z 8) f t w m1) (hRF : RFc m (z 6) (z 8) f t rl m1) (ih : ∀ (rl : List Nat) (m1 : Nat → Nat → Int32) (l6 : Option Value), DRW m (z 1) (z 8) f m1 → DT m (z 1) (z 8) f t w m1 → RFc m (z 6) (z 8) f t rl m1 → hk_WP MX9_call 7 0 0 0 0 51 [some (.ref 0), some (.int (nI f)), some (.int (nI t)), some (.int w), some (.int (fo (-1) (mk (RK m (z 1) (z 8) f) (KK m (z 1) (z 8) f) (bo (KK m (z 1) (z 8) f) (some s)) (z 3)))), some (.int (nI (i + 1))), l6] [] (hk_h L m1) (fun r h => ∃ m2, DRW m (z 1) (z 8) f m2 ∧ DT m (z 1) (z 8) f t w m2 ∧ RFc m (z 6) (z 8) f t (rl ++ (ouc (RK m (z 1) (z 8) f) (KK m (z 1) (z 8) f) (GR m L z f t w) (z 3) (z 3 - (i + 1)) (some s)).2) m2 ∧ (((ouc (RK m (z 1) (z 8) f) (KK m (z 1) (z 8) f) (GR m L z f t w) (z 3) (z 3 - (i + 1)) (some s)).1 = none ∧ r = some (.int (-3)) ∧ h = hk_h L m2) ∨ ∃ s1 c1, (ouc (RK m (z 1) (z 8) f) (KK m (z 1) (z 8) f) (GR m L z f t w) (z 3) (z 3 - (i + 1)) (some s)).1 = some (s1, c1) ∧ s1 < z 3 ∧ RK m (z 1) (z 8) f s1 ∧ (∃ i, i < rq m s1 ∧ rwn m s1 i = c1) ∧ DCS m z f t w s1 c1 m2 ∧ r = some (.int (nI (z 5))) ∧ h = hk_h L (snd9 (LVc c1) m2 c1 t (z 5) (m2 26 5))))) (l6 : Option Value) : hk_WP MX9_call 7 0 0 0 0 51 [some (.ref 0), some (.int (nI f)), some (.int (nI t)), some (.int w), some (.int (nI s)), some (.int (nI i)), l6] [] (hk_h L m1) (fun r h => ∃ m2, DRW m (z 1) (z 8) f m2 ∧ DT m (z 1) (z 8) f t w m2 ∧ RFc m (z 6) (z 8) f t (rl ++ (ouc (RK m (z 1) (z 8) f) (KK m (z 1) (z 8) f) (GR m L z f t w) (z 3) (z 3 - i) lo).2) m2 ∧ (((ouc (RK m (z 1) (z 8) f) (KK m (z 1) (z 8) f) (GR m L z f t w) (z 3) (z 3 - i) lo).1 = none ∧ r = some (.int (-3)) ∧ h = hk_h L m2) ∨ ∃ s1 c1, (ouc (RK m (z 1) (z 8) f) (KK m (z 1) (z 8) f) (GR m L z f t w) (z 3) (z 3 - i) lo).1 = some (s1, c1) ∧ s1 < z 3 ∧ RK m (z 1) (z 8) f s1 ∧ (∃ i, i < rq m s1 ∧ rwn m s1 i = c1) ∧ DCS m z f t w s1 c1 m2 ∧ r = some (.int (nI (z 5))) ∧ h = hk_h L (snd9 (LVc c1) m2 c1 t (z 5) (m2 26 5)))) := by
  obtain ⟨g0, ⟨⟨a0, a1, a2, a3, a4, a5, a6, a7, a8, a9, a10, a11, a12, a13⟩, ⟨b0, b1, b2, b3, b4, b5, b6, b7, b8, b9, b10, b11, b12⟩, ⟨c0, c1, c2, c3, c4, c5, c6, c7, c8, c9, c10, c11, c12⟩⟩, g2, g3, g4, g5, g6, g7, g8, g9, g10, g11, g12, g13, g14⟩ := id hI
  obtain ⟨k1, k2, k3⟩ := mk_lt hm
  have e13 : m1 13 3 = nI (z 3) := by rw [hDR.1.a (a := 13) (by decide)]; exact a3
  obtain ⟨kk, hkk⟩ : ∃ kk, z 3 - i = kk + 1 := ⟨z 3 - i - 1, by omega⟩
  have hkk2 : z 3 - (i + 1) = kk := by omega
  rw [hkk2] at ih
  rw [hkk]
  have hG := lp_ftc hI (t := t) (w := w) k1 k2 0 (Nat.zero_le _)
  simp only [Nat.sub_zero] at hG
  refine hk_iload dX9_call_51 rfl ?_
  refine hk_aload_n dX9_call_53 rfl rfl ?_
  refine gfX9_23 rfl dX9_call_54 (hk_lt (by decide)) rfl rfl ?_
  refine gfX9_133 rfl dX9_call_57 (hk_lt (by decide)) rfl rfl ?_
  refine gfX9_136 rfl dX9_call_60 (hk_lt (by decide)) rfl rfl ?_
  refine hk_icmp_ge (tgt := 105) dX9_call_63 (by decide) (fun c63 => absurd c63 (by rw [e13, nI_leI (by omega) (by omega)]; omega)) (fun _ => ?_)
  refine hk_iload dX9_call_66 rfl ?_
  refine hk_if_lt (tgt := 105) dX9_call_68 (by decide) (fun c68 => absurd c68 (nI_pos (by omega))) (fun _ => ?_)
  refine hk_aload_n dX9_call_71 rfl rfl ?_
  refine hk_iload dX9_call_72 rfl ?_
  refine ivX9_225 rfl (ct_ftc hI k1 k2 hDR hDT hRF) dX9_call_74 (hk_lt (by decide)) rfl rfl rfl (by decide) ⟨by decide, by decide⟩ (Nat.le_of_ble_eq_true rfl) (fun r h1 hq => ?_)
  obtain ⟨m2, rfl, rfl, hDR2, hDT2, hRF2, hDC⟩ := hq
  refine hk_istore dX9_call_77 (by decide) rfl ?_
  cases hg : (GR m L z f t w s).1 with
  | none =>
    refine hk_iload dX9_call_79 rfl ?_
    refine hk_if_lt (tgt := 91) dX9_call_81 (by decide) (fun _ => ?_) (fun c81 => absurd (by decide) c81)
    refine hk_aload_n dX9_call_91 rfl rfl ?_
    refine hk_iload dX9_call_92 rfl ?_
    refine ivX9_222 rfl (ct_saaS hI hDR2 k1 k2) dX9_call_94 (hk_lt (by decide)) rfl rfl rfl (by decide) ⟨by decide, by decide⟩ (Nat.le_of_ble_eq_true rfl) (hk_kd ?_)
    refine hk_istore dX9_call_97 (by decide) rfl ?_
    refine hk_iinc (v := nI (i + 1)) dX9_call_99 rfl (nI_1 i) (by decide) rfl ?_
    refine hk_goto (tgt := 51) dX9_call_102 (by decide) ?_
    have hx := fun (l6 : Option Value) => ih (rl ++ (GR m L z f t w s).2) m2 l6 hDR2 hDT2 hRF2
    rw [ouc_go hm hg]
    dsimp only
    rw [List.append_assoc] at hx
    exact hx _
  | some c =>
    obtain ⟨j, j1, j2, j3⟩ := gor_mem hg
    obtain ⟨_, _, q3, q4⟩ := rw_ok hI k1
    have hcz : c < z 2 := by rw [← j3]; exact (q4 j (by omega)).2.2.1
    have hDCc := hDC c hg
    refine hk_iload dX9_call_79 rfl ?_
    refine hk_if_lt (tgt := 91) dX9_call_81 (by decide) (fun c81 => absurd c81 (nI_pos (by omega))) (fun _ => ?_)
    refine hk_aload_n dX9_call_84 rfl rfl ?_
    refine hk_iload dX9_call_85 rfl ?_
    refine ivX9_228 rfl (ct_sendToCaller hI hcz hT3 (LVc c) (LVr c) (hLV c hcz) hDR2 hDT2 rfl) dX9_call_87 (hk_lt (by decide)) rfl rfl rfl (by decide) ⟨by decide, by decide⟩ (Nat.le_of_ble_eq_true rfl) (hk_kd ?_)
    exact hk_ireturn dX9_call_90 rfl rfl (by decide) ⟨m2, hDR2, hDT2, by rw [ouc_y hm hg]; exact hRF2, Or.inr ⟨s, c, by rw [ouc_y hm hg], k1, k2, ⟨j, by omega, j3⟩, hDCc, rfl, rfl⟩⟩
set_option maxRecDepth 20000 in
set_option maxHeartbeats 2000000 in
theorem lp_call (hI : Inv L z m) {f t : Nat} {w : Int32} (hT3 : z 5 < 300) (LVc LVr : Nat → (Nat → Nat → Int32) → Nat → Nat → Int32) (hLV : ∀ c, c < z 2 → LVP L (z 0) (z 2) (z 3) m c (LVc c) (LVr c)) (i : Nat) (hi : i ≤ z 3) : ∀ (lo : Option Nat) (rl : List Nat) (m1 : Nat → Nat → Int32) (l6 : Option Value), DRW m (z 1) (z 8) f m1 → DT m (z 1) (z 8) f t w m1 → RFc m (z 6) (z 8) f t rl m1 → hk_WP MX9_call 7 0 0 0 0 51 [some (.ref 0), some (.int (nI f)), some (.int (nI t)), some (.int w), some (.int (fo (-1) (mk (RK m (z 1) (z 8) f) (KK m (z 1) (z 8) f) (bo (KK m (z 1) (z 8) f) lo) (z 3)))), some (.int (nI i)), l6] [] (hk_h L m1) (fun r h => ∃ m2, DRW m (z 1) (z 8) f m2 ∧ DT m (z 1) (z 8) f t w m2 ∧ RFc m (z 6) (z 8) f t (rl ++ (ouc (RK m (z 1) (z 8) f) (KK m (z 1) (z 8) f) (GR m L z f t w) (z 3) (z 3 - i) lo).2) m2 ∧ (((ouc (RK m (z 1) (z 8) f) (KK m (z 1) (z 8) f) (GR m L z f t w) (z 3) (z 3 - i) lo).1 = none ∧ r = some (.int (-3)) ∧ h = hk_h L m2) ∨ ∃ s1 c1, (ouc (RK m (z 1) (z 8) f) (KK m (z 1) (z 8) f) (GR m L z f t w) (z 3) (z 3 - i) lo).1 = some (s1, c1) ∧ s1 < z 3 ∧ RK m (z 1) (z 8) f s1 ∧ (∃ i, i < rq m s1 ∧ rwn m s1 i = c1) ∧ DCS m z f t w s1 c1 m2 ∧ r = some (.int (nI (z 5))) ∧ h = hk_h L (snd9 (LVc c1) m2 c1 t (z 5) (m2 26 5)))) := by
  obtain ⟨g0, ⟨⟨a0, a1, a2, a3, a4, a5, a6, a7, a8, a9, a10, a11, a12, a13⟩, ⟨b0, b1, b2, b3, b4, b5, b6, b7, b8, b9, b10, b11, b12⟩, ⟨c0, c1, c2, c3, c4, c5, c6, c7, c8, c9, c10, c11, c12⟩⟩, g2, g3, g4, g5, g6, g7, g8, g9, g10, g11, g12, g13, g14⟩ := id hI
  intro lo rl m1 l6 hDR hDT hRF
  have e13 : m1 13 3 = nI (z 3) := by rw [hDR.1.a (a := 13) (by decide)]; exact a3
  by_cases hlt : i < z 3
  · cases hm : (mk (RK m (z 1) (z 8) f) (KK m (z 1) (z 8) f) (bo (KK m (z 1) (z 8) f) lo) (z 3)) with
    | some s => exact lq_call hI hT3 LVc LVr hLV hlt hm hDR hDT hRF (fun rl m1 l6 k1 k2 k3 => lp_call hI hT3 LVc LVr hLV (i + 1) hlt (some s) rl m1 l6 k1 k2 k3) l6
    | none =>
      refine hk_iload dX9_call_51 rfl ?_
      refine hk_aload_n dX9_call_53 rfl rfl ?_
      refine gfX9_23 rfl dX9_call_54 (hk_lt (by decide)) rfl rfl ?_
      refine gfX9_133 rfl dX9_call_57 (hk_lt (by decide)) rfl rfl ?_
      refine gfX9_136 rfl dX9_call_60 (hk_lt (by decide)) rfl rfl ?_
      refine hk_icmp_ge (tgt := 105) dX9_call_63 (by decide) (fun c63 => absurd c63 (by rw [e13, nI_leI (by omega) (by omega)]; omega)) (fun _ => ?_)
      refine hk_iload dX9_call_66 rfl ?_
      refine hk_if_lt (tgt := 105) dX9_call_68 (by decide) (fun _ => ?_) (fun c68 => absurd (by decide) c68)
      refine hk_bipush (v := (-3)) dX9_call_105 (by decide) ?_
      exact hk_ireturn dX9_call_107 rfl rfl (by decide) ⟨m1, hDR, hDT, by rw [ouc_no hm, List.append_nil]; exact hRF, Or.inl ⟨by rw [ouc_no hm], rfl, rfl⟩⟩
  refine hk_iload dX9_call_51 rfl ?_
  refine hk_aload_n dX9_call_53 rfl rfl ?_
  refine gfX9_23 rfl dX9_call_54 (hk_lt (by decide)) rfl rfl ?_
  refine gfX9_133 rfl dX9_call_57 (hk_lt (by decide)) rfl rfl ?_
  refine gfX9_136 rfl dX9_call_60 (hk_lt (by decide)) rfl rfl ?_
  refine hk_icmp_ge (tgt := 105) dX9_call_63 (by decide) (fun _ => ?_) (fun c63 => absurd (by rw [e13, nI_leI (by omega) (by omega)]; omega) c63)
  refine hk_bipush (v := (-3)) dX9_call_105 (by decide) ?_
  exact hk_ireturn dX9_call_107 rfl rfl (by decide) ⟨m1, hDR, hDT, by rw [show z 3 - i = 0 by omega]; show RFc _ _ _ _ _ (rl ++ []) _; rw [List.append_nil]; exact hRF, Or.inl ⟨by rw [show z 3 - i = 0 by omega]; rfl, rfl, rfl⟩⟩
termination_by z 3 - i
decreasing_by all_goals omega
end CFy
