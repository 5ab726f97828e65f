/-! go: the class's, the reference's -/
section GWx
variable {L nC nS nK nD : Nat} {m m0 m1 m2 : Nat → Nat → Int32} {z : Nat → Nat}
def sot (m : Nat → Nat → Int32) (c : Nat) (d cc s a : Int32) : Nat → Nat → Int32 := hk_w (hk_w (hk_w (hk_w m 10 (c * 8 + 0) d) 10 (c * 8 + 1) cc) 10 (c * 8 + 4) s) 10 (c * 8 + 3) a
theorem tm_I {y : Nat} (h : y < 2000000000) : (nI y + 110 - 1) / 110 = nI ((y + 109) / 110) := by
  rw [y109, show (109 : Int32) = nI 109 from rfl, nI_add, show (110 : Int32) = nI 110 from rfl, nI_div (by omega) (by decide)]
theorem tm_I2 {y : Nat} (h : y < 2000000000) : (nI y + 109) / 110 = nI ((y + 109) / 110) := by rw [← tm_I h, y109]
theorem st_ge {st : Int32} {s n : Nat} (h : st = -1 ∨ (st = nI s ∧ s < n)) (hn : n < 2 ^ 31) : ¬ st < -1 ∧ st < nI n := by
  rcases h with rfl | ⟨rfl, hs⟩
  · refine ⟨by decide, ?_⟩
    exact Int32.not_le.mp (fun e => absurd (Int32.le_trans (Int32.not_lt.mp (nI_pos hn)) e) (show ¬ (0 : Int32) ≤ -1 by decide))
  · refine ⟨fun e => nI_pos (by omega) (Int32.lt_trans e (by decide)), (nI_ltI (by omega) hn).mpr hs⟩
theorem st_lt {st : Int32} {s n : Nat} (h : st = -1 ∨ (st = nI s ∧ s < n)) (hn : n < 2 ^ 31) : st < 0 ↔ st = -1 := by
  rcases h with rfl | ⟨rfl, hs⟩
  · exact ⟨fun _ => rfl, fun _ => by decide⟩
  · refine ⟨fun e => absurd e (nI_pos (by omega)), fun e => absurd ?_ (nI_pos (n := s) (by omega))⟩
    rw [e]; decide
set_option maxRecDepth 20000 in
set_option maxHeartbeats 2000000 in
theorem ct_go_nw (hI : Inv L z m) {c tc a s : Nat} {st : Int32} (hc : c < z 2) (hst : st = -1 ∨ (st = nI s ∧ s < z 3)) (hmv : ¬ (m 10 (c * 8) = 2 ∨ m 10 (c * 8) = 3)) (hsa : ¬ (m 10 (c * 8) = 1 ∧ m 10 (c * 8 + 4) = st)) (ht : tc < z 0) (ht1 : st < 0 → m 10 (c * 8 + 7) = nI tc) (ht2 : ¬ st < 0 → tg m 13 13 (z 3) st 0 = nI tc) (ha : a < z 0) (hco : m 10 (c * 8 + 1) = nI a) (hR : ¬ RC (GG m (z 1) (nI (z 8))) tc a) : hk_Ct MX9_go 6 0 0 [.ref 0, .int (nI c), .int st] (hk_h L m) (fun r h => ∃ m1, r = some (.int (-5)) ∧ h = hk_h L m1 ∧ SCR m m1) := by
  obtain ⟨g0, ⟨⟨a0, a1, a2, a3, a4, a5, a6, a7, a8, a9, a10, a11, a12, a13⟩, ⟨b0, b1, b2, b3, b4, b5, b6, b7, b8, b9, b10, b11, b12⟩, ⟨c0, c1, c2, c3, c4, c5, c6, c7, c8, c9, c10, c11, c12⟩⟩, g2, g3, g4, g5, g6, g7, g8, g9, g10, g11, g12, g13, g14⟩ := id hI
  obtain ⟨h1, h2, h3, h4, h5, h6, h7⟩ := Inv_gs hI
  refine hk_ofWP (by decide) (by simp [Value.category]) (Nat.le_of_ble_eq_true rfl) ?_
  show hk_WP _ _ _ _ _ _ _ [some (.ref 0), some (.int (nI c)), some (.int st), none, none, none] [] _ _
  refine hk_aload_n dX9_go_0 rfl rfl ?_
  refine gfX9_23 rfl dX9_go_1 (hk_lt (by decide)) rfl rfl ?_
  refine gfX9_112 rfl dX9_go_4 (hk_lt (by decide)) rfl rfl ?_
  refine hk_iload_n dX9_go_7 rfl rfl ?_
  refine ivX9_71 rfl (ct_has tb9 c2 a2 _) dX9_go_8 (hk_lt (by decide)) rfl rfl rfl (by decide) ⟨by decide, by decide⟩ (Nat.le_of_ble_eq_true rfl) (hk_kd ?_)
  refine hk_if_eq (tgt := 33) dX9_go_11 (by decide) (fun c11 => absurd c11 (fun e => bI_0.mp e (inR_nI hc (by omega)))) (fun _ => ?_)
  refine hk_iload_n dX9_go_14 rfl rfl ?_
  refine hk_iconst (v := (-1)) dX9_go_15 (by decide) ?_
  refine hk_icmp_lt (tgt := 33) dX9_go_16 (by decide) (fun c16 => absurd c16 (st_ge hst (by omega)).1) (fun _ => ?_)
  refine hk_iload_n dX9_go_19 rfl rfl ?_
  refine hk_aload_n dX9_go_20 rfl rfl ?_
  refine gfX9_23 rfl dX9_go_21 (hk_lt (by decide)) rfl rfl ?_
  refine gfX9_133 rfl dX9_go_24 (hk_lt (by decide)) rfl rfl ?_
  refine gfX9_136 rfl dX9_go_27 (hk_lt (by decide)) rfl rfl ?_
  refine hk_icmp_lt (tgt := 35) dX9_go_30 (by decide) (fun _ => ?_) (fun c30 => absurd (by rw [a3]; exact (st_ge hst (by omega)).2) c30)
  refine hk_aload_n dX9_go_35 rfl rfl ?_
  refine gfX9_23 rfl dX9_go_36 (hk_lt (by decide)) rfl rfl ?_
  refine hk_iload_n dX9_go_39 rfl rfl ?_
  refine ivX9_139 rfl (ct_isMoving a2 c2 hc) dX9_go_40 (hk_lt (by decide)) rfl rfl rfl (by decide) ⟨by decide, by decide⟩ (Nat.le_of_ble_eq_true rfl) (hk_kd ?_)
  refine hk_if_ne (tgt := 58) dX9_go_43 (by decide) (fun c43 => absurd (bI_f hmv) c43) (fun _ => ?_)
  refine hk_aload_n dX9_go_46 rfl rfl ?_
  refine gfX9_23 rfl dX9_go_47 (hk_lt (by decide)) rfl rfl ?_
  refine hk_iload_n dX9_go_50 rfl rfl ?_
  refine hk_iload_n dX9_go_51 rfl rfl ?_
  refine ivX9_142 rfl (ct_isStandingAt a2 c2 hc _) dX9_go_52 (hk_lt (by decide)) rfl rfl rfl (by decide) ⟨by decide, by decide⟩ (Nat.le_of_ble_eq_true rfl) (hk_kd ?_)
  refine hk_if_eq (tgt := 61) dX9_go_55 (by decide) (fun _ => ?_) (fun c55 => absurd (bI_f (fun ⟨x, y⟩ => hsa ⟨by rw [tg_in2 (c := 0) (j := 0) rfl (by omega) (by decide) hc (by decide)] at x; exact x, y⟩)) c55)
  refine hk_iload_n dX9_go_61 rfl rfl ?_
  refine hk_if_ge (tgt := 81) dX9_go_62 (by decide) (fun c62 => ?_) (fun c62 => ?_)
  · refine hk_aload_n dX9_go_81 rfl rfl ?_
    refine gfX9_23 rfl dX9_go_82 (hk_lt (by decide)) rfl rfl ?_
    refine gfX9_133 rfl dX9_go_85 (hk_lt (by decide)) rfl rfl ?_
    refine hk_iload_n dX9_go_88 rfl rfl ?_
    refine hk_iconst (v := 0) dX9_go_89 (by decide) ?_
    refine ivX9_124 rfl (ct_get tb13 c3 a3 st 0) dX9_go_90 (hk_lt (by decide)) rfl rfl rfl (by decide) ⟨by decide, by decide⟩ (Nat.le_of_ble_eq_true rfl) (hk_kd ?_)
    rw [ht2 (Int32.not_lt.mpr c62)]
    refine hk_istore_n dX9_go_93 rfl (by decide) rfl ?_
    refine hk_aload_n dX9_go_94 rfl rfl ?_
    refine gfX9_16 rfl dX9_go_95 (hk_lt (by decide)) rfl rfl ?_
    refine hk_iload_n dX9_go_98 rfl rfl ?_
    refine hk_aload_n dX9_go_99 rfl rfl ?_
    refine gfX9_7 rfl dX9_go_100 (hk_lt (by decide)) rfl rfl ?_
    rw [a8]
    refine ivX9_88 rfl (ct_measure h1 h3 h4 h5 h6 (nI (z 8)) (by omega)) dX9_go_103 (hk_lt (by decide)) rfl rfl rfl (by decide) ⟨by decide, by decide⟩ (Nat.le_of_ble_eq_true rfl) (fun r h1 hq => ?_)
    obtain ⟨m1, rfl, rfl, hX⟩ := hq
    refine hk_aload_n dX9_go_106 rfl rfl ?_
    refine gfX9_16 rfl dX9_go_107 (hk_lt (by decide)) rfl rfl ?_
    refine hk_aload_n dX9_go_110 rfl rfl ?_
    refine gfX9_23 rfl dX9_go_111 (hk_lt (by decide)) rfl rfl ?_
    refine gfX9_112 rfl dX9_go_114 (hk_lt (by decide)) rfl rfl ?_
    refine hk_iload_n dX9_go_117 rfl rfl ?_
    refine hk_iconst (v := 1) dX9_go_118 (by decide) ?_
    refine ivX9_124 rfl (ct_geti (m := m1) tb9 c2 (by rw [hX.1.1 9 (by decide) (by decide)]; exact a2) rfl hc (j := 1) (by decide)) dX9_go_119 (hk_lt (by decide)) rfl rfl rfl (by decide) ⟨by decide, by decide⟩ (Nat.le_of_ble_eq_true rfl) (hk_kd ?_)
    rw [hX.1.1 10 (by decide) (by decide), hco]
    refine ivX9_92 rfl (ct_yardsFrom h4 h5 h6 hX ha) dX9_go_122 (hk_lt (by decide)) rfl rfl rfl (by decide) ⟨by decide, by decide⟩ (Nat.le_of_ble_eq_true rfl) (hk_kd ?_)
    refine hk_istore dX9_go_125 (by decide) rfl ?_
    refine hk_iload dX9_go_127 rfl ?_
    refine hk_if_ge (tgt := 135) dX9_go_129 (by decide) (fun c129 => absurd c129 (Int32.not_le.mpr ((yv_0 (GS.gm h4 _ h5)).mpr hR))) (fun _ => ?_)
    refine hk_bipush (v := (-5)) dX9_go_132 (by decide) ?_
    exact hk_ireturn dX9_go_134 rfl rfl (by decide) ⟨m1, rfl, rfl, hX.1.scr⟩
  · refine hk_aload_n dX9_go_65 rfl rfl ?_
    refine gfX9_23 rfl dX9_go_66 (hk_lt (by decide)) rfl rfl ?_
    refine gfX9_112 rfl dX9_go_69 (hk_lt (by decide)) rfl rfl ?_
    refine hk_iload_n dX9_go_72 rfl rfl ?_
    refine hk_bipush (v := 7) dX9_go_73 (by decide) ?_
    refine ivX9_124 rfl (ct_geti tb9 c2 a2 rfl hc (j := 7) (by decide)) dX9_go_75 (hk_lt (by decide)) rfl rfl rfl (by decide) ⟨by decide, by decide⟩ (Nat.le_of_ble_eq_true rfl) (hk_kd ?_)
    rw [ht1 (Int32.not_le.mp c62)]
    refine hk_goto (tgt := 93) dX9_go_78 (by decide) ?_
    refine hk_istore_n dX9_go_93 rfl (by decide) rfl ?_
    refine hk_aload_n dX9_go_94 rfl rfl ?_
    refine gfX9_16 rfl dX9_go_95 (hk_lt (by decide)) rfl rfl ?_
    refine hk_iload_n dX9_go_98 rfl rfl ?_
    refine hk_aload_n dX9_go_99 rfl rfl ?_
    refine gfX9_7 rfl dX9_go_100 (hk_lt (by decide)) rfl rfl ?_
    rw [a8]
    refine ivX9_88 rfl (ct_measure h1 h3 h4 h5 h6 (nI (z 8)) (by omega)) dX9_go_103 (hk_lt (by decide)) rfl rfl rfl (by decide) ⟨by decide, by decide⟩ (Nat.le_of_ble_eq_true rfl) (fun r h1 hq => ?_)
    obtain ⟨m1, rfl, rfl, hX⟩ := hq
    refine hk_aload_n dX9_go_106 rfl rfl ?_
    refine gfX9_16 rfl dX9_go_107 (hk_lt (by decide)) rfl rfl ?_
    refine hk_aload_n dX9_go_110 rfl rfl ?_
    refine gfX9_23 rfl dX9_go_111 (hk_lt (by decide)) rfl rfl ?_
    refine gfX9_112 rfl dX9_go_114 (hk_lt (by decide)) rfl rfl ?_
    refine hk_iload_n dX9_go_117 rfl rfl ?_
    refine hk_iconst (v := 1) dX9_go_118 (by decide) ?_
    refine ivX9_124 rfl (ct_geti (m := m1) tb9 c2 (by rw [hX.1.1 9 (by decide) (by decide)]; exact a2) rfl hc (j := 1) (by decide)) dX9_go_119 (hk_lt (by decide)) rfl rfl rfl (by decide) ⟨by decide, by decide⟩ (Nat.le_of_ble_eq_true rfl) (hk_kd ?_)
    rw [hX.1.1 10 (by decide) (by decide), hco]
    refine ivX9_92 rfl (ct_yardsFrom h4 h5 h6 hX ha) dX9_go_122 (hk_lt (by decide)) rfl rfl rfl (by decide) ⟨by decide, by decide⟩ (Nat.le_of_ble_eq_true rfl) (hk_kd ?_)
    refine hk_istore dX9_go_125 (by decide) rfl ?_
    refine hk_iload dX9_go_127 rfl ?_
    refine hk_if_ge (tgt := 135) dX9_go_129 (by decide) (fun c129 => absurd c129 (Int32.not_le.mpr ((yv_0 (GS.gm h4 _ h5)).mpr hR))) (fun _ => ?_)
    refine hk_bipush (v := (-5)) dX9_go_132 (by decide) ?_
    exact hk_ireturn dX9_go_134 rfl rfl (by decide) ⟨m1, rfl, rfl, hX.1.scr⟩
set_option maxRecDepth 20000 in
set_option maxHeartbeats 2000000 in
theorem ct_go_ok (hI : Inv L z m) {c tc a s : Nat} {st : Int32} (hc : c < z 2) (hst : st = -1 ∨ (st = nI s ∧ s < z 3)) (hmv : ¬ (m 10 (c * 8) = 2 ∨ m 10 (c * 8) = 3)) (hsa : ¬ (m 10 (c * 8) = 1 ∧ m 10 (c * 8 + 4) = st)) (ht : tc < z 0) (ht1 : st < 0 → m 10 (c * 8 + 7) = nI tc) (ht2 : ¬ st < 0 → tg m 13 13 (z 3) st 0 = nI tc) (ha : a < z 0) (hco : m 10 (c * 8 + 1) = nI a) (hR : RC (GG m (z 1) (nI (z 8))) tc a) {T : Nat} (hT : T = (DD (GG m (z 1) (nI (z 8))) tc a / 100 + 109) / 110) (LV AR : (Nat → Nat → Int32) → Nat → Nat → Int32) (hlf : ∀ m1 a, a ≠ 14 → LV m1 a = m1 a) (hlv : ∀ m1, CYF m m1 → hk_Cd MX2_leaveRow 3 0 0 [.ref 8, .int (nI c)] (hk_h L m1) none (hk_h L (LV m1))) (har : T = 0 → ∀ m1, CYF m m1 → hk_Cd MX2_arrive 4 0 0 [.ref 8, .int (nI c)] (hk_h L (sot (LV m1) c 2 (nI tc) st (nI (z 8 + T)))) none (hk_h L (AR (sot (LV m1) c 2 (nI tc) st (nI (z 8 + T)))))) : hk_Ct MX9_go 6 0 0 [.ref 0, .int (nI c), .int st] (hk_h L m) (fun r h => ∃ m1, r = some (.int (nI T)) ∧ CYF m m1 ∧ ((¬ T = 0 ∧ h = hk_h L (sot (LV m1) c 2 (nI tc) st (nI (z 8 + T)))) ∨ (T = 0 ∧ h = hk_h L (AR (sot (LV m1) c 2 (nI tc) st (nI (z 8 + T))))))) := by
  obtain ⟨g0, ⟨⟨a0, a1, a2, a3, a4, a5, a6, a7, a8, a9, a10, a11, a12, a13⟩, ⟨b0, b1, b2, b3, b4, b5, b6, b7, b8, b9, b10, b11, b12⟩, ⟨c0, c1, c2, c3, c4, c5, c6, c7, c8, c9, c10, c11, c12⟩⟩, g2, g3, g4, g5, g6, g7, g8, g9, g10, g11, g12, g13, g14⟩ := id hI
  obtain ⟨h1, h2, h3, h4, h5, h6, h7⟩ := Inv_gs hI
  have hDb := DDb (u := nI (z 8)) (GS.gm h4 _ h5) (t := tc) (c := a)
  have eyv : yv (GG m (z 1) (nI (z 8))) tc a = nI (DD (GG m (z 1) (nI (z 8))) tc a / 100) := by unfold yv; exact if_pos hR
  have eT : (nI (DD (GG m (z 1) (nI (z 8))) tc a / 100) + 110 - 1) / 110 = nI T := by rw [hT]; exact tm_I (by omega)
  have hT2 : T < 2 ^ 31 := by omega
  refine hk_ofWP (by decide) (by simp [Value.category]) (Nat.le_of_ble_eq_true rfl) ?_
  show hk_WP _ _ _ _ _ _ _ [some (.ref 0), some (.int (nI c)), some (.int st), none, none, none] [] _ _
  refine hk_aload_n dX9_go_0 rfl rfl ?_
  refine gfX9_23 rfl dX9_go_1 (hk_lt (by decide)) rfl rfl ?_
  refine gfX9_112 rfl dX9_go_4 (hk_lt (by decide)) rfl rfl ?_
  refine hk_iload_n dX9_go_7 rfl rfl ?_
  refine ivX9_71 rfl (ct_has tb9 c2 a2 _) dX9_go_8 (hk_lt (by decide)) rfl rfl rfl (by decide) ⟨by decide, by decide⟩ (Nat.le_of_ble_eq_true rfl) (hk_kd ?_)
  refine hk_if_eq (tgt := 33) dX9_go_11 (by decide) (fun c11 => absurd c11 (fun e => bI_0.mp e (inR_nI hc (by omega)))) (fun _ => ?_)
  refine hk_iload_n dX9_go_14 rfl rfl ?_
  refine hk_iconst (v := (-1)) dX9_go_15 (by decide) ?_
  refine hk_icmp_lt (tgt := 33) dX9_go_16 (by decide) (fun c16 => absurd c16 (st_ge hst (by omega)).1) (fun _ => ?_)
  refine hk_iload_n dX9_go_19 rfl rfl ?_
  refine hk_aload_n dX9_go_20 rfl rfl ?_
  refine gfX9_23 rfl dX9_go_21 (hk_lt (by decide)) rfl rfl ?_
  refine gfX9_133 rfl dX9_go_24 (hk_lt (by decide)) rfl rfl ?_
  refine gfX9_136 rfl dX9_go_27 (hk_lt (by decide)) rfl rfl ?_
  refine hk_icmp_lt (tgt := 35) dX9_go_30 (by decide) (fun _ => ?_) (fun c30 => absurd (by rw [a3]; exact (st_ge hst (by omega)).2) c30)
  refine hk_aload_n dX9_go_35 rfl rfl ?_
  refine gfX9_23 rfl dX9_go_36 (hk_lt (by decide)) rfl rfl ?_
  refine hk_iload_n dX9_go_39 rfl rfl ?_
  refine ivX9_139 rfl (ct_isMoving a2 c2 hc) dX9_go_40 (hk_lt (by decide)) rfl rfl rfl (by decide) ⟨by decide, by decide⟩ (Nat.le_of_ble_eq_true rfl) (hk_kd ?_)
  refine hk_if_ne (tgt := 58) dX9_go_43 (by decide) (fun c43 => absurd (bI_f hmv) c43) (fun _ => ?_)
  refine hk_aload_n dX9_go_46 rfl rfl ?_
  refine gfX9_23 rfl dX9_go_47 (hk_lt (by decide)) rfl rfl ?_
  refine hk_iload_n dX9_go_50 rfl rfl ?_
  refine hk_iload_n dX9_go_51 rfl rfl ?_
  refine ivX9_142 rfl (ct_isStandingAt a2 c2 hc _) dX9_go_52 (hk_lt (by decide)) rfl rfl rfl (by decide) ⟨by decide, by decide⟩ (Nat.le_of_ble_eq_true rfl) (hk_kd ?_)
  refine hk_if_eq (tgt := 61) dX9_go_55 (by decide) (fun _ => ?_) (fun c55 => absurd (bI_f (fun ⟨x, y⟩ => hsa ⟨by rw [tg_in2 (c := 0) (j := 0) rfl (by omega) (by decide) hc (by decide)] at x; exact x, y⟩)) c55)
  refine hk_iload_n dX9_go_61 rfl rfl ?_
  refine hk_if_ge (tgt := 81) dX9_go_62 (by decide) (fun c62 => ?_) (fun c62 => ?_)
  · refine hk_aload_n dX9_go_81 rfl rfl ?_
    refine gfX9_23 rfl dX9_go_82 (hk_lt (by decide)) rfl rfl ?_
    refine gfX9_133 rfl dX9_go_85 (hk_lt (by decide)) rfl rfl ?_
    refine hk_iload_n dX9_go_88 rfl rfl ?_
    refine hk_iconst (v := 0) dX9_go_89 (by decide) ?_
    refine ivX9_124 rfl (ct_get tb13 c3 a3 st 0) dX9_go_90 (hk_lt (by decide)) rfl rfl rfl (by decide) ⟨by decide, by decide⟩ (Nat.le_of_ble_eq_true rfl) (hk_kd ?_)
    rw [ht2 (Int32.not_lt.mpr c62)]
    refine hk_istore_n dX9_go_93 rfl (by decide) rfl ?_
    refine hk_aload_n dX9_go_94 rfl rfl ?_
    refine gfX9_16 rfl dX9_go_95 (hk_lt (by decide)) rfl rfl ?_
    refine hk_iload_n dX9_go_98 rfl rfl ?_
    refine hk_aload_n dX9_go_99 rfl rfl ?_
    refine gfX9_7 rfl dX9_go_100 (hk_lt (by decide)) rfl rfl ?_
    rw [a8]
    refine ivX9_88 rfl (ct_measure h1 h3 h4 h5 h6 (nI (z 8)) (by omega)) dX9_go_103 (hk_lt (by decide)) rfl rfl rfl (by decide) ⟨by decide, by decide⟩ (Nat.le_of_ble_eq_true rfl) (fun r h1 hq => ?_)
    obtain ⟨m1, rfl, rfl, hX⟩ := hq
    refine hk_aload_n dX9_go_106 rfl rfl ?_
    refine gfX9_16 rfl dX9_go_107 (hk_lt (by decide)) rfl rfl ?_
    refine hk_aload_n dX9_go_110 rfl rfl ?_
    refine gfX9_23 rfl dX9_go_111 (hk_lt (by decide)) rfl rfl ?_
    refine gfX9_112 rfl dX9_go_114 (hk_lt (by decide)) rfl rfl ?_
    refine hk_iload_n dX9_go_117 rfl rfl ?_
    refine hk_iconst (v := 1) dX9_go_118 (by decide) ?_
    refine ivX9_124 rfl (ct_geti (m := m1) tb9 c2 (by rw [hX.1.1 9 (by decide) (by decide)]; exact a2) rfl hc (j := 1) (by decide)) dX9_go_119 (hk_lt (by decide)) rfl rfl rfl (by decide) ⟨by decide, by decide⟩ (Nat.le_of_ble_eq_true rfl) (hk_kd ?_)
    rw [hX.1.1 10 (by decide) (by decide), hco]
    refine ivX9_92 rfl (ct_yardsFrom h4 h5 h6 hX ha) dX9_go_122 (hk_lt (by decide)) rfl rfl rfl (by decide) ⟨by decide, by decide⟩ (Nat.le_of_ble_eq_true rfl) (hk_kd ?_)
    rw [eyv]
    refine hk_istore dX9_go_125 (by decide) rfl ?_
    refine hk_iload dX9_go_127 rfl ?_
    refine hk_if_ge (tgt := 135) dX9_go_129 (by decide) (fun _ => ?_) (fun c129 => absurd (Int32.not_lt.mp (nI_pos (by omega))) c129)
    refine hk_iload dX9_go_135 rfl ?_
    refine ivX9_146 rfl (ct_timeOf _) dX9_go_137 rfl rfl (by decide) ⟨by decide, by decide⟩ (Nat.le_of_ble_eq_true rfl) (hk_kd ?_)
    rw [eT]
    refine hk_istore dX9_go_140 (by decide) rfl ?_
    refine hk_aload_n dX9_go_142 rfl rfl ?_
    refine gfX9_23 rfl dX9_go_143 (hk_lt (by decide)) rfl rfl ?_
    refine hk_iload_n dX9_go_146 rfl rfl ?_
    refine ivX9_149 rfl (hlv m1 hX.1) dX9_go_147 (hk_lt (by decide)) rfl rfl rfl (by decide) ⟨by decide, by decide⟩ (Nat.le_of_ble_eq_true rfl) (hk_kv ?_)
    refine hk_aload_n dX9_go_150 rfl rfl ?_
    refine gfX9_23 rfl dX9_go_151 (hk_lt (by decide)) rfl rfl ?_
    refine hk_iload_n dX9_go_154 rfl rfl ?_
    refine hk_iconst (v := 2) dX9_go_155 (by decide) ?_
    refine hk_iload_n dX9_go_156 rfl rfl ?_
    refine hk_iload_n dX9_go_157 rfl rfl ?_
    refine hk_aload_n dX9_go_158 rfl rfl ?_
    refine gfX9_7 rfl dX9_go_159 (hk_lt (by decide)) rfl rfl ?_
    refine hk_iload dX9_go_162 rfl ?_
    refine hk_iadd dX9_go_164 ?_
    rw [show LV m1 0 0 + nI T = nI (z 8 + T) by rw [hlf m1 0 (by decide), hX.1.1 0 (by decide) (by decide), a8, nI_add]]
    refine ivX9_153 rfl (ct_setOut (m := LV m1) (by rw [hlf m1 9 (by decide), hX.1.1 9 (by decide) (by decide)]; exact a2) c2 hc _ _ _ _) dX9_go_165 (hk_lt (by decide)) rfl rfl rfl (by decide) ⟨by decide, by decide⟩ (Nat.le_of_ble_eq_true rfl) (hk_kv ?_)
    refine hk_iload dX9_go_168 rfl ?_
    refine hk_if_ne (tgt := 181) dX9_go_170 (by decide) (fun c170 => ?_) (fun c170 => ?_)
    · rw [show (0 : Int32) = nI 0 from rfl, nI_eq (by omega) (by omega)] at c170
      refine hk_iload dX9_go_181 rfl ?_
      exact hk_ireturn dX9_go_183 rfl rfl (by decide) ⟨m1, rfl, hX.1, by first | exact Or.inr ⟨c170, rfl⟩ | exact Or.inl ⟨c170, rfl⟩⟩
    · rw [show (0 : Int32) = nI 0 from rfl, nI_eq (by omega) (by omega)] at c170
      have hT0 : T = 0 := c170
      refine hk_aload_n dX9_go_173 rfl rfl ?_
      refine gfX9_23 rfl dX9_go_174 (hk_lt (by decide)) rfl rfl ?_
      refine hk_iload_n dX9_go_177 rfl rfl ?_
      refine ivX9_157 rfl (har hT0 m1 hX.1) dX9_go_178 (hk_lt (by decide)) rfl rfl rfl (by decide) ⟨by decide, by decide⟩ (Nat.le_of_ble_eq_true rfl) (hk_kv ?_)
      refine hk_iload dX9_go_181 rfl ?_
      exact hk_ireturn dX9_go_183 rfl rfl (by decide) ⟨m1, rfl, hX.1, by first | exact Or.inr ⟨c170, rfl⟩ | exact Or.inl ⟨c170, rfl⟩⟩
  · refine hk_aload_n dX9_go_65 rfl rfl ?_
    refine gfX9_23 rfl dX9_go_66 (hk_lt (by decide)) rfl rfl ?_
    refine gfX9_112 rfl dX9_go_69 (hk_lt (by decide)) rfl rfl ?_
    refine hk_iload_n dX9_go_72 rfl rfl ?_
    refine hk_bipush (v := 7) dX9_go_73 (by decide) ?_
    refine ivX9_124 rfl (ct_geti tb9 c2 a2 rfl hc (j := 7) (by decide)) dX9_go_75 (hk_lt (by decide)) rfl rfl rfl (by decide) ⟨by decide, by decide⟩ (Nat.le_of_ble_eq_true rfl) (hk_kd ?_)
    rw [ht1 (Int32.not_le.mp c62)]
    refine hk_goto (tgt := 93) dX9_go_78 (by decide) ?_
    refine hk_istore_n dX9_go_93 rfl (by decide) rfl ?_
    refine hk_aload_n dX9_go_94 rfl rfl ?_
    refine gfX9_16 rfl dX9_go_95 (hk_lt (by decide)) rfl rfl ?_
    refine hk_iload_n dX9_go_98 rfl rfl ?_
    refine hk_aload_n dX9_go_99 rfl rfl ?_
    refine gfX9_7 rfl dX9_go_100 (hk_lt (by decide)) rfl rfl ?_
    rw [a8]
    refine ivX9_88 rfl (ct_measure h1 h3 h4 h5 h6 (nI (z 8)) (by omega)) dX9_go_103 (hk_lt (by decide)) rfl rfl rfl (by decide) ⟨by decide, by decide⟩ (Nat.le_of_ble_eq_true rfl) (fun r h1 hq => ?_)
    obtain ⟨m1, rfl, rfl, hX⟩ := hq
    refine hk_aload_n dX9_go_106 rfl rfl ?_
    refine gfX9_16 rfl dX9_go_107 (hk_lt (by decide)) rfl rfl ?_
    refine hk_aload_n dX9_go_110 rfl rfl ?_
    refine gfX9_23 rfl dX9_go_111 (hk_lt (by decide)) rfl rfl ?_
    refine gfX9_112 rfl dX9_go_114 (hk_lt (by decide)) rfl rfl ?_
    refine hk_iload_n dX9_go_117 rfl rfl ?_
    refine hk_iconst (v := 1) dX9_go_118 (by decide) ?_
    refine ivX9_124 rfl (ct_geti (m := m1) tb9 c2 (by rw [hX.1.1 9 (by decide) (by decide)]; exact a2) rfl hc (j := 1) (by decide)) dX9_go_119 (hk_lt (by decide)) rfl rfl rfl (by decide) ⟨by decide, by decide⟩ (Nat.le_of_ble_eq_true rfl) (hk_kd ?_)
    rw [hX.1.1 10 (by decide) (by decide), hco]
    refine ivX9_92 rfl (ct_yardsFrom h4 h5 h6 hX ha) dX9_go_122 (hk_lt (by decide)) rfl rfl rfl (by decide) ⟨by decide, by decide⟩ (Nat.le_of_ble_eq_true rfl) (hk_kd ?_)
    rw [eyv]
    refine hk_istore dX9_go_125 (by decide) rfl ?_
    refine hk_iload dX9_go_127 rfl ?_
    refine hk_if_ge (tgt := 135) dX9_go_129 (by decide) (fun _ => ?_) (fun c129 => absurd (Int32.not_lt.mp (nI_pos (by omega))) c129)
    refine hk_iload dX9_go_135 rfl ?_
    refine ivX9_146 rfl (ct_timeOf _) dX9_go_137 rfl rfl (by decide) ⟨by decide, by decide⟩ (Nat.le_of_ble_eq_true rfl) (hk_kd ?_)
    rw [eT]
    refine hk_istore dX9_go_140 (by decide) rfl ?_
    refine hk_aload_n dX9_go_142 rfl rfl ?_
    refine gfX9_23 rfl dX9_go_143 (hk_lt (by decide)) rfl rfl ?_
    refine hk_iload_n dX9_go_146 rfl rfl ?_
    refine ivX9_149 rfl (hlv m1 hX.1) dX9_go_147 (hk_lt (by decide)) rfl rfl rfl (by decide) ⟨by decide, by decide⟩ (Nat.le_of_ble_eq_true rfl) (hk_kv ?_)
    refine hk_aload_n dX9_go_150 rfl rfl ?_
    refine gfX9_23 rfl dX9_go_151 (hk_lt (by decide)) rfl rfl ?_
    refine hk_iload_n dX9_go_154 rfl rfl ?_
    refine hk_iconst (v := 2) dX9_go_155 (by decide) ?_
    refine hk_iload_n dX9_go_156 rfl rfl ?_
    refine hk_iload_n dX9_go_157 rfl rfl ?_
    refine hk_aload_n dX9_go_158 rfl rfl ?_
    refine gfX9_7 rfl dX9_go_159 (hk_lt (by decide)) rfl rfl ?_
    refine hk_iload dX9_go_162 rfl ?_
    refine hk_iadd dX9_go_164 ?_
    rw [show LV m1 0 0 + nI T = nI (z 8 + T) by rw [hlf m1 0 (by decide), hX.1.1 0 (by decide) (by decide), a8, nI_add]]
    refine ivX9_153 rfl (ct_setOut (m := LV m1) (by rw [hlf m1 9 (by decide), hX.1.1 9 (by decide) (by decide)]; exact a2) c2 hc _ _ _ _) dX9_go_165 (hk_lt (by decide)) rfl rfl rfl (by decide) ⟨by decide, by decide⟩ (Nat.le_of_ble_eq_true rfl) (hk_kv ?_)
    refine hk_iload dX9_go_168 rfl ?_
    refine hk_if_ne (tgt := 181) dX9_go_170 (by decide) (fun c170 => ?_) (fun c170 => ?_)
    · rw [show (0 : Int32) = nI 0 from rfl, nI_eq (by omega) (by omega)] at c170
      refine hk_iload dX9_go_181 rfl ?_
      exact hk_ireturn dX9_go_183 rfl rfl (by decide) ⟨m1, rfl, hX.1, by first | exact Or.inr ⟨c170, rfl⟩ | exact Or.inl ⟨c170, rfl⟩⟩
    · rw [show (0 : Int32) = nI 0 from rfl, nI_eq (by omega) (by omega)] at c170
      have hT0 : T = 0 := c170
      refine hk_aload_n dX9_go_173 rfl rfl ?_
      refine gfX9_23 rfl dX9_go_174 (hk_lt (by decide)) rfl rfl ?_
      refine hk_iload_n dX9_go_177 rfl rfl ?_
      refine ivX9_157 rfl (har hT0 m1 hX.1) dX9_go_178 (hk_lt (by decide)) rfl rfl rfl (by decide) ⟨by decide, by decide⟩ (Nat.le_of_ble_eq_true rfl) (hk_kv ?_)
      refine hk_iload dX9_go_181 rfl ?_
      exact hk_ireturn dX9_go_183 rfl rfl (by decide) ⟨m1, rfl, hX.1, by first | exact Or.inr ⟨c170, rfl⟩ | exact Or.inl ⟨c170, rfl⟩⟩
set_option maxRecDepth 20000 in
set_option maxHeartbeats 2000000 in
theorem ct_go_st (hI : Inv L z m) {c tc a s : Nat} {st : Int32} (hc : c < z 2) (hst : st = -1 ∨ (st = nI s ∧ s < z 3)) (hms : (m 10 (c * 8) = 2 ∨ m 10 (c * 8) = 3) ∨ (m 10 (c * 8) = 1 ∧ m 10 (c * 8 + 4) = st)) : hk_Cd MX9_go 6 0 0 [.ref 0, .int (nI c), .int st] (hk_h L m) (some (.int (-3))) (hk_h L m) := by
  obtain ⟨g0, ⟨⟨a0, a1, a2, a3, a4, a5, a6, a7, a8, a9, a10, a11, a12, a13⟩, ⟨b0, b1, b2, b3, b4, b5, b6, b7, b8, b9, b10, b11, b12⟩, ⟨c0, c1, c2, c3, c4, c5, c6, c7, c8, c9, c10, c11, c12⟩⟩, g2, g3, g4, g5, g6, g7, g8, g9, g10, g11, g12, g13, g14⟩ := id hI
  obtain ⟨h1, h2, h3, h4, h5, h6, h7⟩ := Inv_gs hI
  refine hk_ofWP (by decide) (by simp [Value.category]) (Nat.le_of_ble_eq_true rfl) ?_
  show hk_WP _ _ _ _ _ _ _ [some (.ref 0), some (.int (nI c)), some (.int st), none, none, none] [] _ _
  refine hk_aload_n dX9_go_0 rfl rfl ?_
  refine gfX9_23 rfl dX9_go_1 (hk_lt (by decide)) rfl rfl ?_
  refine gfX9_112 rfl dX9_go_4 (hk_lt (by decide)) rfl rfl ?_
  refine hk_iload_n dX9_go_7 rfl rfl ?_
  refine ivX9_71 rfl (ct_has tb9 c2 a2 _) dX9_go_8 (hk_lt (by decide)) rfl rfl rfl (by decide) ⟨by decide, by decide⟩ (Nat.le_of_ble_eq_true rfl) (hk_kd ?_)
  refine hk_if_eq (tgt := 33) dX9_go_11 (by decide) (fun c11 => absurd c11 (fun e => bI_0.mp e (inR_nI hc (by omega)))) (fun _ => ?_)
  refine hk_iload_n dX9_go_14 rfl rfl ?_
  refine hk_iconst (v := (-1)) dX9_go_15 (by decide) ?_
  refine hk_icmp_lt (tgt := 33) dX9_go_16 (by decide) (fun c16 => absurd c16 (st_ge hst (by omega)).1) (fun _ => ?_)
  refine hk_iload_n dX9_go_19 rfl rfl ?_
  refine hk_aload_n dX9_go_20 rfl rfl ?_
  refine gfX9_23 rfl dX9_go_21 (hk_lt (by decide)) rfl rfl ?_
  refine gfX9_133 rfl dX9_go_24 (hk_lt (by decide)) rfl rfl ?_
  refine gfX9_136 rfl dX9_go_27 (hk_lt (by decide)) rfl rfl ?_
  refine hk_icmp_lt (tgt := 35) dX9_go_30 (by decide) (fun _ => ?_) (fun c30 => absurd (by rw [a3]; exact (st_ge hst (by omega)).2) c30)
  refine hk_aload_n dX9_go_35 rfl rfl ?_
  refine gfX9_23 rfl dX9_go_36 (hk_lt (by decide)) rfl rfl ?_
  refine hk_iload_n dX9_go_39 rfl rfl ?_
  refine ivX9_139 rfl (ct_isMoving a2 c2 hc) dX9_go_40 (hk_lt (by decide)) rfl rfl rfl (by decide) ⟨by decide, by decide⟩ (Nat.le_of_ble_eq_true rfl) (hk_kd ?_)
  refine hk_if_ne (tgt := 58) dX9_go_43 (by decide) (fun c43 => ?_) (fun c43 => ?_)
  · rw [bI_0] at c43
    refine hk_bipush (v := (-3)) dX9_go_58 (by decide) ?_
    exact hk_ireturn dX9_go_60 rfl rfl (by decide) ⟨rfl, rfl⟩
  · rw [bI_0] at c43
    refine hk_aload_n dX9_go_46 rfl rfl ?_
    refine gfX9_23 rfl dX9_go_47 (hk_lt (by decide)) rfl rfl ?_
    refine hk_iload_n dX9_go_50 rfl rfl ?_
    refine hk_iload_n dX9_go_51 rfl rfl ?_
    refine ivX9_142 rfl (ct_isStandingAt a2 c2 hc _) dX9_go_52 (hk_lt (by decide)) rfl rfl rfl (by decide) ⟨by decide, by decide⟩ (Nat.le_of_ble_eq_true rfl) (hk_kd ?_)
    refine hk_if_eq (tgt := 61) dX9_go_55 (by decide) (fun c55 => ?_) (fun c55 => ?_)
    · rw [bI_0, tg_in2 (c := 0) (j := 0) rfl (by omega) (by decide) hc (by decide)] at c55
      exact absurd hms (fun h => h.elim c43 c55)
    · rw [bI_0, tg_in2 (c := 0) (j := 0) rfl (by omega) (by decide) hc (by decide)] at c55
      refine hk_bipush (v := (-3)) dX9_go_58 (by decide) ?_
      exact hk_ireturn dX9_go_60 rfl rfl (by decide) ⟨rfl, rfl⟩
set_option maxRecDepth 20000 in
set_option maxHeartbeats 2000000 in
theorem ct_go_no (hI : Inv L z m) {c st : Int32} (hno : ¬ inR c (z 2) ∨ st < -1 ∨ ¬ st < nI (z 3)) : hk_Cd MX9_go 6 0 0 [.ref 0, .int c, .int st] (hk_h L m) (some (.int (-1))) (hk_h L m) := by
  obtain ⟨g0, ⟨⟨a0, a1, a2, a3, a4, a5, a6, a7, a8, a9, a10, a11, a12, a13⟩, ⟨b0, b1, b2, b3, b4, b5, b6, b7, b8, b9, b10, b11, b12⟩, ⟨c0, c1, c2, c3, c4, c5, c6, c7, c8, c9, c10, c11, c12⟩⟩, g2, g3, g4, g5, g6, g7, g8, g9, g10, g11, g12, g13, g14⟩ := id hI
  refine hk_ofWP (by decide) (by simp [Value.category]) (Nat.le_of_ble_eq_true rfl) ?_
  show hk_WP _ _ _ _ _ _ _ [some (.ref 0), some (.int c), some (.int st), none, none, none] [] _ _
  refine hk_aload_n dX9_go_0 rfl rfl ?_
  refine gfX9_23 rfl dX9_go_1 (hk_lt (by decide)) rfl rfl ?_
  refine gfX9_112 rfl dX9_go_4 (hk_lt (by decide)) rfl rfl ?_
  refine hk_iload_n dX9_go_7 rfl rfl ?_
  refine ivX9_71 rfl (ct_has tb9 c2 a2 _) dX9_go_8 (hk_lt (by decide)) rfl rfl rfl (by decide) ⟨by decide, by decide⟩ (Nat.le_of_ble_eq_true rfl) (hk_kd ?_)
  refine hk_if_eq (tgt := 33) dX9_go_11 (by decide) (fun c11 => ?_) (fun c11 => ?_)
  · rw [bI_0] at c11
    refine hk_iconst (v := (-1)) dX9_go_33 (by decide) ?_
    exact hk_ireturn dX9_go_34 rfl rfl (by decide) ⟨rfl, rfl⟩
  · rw [bI_0] at c11
    refine hk_iload_n dX9_go_14 rfl rfl ?_
    refine hk_iconst (v := (-1)) dX9_go_15 (by decide) ?_
    refine hk_icmp_lt (tgt := 33) dX9_go_16 (by decide) (fun c16 => ?_) (fun c16 => ?_)
    · refine hk_iconst (v := (-1)) dX9_go_33 (by decide) ?_
      exact hk_ireturn dX9_go_34 rfl rfl (by decide) ⟨rfl, rfl⟩
    · refine hk_iload_n dX9_go_19 rfl rfl ?_
      refine hk_aload_n dX9_go_20 rfl rfl ?_
      refine gfX9_23 rfl dX9_go_21 (hk_lt (by decide)) rfl rfl ?_
      refine gfX9_133 rfl dX9_go_24 (hk_lt (by decide)) rfl rfl ?_
      refine gfX9_136 rfl dX9_go_27 (hk_lt (by decide)) rfl rfl ?_
      refine hk_icmp_lt (tgt := 35) dX9_go_30 (by decide) (fun c30 => ?_) (fun c30 => ?_)
      · rw [a3] at c30
        exact absurd hno (fun h => h.elim (fun k => c11 k) (fun h => h.elim (fun k => absurd k c16) (fun k => k c30)))
      · rw [a3] at c30
        refine hk_iconst (v := (-1)) dX9_go_33 (by decide) ?_
        exact hk_ireturn dX9_go_34 rfl rfl (by decide) ⟨rfl, rfl⟩
set_option maxRecDepth 20000 in
set_option maxHeartbeats 2000000 in
theorem md_go_st {c tc a s n : Nat} {st : Int32} (hc : c < nK) (hK : m 37 26 = nI nK) (hK30 : nK ≤ 30) (hD : m 37 35 = nI nD) (hD12 : nD ≤ 12) (hq : ∀ s, s < nD → ∃ q, m 65 s = nI q ∧ q ≤ 10) (hst : st = -1 ∨ (st = nI s ∧ s < nD)) (hms : (m 55 c = 2 ∨ m 55 c = 3) ∨ (m 55 c = 1 ∧ so m nD (nI c) = st)) : hk_Cd MX10_go 4 0 0 [.ref 37, .int (nI c), .int st] (hk_h L m) (some (.int (-3))) (hk_h L m) := by
  have hstI : ¬ st = -1 → inR st nD := fun h => by
    rcases hst with e | ⟨e, hs⟩
    · exact absurd e h
    · rw [e]; exact inR_nI hs (by omega)
  have hs1 : 0 ≤ st → st = nI s ∧ s < nD := fun h => by
    rcases hst with e | e
    · rw [e] at h; exact absurd h (by decide)
    · exact e
  refine hk_ofWP (by decide) (by simp [Value.category]) (Nat.le_of_ble_eq_true rfl) ?_
  show hk_WP _ _ _ _ _ _ _ [some (.ref 37), some (.int (nI c)), some (.int st), none, none, none] [] _ _
  refine hk_aload_n dX10_go_0 rfl rfl ?_
  refine hk_iload_n dX10_go_1 rfl rfl ?_
  refine ivX10_255 rfl (md_isCoach hK _) dX10_go_2 (hk_lt (by decide)) rfl rfl rfl (by decide) ⟨by decide, by decide⟩ (Nat.le_of_ble_eq_true rfl) (hk_kd ?_)
  refine hk_if_eq (tgt := 21) dX10_go_5 (by decide) (fun c5 => absurd c5 (fun e => bI_0.mp e (inR_nI hc (by omega)))) (fun _ => ?_)
  refine hk_iload_n dX10_go_8 rfl rfl ?_
  refine hk_iconst (v := (-1)) dX10_go_9 (by decide) ?_
  refine hk_icmp_eq (tgt := 23) dX10_go_10 (by decide) (fun c10 => ?_) (fun c10 => ?_)
  · refine hk_aload_n dX10_go_23 rfl rfl ?_
    refine gfX10_61 rfl dX10_go_24 (hk_lt (by decide)) rfl rfl ?_
    refine hk_iload_n dX10_go_27 rfl rfl ?_
    refine hk_ian dX10_go_28 (by decide) (fun _ => rfl) rfl (by omega) (by decide) ?_
    refine hk_iconst (v := 2) dX10_go_29 (by decide) ?_
    refine hk_icmp_eq (tgt := 62) dX10_go_30 (by decide) (fun c30 => ?_) (fun c30 => ?_)
    · refine hk_bipush (v := (-3)) dX10_go_62 (by decide) ?_
      exact hk_ireturn dX10_go_64 rfl rfl (by decide) ⟨rfl, rfl⟩
    · refine hk_aload_n dX10_go_33 rfl rfl ?_
      refine gfX10_61 rfl dX10_go_34 (hk_lt (by decide)) rfl rfl ?_
      refine hk_iload_n dX10_go_37 rfl rfl ?_
      refine hk_ian dX10_go_38 (by decide) (fun _ => rfl) rfl (by omega) (by decide) ?_
      refine hk_iconst (v := 3) dX10_go_39 (by decide) ?_
      refine hk_icmp_eq (tgt := 62) dX10_go_40 (by decide) (fun c40 => ?_) (fun c40 => ?_)
      · refine hk_bipush (v := (-3)) dX10_go_62 (by decide) ?_
        exact hk_ireturn dX10_go_64 rfl rfl (by decide) ⟨rfl, rfl⟩
      · refine hk_aload_n dX10_go_43 rfl rfl ?_
        refine gfX10_61 rfl dX10_go_44 (hk_lt (by decide)) rfl rfl ?_
        refine hk_iload_n dX10_go_47 rfl rfl ?_
        refine hk_ian dX10_go_48 (by decide) (fun _ => rfl) rfl (by omega) (by decide) ?_
        refine hk_iconst (v := 1) dX10_go_49 (by decide) ?_
        refine hk_icmp_ne (tgt := 65) dX10_go_50 (by decide) (fun c50 => ?_) (fun c50 => ?_)
        · exact absurd hms (fun h => h.elim (fun k => k.elim c30 c40) (fun ⟨k1, k2⟩ => by first | exact c50 k1 | exact c59 k2))
        · refine hk_aload_n dX10_go_53 rfl rfl ?_
          refine hk_iload_n dX10_go_54 rfl rfl ?_
          refine ivX10_266 rfl (md_standOf hD hD12 hq _) dX10_go_55 (hk_lt (by decide)) rfl rfl rfl (by decide) ⟨by decide, by decide⟩ (Nat.le_of_ble_eq_true rfl) (hk_kd ?_)
          refine hk_iload_n dX10_go_58 rfl rfl ?_
          refine hk_icmp_ne (tgt := 65) dX10_go_59 (by decide) (fun c59 => ?_) (fun c59 => ?_)
          · exact absurd hms (fun h => h.elim (fun k => k.elim c30 c40) (fun ⟨k1, k2⟩ => by first | exact c50 k1 | exact c59 k2))
          · refine hk_bipush (v := (-3)) dX10_go_62 (by decide) ?_
            exact hk_ireturn dX10_go_64 rfl rfl (by decide) ⟨rfl, rfl⟩
  · refine hk_aload_n dX10_go_13 rfl rfl ?_
    refine hk_iload_n dX10_go_14 rfl rfl ?_
    refine ivX10_270 rfl (md_isStand hD _) dX10_go_15 (hk_lt (by decide)) rfl rfl rfl (by decide) ⟨by decide, by decide⟩ (Nat.le_of_ble_eq_true rfl) (hk_kd ?_)
    refine hk_if_ne (tgt := 23) dX10_go_18 (by decide) (fun c18 => ?_) (fun c18 => ?_)
    · rw [bI_0] at c18
      refine hk_aload_n dX10_go_23 rfl rfl ?_
      refine gfX10_61 rfl dX10_go_24 (hk_lt (by decide)) rfl rfl ?_
      refine hk_iload_n dX10_go_27 rfl rfl ?_
      refine hk_ian dX10_go_28 (by decide) (fun _ => rfl) rfl (by omega) (by decide) ?_
      refine hk_iconst (v := 2) dX10_go_29 (by decide) ?_
      refine hk_icmp_eq (tgt := 62) dX10_go_30 (by decide) (fun c30 => ?_) (fun c30 => ?_)
      · refine hk_bipush (v := (-3)) dX10_go_62 (by decide) ?_
        exact hk_ireturn dX10_go_64 rfl rfl (by decide) ⟨rfl, rfl⟩
      · refine hk_aload_n dX10_go_33 rfl rfl ?_
        refine gfX10_61 rfl dX10_go_34 (hk_lt (by decide)) rfl rfl ?_
        refine hk_iload_n dX10_go_37 rfl rfl ?_
        refine hk_ian dX10_go_38 (by decide) (fun _ => rfl) rfl (by omega) (by decide) ?_
        refine hk_iconst (v := 3) dX10_go_39 (by decide) ?_
        refine hk_icmp_eq (tgt := 62) dX10_go_40 (by decide) (fun c40 => ?_) (fun c40 => ?_)
        · refine hk_bipush (v := (-3)) dX10_go_62 (by decide) ?_
          exact hk_ireturn dX10_go_64 rfl rfl (by decide) ⟨rfl, rfl⟩
        · refine hk_aload_n dX10_go_43 rfl rfl ?_
          refine gfX10_61 rfl dX10_go_44 (hk_lt (by decide)) rfl rfl ?_
          refine hk_iload_n dX10_go_47 rfl rfl ?_
          refine hk_ian dX10_go_48 (by decide) (fun _ => rfl) rfl (by omega) (by decide) ?_
          refine hk_iconst (v := 1) dX10_go_49 (by decide) ?_
          refine hk_icmp_ne (tgt := 65) dX10_go_50 (by decide) (fun c50 => ?_) (fun c50 => ?_)
          · exact absurd hms (fun h => h.elim (fun k => k.elim c30 c40) (fun ⟨k1, k2⟩ => by first | exact c50 k1 | exact c59 k2))
          · refine hk_aload_n dX10_go_53 rfl rfl ?_
            refine hk_iload_n dX10_go_54 rfl rfl ?_
            refine ivX10_266 rfl (md_standOf hD hD12 hq _) dX10_go_55 (hk_lt (by decide)) rfl rfl rfl (by decide) ⟨by decide, by decide⟩ (Nat.le_of_ble_eq_true rfl) (hk_kd ?_)
            refine hk_iload_n dX10_go_58 rfl rfl ?_
            refine hk_icmp_ne (tgt := 65) dX10_go_59 (by decide) (fun c59 => ?_) (fun c59 => ?_)
            · exact absurd hms (fun h => h.elim (fun k => k.elim c30 c40) (fun ⟨k1, k2⟩ => by first | exact c50 k1 | exact c59 k2))
            · refine hk_bipush (v := (-3)) dX10_go_62 (by decide) ?_
              exact hk_ireturn dX10_go_64 rfl rfl (by decide) ⟨rfl, rfl⟩
    · rw [bI_0] at c18
      exact absurd (hstI c10) c18
set_option maxRecDepth 20000 in
set_option maxHeartbeats 2000000 in
theorem md_go_nw {c tc a s n : Nat} {st : Int32} (hc : c < nK) (hK : m 37 26 = nI nK) (hK30 : nK ≤ 30) (hD : m 37 35 = nI nD) (hD12 : nD ≤ 12) (hq : ∀ s, s < nD → ∃ q, m 65 s = nI q ∧ q ≤ 10) (hst : st = -1 ∨ (st = nI s ∧ s < nD)) (hmv : ¬ (m 55 c = 2 ∨ m 55 c = 3)) (hsa : ¬ (m 55 c = 1 ∧ so m nD (nI c) = st)) (hS : m 37 11 = nI nS) (hS6 : nS ≤ 60) (hg : GS m nC nS) (hC : nC ≤ 24) (hn : m 37 3 = nI nC) (ht : tc < nC) (ht1 : st < 0 → m 52 c = nI tc) (ht2 : ¬ st < 0 → m 62 s = nI tc) (ha : a < nC) (hco : m 56 c = nI a) (hnow : m 37 0 = nI n) (hR : ¬ RC (GG m nS (nI n)) tc a) : hk_Ct MX10_go 4 0 0 [.ref 37, .int (nI c), .int st] (hk_h L m) (fun r h => ∃ m1, r = some (.int (-5)) ∧ h = hk_h L m1 ∧ SCR m m1) := by
  have hstI : ¬ st = -1 → inR st nD := fun h => by
    rcases hst with e | ⟨e, hs⟩
    · exact absurd e h
    · rw [e]; exact inR_nI hs (by omega)
  have hs1 : 0 ≤ st → st = nI s ∧ s < nD := fun h => by
    rcases hst with e | e
    · rw [e] at h; exact absurd h (by decide)
    · exact e
  refine hk_ofWP (by decide) (by simp [Value.category]) (Nat.le_of_ble_eq_true rfl) ?_
  show hk_WP _ _ _ _ _ _ _ [some (.ref 37), some (.int (nI c)), some (.int st), none, none, none] [] _ _
  refine hk_aload_n dX10_go_0 rfl rfl ?_
  refine hk_iload_n dX10_go_1 rfl rfl ?_
  refine ivX10_255 rfl (md_isCoach hK _) dX10_go_2 (hk_lt (by decide)) rfl rfl rfl (by decide) ⟨by decide, by decide⟩ (Nat.le_of_ble_eq_true rfl) (hk_kd ?_)
  refine hk_if_eq (tgt := 21) dX10_go_5 (by decide) (fun c5 => absurd c5 (fun e => bI_0.mp e (inR_nI hc (by omega)))) (fun _ => ?_)
  refine hk_iload_n dX10_go_8 rfl rfl ?_
  refine hk_iconst (v := (-1)) dX10_go_9 (by decide) ?_
  refine hk_icmp_eq (tgt := 23) dX10_go_10 (by decide) (fun c10 => ?_) (fun c10 => ?_)
  · refine hk_aload_n dX10_go_23 rfl rfl ?_
    refine gfX10_61 rfl dX10_go_24 (hk_lt (by decide)) rfl rfl ?_
    refine hk_iload_n dX10_go_27 rfl rfl ?_
    refine hk_ian dX10_go_28 (by decide) (fun _ => rfl) rfl (by omega) (by decide) ?_
    refine hk_iconst (v := 2) dX10_go_29 (by decide) ?_
    refine hk_icmp_eq (tgt := 62) dX10_go_30 (by decide) (fun c30 => ?_) (fun c30 => ?_)
    · first
      | exact absurd (Or.inl c30) hmv
      | exact absurd (Or.inr c40) hmv
      | exact absurd ⟨c50, c59⟩ hsa
    · refine hk_aload_n dX10_go_33 rfl rfl ?_
      refine gfX10_61 rfl dX10_go_34 (hk_lt (by decide)) rfl rfl ?_
      refine hk_iload_n dX10_go_37 rfl rfl ?_
      refine hk_ian dX10_go_38 (by decide) (fun _ => rfl) rfl (by omega) (by decide) ?_
      refine hk_iconst (v := 3) dX10_go_39 (by decide) ?_
      refine hk_icmp_eq (tgt := 62) dX10_go_40 (by decide) (fun c40 => ?_) (fun c40 => ?_)
      · first
        | exact absurd (Or.inl c30) hmv
        | exact absurd (Or.inr c40) hmv
        | exact absurd ⟨c50, c59⟩ hsa
      · refine hk_aload_n dX10_go_43 rfl rfl ?_
        refine gfX10_61 rfl dX10_go_44 (hk_lt (by decide)) rfl rfl ?_
        refine hk_iload_n dX10_go_47 rfl rfl ?_
        refine hk_ian dX10_go_48 (by decide) (fun _ => rfl) rfl (by omega) (by decide) ?_
        refine hk_iconst (v := 1) dX10_go_49 (by decide) ?_
        refine hk_icmp_ne (tgt := 65) dX10_go_50 (by decide) (fun c50 => ?_) (fun c50 => ?_)
        · refine hk_iload_n dX10_go_65 rfl rfl ?_
          refine hk_if_ge (tgt := 78) dX10_go_66 (by decide) (fun c66 => ?_) (fun c66 => ?_)
          · obtain ⟨hs1, hs2⟩ := hs1 c66
            refine hk_aload_n dX10_go_78 rfl rfl ?_
            refine gfX10_82 rfl dX10_go_79 (hk_lt (by decide)) rfl rfl ?_
            refine hk_iload_n dX10_go_82 rfl rfl ?_
            refine hk_ian dX10_go_83 (by decide) (fun _ => rfl) hs1 (by omega) (by decide) ?_
            rw [ht2 (Int32.not_lt.mpr c66)]
            refine hk_istore_n dX10_go_84 rfl (by decide) rfl ?_
            refine hk_aload_n dX10_go_85 rfl rfl ?_
            refine hk_aload_n dX10_go_86 rfl rfl ?_
            refine gfX10_64 rfl dX10_go_87 (hk_lt (by decide)) rfl rfl ?_
            refine hk_iload_n dX10_go_90 rfl rfl ?_
            refine hk_ian dX10_go_91 (by decide) (fun _ => rfl) rfl (by omega) (by decide) ?_
            rw [hco]
            refine hk_iload_n dX10_go_92 rfl rfl ?_
            refine hk_aload_n dX10_go_93 rfl rfl ?_
            refine gfX10_194 rfl dX10_go_94 (hk_lt (by decide)) rfl rfl ?_
            rw [hnow]
            refine ivX10_241 rfl (md_yardsOf hS hS6 hg hC hn (nI n) ht ha) dX10_go_97 (hk_lt (by decide)) rfl rfl rfl (by decide) ⟨by decide, by decide⟩ (Nat.le_of_ble_eq_true rfl) (fun r h1 hq => ?_)
            obtain ⟨m1, rfl, rfl, hF⟩ := hq
            refine hk_istore dX10_go_100 (by decide) rfl ?_
            refine hk_iload dX10_go_102 rfl ?_
            refine hk_if_ge (tgt := 110) dX10_go_104 (by decide) (fun c104 => absurd c104 (Int32.not_le.mpr ((yv_0 (GS.gm hg _ hC)).mpr hR))) (fun _ => ?_)
            refine hk_bipush (v := (-5)) dX10_go_107 (by decide) ?_
            exact hk_ireturn dX10_go_109 rfl rfl (by decide) ⟨m1, rfl, rfl, hF.scr⟩
          · refine hk_aload_n dX10_go_69 rfl rfl ?_
            refine gfX10_52 rfl dX10_go_70 (hk_lt (by decide)) rfl rfl ?_
            refine hk_iload_n dX10_go_73 rfl rfl ?_
            refine hk_ian dX10_go_74 (by decide) (fun _ => rfl) rfl (by omega) (by decide) ?_
            rw [ht1 (Int32.not_le.mp c66)]
            refine hk_goto (tgt := 84) dX10_go_75 (by decide) ?_
            refine hk_istore_n dX10_go_84 rfl (by decide) rfl ?_
            refine hk_aload_n dX10_go_85 rfl rfl ?_
            refine hk_aload_n dX10_go_86 rfl rfl ?_
            refine gfX10_64 rfl dX10_go_87 (hk_lt (by decide)) rfl rfl ?_
            refine hk_iload_n dX10_go_90 rfl rfl ?_
            refine hk_ian dX10_go_91 (by decide) (fun _ => rfl) rfl (by omega) (by decide) ?_
            rw [hco]
            refine hk_iload_n dX10_go_92 rfl rfl ?_
            refine hk_aload_n dX10_go_93 rfl rfl ?_
            refine gfX10_194 rfl dX10_go_94 (hk_lt (by decide)) rfl rfl ?_
            rw [hnow]
            refine ivX10_241 rfl (md_yardsOf hS hS6 hg hC hn (nI n) ht ha) dX10_go_97 (hk_lt (by decide)) rfl rfl rfl (by decide) ⟨by decide, by decide⟩ (Nat.le_of_ble_eq_true rfl) (fun r h1 hq => ?_)
            obtain ⟨m1, rfl, rfl, hF⟩ := hq
            refine hk_istore dX10_go_100 (by decide) rfl ?_
            refine hk_iload dX10_go_102 rfl ?_
            refine hk_if_ge (tgt := 110) dX10_go_104 (by decide) (fun c104 => absurd c104 (Int32.not_le.mpr ((yv_0 (GS.gm hg _ hC)).mpr hR))) (fun _ => ?_)
            refine hk_bipush (v := (-5)) dX10_go_107 (by decide) ?_
            exact hk_ireturn dX10_go_109 rfl rfl (by decide) ⟨m1, rfl, rfl, hF.scr⟩
        · refine hk_aload_n dX10_go_53 rfl rfl ?_
          refine hk_iload_n dX10_go_54 rfl rfl ?_
          refine ivX10_266 rfl (md_standOf hD hD12 hq _) dX10_go_55 (hk_lt (by decide)) rfl rfl rfl (by decide) ⟨by decide, by decide⟩ (Nat.le_of_ble_eq_true rfl) (hk_kd ?_)
          refine hk_iload_n dX10_go_58 rfl rfl ?_
          refine hk_icmp_ne (tgt := 65) dX10_go_59 (by decide) (fun c59 => ?_) (fun c59 => ?_)
          · refine hk_iload_n dX10_go_65 rfl rfl ?_
            refine hk_if_ge (tgt := 78) dX10_go_66 (by decide) (fun c66 => ?_) (fun c66 => ?_)
            · obtain ⟨hs1, hs2⟩ := hs1 c66
              refine hk_aload_n dX10_go_78 rfl rfl ?_
              refine gfX10_82 rfl dX10_go_79 (hk_lt (by decide)) rfl rfl ?_
              refine hk_iload_n dX10_go_82 rfl rfl ?_
              refine hk_ian dX10_go_83 (by decide) (fun _ => rfl) hs1 (by omega) (by decide) ?_
              rw [ht2 (Int32.not_lt.mpr c66)]
              refine hk_istore_n dX10_go_84 rfl (by decide) rfl ?_
              refine hk_aload_n dX10_go_85 rfl rfl ?_
              refine hk_aload_n dX10_go_86 rfl rfl ?_
              refine gfX10_64 rfl dX10_go_87 (hk_lt (by decide)) rfl rfl ?_
              refine hk_iload_n dX10_go_90 rfl rfl ?_
              refine hk_ian dX10_go_91 (by decide) (fun _ => rfl) rfl (by omega) (by decide) ?_
              rw [hco]
              refine hk_iload_n dX10_go_92 rfl rfl ?_
              refine hk_aload_n dX10_go_93 rfl rfl ?_
              refine gfX10_194 rfl dX10_go_94 (hk_lt (by decide)) rfl rfl ?_
              rw [hnow]
              refine ivX10_241 rfl (md_yardsOf hS hS6 hg hC hn (nI n) ht ha) dX10_go_97 (hk_lt (by decide)) rfl rfl rfl (by decide) ⟨by decide, by decide⟩ (Nat.le_of_ble_eq_true rfl) (fun r h1 hq => ?_)
              obtain ⟨m1, rfl, rfl, hF⟩ := hq
              refine hk_istore dX10_go_100 (by decide) rfl ?_
              refine hk_iload dX10_go_102 rfl ?_
              refine hk_if_ge (tgt := 110) dX10_go_104 (by decide) (fun c104 => absurd c104 (Int32.not_le.mpr ((yv_0 (GS.gm hg _ hC)).mpr hR))) (fun _ => ?_)
              refine hk_bipush (v := (-5)) dX10_go_107 (by decide) ?_
              exact hk_ireturn dX10_go_109 rfl rfl (by decide) ⟨m1, rfl, rfl, hF.scr⟩
            · refine hk_aload_n dX10_go_69 rfl rfl ?_
              refine gfX10_52 rfl dX10_go_70 (hk_lt (by decide)) rfl rfl ?_
              refine hk_iload_n dX10_go_73 rfl rfl ?_
              refine hk_ian dX10_go_74 (by decide) (fun _ => rfl) rfl (by omega) (by decide) ?_
              rw [ht1 (Int32.not_le.mp c66)]
              refine hk_goto (tgt := 84) dX10_go_75 (by decide) ?_
              refine hk_istore_n dX10_go_84 rfl (by decide) rfl ?_
              refine hk_aload_n dX10_go_85 rfl rfl ?_
              refine hk_aload_n dX10_go_86 rfl rfl ?_
              refine gfX10_64 rfl dX10_go_87 (hk_lt (by decide)) rfl rfl ?_
              refine hk_iload_n dX10_go_90 rfl rfl ?_
              refine hk_ian dX10_go_91 (by decide) (fun _ => rfl) rfl (by omega) (by decide) ?_
              rw [hco]
              refine hk_iload_n dX10_go_92 rfl rfl ?_
              refine hk_aload_n dX10_go_93 rfl rfl ?_
              refine gfX10_194 rfl dX10_go_94 (hk_lt (by decide)) rfl rfl ?_
              rw [hnow]
              refine ivX10_241 rfl (md_yardsOf hS hS6 hg hC hn (nI n) ht ha) dX10_go_97 (hk_lt (by decide)) rfl rfl rfl (by decide) ⟨by decide, by decide⟩ (Nat.le_of_ble_eq_true rfl) (fun r h1 hq => ?_)
              obtain ⟨m1, rfl, rfl, hF⟩ := hq
              refine hk_istore dX10_go_100 (by decide) rfl ?_
              refine hk_iload dX10_go_102 rfl ?_
              refine hk_if_ge (tgt := 110) dX10_go_104 (by decide) (fun c104 => absurd c104 (Int32.not_le.mpr ((yv_0 (GS.gm hg _ hC)).mpr hR))) (fun _ => ?_)
              refine hk_bipush (v := (-5)) dX10_go_107 (by decide) ?_
              exact hk_ireturn dX10_go_109 rfl rfl (by decide) ⟨m1, rfl, rfl, hF.scr⟩
          · first
            | exact absurd (Or.inl c30) hmv
            | exact absurd (Or.inr c40) hmv
            | exact absurd ⟨c50, c59⟩ hsa
  · refine hk_aload_n dX10_go_13 rfl rfl ?_
    refine hk_iload_n dX10_go_14 rfl rfl ?_
    refine ivX10_270 rfl (md_isStand hD _) dX10_go_15 (hk_lt (by decide)) rfl rfl rfl (by decide) ⟨by decide, by decide⟩ (Nat.le_of_ble_eq_true rfl) (hk_kd ?_)
    refine hk_if_ne (tgt := 23) dX10_go_18 (by decide) (fun c18 => ?_) (fun c18 => ?_)
    · rw [bI_0] at c18
      refine hk_aload_n dX10_go_23 rfl rfl ?_
      refine gfX10_61 rfl dX10_go_24 (hk_lt (by decide)) rfl rfl ?_
      refine hk_iload_n dX10_go_27 rfl rfl ?_
      refine hk_ian dX10_go_28 (by decide) (fun _ => rfl) rfl (by omega) (by decide) ?_
      refine hk_iconst (v := 2) dX10_go_29 (by decide) ?_
      refine hk_icmp_eq (tgt := 62) dX10_go_30 (by decide) (fun c30 => ?_) (fun c30 => ?_)
      · first
        | exact absurd (Or.inl c30) hmv
        | exact absurd (Or.inr c40) hmv
        | exact absurd ⟨c50, c59⟩ hsa
      · refine hk_aload_n dX10_go_33 rfl rfl ?_
        refine gfX10_61 rfl dX10_go_34 (hk_lt (by decide)) rfl rfl ?_
        refine hk_iload_n dX10_go_37 rfl rfl ?_
        refine hk_ian dX10_go_38 (by decide) (fun _ => rfl) rfl (by omega) (by decide) ?_
        refine hk_iconst (v := 3) dX10_go_39 (by decide) ?_
        refine hk_icmp_eq (tgt := 62) dX10_go_40 (by decide) (fun c40 => ?_) (fun c40 => ?_)
        · first
          | exact absurd (Or.inl c30) hmv
          | exact absurd (Or.inr c40) hmv
          | exact absurd ⟨c50, c59⟩ hsa
        · refine hk_aload_n dX10_go_43 rfl rfl ?_
          refine gfX10_61 rfl dX10_go_44 (hk_lt (by decide)) rfl rfl ?_
          refine hk_iload_n dX10_go_47 rfl rfl ?_
          refine hk_ian dX10_go_48 (by decide) (fun _ => rfl) rfl (by omega) (by decide) ?_
          refine hk_iconst (v := 1) dX10_go_49 (by decide) ?_
          refine hk_icmp_ne (tgt := 65) dX10_go_50 (by decide) (fun c50 => ?_) (fun c50 => ?_)
          · refine hk_iload_n dX10_go_65 rfl rfl ?_
            refine hk_if_ge (tgt := 78) dX10_go_66 (by decide) (fun c66 => ?_) (fun c66 => ?_)
            · obtain ⟨hs1, hs2⟩ := hs1 c66
              refine hk_aload_n dX10_go_78 rfl rfl ?_
              refine gfX10_82 rfl dX10_go_79 (hk_lt (by decide)) rfl rfl ?_
              refine hk_iload_n dX10_go_82 rfl rfl ?_
              refine hk_ian dX10_go_83 (by decide) (fun _ => rfl) hs1 (by omega) (by decide) ?_
              rw [ht2 (Int32.not_lt.mpr c66)]
              refine hk_istore_n dX10_go_84 rfl (by decide) rfl ?_
              refine hk_aload_n dX10_go_85 rfl rfl ?_
              refine hk_aload_n dX10_go_86 rfl rfl ?_
              refine gfX10_64 rfl dX10_go_87 (hk_lt (by decide)) rfl rfl ?_
              refine hk_iload_n dX10_go_90 rfl rfl ?_
              refine hk_ian dX10_go_91 (by decide) (fun _ => rfl) rfl (by omega) (by decide) ?_
              rw [hco]
              refine hk_iload_n dX10_go_92 rfl rfl ?_
              refine hk_aload_n dX10_go_93 rfl rfl ?_
              refine gfX10_194 rfl dX10_go_94 (hk_lt (by decide)) rfl rfl ?_
              rw [hnow]
              refine ivX10_241 rfl (md_yardsOf hS hS6 hg hC hn (nI n) ht ha) dX10_go_97 (hk_lt (by decide)) rfl rfl rfl (by decide) ⟨by decide, by decide⟩ (Nat.le_of_ble_eq_true rfl) (fun r h1 hq => ?_)
              obtain ⟨m1, rfl, rfl, hF⟩ := hq
              refine hk_istore dX10_go_100 (by decide) rfl ?_
              refine hk_iload dX10_go_102 rfl ?_
              refine hk_if_ge (tgt := 110) dX10_go_104 (by decide) (fun c104 => absurd c104 (Int32.not_le.mpr ((yv_0 (GS.gm hg _ hC)).mpr hR))) (fun _ => ?_)
              refine hk_bipush (v := (-5)) dX10_go_107 (by decide) ?_
              exact hk_ireturn dX10_go_109 rfl rfl (by decide) ⟨m1, rfl, rfl, hF.scr⟩
            · refine hk_aload_n dX10_go_69 rfl rfl ?_
              refine gfX10_52 rfl dX10_go_70 (hk_lt (by decide)) rfl rfl ?_
              refine hk_iload_n dX10_go_73 rfl rfl ?_
              refine hk_ian dX10_go_74 (by decide) (fun _ => rfl) rfl (by omega) (by decide) ?_
              rw [ht1 (Int32.not_le.mp c66)]
              refine hk_goto (tgt := 84) dX10_go_75 (by decide) ?_
              refine hk_istore_n dX10_go_84 rfl (by decide) rfl ?_
              refine hk_aload_n dX10_go_85 rfl rfl ?_
              refine hk_aload_n dX10_go_86 rfl rfl ?_
              refine gfX10_64 rfl dX10_go_87 (hk_lt (by decide)) rfl rfl ?_
              refine hk_iload_n dX10_go_90 rfl rfl ?_
              refine hk_ian dX10_go_91 (by decide) (fun _ => rfl) rfl (by omega) (by decide) ?_
              rw [hco]
              refine hk_iload_n dX10_go_92 rfl rfl ?_
              refine hk_aload_n dX10_go_93 rfl rfl ?_
              refine gfX10_194 rfl dX10_go_94 (hk_lt (by decide)) rfl rfl ?_
              rw [hnow]
              refine ivX10_241 rfl (md_yardsOf hS hS6 hg hC hn (nI n) ht ha) dX10_go_97 (hk_lt (by decide)) rfl rfl rfl (by decide) ⟨by decide, by decide⟩ (Nat.le_of_ble_eq_true rfl) (fun r h1 hq => ?_)
              obtain ⟨m1, rfl, rfl, hF⟩ := hq
              refine hk_istore dX10_go_100 (by decide) rfl ?_
              refine hk_iload dX10_go_102 rfl ?_
              refine hk_if_ge (tgt := 110) dX10_go_104 (by decide) (fun c104 => absurd c104 (Int32.not_le.mpr ((yv_0 (GS.gm hg _ hC)).mpr hR))) (fun _ => ?_)
              refine hk_bipush (v := (-5)) dX10_go_107 (by decide) ?_
              exact hk_ireturn dX10_go_109 rfl rfl (by decide) ⟨m1, rfl, rfl, hF.scr⟩
          · refine hk_aload_n dX10_go_53 rfl rfl ?_
            refine hk_iload_n dX10_go_54 rfl rfl ?_
            refine ivX10_266 rfl (md_standOf hD hD12 hq _) dX10_go_55 (hk_lt (by decide)) rfl rfl rfl (by decide) ⟨by decide, by decide⟩ (Nat.le_of_ble_eq_true rfl) (hk_kd ?_)
            refine hk_iload_n dX10_go_58 rfl rfl ?_
            refine hk_icmp_ne (tgt := 65) dX10_go_59 (by decide) (fun c59 => ?_) (fun c59 => ?_)
            · refine hk_iload_n dX10_go_65 rfl rfl ?_
              refine hk_if_ge (tgt := 78) dX10_go_66 (by decide) (fun c66 => ?_) (fun c66 => ?_)
              · obtain ⟨hs1, hs2⟩ := hs1 c66
                refine hk_aload_n dX10_go_78 rfl rfl ?_
                refine gfX10_82 rfl dX10_go_79 (hk_lt (by decide)) rfl rfl ?_
                refine hk_iload_n dX10_go_82 rfl rfl ?_
                refine hk_ian dX10_go_83 (by decide) (fun _ => rfl) hs1 (by omega) (by decide) ?_
                rw [ht2 (Int32.not_lt.mpr c66)]
                refine hk_istore_n dX10_go_84 rfl (by decide) rfl ?_
                refine hk_aload_n dX10_go_85 rfl rfl ?_
                refine hk_aload_n dX10_go_86 rfl rfl ?_
                refine gfX10_64 rfl dX10_go_87 (hk_lt (by decide)) rfl rfl ?_
                refine hk_iload_n dX10_go_90 rfl rfl ?_
                refine hk_ian dX10_go_91 (by decide) (fun _ => rfl) rfl (by omega) (by decide) ?_
                rw [hco]
                refine hk_iload_n dX10_go_92 rfl rfl ?_
                refine hk_aload_n dX10_go_93 rfl rfl ?_
                refine gfX10_194 rfl dX10_go_94 (hk_lt (by decide)) rfl rfl ?_
                rw [hnow]
                refine ivX10_241 rfl (md_yardsOf hS hS6 hg hC hn (nI n) ht ha) dX10_go_97 (hk_lt (by decide)) rfl rfl rfl (by decide) ⟨by decide, by decide⟩ (Nat.le_of_ble_eq_true rfl) (fun r h1 hq => ?_)
                obtain ⟨m1, rfl, rfl, hF⟩ := hq
                refine hk_istore dX10_go_100 (by decide) rfl ?_
                refine hk_iload dX10_go_102 rfl ?_
                refine hk_if_ge (tgt := 110) dX10_go_104 (by decide) (fun c104 => absurd c104 (Int32.not_le.mpr ((yv_0 (GS.gm hg _ hC)).mpr hR))) (fun _ => ?_)
                refine hk_bipush (v := (-5)) dX10_go_107 (by decide) ?_
                exact hk_ireturn dX10_go_109 rfl rfl (by decide) ⟨m1, rfl, rfl, hF.scr⟩
              · refine hk_aload_n dX10_go_69 rfl rfl ?_
                refine gfX10_52 rfl dX10_go_70 (hk_lt (by decide)) rfl rfl ?_
                refine hk_iload_n dX10_go_73 rfl rfl ?_
                refine hk_ian dX10_go_74 (by decide) (fun _ => rfl) rfl (by omega) (by decide) ?_
                rw [ht1 (Int32.not_le.mp c66)]
                refine hk_goto (tgt := 84) dX10_go_75 (by decide) ?_
                refine hk_istore_n dX10_go_84 rfl (by decide) rfl ?_
                refine hk_aload_n dX10_go_85 rfl rfl ?_
                refine hk_aload_n dX10_go_86 rfl rfl ?_
                refine gfX10_64 rfl dX10_go_87 (hk_lt (by decide)) rfl rfl ?_
                refine hk_iload_n dX10_go_90 rfl rfl ?_
                refine hk_ian dX10_go_91 (by decide) (fun _ => rfl) rfl (by omega) (by decide) ?_
                rw [hco]
                refine hk_iload_n dX10_go_92 rfl rfl ?_
                refine hk_aload_n dX10_go_93 rfl rfl ?_
                refine gfX10_194 rfl dX10_go_94 (hk_lt (by decide)) rfl rfl ?_
                rw [hnow]
                refine ivX10_241 rfl (md_yardsOf hS hS6 hg hC hn (nI n) ht ha) dX10_go_97 (hk_lt (by decide)) rfl rfl rfl (by decide) ⟨by decide, by decide⟩ (Nat.le_of_ble_eq_true rfl) (fun r h1 hq => ?_)
                obtain ⟨m1, rfl, rfl, hF⟩ := hq
                refine hk_istore dX10_go_100 (by decide) rfl ?_
                refine hk_iload dX10_go_102 rfl ?_
                refine hk_if_ge (tgt := 110) dX10_go_104 (by decide) (fun c104 => absurd c104 (Int32.not_le.mpr ((yv_0 (GS.gm hg _ hC)).mpr hR))) (fun _ => ?_)
                refine hk_bipush (v := (-5)) dX10_go_107 (by decide) ?_
                exact hk_ireturn dX10_go_109 rfl rfl (by decide) ⟨m1, rfl, rfl, hF.scr⟩
            · first
              | exact absurd (Or.inl c30) hmv
              | exact absurd (Or.inr c40) hmv
              | exact absurd ⟨c50, c59⟩ hsa
    · rw [bI_0] at c18
      exact absurd (hstI c10) c18
set_option maxRecDepth 20000 in
set_option maxHeartbeats 2000000 in
theorem md_go_ok {c tc a s n : Nat} {st : Int32} (hc : c < nK) (hK : m 37 26 = nI nK) (hK30 : nK ≤ 30) (hD : m 37 35 = nI nD) (hD12 : nD ≤ 12) (hq : ∀ s, s < nD → ∃ q, m 65 s = nI q ∧ q ≤ 10) (hst : st = -1 ∨ (st = nI s ∧ s < nD)) (hmv : ¬ (m 55 c = 2 ∨ m 55 c = 3)) (hsa : ¬ (m 55 c = 1 ∧ so m nD (nI c) = st)) (hS : m 37 11 = nI nS) (hS6 : nS ≤ 60) (hg : GS m nC nS) (hC : nC ≤ 24) (hn : m 37 3 = nI nC) (ht : tc < nC) (ht1 : st < 0 → m 52 c = nI tc) (ht2 : ¬ st < 0 → m 62 s = nI tc) (ha : a < nC) (hco : m 56 c = nI a) (hnow : m 37 0 = nI n) (hR : RC (GG m nS (nI n)) tc a) {T : Nat} (hT : T = (DD (GG m nS (nI n)) tc a / 100 + 109) / 110) (LV AR : (Nat → Nat → Int32) → Nat → Nat → Int32) (hlf : ∀ m1 a, a ≠ 64 → a ≠ 65 → LV m1 a = m1 a) (hlv : ∀ m1, (∀ a, a ≠ 47 → a ≠ 48 → m1 a = m a) → hk_Cd MX10_leaveRow 1 0 0 [.ref 37, .int (nI c)] (hk_h L m1) none (hk_h L (LV m1))) (har : T = 0 → ∀ m1, (∀ a, a ≠ 47 → a ≠ 48 → m1 a = m a) → hk_Cd MX10_arrive 0 0 0 [.ref 37, .int (nI c)] (hk_h L (hk_w (hk_w (LV m1) 58 c st) 56 c (nI tc))) none (hk_h L (AR (hk_w (hk_w (LV m1) 58 c st) 56 c (nI tc))))) : hk_Ct MX10_go 4 0 0 [.ref 37, .int (nI c), .int st] (hk_h L m) (fun r h => ∃ m1, r = some (.int (nI T)) ∧ (∀ a, a ≠ 47 → a ≠ 48 → m1 a = m a) ∧ ((¬ T = 0 ∧ h = hk_h L (hk_w (hk_w (hk_w (hk_w (LV m1) 58 c st) 56 c (nI tc)) 55 c 2) 57 c (nI (n + T)))) ∨ (T = 0 ∧ h = hk_h L (AR (hk_w (hk_w (LV m1) 58 c st) 56 c (nI tc)))))) := by
  have hstI : ¬ st = -1 → inR st nD := fun h => by
    rcases hst with e | ⟨e, hs⟩
    · exact absurd e h
    · rw [e]; exact inR_nI hs (by omega)
  have hs1 : 0 ≤ st → st = nI s ∧ s < nD := fun h => by
    rcases hst with e | e
    · rw [e] at h; exact absurd h (by decide)
    · exact e
  have hDb := DDb (u := nI n) (GS.gm hg _ hC) (t := tc) (c := a)
  have eyv : yv (GG m nS (nI n)) tc a = nI (DD (GG m nS (nI n)) tc a / 100) := by unfold yv; exact if_pos hR
  have eT : (nI (DD (GG m nS (nI n)) tc a / 100) + 109) / 110 = nI T := by rw [hT]; exact tm_I2 (by omega)
  have hT2 : T < 2 ^ 31 := by omega
  refine hk_ofWP (by decide) (by simp [Value.category]) (Nat.le_of_ble_eq_true rfl) ?_
  show hk_WP _ _ _ _ _ _ _ [some (.ref 37), some (.int (nI c)), some (.int st), none, none, none] [] _ _
  refine hk_aload_n dX10_go_0 rfl rfl ?_
  refine hk_iload_n dX10_go_1 rfl rfl ?_
  refine ivX10_255 rfl (md_isCoach hK _) dX10_go_2 (hk_lt (by decide)) rfl rfl rfl (by decide) ⟨by decide, by decide⟩ (Nat.le_of_ble_eq_true rfl) (hk_kd ?_)
  refine hk_if_eq (tgt := 21) dX10_go_5 (by decide) (fun c5 => absurd c5 (fun e => bI_0.mp e (inR_nI hc (by omega)))) (fun _ => ?_)
  refine hk_iload_n dX10_go_8 rfl rfl ?_
  refine hk_iconst (v := (-1)) dX10_go_9 (by decide) ?_
  refine hk_icmp_eq (tgt := 23) dX10_go_10 (by decide) (fun c10 => ?_) (fun c10 => ?_)
  · refine hk_aload_n dX10_go_23 rfl rfl ?_
    refine gfX10_61 rfl dX10_go_24 (hk_lt (by decide)) rfl rfl ?_
    refine hk_iload_n dX10_go_27 rfl rfl ?_
    refine hk_ian dX10_go_28 (by decide) (fun _ => rfl) rfl (by omega) (by decide) ?_
    refine hk_iconst (v := 2) dX10_go_29 (by decide) ?_
    refine hk_icmp_eq (tgt := 62) dX10_go_30 (by decide) (fun c30 => ?_) (fun c30 => ?_)
    · first
      | exact absurd (Or.inl c30) hmv
      | exact absurd (Or.inr c40) hmv
      | exact absurd ⟨c50, c59⟩ hsa
    · refine hk_aload_n dX10_go_33 rfl rfl ?_
      refine gfX10_61 rfl dX10_go_34 (hk_lt (by decide)) rfl rfl ?_
      refine hk_iload_n dX10_go_37 rfl rfl ?_
      refine hk_ian dX10_go_38 (by decide) (fun _ => rfl) rfl (by omega) (by decide) ?_
      refine hk_iconst (v := 3) dX10_go_39 (by decide) ?_
      refine hk_icmp_eq (tgt := 62) dX10_go_40 (by decide) (fun c40 => ?_) (fun c40 => ?_)
      · first
        | exact absurd (Or.inl c30) hmv
        | exact absurd (Or.inr c40) hmv
        | exact absurd ⟨c50, c59⟩ hsa
      · refine hk_aload_n dX10_go_43 rfl rfl ?_
        refine gfX10_61 rfl dX10_go_44 (hk_lt (by decide)) rfl rfl ?_
        refine hk_iload_n dX10_go_47 rfl rfl ?_
        refine hk_ian dX10_go_48 (by decide) (fun _ => rfl) rfl (by omega) (by decide) ?_
        refine hk_iconst (v := 1) dX10_go_49 (by decide) ?_
        refine hk_icmp_ne (tgt := 65) dX10_go_50 (by decide) (fun c50 => ?_) (fun c50 => ?_)
        · refine hk_iload_n dX10_go_65 rfl rfl ?_
          refine hk_if_ge (tgt := 78) dX10_go_66 (by decide) (fun c66 => ?_) (fun c66 => ?_)
          · obtain ⟨hs1, hs2⟩ := hs1 c66
            refine hk_aload_n dX10_go_78 rfl rfl ?_
            refine gfX10_82 rfl dX10_go_79 (hk_lt (by decide)) rfl rfl ?_
            refine hk_iload_n dX10_go_82 rfl rfl ?_
            refine hk_ian dX10_go_83 (by decide) (fun _ => rfl) hs1 (by omega) (by decide) ?_
            rw [ht2 (Int32.not_lt.mpr c66)]
            refine hk_istore_n dX10_go_84 rfl (by decide) rfl ?_
            refine hk_aload_n dX10_go_85 rfl rfl ?_
            refine hk_aload_n dX10_go_86 rfl rfl ?_
            refine gfX10_64 rfl dX10_go_87 (hk_lt (by decide)) rfl rfl ?_
            refine hk_iload_n dX10_go_90 rfl rfl ?_
            refine hk_ian dX10_go_91 (by decide) (fun _ => rfl) rfl (by omega) (by decide) ?_
            rw [hco]
            refine hk_iload_n dX10_go_92 rfl rfl ?_
            refine hk_aload_n dX10_go_93 rfl rfl ?_
            refine gfX10_194 rfl dX10_go_94 (hk_lt (by decide)) rfl rfl ?_
            rw [hnow]
            refine ivX10_241 rfl (md_yardsOf hS hS6 hg hC hn (nI n) ht ha) dX10_go_97 (hk_lt (by decide)) rfl rfl rfl (by decide) ⟨by decide, by decide⟩ (Nat.le_of_ble_eq_true rfl) (fun r h1 hq => ?_)
            obtain ⟨m1, rfl, rfl, hF⟩ := hq
            rw [eyv]
            refine hk_istore dX10_go_100 (by decide) rfl ?_
            refine hk_iload dX10_go_102 rfl ?_
            refine hk_if_ge (tgt := 110) dX10_go_104 (by decide) (fun _ => ?_) (fun c104 => absurd (Int32.not_lt.mp (nI_pos (by omega))) c104)
            refine hk_aload_n dX10_go_110 rfl rfl ?_
            refine hk_iload_n dX10_go_111 rfl rfl ?_
            refine ivX10_273 rfl (hlv m1 hF.1) dX10_go_112 (hk_lt (by decide)) rfl rfl rfl (by decide) ⟨by decide, by decide⟩ (Nat.le_of_ble_eq_true rfl) (hk_kv ?_)
            refine hk_aload_n dX10_go_115 rfl rfl ?_
            refine gfX10_70 rfl dX10_go_116 (hk_lt (by decide)) rfl rfl ?_
            refine hk_iload_n dX10_go_119 rfl rfl ?_
            refine hk_iload_n dX10_go_120 rfl rfl ?_
            refine hk_isn dX10_go_121 (by decide) (fun _ => rfl) rfl (by omega) (by decide) ?_
            refine hk_aload_n dX10_go_122 rfl rfl ?_
            refine gfX10_64 rfl dX10_go_123 (hk_lt (by decide)) rfl rfl ?_
            refine hk_iload_n dX10_go_126 rfl rfl ?_
            refine hk_iload_n dX10_go_127 rfl rfl ?_
            refine hk_isn dX10_go_128 (by decide) (fun _ => rfl) rfl (by omega) (by decide) ?_
            refine hk_iload dX10_go_129 rfl ?_
            refine ivX10_277 rfl (md_minutesOf _) dX10_go_131 rfl rfl (by decide) ⟨by decide, by decide⟩ (Nat.le_of_ble_eq_true rfl) (hk_kd ?_)
            rw [eT]
            refine hk_istore dX10_go_134 (by decide) rfl ?_
            refine hk_iload dX10_go_136 rfl ?_
            refine hk_if_ne (tgt := 148) dX10_go_138 (by decide) (fun c138 => ?_) (fun c138 => ?_)
            · rw [show (0 : Int32) = nI 0 from rfl, nI_eq (by omega) (by omega)] at c138
              refine hk_aload_n dX10_go_148 rfl rfl ?_
              refine gfX10_61 rfl dX10_go_149 (hk_lt (by decide)) rfl rfl ?_
              refine hk_iload_n dX10_go_152 rfl rfl ?_
              refine hk_iconst (v := 2) dX10_go_153 (by decide) ?_
              refine hk_isn dX10_go_154 (by decide) (fun _ => rfl) rfl (by omega) (by decide) ?_
              refine hk_aload_n dX10_go_155 rfl rfl ?_
              refine gfX10_67 rfl dX10_go_156 (hk_lt (by decide)) rfl rfl ?_
              refine hk_iload_n dX10_go_159 rfl rfl ?_
              refine hk_aload_n dX10_go_160 rfl rfl ?_
              refine gfX10_194 rfl dX10_go_161 (hk_lt (by decide)) rfl rfl ?_
              refine hk_iload dX10_go_164 rfl ?_
              refine hk_iadd dX10_go_166 ?_
              rw [show hk_w (hk_w (hk_w (LV m1) 58 c st) 56 c (nI tc)) 55 c 2 37 0 + nI T = nI (n + T) by rw [hk_wo (by decide), hk_wo (by decide), hk_wo (by decide), hlf m1 37 (by decide) (by decide), hF.1 37 (by decide) (by decide), hnow, nI_add]]
              refine hk_isn dX10_go_167 (by decide) (fun _ => rfl) rfl (by omega) (by decide) ?_
              refine hk_iload dX10_go_168 rfl ?_
              exact hk_ireturn dX10_go_170 rfl rfl (by decide) ⟨m1, rfl, hF.1, Or.inl ⟨c138, rfl⟩⟩
            · rw [show (0 : Int32) = nI 0 from rfl, nI_eq (by omega) (by omega)] at c138
              have hT0 : T = 0 := c138
              refine hk_aload_n dX10_go_141 rfl rfl ?_
              refine hk_iload_n dX10_go_142 rfl rfl ?_
              refine ivX10_280 rfl (har hT0 m1 hF.1) dX10_go_143 (hk_lt (by decide)) rfl rfl rfl (by decide) ⟨by decide, by decide⟩ (Nat.le_of_ble_eq_true rfl) (hk_kv ?_)
              refine hk_iconst (v := 0) dX10_go_146 (by decide) ?_
              exact hk_ireturn dX10_go_147 rfl rfl (by decide) ⟨m1, by rw [hT0]; rfl, hF.1, Or.inr ⟨hT0, rfl⟩⟩
          · refine hk_aload_n dX10_go_69 rfl rfl ?_
            refine gfX10_52 rfl dX10_go_70 (hk_lt (by decide)) rfl rfl ?_
            refine hk_iload_n dX10_go_73 rfl rfl ?_
            refine hk_ian dX10_go_74 (by decide) (fun _ => rfl) rfl (by omega) (by decide) ?_
            rw [ht1 (Int32.not_le.mp c66)]
            refine hk_goto (tgt := 84) dX10_go_75 (by decide) ?_
            refine hk_istore_n dX10_go_84 rfl (by decide) rfl ?_
            refine hk_aload_n dX10_go_85 rfl rfl ?_
            refine hk_aload_n dX10_go_86 rfl rfl ?_
            refine gfX10_64 rfl dX10_go_87 (hk_lt (by decide)) rfl rfl ?_
            refine hk_iload_n dX10_go_90 rfl rfl ?_
            refine hk_ian dX10_go_91 (by decide) (fun _ => rfl) rfl (by omega) (by decide) ?_
            rw [hco]
            refine hk_iload_n dX10_go_92 rfl rfl ?_
            refine hk_aload_n dX10_go_93 rfl rfl ?_
            refine gfX10_194 rfl dX10_go_94 (hk_lt (by decide)) rfl rfl ?_
            rw [hnow]
            refine ivX10_241 rfl (md_yardsOf hS hS6 hg hC hn (nI n) ht ha) dX10_go_97 (hk_lt (by decide)) rfl rfl rfl (by decide) ⟨by decide, by decide⟩ (Nat.le_of_ble_eq_true rfl) (fun r h1 hq => ?_)
            obtain ⟨m1, rfl, rfl, hF⟩ := hq
            rw [eyv]
            refine hk_istore dX10_go_100 (by decide) rfl ?_
            refine hk_iload dX10_go_102 rfl ?_
            refine hk_if_ge (tgt := 110) dX10_go_104 (by decide) (fun _ => ?_) (fun c104 => absurd (Int32.not_lt.mp (nI_pos (by omega))) c104)
            refine hk_aload_n dX10_go_110 rfl rfl ?_
            refine hk_iload_n dX10_go_111 rfl rfl ?_
            refine ivX10_273 rfl (hlv m1 hF.1) dX10_go_112 (hk_lt (by decide)) rfl rfl rfl (by decide) ⟨by decide, by decide⟩ (Nat.le_of_ble_eq_true rfl) (hk_kv ?_)
            refine hk_aload_n dX10_go_115 rfl rfl ?_
            refine gfX10_70 rfl dX10_go_116 (hk_lt (by decide)) rfl rfl ?_
            refine hk_iload_n dX10_go_119 rfl rfl ?_
            refine hk_iload_n dX10_go_120 rfl rfl ?_
            refine hk_isn dX10_go_121 (by decide) (fun _ => rfl) rfl (by omega) (by decide) ?_
            refine hk_aload_n dX10_go_122 rfl rfl ?_
            refine gfX10_64 rfl dX10_go_123 (hk_lt (by decide)) rfl rfl ?_
            refine hk_iload_n dX10_go_126 rfl rfl ?_
            refine hk_iload_n dX10_go_127 rfl rfl ?_
            refine hk_isn dX10_go_128 (by decide) (fun _ => rfl) rfl (by omega) (by decide) ?_
            refine hk_iload dX10_go_129 rfl ?_
            refine ivX10_277 rfl (md_minutesOf _) dX10_go_131 rfl rfl (by decide) ⟨by decide, by decide⟩ (Nat.le_of_ble_eq_true rfl) (hk_kd ?_)
            rw [eT]
            refine hk_istore dX10_go_134 (by decide) rfl ?_
            refine hk_iload dX10_go_136 rfl ?_
            refine hk_if_ne (tgt := 148) dX10_go_138 (by decide) (fun c138 => ?_) (fun c138 => ?_)
            · rw [show (0 : Int32) = nI 0 from rfl, nI_eq (by omega) (by omega)] at c138
              refine hk_aload_n dX10_go_148 rfl rfl ?_
              refine gfX10_61 rfl dX10_go_149 (hk_lt (by decide)) rfl rfl ?_
              refine hk_iload_n dX10_go_152 rfl rfl ?_
              refine hk_iconst (v := 2) dX10_go_153 (by decide) ?_
              refine hk_isn dX10_go_154 (by decide) (fun _ => rfl) rfl (by omega) (by decide) ?_
              refine hk_aload_n dX10_go_155 rfl rfl ?_
              refine gfX10_67 rfl dX10_go_156 (hk_lt (by decide)) rfl rfl ?_
              refine hk_iload_n dX10_go_159 rfl rfl ?_
              refine hk_aload_n dX10_go_160 rfl rfl ?_
              refine gfX10_194 rfl dX10_go_161 (hk_lt (by decide)) rfl rfl ?_
              refine hk_iload dX10_go_164 rfl ?_
              refine hk_iadd dX10_go_166 ?_
              rw [show hk_w (hk_w (hk_w (LV m1) 58 c st) 56 c (nI tc)) 55 c 2 37 0 + nI T = nI (n + T) by rw [hk_wo (by decide), hk_wo (by decide), hk_wo (by decide), hlf m1 37 (by decide) (by decide), hF.1 37 (by decide) (by decide), hnow, nI_add]]
              refine hk_isn dX10_go_167 (by decide) (fun _ => rfl) rfl (by omega) (by decide) ?_
              refine hk_iload dX10_go_168 rfl ?_
              exact hk_ireturn dX10_go_170 rfl rfl (by decide) ⟨m1, rfl, hF.1, Or.inl ⟨c138, rfl⟩⟩
            · rw [show (0 : Int32) = nI 0 from rfl, nI_eq (by omega) (by omega)] at c138
              have hT0 : T = 0 := c138
              refine hk_aload_n dX10_go_141 rfl rfl ?_
              refine hk_iload_n dX10_go_142 rfl rfl ?_
              refine ivX10_280 rfl (har hT0 m1 hF.1) dX10_go_143 (hk_lt (by decide)) rfl rfl rfl (by decide) ⟨by decide, by decide⟩ (Nat.le_of_ble_eq_true rfl) (hk_kv ?_)
              refine hk_iconst (v := 0) dX10_go_146 (by decide) ?_
              exact hk_ireturn dX10_go_147 rfl rfl (by decide) ⟨m1, by rw [hT0]; rfl, hF.1, Or.inr ⟨hT0, rfl⟩⟩
        · refine hk_aload_n dX10_go_53 rfl rfl ?_
          refine hk_iload_n dX10_go_54 rfl rfl ?_
          refine ivX10_266 rfl (md_standOf hD hD12 hq _) dX10_go_55 (hk_lt (by decide)) rfl rfl rfl (by decide) ⟨by decide, by decide⟩ (Nat.le_of_ble_eq_true rfl) (hk_kd ?_)
          refine hk_iload_n dX10_go_58 rfl rfl ?_
          refine hk_icmp_ne (tgt := 65) dX10_go_59 (by decide) (fun c59 => ?_) (fun c59 => ?_)
          · refine hk_iload_n dX10_go_65 rfl rfl ?_
            refine hk_if_ge (tgt := 78) dX10_go_66 (by decide) (fun c66 => ?_) (fun c66 => ?_)
            · obtain ⟨hs1, hs2⟩ := hs1 c66
              refine hk_aload_n dX10_go_78 rfl rfl ?_
              refine gfX10_82 rfl dX10_go_79 (hk_lt (by decide)) rfl rfl ?_
              refine hk_iload_n dX10_go_82 rfl rfl ?_
              refine hk_ian dX10_go_83 (by decide) (fun _ => rfl) hs1 (by omega) (by decide) ?_
              rw [ht2 (Int32.not_lt.mpr c66)]
              refine hk_istore_n dX10_go_84 rfl (by decide) rfl ?_
              refine hk_aload_n dX10_go_85 rfl rfl ?_
              refine hk_aload_n dX10_go_86 rfl rfl ?_
              refine gfX10_64 rfl dX10_go_87 (hk_lt (by decide)) rfl rfl ?_
              refine hk_iload_n dX10_go_90 rfl rfl ?_
              refine hk_ian dX10_go_91 (by decide) (fun _ => rfl) rfl (by omega) (by decide) ?_
              rw [hco]
              refine hk_iload_n dX10_go_92 rfl rfl ?_
              refine hk_aload_n dX10_go_93 rfl rfl ?_
              refine gfX10_194 rfl dX10_go_94 (hk_lt (by decide)) rfl rfl ?_
              rw [hnow]
              refine ivX10_241 rfl (md_yardsOf hS hS6 hg hC hn (nI n) ht ha) dX10_go_97 (hk_lt (by decide)) rfl rfl rfl (by decide) ⟨by decide, by decide⟩ (Nat.le_of_ble_eq_true rfl) (fun r h1 hq => ?_)
              obtain ⟨m1, rfl, rfl, hF⟩ := hq
              rw [eyv]
              refine hk_istore dX10_go_100 (by decide) rfl ?_
              refine hk_iload dX10_go_102 rfl ?_
              refine hk_if_ge (tgt := 110) dX10_go_104 (by decide) (fun _ => ?_) (fun c104 => absurd (Int32.not_lt.mp (nI_pos (by omega))) c104)
              refine hk_aload_n dX10_go_110 rfl rfl ?_
              refine hk_iload_n dX10_go_111 rfl rfl ?_
              refine ivX10_273 rfl (hlv m1 hF.1) dX10_go_112 (hk_lt (by decide)) rfl rfl rfl (by decide) ⟨by decide, by decide⟩ (Nat.le_of_ble_eq_true rfl) (hk_kv ?_)
              refine hk_aload_n dX10_go_115 rfl rfl ?_
              refine gfX10_70 rfl dX10_go_116 (hk_lt (by decide)) rfl rfl ?_
              refine hk_iload_n dX10_go_119 rfl rfl ?_
              refine hk_iload_n dX10_go_120 rfl rfl ?_
              refine hk_isn dX10_go_121 (by decide) (fun _ => rfl) rfl (by omega) (by decide) ?_
              refine hk_aload_n dX10_go_122 rfl rfl ?_
              refine gfX10_64 rfl dX10_go_123 (hk_lt (by decide)) rfl rfl ?_
              refine hk_iload_n dX10_go_126 rfl rfl ?_
              refine hk_iload_n dX10_go_127 rfl rfl ?_
              refine hk_isn dX10_go_128 (by decide) (fun _ => rfl) rfl (by omega) (by decide) ?_
              refine hk_iload dX10_go_129 rfl ?_
              refine ivX10_277 rfl (md_minutesOf _) dX10_go_131 rfl rfl (by decide) ⟨by decide, by decide⟩ (Nat.le_of_ble_eq_true rfl) (hk_kd ?_)
              rw [eT]
              refine hk_istore dX10_go_134 (by decide) rfl ?_
              refine hk_iload dX10_go_136 rfl ?_
              refine hk_if_ne (tgt := 148) dX10_go_138 (by decide) (fun c138 => ?_) (fun c138 => ?_)
              · rw [show (0 : Int32) = nI 0 from rfl, nI_eq (by omega) (by omega)] at c138
                refine hk_aload_n dX10_go_148 rfl rfl ?_
                refine gfX10_61 rfl dX10_go_149 (hk_lt (by decide)) rfl rfl ?_
                refine hk_iload_n dX10_go_152 rfl rfl ?_
                refine hk_iconst (v := 2) dX10_go_153 (by decide) ?_
                refine hk_isn dX10_go_154 (by decide) (fun _ => rfl) rfl (by omega) (by decide) ?_
                refine hk_aload_n dX10_go_155 rfl rfl ?_
                refine gfX10_67 rfl dX10_go_156 (hk_lt (by decide)) rfl rfl ?_
                refine hk_iload_n dX10_go_159 rfl rfl ?_
                refine hk_aload_n dX10_go_160 rfl rfl ?_
                refine gfX10_194 rfl dX10_go_161 (hk_lt (by decide)) rfl rfl ?_
                refine hk_iload dX10_go_164 rfl ?_
                refine hk_iadd dX10_go_166 ?_
                rw [show hk_w (hk_w (hk_w (LV m1) 58 c st) 56 c (nI tc)) 55 c 2 37 0 + nI T = nI (n + T) by rw [hk_wo (by decide), hk_wo (by decide), hk_wo (by decide), hlf m1 37 (by decide) (by decide), hF.1 37 (by decide) (by decide), hnow, nI_add]]
                refine hk_isn dX10_go_167 (by decide) (fun _ => rfl) rfl (by omega) (by decide) ?_
                refine hk_iload dX10_go_168 rfl ?_
                exact hk_ireturn dX10_go_170 rfl rfl (by decide) ⟨m1, rfl, hF.1, Or.inl ⟨c138, rfl⟩⟩
              · rw [show (0 : Int32) = nI 0 from rfl, nI_eq (by omega) (by omega)] at c138
                have hT0 : T = 0 := c138
                refine hk_aload_n dX10_go_141 rfl rfl ?_
                refine hk_iload_n dX10_go_142 rfl rfl ?_
                refine ivX10_280 rfl (har hT0 m1 hF.1) dX10_go_143 (hk_lt (by decide)) rfl rfl rfl (by decide) ⟨by decide, by decide⟩ (Nat.le_of_ble_eq_true rfl) (hk_kv ?_)
                refine hk_iconst (v := 0) dX10_go_146 (by decide) ?_
                exact hk_ireturn dX10_go_147 rfl rfl (by decide) ⟨m1, by rw [hT0]; rfl, hF.1, Or.inr ⟨hT0, rfl⟩⟩
            · refine hk_aload_n dX10_go_69 rfl rfl ?_
              refine gfX10_52 rfl dX10_go_70 (hk_lt (by decide)) rfl rfl ?_
              refine hk_iload_n dX10_go_73 rfl rfl ?_
              refine hk_ian dX10_go_74 (by decide) (fun _ => rfl) rfl (by omega) (by decide) ?_
              rw [ht1 (Int32.not_le.mp c66)]
              refine hk_goto (tgt := 84) dX10_go_75 (by decide) ?_
              refine hk_istore_n dX10_go_84 rfl (by decide) rfl ?_
              refine hk_aload_n dX10_go_85 rfl rfl ?_
              refine hk_aload_n dX10_go_86 rfl rfl ?_
              refine gfX10_64 rfl dX10_go_87 (hk_lt (by decide)) rfl rfl ?_
              refine hk_iload_n dX10_go_90 rfl rfl ?_
              refine hk_ian dX10_go_91 (by decide) (fun _ => rfl) rfl (by omega) (by decide) ?_
              rw [hco]
              refine hk_iload_n dX10_go_92 rfl rfl ?_
              refine hk_aload_n dX10_go_93 rfl rfl ?_
              refine gfX10_194 rfl dX10_go_94 (hk_lt (by decide)) rfl rfl ?_
              rw [hnow]
              refine ivX10_241 rfl (md_yardsOf hS hS6 hg hC hn (nI n) ht ha) dX10_go_97 (hk_lt (by decide)) rfl rfl rfl (by decide) ⟨by decide, by decide⟩ (Nat.le_of_ble_eq_true rfl) (fun r h1 hq => ?_)
              obtain ⟨m1, rfl, rfl, hF⟩ := hq
              rw [eyv]
              refine hk_istore dX10_go_100 (by decide) rfl ?_
              refine hk_iload dX10_go_102 rfl ?_
              refine hk_if_ge (tgt := 110) dX10_go_104 (by decide) (fun _ => ?_) (fun c104 => absurd (Int32.not_lt.mp (nI_pos (by omega))) c104)
              refine hk_aload_n dX10_go_110 rfl rfl ?_
              refine hk_iload_n dX10_go_111 rfl rfl ?_
              refine ivX10_273 rfl (hlv m1 hF.1) dX10_go_112 (hk_lt (by decide)) rfl rfl rfl (by decide) ⟨by decide, by decide⟩ (Nat.le_of_ble_eq_true rfl) (hk_kv ?_)
              refine hk_aload_n dX10_go_115 rfl rfl ?_
              refine gfX10_70 rfl dX10_go_116 (hk_lt (by decide)) rfl rfl ?_
              refine hk_iload_n dX10_go_119 rfl rfl ?_
              refine hk_iload_n dX10_go_120 rfl rfl ?_
              refine hk_isn dX10_go_121 (by decide) (fun _ => rfl) rfl (by omega) (by decide) ?_
              refine hk_aload_n dX10_go_122 rfl rfl ?_
              refine gfX10_64 rfl dX10_go_123 (hk_lt (by decide)) rfl rfl ?_
              refine hk_iload_n dX10_go_126 rfl rfl ?_
              refine hk_iload_n dX10_go_127 rfl rfl ?_
              refine hk_isn dX10_go_128 (by decide) (fun _ => rfl) rfl (by omega) (by decide) ?_
              refine hk_iload dX10_go_129 rfl ?_
              refine ivX10_277 rfl (md_minutesOf _) dX10_go_131 rfl rfl (by decide) ⟨by decide, by decide⟩ (Nat.le_of_ble_eq_true rfl) (hk_kd ?_)
              rw [eT]
              refine hk_istore dX10_go_134 (by decide) rfl ?_
              refine hk_iload dX10_go_136 rfl ?_
              refine hk_if_ne (tgt := 148) dX10_go_138 (by decide) (fun c138 => ?_) (fun c138 => ?_)
              · rw [show (0 : Int32) = nI 0 from rfl, nI_eq (by omega) (by omega)] at c138
                refine hk_aload_n dX10_go_148 rfl rfl ?_
                refine gfX10_61 rfl dX10_go_149 (hk_lt (by decide)) rfl rfl ?_
                refine hk_iload_n dX10_go_152 rfl rfl ?_
                refine hk_iconst (v := 2) dX10_go_153 (by decide) ?_
                refine hk_isn dX10_go_154 (by decide) (fun _ => rfl) rfl (by omega) (by decide) ?_
                refine hk_aload_n dX10_go_155 rfl rfl ?_
                refine gfX10_67 rfl dX10_go_156 (hk_lt (by decide)) rfl rfl ?_
                refine hk_iload_n dX10_go_159 rfl rfl ?_
                refine hk_aload_n dX10_go_160 rfl rfl ?_
                refine gfX10_194 rfl dX10_go_161 (hk_lt (by decide)) rfl rfl ?_
                refine hk_iload dX10_go_164 rfl ?_
                refine hk_iadd dX10_go_166 ?_
                rw [show hk_w (hk_w (hk_w (LV m1) 58 c st) 56 c (nI tc)) 55 c 2 37 0 + nI T = nI (n + T) by rw [hk_wo (by decide), hk_wo (by decide), hk_wo (by decide), hlf m1 37 (by decide) (by decide), hF.1 37 (by decide) (by decide), hnow, nI_add]]
                refine hk_isn dX10_go_167 (by decide) (fun _ => rfl) rfl (by omega) (by decide) ?_
                refine hk_iload dX10_go_168 rfl ?_
                exact hk_ireturn dX10_go_170 rfl rfl (by decide) ⟨m1, rfl, hF.1, Or.inl ⟨c138, rfl⟩⟩
              · rw [show (0 : Int32) = nI 0 from rfl, nI_eq (by omega) (by omega)] at c138
                have hT0 : T = 0 := c138
                refine hk_aload_n dX10_go_141 rfl rfl ?_
                refine hk_iload_n dX10_go_142 rfl rfl ?_
                refine ivX10_280 rfl (har hT0 m1 hF.1) dX10_go_143 (hk_lt (by decide)) rfl rfl rfl (by decide) ⟨by decide, by decide⟩ (Nat.le_of_ble_eq_true rfl) (hk_kv ?_)
                refine hk_iconst (v := 0) dX10_go_146 (by decide) ?_
                exact hk_ireturn dX10_go_147 rfl rfl (by decide) ⟨m1, by rw [hT0]; rfl, hF.1, Or.inr ⟨hT0, rfl⟩⟩
          · first
            | exact absurd (Or.inl c30) hmv
            | exact absurd (Or.inr c40) hmv
            | exact absurd ⟨c50, c59⟩ hsa
  · refine hk_aload_n dX10_go_13 rfl rfl ?_
    refine hk_iload_n dX10_go_14 rfl rfl ?_
    refine ivX10_270 rfl (md_isStand hD _) dX10_go_15 (hk_lt (by decide)) rfl rfl rfl (by decide) ⟨by decide, by decide⟩ (Nat.le_of_ble_eq_true rfl) (hk_kd ?_)
    refine hk_if_ne (tgt := 23) dX10_go_18 (by decide) (fun c18 => ?_) (fun c18 => ?_)
    · rw [bI_0] at c18
      refine hk_aload_n dX10_go_23 rfl rfl ?_
      refine gfX10_61 rfl dX10_go_24 (hk_lt (by decide)) rfl rfl ?_
      refine hk_iload_n dX10_go_27 rfl rfl ?_
      refine hk_ian dX10_go_28 (by decide) (fun _ => rfl) rfl (by omega) (by decide) ?_
      refine hk_iconst (v := 2) dX10_go_29 (by decide) ?_
      refine hk_icmp_eq (tgt := 62) dX10_go_30 (by decide) (fun c30 => ?_) (fun c30 => ?_)
      · first
        | exact absurd (Or.inl c30) hmv
        | exact absurd (Or.inr c40) hmv
        | exact absurd ⟨c50, c59⟩ hsa
      · refine hk_aload_n dX10_go_33 rfl rfl ?_
        refine gfX10_61 rfl dX10_go_34 (hk_lt (by decide)) rfl rfl ?_
        refine hk_iload_n dX10_go_37 rfl rfl ?_
        refine hk_ian dX10_go_38 (by decide) (fun _ => rfl) rfl (by omega) (by decide) ?_
        refine hk_iconst (v := 3) dX10_go_39 (by decide) ?_
        refine hk_icmp_eq (tgt := 62) dX10_go_40 (by decide) (fun c40 => ?_) (fun c40 => ?_)
        · first
          | exact absurd (Or.inl c30) hmv
          | exact absurd (Or.inr c40) hmv
          | exact absurd ⟨c50, c59⟩ hsa
        · refine hk_aload_n dX10_go_43 rfl rfl ?_
          refine gfX10_61 rfl dX10_go_44 (hk_lt (by decide)) rfl rfl ?_
          refine hk_iload_n dX10_go_47 rfl rfl ?_
          refine hk_ian dX10_go_48 (by decide) (fun _ => rfl) rfl (by omega) (by decide) ?_
          refine hk_iconst (v := 1) dX10_go_49 (by decide) ?_
          refine hk_icmp_ne (tgt := 65) dX10_go_50 (by decide) (fun c50 => ?_) (fun c50 => ?_)
          · refine hk_iload_n dX10_go_65 rfl rfl ?_
            refine hk_if_ge (tgt := 78) dX10_go_66 (by decide) (fun c66 => ?_) (fun c66 => ?_)
            · obtain ⟨hs1, hs2⟩ := hs1 c66
              refine hk_aload_n dX10_go_78 rfl rfl ?_
              refine gfX10_82 rfl dX10_go_79 (hk_lt (by decide)) rfl rfl ?_
              refine hk_iload_n dX10_go_82 rfl rfl ?_
              refine hk_ian dX10_go_83 (by decide) (fun _ => rfl) hs1 (by omega) (by decide) ?_
              rw [ht2 (Int32.not_lt.mpr c66)]
              refine hk_istore_n dX10_go_84 rfl (by decide) rfl ?_
              refine hk_aload_n dX10_go_85 rfl rfl ?_
              refine hk_aload_n dX10_go_86 rfl rfl ?_
              refine gfX10_64 rfl dX10_go_87 (hk_lt (by decide)) rfl rfl ?_
              refine hk_iload_n dX10_go_90 rfl rfl ?_
              refine hk_ian dX10_go_91 (by decide) (fun _ => rfl) rfl (by omega) (by decide) ?_
              rw [hco]
              refine hk_iload_n dX10_go_92 rfl rfl ?_
              refine hk_aload_n dX10_go_93 rfl rfl ?_
              refine gfX10_194 rfl dX10_go_94 (hk_lt (by decide)) rfl rfl ?_
              rw [hnow]
              refine ivX10_241 rfl (md_yardsOf hS hS6 hg hC hn (nI n) ht ha) dX10_go_97 (hk_lt (by decide)) rfl rfl rfl (by decide) ⟨by decide, by decide⟩ (Nat.le_of_ble_eq_true rfl) (fun r h1 hq => ?_)
              obtain ⟨m1, rfl, rfl, hF⟩ := hq
              rw [eyv]
              refine hk_istore dX10_go_100 (by decide) rfl ?_
              refine hk_iload dX10_go_102 rfl ?_
              refine hk_if_ge (tgt := 110) dX10_go_104 (by decide) (fun _ => ?_) (fun c104 => absurd (Int32.not_lt.mp (nI_pos (by omega))) c104)
              refine hk_aload_n dX10_go_110 rfl rfl ?_
              refine hk_iload_n dX10_go_111 rfl rfl ?_
              refine ivX10_273 rfl (hlv m1 hF.1) dX10_go_112 (hk_lt (by decide)) rfl rfl rfl (by decide) ⟨by decide, by decide⟩ (Nat.le_of_ble_eq_true rfl) (hk_kv ?_)
              refine hk_aload_n dX10_go_115 rfl rfl ?_
              refine gfX10_70 rfl dX10_go_116 (hk_lt (by decide)) rfl rfl ?_
              refine hk_iload_n dX10_go_119 rfl rfl ?_
              refine hk_iload_n dX10_go_120 rfl rfl ?_
              refine hk_isn dX10_go_121 (by decide) (fun _ => rfl) rfl (by omega) (by decide) ?_
              refine hk_aload_n dX10_go_122 rfl rfl ?_
              refine gfX10_64 rfl dX10_go_123 (hk_lt (by decide)) rfl rfl ?_
              refine hk_iload_n dX10_go_126 rfl rfl ?_
              refine hk_iload_n dX10_go_127 rfl rfl ?_
              refine hk_isn dX10_go_128 (by decide) (fun _ => rfl) rfl (by omega) (by decide) ?_
              refine hk_iload dX10_go_129 rfl ?_
              refine ivX10_277 rfl (md_minutesOf _) dX10_go_131 rfl rfl (by decide) ⟨by decide, by decide⟩ (Nat.le_of_ble_eq_true rfl) (hk_kd ?_)
              rw [eT]
              refine hk_istore dX10_go_134 (by decide) rfl ?_
              refine hk_iload dX10_go_136 rfl ?_
              refine hk_if_ne (tgt := 148) dX10_go_138 (by decide) (fun c138 => ?_) (fun c138 => ?_)
              · rw [show (0 : Int32) = nI 0 from rfl, nI_eq (by omega) (by omega)] at c138
                refine hk_aload_n dX10_go_148 rfl rfl ?_
                refine gfX10_61 rfl dX10_go_149 (hk_lt (by decide)) rfl rfl ?_
                refine hk_iload_n dX10_go_152 rfl rfl ?_
                refine hk_iconst (v := 2) dX10_go_153 (by decide) ?_
                refine hk_isn dX10_go_154 (by decide) (fun _ => rfl) rfl (by omega) (by decide) ?_
                refine hk_aload_n dX10_go_155 rfl rfl ?_
                refine gfX10_67 rfl dX10_go_156 (hk_lt (by decide)) rfl rfl ?_
                refine hk_iload_n dX10_go_159 rfl rfl ?_
                refine hk_aload_n dX10_go_160 rfl rfl ?_
                refine gfX10_194 rfl dX10_go_161 (hk_lt (by decide)) rfl rfl ?_
                refine hk_iload dX10_go_164 rfl ?_
                refine hk_iadd dX10_go_166 ?_
                rw [show hk_w (hk_w (hk_w (LV m1) 58 c st) 56 c (nI tc)) 55 c 2 37 0 + nI T = nI (n + T) by rw [hk_wo (by decide), hk_wo (by decide), hk_wo (by decide), hlf m1 37 (by decide) (by decide), hF.1 37 (by decide) (by decide), hnow, nI_add]]
                refine hk_isn dX10_go_167 (by decide) (fun _ => rfl) rfl (by omega) (by decide) ?_
                refine hk_iload dX10_go_168 rfl ?_
                exact hk_ireturn dX10_go_170 rfl rfl (by decide) ⟨m1, rfl, hF.1, Or.inl ⟨c138, rfl⟩⟩
              · rw [show (0 : Int32) = nI 0 from rfl, nI_eq (by omega) (by omega)] at c138
                have hT0 : T = 0 := c138
                refine hk_aload_n dX10_go_141 rfl rfl ?_
                refine hk_iload_n dX10_go_142 rfl rfl ?_
                refine ivX10_280 rfl (har hT0 m1 hF.1) dX10_go_143 (hk_lt (by decide)) rfl rfl rfl (by decide) ⟨by decide, by decide⟩ (Nat.le_of_ble_eq_true rfl) (hk_kv ?_)
                refine hk_iconst (v := 0) dX10_go_146 (by decide) ?_
                exact hk_ireturn dX10_go_147 rfl rfl (by decide) ⟨m1, by rw [hT0]; rfl, hF.1, Or.inr ⟨hT0, rfl⟩⟩
            · refine hk_aload_n dX10_go_69 rfl rfl ?_
              refine gfX10_52 rfl dX10_go_70 (hk_lt (by decide)) rfl rfl ?_
              refine hk_iload_n dX10_go_73 rfl rfl ?_
              refine hk_ian dX10_go_74 (by decide) (fun _ => rfl) rfl (by omega) (by decide) ?_
              rw [ht1 (Int32.not_le.mp c66)]
              refine hk_goto (tgt := 84) dX10_go_75 (by decide) ?_
              refine hk_istore_n dX10_go_84 rfl (by decide) rfl ?_
              refine hk_aload_n dX10_go_85 rfl rfl ?_
              refine hk_aload_n dX10_go_86 rfl rfl ?_
              refine gfX10_64 rfl dX10_go_87 (hk_lt (by decide)) rfl rfl ?_
              refine hk_iload_n dX10_go_90 rfl rfl ?_
              refine hk_ian dX10_go_91 (by decide) (fun _ => rfl) rfl (by omega) (by decide) ?_
              rw [hco]
              refine hk_iload_n dX10_go_92 rfl rfl ?_
              refine hk_aload_n dX10_go_93 rfl rfl ?_
              refine gfX10_194 rfl dX10_go_94 (hk_lt (by decide)) rfl rfl ?_
              rw [hnow]
              refine ivX10_241 rfl (md_yardsOf hS hS6 hg hC hn (nI n) ht ha) dX10_go_97 (hk_lt (by decide)) rfl rfl rfl (by decide) ⟨by decide, by decide⟩ (Nat.le_of_ble_eq_true rfl) (fun r h1 hq => ?_)
              obtain ⟨m1, rfl, rfl, hF⟩ := hq
              rw [eyv]
              refine hk_istore dX10_go_100 (by decide) rfl ?_
              refine hk_iload dX10_go_102 rfl ?_
              refine hk_if_ge (tgt := 110) dX10_go_104 (by decide) (fun _ => ?_) (fun c104 => absurd (Int32.not_lt.mp (nI_pos (by omega))) c104)
              refine hk_aload_n dX10_go_110 rfl rfl ?_
              refine hk_iload_n dX10_go_111 rfl rfl ?_
              refine ivX10_273 rfl (hlv m1 hF.1) dX10_go_112 (hk_lt (by decide)) rfl rfl rfl (by decide) ⟨by decide, by decide⟩ (Nat.le_of_ble_eq_true rfl) (hk_kv ?_)
              refine hk_aload_n dX10_go_115 rfl rfl ?_
              refine gfX10_70 rfl dX10_go_116 (hk_lt (by decide)) rfl rfl ?_
              refine hk_iload_n dX10_go_119 rfl rfl ?_
              refine hk_iload_n dX10_go_120 rfl rfl ?_
              refine hk_isn dX10_go_121 (by decide) (fun _ => rfl) rfl (by omega) (by decide) ?_
              refine hk_aload_n dX10_go_122 rfl rfl ?_
              refine gfX10_64 rfl dX10_go_123 (hk_lt (by decide)) rfl rfl ?_
              refine hk_iload_n dX10_go_126 rfl rfl ?_
              refine hk_iload_n dX10_go_127 rfl rfl ?_
              refine hk_isn dX10_go_128 (by decide) (fun _ => rfl) rfl (by omega) (by decide) ?_
              refine hk_iload dX10_go_129 rfl ?_
              refine ivX10_277 rfl (md_minutesOf _) dX10_go_131 rfl rfl (by decide) ⟨by decide, by decide⟩ (Nat.le_of_ble_eq_true rfl) (hk_kd ?_)
              rw [eT]
              refine hk_istore dX10_go_134 (by decide) rfl ?_
              refine hk_iload dX10_go_136 rfl ?_
              refine hk_if_ne (tgt := 148) dX10_go_138 (by decide) (fun c138 => ?_) (fun c138 => ?_)
              · rw [show (0 : Int32) = nI 0 from rfl, nI_eq (by omega) (by omega)] at c138
                refine hk_aload_n dX10_go_148 rfl rfl ?_
                refine gfX10_61 rfl dX10_go_149 (hk_lt (by decide)) rfl rfl ?_
                refine hk_iload_n dX10_go_152 rfl rfl ?_
                refine hk_iconst (v := 2) dX10_go_153 (by decide) ?_
                refine hk_isn dX10_go_154 (by decide) (fun _ => rfl) rfl (by omega) (by decide) ?_
                refine hk_aload_n dX10_go_155 rfl rfl ?_
                refine gfX10_67 rfl dX10_go_156 (hk_lt (by decide)) rfl rfl ?_
                refine hk_iload_n dX10_go_159 rfl rfl ?_
                refine hk_aload_n dX10_go_160 rfl rfl ?_
                refine gfX10_194 rfl dX10_go_161 (hk_lt (by decide)) rfl rfl ?_
                refine hk_iload dX10_go_164 rfl ?_
                refine hk_iadd dX10_go_166 ?_
                rw [show hk_w (hk_w (hk_w (LV m1) 58 c st) 56 c (nI tc)) 55 c 2 37 0 + nI T = nI (n + T) by rw [hk_wo (by decide), hk_wo (by decide), hk_wo (by decide), hlf m1 37 (by decide) (by decide), hF.1 37 (by decide) (by decide), hnow, nI_add]]
                refine hk_isn dX10_go_167 (by decide) (fun _ => rfl) rfl (by omega) (by decide) ?_
                refine hk_iload dX10_go_168 rfl ?_
                exact hk_ireturn dX10_go_170 rfl rfl (by decide) ⟨m1, rfl, hF.1, Or.inl ⟨c138, rfl⟩⟩
              · rw [show (0 : Int32) = nI 0 from rfl, nI_eq (by omega) (by omega)] at c138
                have hT0 : T = 0 := c138
                refine hk_aload_n dX10_go_141 rfl rfl ?_
                refine hk_iload_n dX10_go_142 rfl rfl ?_
                refine ivX10_280 rfl (har hT0 m1 hF.1) dX10_go_143 (hk_lt (by decide)) rfl rfl rfl (by decide) ⟨by decide, by decide⟩ (Nat.le_of_ble_eq_true rfl) (hk_kv ?_)
                refine hk_iconst (v := 0) dX10_go_146 (by decide) ?_
                exact hk_ireturn dX10_go_147 rfl rfl (by decide) ⟨m1, by rw [hT0]; rfl, hF.1, Or.inr ⟨hT0, rfl⟩⟩
          · refine hk_aload_n dX10_go_53 rfl rfl ?_
            refine hk_iload_n dX10_go_54 rfl rfl ?_
            refine ivX10_266 rfl (md_standOf hD hD12 hq _) dX10_go_55 (hk_lt (by decide)) rfl rfl rfl (by decide) ⟨by decide, by decide⟩ (Nat.le_of_ble_eq_true rfl) (hk_kd ?_)
            refine hk_iload_n dX10_go_58 rfl rfl ?_
            refine hk_icmp_ne (tgt := 65) dX10_go_59 (by decide) (fun c59 => ?_) (fun c59 => ?_)
            · refine hk_iload_n dX10_go_65 rfl rfl ?_
              refine hk_if_ge (tgt := 78) dX10_go_66 (by decide) (fun c66 => ?_) (fun c66 => ?_)
              · obtain ⟨hs1, hs2⟩ := hs1 c66
                refine hk_aload_n dX10_go_78 rfl rfl ?_
                refine gfX10_82 rfl dX10_go_79 (hk_lt (by decide)) rfl rfl ?_
                refine hk_iload_n dX10_go_82 rfl rfl ?_
                refine hk_ian dX10_go_83 (by decide) (fun _ => rfl) hs1 (by omega) (by decide) ?_
                rw [ht2 (Int32.not_lt.mpr c66)]
                refine hk_istore_n dX10_go_84 rfl (by decide) rfl ?_
                refine hk_aload_n dX10_go_85 rfl rfl ?_
                refine hk_aload_n dX10_go_86 rfl rfl ?_
                refine gfX10_64 rfl dX10_go_87 (hk_lt (by decide)) rfl rfl ?_
                refine hk_iload_n dX10_go_90 rfl rfl ?_
                refine hk_ian dX10_go_91 (by decide) (fun _ => rfl) rfl (by omega) (by decide) ?_
                rw [hco]
                refine hk_iload_n dX10_go_92 rfl rfl ?_
                refine hk_aload_n dX10_go_93 rfl rfl ?_
                refine gfX10_194 rfl dX10_go_94 (hk_lt (by decide)) rfl rfl ?_
                rw [hnow]
                refine ivX10_241 rfl (md_yardsOf hS hS6 hg hC hn (nI n) ht ha) dX10_go_97 (hk_lt (by decide)) rfl rfl rfl (by decide) ⟨by decide, by decide⟩ (Nat.le_of_ble_eq_true rfl) (fun r h1 hq => ?_)
                obtain ⟨m1, rfl, rfl, hF⟩ := hq
                rw [eyv]
                refine hk_istore dX10_go_100 (by decide) rfl ?_
                refine hk_iload dX10_go_102 rfl ?_
                refine hk_if_ge (tgt := 110) dX10_go_104 (by decide) (fun _ => ?_) (fun c104 => absurd (Int32.not_lt.mp (nI_pos (by omega))) c104)
                refine hk_aload_n dX10_go_110 rfl rfl ?_
                refine hk_iload_n dX10_go_111 rfl rfl ?_
                refine ivX10_273 rfl (hlv m1 hF.1) dX10_go_112 (hk_lt (by decide)) rfl rfl rfl (by decide) ⟨by decide, by decide⟩ (Nat.le_of_ble_eq_true rfl) (hk_kv ?_)
                refine hk_aload_n dX10_go_115 rfl rfl ?_
                refine gfX10_70 rfl dX10_go_116 (hk_lt (by decide)) rfl rfl ?_
                refine hk_iload_n dX10_go_119 rfl rfl ?_
                refine hk_iload_n dX10_go_120 rfl rfl ?_
                refine hk_isn dX10_go_121 (by decide) (fun _ => rfl) rfl (by omega) (by decide) ?_
                refine hk_aload_n dX10_go_122 rfl rfl ?_
                refine gfX10_64 rfl dX10_go_123 (hk_lt (by decide)) rfl rfl ?_
                refine hk_iload_n dX10_go_126 rfl rfl ?_
                refine hk_iload_n dX10_go_127 rfl rfl ?_
                refine hk_isn dX10_go_128 (by decide) (fun _ => rfl) rfl (by omega) (by decide) ?_
                refine hk_iload dX10_go_129 rfl ?_
                refine ivX10_277 rfl (md_minutesOf _) dX10_go_131 rfl rfl (by decide) ⟨by decide, by decide⟩ (Nat.le_of_ble_eq_true rfl) (hk_kd ?_)
                rw [eT]
                refine hk_istore dX10_go_134 (by decide) rfl ?_
                refine hk_iload dX10_go_136 rfl ?_
                refine hk_if_ne (tgt := 148) dX10_go_138 (by decide) (fun c138 => ?_) (fun c138 => ?_)
                · rw [show (0 : Int32) = nI 0 from rfl, nI_eq (by omega) (by omega)] at c138
                  refine hk_aload_n dX10_go_148 rfl rfl ?_
                  refine gfX10_61 rfl dX10_go_149 (hk_lt (by decide)) rfl rfl ?_
                  refine hk_iload_n dX10_go_152 rfl rfl ?_
                  refine hk_iconst (v := 2) dX10_go_153 (by decide) ?_
                  refine hk_isn dX10_go_154 (by decide) (fun _ => rfl) rfl (by omega) (by decide) ?_
                  refine hk_aload_n dX10_go_155 rfl rfl ?_
                  refine gfX10_67 rfl dX10_go_156 (hk_lt (by decide)) rfl rfl ?_
                  refine hk_iload_n dX10_go_159 rfl rfl ?_
                  refine hk_aload_n dX10_go_160 rfl rfl ?_
                  refine gfX10_194 rfl dX10_go_161 (hk_lt (by decide)) rfl rfl ?_
                  refine hk_iload dX10_go_164 rfl ?_
                  refine hk_iadd dX10_go_166 ?_
                  rw [show hk_w (hk_w (hk_w (LV m1) 58 c st) 56 c (nI tc)) 55 c 2 37 0 + nI T = nI (n + T) by rw [hk_wo (by decide), hk_wo (by decide), hk_wo (by decide), hlf m1 37 (by decide) (by decide), hF.1 37 (by decide) (by decide), hnow, nI_add]]
                  refine hk_isn dX10_go_167 (by decide) (fun _ => rfl) rfl (by omega) (by decide) ?_
                  refine hk_iload dX10_go_168 rfl ?_
                  exact hk_ireturn dX10_go_170 rfl rfl (by decide) ⟨m1, rfl, hF.1, Or.inl ⟨c138, rfl⟩⟩
                · rw [show (0 : Int32) = nI 0 from rfl, nI_eq (by omega) (by omega)] at c138
                  have hT0 : T = 0 := c138
                  refine hk_aload_n dX10_go_141 rfl rfl ?_
                  refine hk_iload_n dX10_go_142 rfl rfl ?_
                  refine ivX10_280 rfl (har hT0 m1 hF.1) dX10_go_143 (hk_lt (by decide)) rfl rfl rfl (by decide) ⟨by decide, by decide⟩ (Nat.le_of_ble_eq_true rfl) (hk_kv ?_)
                  refine hk_iconst (v := 0) dX10_go_146 (by decide) ?_
                  exact hk_ireturn dX10_go_147 rfl rfl (by decide) ⟨m1, by rw [hT0]; rfl, hF.1, Or.inr ⟨hT0, rfl⟩⟩
              · refine hk_aload_n dX10_go_69 rfl rfl ?_
                refine gfX10_52 rfl dX10_go_70 (hk_lt (by decide)) rfl rfl ?_
                refine hk_iload_n dX10_go_73 rfl rfl ?_
                refine hk_ian dX10_go_74 (by decide) (fun _ => rfl) rfl (by omega) (by decide) ?_
                rw [ht1 (Int32.not_le.mp c66)]
                refine hk_goto (tgt := 84) dX10_go_75 (by decide) ?_
                refine hk_istore_n dX10_go_84 rfl (by decide) rfl ?_
                refine hk_aload_n dX10_go_85 rfl rfl ?_
                refine hk_aload_n dX10_go_86 rfl rfl ?_
                refine gfX10_64 rfl dX10_go_87 (hk_lt (by decide)) rfl rfl ?_
                refine hk_iload_n dX10_go_90 rfl rfl ?_
                refine hk_ian dX10_go_91 (by decide) (fun _ => rfl) rfl (by omega) (by decide) ?_
                rw [hco]
                refine hk_iload_n dX10_go_92 rfl rfl ?_
                refine hk_aload_n dX10_go_93 rfl rfl ?_
                refine gfX10_194 rfl dX10_go_94 (hk_lt (by decide)) rfl rfl ?_
                rw [hnow]
                refine ivX10_241 rfl (md_yardsOf hS hS6 hg hC hn (nI n) ht ha) dX10_go_97 (hk_lt (by decide)) rfl rfl rfl (by decide) ⟨by decide, by decide⟩ (Nat.le_of_ble_eq_true rfl) (fun r h1 hq => ?_)
                obtain ⟨m1, rfl, rfl, hF⟩ := hq
                rw [eyv]
                refine hk_istore dX10_go_100 (by decide) rfl ?_
                refine hk_iload dX10_go_102 rfl ?_
                refine hk_if_ge (tgt := 110) dX10_go_104 (by decide) (fun _ => ?_) (fun c104 => absurd (Int32.not_lt.mp (nI_pos (by omega))) c104)
                refine hk_aload_n dX10_go_110 rfl rfl ?_
                refine hk_iload_n dX10_go_111 rfl rfl ?_
                refine ivX10_273 rfl (hlv m1 hF.1) dX10_go_112 (hk_lt (by decide)) rfl rfl rfl (by decide) ⟨by decide, by decide⟩ (Nat.le_of_ble_eq_true rfl) (hk_kv ?_)
                refine hk_aload_n dX10_go_115 rfl rfl ?_
                refine gfX10_70 rfl dX10_go_116 (hk_lt (by decide)) rfl rfl ?_
                refine hk_iload_n dX10_go_119 rfl rfl ?_
                refine hk_iload_n dX10_go_120 rfl rfl ?_
                refine hk_isn dX10_go_121 (by decide) (fun _ => rfl) rfl (by omega) (by decide) ?_
                refine hk_aload_n dX10_go_122 rfl rfl ?_
                refine gfX10_64 rfl dX10_go_123 (hk_lt (by decide)) rfl rfl ?_
                refine hk_iload_n dX10_go_126 rfl rfl ?_
                refine hk_iload_n dX10_go_127 rfl rfl ?_
                refine hk_isn dX10_go_128 (by decide) (fun _ => rfl) rfl (by omega) (by decide) ?_
                refine hk_iload dX10_go_129 rfl ?_
                refine ivX10_277 rfl (md_minutesOf _) dX10_go_131 rfl rfl (by decide) ⟨by decide, by decide⟩ (Nat.le_of_ble_eq_true rfl) (hk_kd ?_)
                rw [eT]
                refine hk_istore dX10_go_134 (by decide) rfl ?_
                refine hk_iload dX10_go_136 rfl ?_
                refine hk_if_ne (tgt := 148) dX10_go_138 (by decide) (fun c138 => ?_) (fun c138 => ?_)
                · rw [show (0 : Int32) = nI 0 from rfl, nI_eq (by omega) (by omega)] at c138
                  refine hk_aload_n dX10_go_148 rfl rfl ?_
                  refine gfX10_61 rfl dX10_go_149 (hk_lt (by decide)) rfl rfl ?_
                  refine hk_iload_n dX10_go_152 rfl rfl ?_
                  refine hk_iconst (v := 2) dX10_go_153 (by decide) ?_
                  refine hk_isn dX10_go_154 (by decide) (fun _ => rfl) rfl (by omega) (by decide) ?_
                  refine hk_aload_n dX10_go_155 rfl rfl ?_
                  refine gfX10_67 rfl dX10_go_156 (hk_lt (by decide)) rfl rfl ?_
                  refine hk_iload_n dX10_go_159 rfl rfl ?_
                  refine hk_aload_n dX10_go_160 rfl rfl ?_
                  refine gfX10_194 rfl dX10_go_161 (hk_lt (by decide)) rfl rfl ?_
                  refine hk_iload dX10_go_164 rfl ?_
                  refine hk_iadd dX10_go_166 ?_
                  rw [show hk_w (hk_w (hk_w (LV m1) 58 c st) 56 c (nI tc)) 55 c 2 37 0 + nI T = nI (n + T) by rw [hk_wo (by decide), hk_wo (by decide), hk_wo (by decide), hlf m1 37 (by decide) (by decide), hF.1 37 (by decide) (by decide), hnow, nI_add]]
                  refine hk_isn dX10_go_167 (by decide) (fun _ => rfl) rfl (by omega) (by decide) ?_
                  refine hk_iload dX10_go_168 rfl ?_
                  exact hk_ireturn dX10_go_170 rfl rfl (by decide) ⟨m1, rfl, hF.1, Or.inl ⟨c138, rfl⟩⟩
                · rw [show (0 : Int32) = nI 0 from rfl, nI_eq (by omega) (by omega)] at c138
                  have hT0 : T = 0 := c138
                  refine hk_aload_n dX10_go_141 rfl rfl ?_
                  refine hk_iload_n dX10_go_142 rfl rfl ?_
                  refine ivX10_280 rfl (har hT0 m1 hF.1) dX10_go_143 (hk_lt (by decide)) rfl rfl rfl (by decide) ⟨by decide, by decide⟩ (Nat.le_of_ble_eq_true rfl) (hk_kv ?_)
                  refine hk_iconst (v := 0) dX10_go_146 (by decide) ?_
                  exact hk_ireturn dX10_go_147 rfl rfl (by decide) ⟨m1, by rw [hT0]; rfl, hF.1, Or.inr ⟨hT0, rfl⟩⟩
            · first
              | exact absurd (Or.inl c30) hmv
              | exact absurd (Or.inr c40) hmv
              | exact absurd ⟨c50, c59⟩ hsa
    · rw [bI_0] at c18
      exact absurd (hstI c10) c18
set_option maxRecDepth 20000 in
set_option maxHeartbeats 2000000 in
theorem md_go_no {c st : Int32} (hK : m 37 26 = nI nK) (hD : m 37 35 = nI nD) (hD12 : nD ≤ 12) (hno : ¬ inR c nK ∨ st < -1 ∨ ¬ st < nI nD) : hk_Cd MX10_go 4 0 0 [.ref 37, .int c, .int st] (hk_h L m) (some (.int (-1))) (hk_h L m) := by
  refine hk_ofWP (by decide) (by simp [Value.category]) (Nat.le_of_ble_eq_true rfl) ?_
  show hk_WP _ _ _ _ _ _ _ [some (.ref 37), some (.int c), some (.int st), none, none, none] [] _ _
  refine hk_aload_n dX10_go_0 rfl rfl ?_
  refine hk_iload_n dX10_go_1 rfl rfl ?_
  refine ivX10_255 rfl (md_isCoach hK _) dX10_go_2 (hk_lt (by decide)) rfl rfl rfl (by decide) ⟨by decide, by decide⟩ (Nat.le_of_ble_eq_true rfl) (hk_kd ?_)
  refine hk_if_eq (tgt := 21) dX10_go_5 (by decide) (fun c5 => ?_) (fun c5 => ?_)
  · rw [bI_0] at c5
    refine hk_iconst (v := (-1)) dX10_go_21 (by decide) ?_
    exact hk_ireturn dX10_go_22 rfl rfl (by decide) ⟨rfl, rfl⟩
  · rw [bI_0] at c5
    refine hk_iload_n dX10_go_8 rfl rfl ?_
    refine hk_iconst (v := (-1)) dX10_go_9 (by decide) ?_
    refine hk_icmp_eq (tgt := 23) dX10_go_10 (by decide) (fun c10 => ?_) (fun c10 => ?_)
    · refine absurd hno (fun h => h.elim (fun k => c5 k) (fun h => ?_))
      first
      | (have hin : inR st nD := Classical.byContradiction c18
         refine h.elim (fun k => hin.1 (Int32.lt_trans k (by decide))) (fun k => k (Int32.not_le.mp hin.2)))
      | (rw [c10] at h
         refine h.elim (fun k => absurd k (by decide)) (fun k => k (Int32.not_le.mp (fun e => absurd (Int32.le_trans (Int32.not_lt.mp (nI_pos (by omega))) e) (show ¬ (0 : Int32) ≤ -1 by decide)))))
    · refine hk_aload_n dX10_go_13 rfl rfl ?_
      refine hk_iload_n dX10_go_14 rfl rfl ?_
      refine ivX10_270 rfl (md_isStand hD _) dX10_go_15 (hk_lt (by decide)) rfl rfl rfl (by decide) ⟨by decide, by decide⟩ (Nat.le_of_ble_eq_true rfl) (hk_kd ?_)
      refine hk_if_ne (tgt := 23) dX10_go_18 (by decide) (fun c18 => ?_) (fun c18 => ?_)
      · rw [bI_0] at c18
        refine absurd hno (fun h => h.elim (fun k => c5 k) (fun h => ?_))
        first
        | (have hin : inR st nD := Classical.byContradiction c18
           refine h.elim (fun k => hin.1 (Int32.lt_trans k (by decide))) (fun k => k (Int32.not_le.mp hin.2)))
        | (rw [c10] at h
           refine h.elim (fun k => absurd k (by decide)) (fun k => k (Int32.not_le.mp (fun e => absurd (Int32.le_trans (Int32.not_lt.mp (nI_pos (by omega))) e) (show ¬ (0 : Int32) ≤ -1 by decide)))))
      · rw [bI_0] at c18
        refine hk_iconst (v := (-1)) dX10_go_21 (by decide) ?_
        exact hk_ireturn dX10_go_22 rfl rfl (by decide) ⟨rfl, rfl⟩
end GWx
