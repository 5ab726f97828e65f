section O9
variable {L : Nat} {m : Nat → Nat → Int32} {z : Nat → Nat}
set_option maxRecDepth 20000 in
set_option maxHeartbeats 2000000 in
theorem ct_turn {D : Nat} (hD : m 13 3 = nI D) (hD12 : D ≤ 12) (s i : Int32) : hk_Cd MX9_turn 3 0 0 [.ref 0, .int s, .int i] (hk_h L m) (some (.int (if ¬ i < 0 ∧ ¬ tg m 13 13 D s 2 ≤ i then tg m 13 13 D s (3 + i) else -1))) (hk_h L m) := by
  refine hk_ofWP (by decide) (by simp [Value.category]) (Nat.le_of_ble_eq_true rfl) ?_
  show hk_WP _ _ _ _ _ _ _ [some (.ref 0), some (.int s), some (.int i)] [] _ _
  refine hk_aload_n dX9_turn_0 rfl rfl ?_
  refine gfX9_23 rfl dX9_turn_1 (hk_lt (by decide)) rfl rfl ?_
  refine hk_iload_n dX9_turn_4 rfl rfl ?_
  refine hk_iload_n dX9_turn_5 rfl rfl ?_
  refine ivX9_169 rfl (ct_coachInRow hD hD12 s i) dX9_turn_6 (hk_lt (by decide)) rfl rfl rfl (by decide) ⟨by decide, by decide⟩ (Nat.le_of_ble_eq_true rfl) (hk_kd ?_)
  exact hk_ireturn dX9_turn_9 rfl rfl (by decide) ⟨rfl, rfl⟩
set_option maxRecDepth 20000 in
set_option maxHeartbeats 2000000 in
theorem md_turn_no {D : Nat} (hD : m 37 35 = nI D) (s i : Int32) (h : ¬ inR s D) : hk_Cd MX10_turn 1 0 0 [.ref 37, .int s, .int i] (hk_h L m) (some (.int (-1))) (hk_h L m) := by
  refine hk_ofWP (by decide) (by simp [Value.category]) (Nat.le_of_ble_eq_true rfl) ?_
  show hk_WP _ _ _ _ _ _ _ [some (.ref 37), some (.int s), some (.int i)] [] _ _
  refine hk_aload_n dX10_turn_0 rfl rfl ?_
  refine hk_iload_n dX10_turn_1 rfl rfl ?_
  refine ivX10_270 rfl (md_isStand hD s) dX10_turn_2 (hk_lt (by decide)) rfl rfl rfl (by decide) ⟨by decide, by decide⟩ (Nat.le_of_ble_eq_true rfl) (hk_kd ?_)
  refine hk_if_eq (tgt := 36) dX10_turn_5 (by decide) (fun _ => ?_) (fun c5 => absurd (bI_0.mpr h) c5)
  refine hk_iconst (v := (-1)) dX10_turn_36 (by decide) ?_
  exact hk_ireturn dX10_turn_37 rfl rfl (by decide) ⟨rfl, rfl⟩
set_option maxRecDepth 20000 in
set_option maxHeartbeats 2000000 in
theorem md_turn {D s q : Nat} (hD : m 37 35 = nI D) (hD12 : D ≤ 12) (hs : s < D) (hq : m 65 s = nI q) (hq10 : q ≤ 10) (i : Int32) : hk_Cd MX10_turn 1 0 0 [.ref 37, .int (nI s), .int i] (hk_h L m) (some (.int (cI (inR i q) (m 64 (10 * s + i.toNatClampNeg)) (-1)))) (hk_h L m) := by
  refine hk_ofWP (by decide) (by simp [Value.category]) (Nat.le_of_ble_eq_true rfl) ?_
  show hk_WP _ _ _ _ _ _ _ [some (.ref 37), some (.int (nI s)), some (.int i)] [] _ _
  refine hk_aload_n dX10_turn_0 rfl rfl ?_
  refine hk_iload_n dX10_turn_1 rfl rfl ?_
  refine ivX10_270 rfl (md_isStand hD _) dX10_turn_2 (hk_lt (by decide)) rfl rfl rfl (by decide) ⟨by decide, by decide⟩ (Nat.le_of_ble_eq_true rfl) (hk_kd ?_)
  refine hk_if_eq (tgt := 36) dX10_turn_5 (by decide) (fun c5 => absurd c5 (fun q => bI_0.mp q (inR_nI hs (by omega)))) (fun _ => ?_)
  refine hk_iload_n dX10_turn_8 rfl rfl ?_
  refine hk_if_lt (tgt := 36) dX10_turn_9 (by decide) (fun c9 => ?_) (fun c9 => ?_)
  · refine hk_iconst (v := (-1)) dX10_turn_36 (by decide) ?_
    exact hk_ireturn dX10_turn_37 rfl rfl (by decide) ⟨by first | exact cI_r1 ⟨c9, c19⟩ | exact cI_r0 (fun q => q.1 c9) | exact cI_r0 (fun q => q.2 c19), rfl⟩
  · refine hk_iload_n dX10_turn_12 rfl rfl ?_
    refine hk_aload_n dX10_turn_13 rfl rfl ?_
    refine gfX10_91 rfl dX10_turn_14 (hk_lt (by decide)) rfl rfl ?_
    refine hk_iload_n dX10_turn_17 rfl rfl ?_
    refine hk_ian dX10_turn_18 (by decide) (fun _ => rfl) rfl (by omega) (by decide) ?_
    refine hk_icmp_ge (tgt := 36) dX10_turn_19 (by decide) (fun c19 => ?_) (fun c19 => ?_)
    · rw [hq] at c19
      refine hk_iconst (v := (-1)) dX10_turn_36 (by decide) ?_
      exact hk_ireturn dX10_turn_37 rfl rfl (by decide) ⟨by first | exact cI_r1 ⟨c9, c19⟩ | exact cI_r0 (fun q => q.1 c9) | exact cI_r0 (fun q => q.2 c19), rfl⟩
    · rw [hq] at c19
      refine hk_aload_n dX10_turn_22 rfl rfl ?_
      refine gfX10_88 rfl dX10_turn_23 (hk_lt (by decide)) rfl rfl ?_
      refine hk_bipush (v := 10) dX10_turn_26 (by decide) ?_
      refine hk_iload_n dX10_turn_28 rfl rfl ?_
      refine hk_imul dX10_turn_29 ?_
      refine hk_iload_n dX10_turn_30 rfl rfl ?_
      refine hk_iadd dX10_turn_31 ?_
      refine hk_ian (j := 10 * s + i.toNatClampNeg) dX10_turn_32 (by decide) (fun _ => rfl) (by obtain ⟨j, hj, rfl⟩ := inR_of (n := q) ⟨c9, c19⟩ (by omega); rw [nI_clamp (by omega), show (10 : Int32) = nI 10 from rfl, nI_mul, nI_add]) (by obtain ⟨j, hj, rfl⟩ := inR_of (n := q) ⟨c9, c19⟩ (by omega); rw [nI_clamp (by omega)]; omega) (by decide) ?_
      refine hk_goto (tgt := 37) dX10_turn_33 (by decide) ?_
      exact hk_ireturn dX10_turn_37 rfl rfl (by decide) ⟨by first | exact cI_r1 ⟨c9, c19⟩ | exact cI_r0 (fun q => q.1 c9) | exact cI_r0 (fun q => q.2 c19), rfl⟩
theorem op_turn (hI : Inv L z m) (s i : Int32) : OpOK L m MX9_turn MX10_turn [.int s, .int i] := by
  obtain ⟨g0, ⟨⟨a0, a1, a2, a3, a4, a5, a6, a7, a8, a9, a10, a11, a12, a13⟩, ⟨b0, b1, b2, b3, b4, b5, b6, b7, b8, b9, b10, b11, b12⟩, ⟨c0, c1, c2, c3, c4, c5, c6, c7, c8, c9, c10, c11, c12⟩⟩, g2, g3, g4, g5, g6, g7, g8, g9, g10, g11, g12, g13, g14⟩ := id hI
  by_cases h : inR s (z 3)
  · obtain ⟨j, hj, rfl⟩ := inR_of h (by omega)
    obtain ⟨e1, e2, e3, x, p, q, k1, k2, k3, k4, k5, k6, k7, k8, k9, k10⟩ := g7.1 j hj
    refine ⟨3, 0, 0, 1, _, L, m, m, z, by decide, by decide, by decide, by decide, ct_turn a3 c3 _ i, ?_, hI⟩
    have := md_turn (L := L) b3 c3 hj k6 (by omega) i
    have e4 : tg m 13 13 (z 3) (nI j) 2 = nI q := by
      rw [show (2 : Int32) = nI 2 from rfl, tg_in (by omega) (by decide) hj (by decide)]
      rw [e3, k6]
    rw [e4]
    by_cases hi : inR i q
    · obtain ⟨u, hu, rfl⟩ := inR_of hi (by omega)
      rw [cI_t hi, nI_clamp (by omega), ← (k8 u hu).1] at this
      rw [if_pos hi, show (3 : Int32) + nI u = nI (3 + u) by rw [show (3 : Int32) = nI 3 from rfl, nI_add], tg_in (by omega) (by decide) hj (by omega)]
      exact this
    · rw [cI_f hi] at this
      rw [if_neg hi]; exact this
  · refine ⟨3, 0, 0, 1, -1, L, m, m, z, by decide, by decide, by decide, by decide, ?_, md_turn_no b3 s i h, hI⟩
    have := ct_turn (L := L) a3 c3 s i
    have e : ∀ c, tg m 13 13 (z 3) s c = -1 := fun c => if_neg (fun q => h ⟨q.1, q.2.1⟩)
    simp only [e] at this
    rw [if_neg (fun q => absurd q.1 (by intro h0; apply q.2; rw [i32_lt] at h0; rw [i32_le]; have : (-1 : Int32).toInt = -1 := rfl; have : (0 : Int32).toInt = 0 := rfl; omega))] at this
    exact this
set_option maxRecDepth 20000 in
set_option maxHeartbeats 2000000 in
theorem ct_trip {n : Nat} (hn : m 23 3 = nI n) (hn2 : n ≤ 300) (i w : Int32) : hk_Cd MX9_trip 2 0 0 [.ref 0, .int i, .int w] (hk_h L m) (some (.int (cI (inR i n ∧ inR w 13) (tg m 23 13 n i w) (-9)))) (hk_h L m) := by
  refine hk_ofWP (by decide) (by simp [Value.category]) (Nat.le_of_ble_eq_true rfl) ?_
  show hk_WP _ _ _ _ _ _ _ [some (.ref 0), some (.int i), some (.int w)] [] _ _
  refine hk_aload_n dX9_trip_0 rfl rfl ?_
  refine gfX9_37 rfl dX9_trip_1 (hk_lt (by decide)) rfl rfl ?_
  refine gfX9_215 rfl dX9_trip_4 (hk_lt (by decide)) rfl rfl ?_
  refine hk_iload_n dX9_trip_7 rfl rfl ?_
  refine hk_iload_n dX9_trip_8 rfl rfl ?_
  refine ivX9_246 rfl (ct_isCell tb23 hn2 hn i w) dX9_trip_9 (hk_lt (by decide)) rfl rfl rfl (by decide) ⟨by decide, by decide⟩ (Nat.le_of_ble_eq_true rfl) (hk_kd ?_)
  refine hk_if_eq (tgt := 30) dX9_trip_12 (by decide) (fun c12 => ?_) (fun c12 => ?_)
  · rw [bI_0] at c12
    refine hk_bipush (v := (-9)) dX9_trip_30 (by decide) ?_
    exact hk_ireturn dX9_trip_32 rfl rfl (by decide) ⟨by first | exact cI_r1 (Classical.not_not.mp c12) | exact cI_r0 c12, rfl⟩
  · rw [bI_0] at c12
    refine hk_aload_n dX9_trip_15 rfl rfl ?_
    refine gfX9_37 rfl dX9_trip_16 (hk_lt (by decide)) rfl rfl ?_
    refine gfX9_215 rfl dX9_trip_19 (hk_lt (by decide)) rfl rfl ?_
    refine hk_iload_n dX9_trip_22 rfl rfl ?_
    refine hk_iload_n dX9_trip_23 rfl rfl ?_
    refine ivX9_124 rfl (ct_get tb23 hn2 hn i w) dX9_trip_24 (hk_lt (by decide)) rfl rfl rfl (by decide) ⟨by decide, by decide⟩ (Nat.le_of_ble_eq_true rfl) (hk_kd ?_)
    refine hk_goto (tgt := 32) dX9_trip_27 (by decide) ?_
    exact hk_ireturn dX9_trip_32 rfl rfl (by decide) ⟨by first | exact cI_r1 (Classical.not_not.mp c12) | exact cI_r0 c12, rfl⟩
/-- what the reference tells of trip t -/
def trm (m : Nat → Nat → Int32) (t : Nat) (w : Int32) : Int32 := if w = 0 then m 73 t else if w = 1 then m 74 t else if w = 2 then m 75 t else if w = 3 then m 76 t else if w = 4 then m 77 t else if w = 5 then m 78 t else if w = 6 then m 79 t else if w = 7 then m 80 t else if w = 8 then m 81 t else if w = 9 then m 82 t else if w = 10 then (if m 84 t = 0 then 0 else 1) else if w = 11 then m 83 t else if w = 12 then m 85 t else -9
set_option maxRecDepth 20000 in
set_option maxHeartbeats 2000000 in
theorem md_trip_no {n : Nat} (hn : m 37 60 = nI n) (i w : Int32) (h : ¬ inR i n) : hk_Cd MX10_trip 1 0 0 [.ref 37, .int i, .int w] (hk_h L m) (some (.int (-9))) (hk_h L m) := by
  refine hk_ofWP (by decide) (by simp [Value.category]) (Nat.le_of_ble_eq_true rfl) ?_
  show hk_WP _ _ _ _ _ _ _ [some (.ref 37), some (.int i), some (.int w)] [] _ _
  refine hk_aload_n dX10_trip_0 rfl rfl ?_
  refine hk_iload_n dX10_trip_1 rfl rfl ?_
  refine ivX10_389 rfl (md_isTrip hn i) dX10_trip_2 (hk_lt (by decide)) rfl rfl rfl (by decide) ⟨by decide, by decide⟩ (Nat.le_of_ble_eq_true rfl) (hk_kd ?_)
  refine hk_if_ne (tgt := 11) dX10_trip_5 (by decide) (fun c5 => absurd (bI_0.mpr h) c5) (fun _ => ?_)
  refine hk_bipush (v := (-9)) dX10_trip_8 (by decide) ?_
  exact hk_ireturn dX10_trip_10 rfl rfl (by decide) ⟨rfl, rfl⟩
set_option maxRecDepth 20000 in
set_option maxHeartbeats 2000000 in
theorem md_trip {n t : Nat} (hn : m 37 60 = nI n) (hn2 : n ≤ 300) (ht : t < n) (w : Int32) : hk_Cd MX10_trip 1 0 0 [.ref 37, .int (nI t), .int w] (hk_h L m) (some (.int (trm m t w))) (hk_h L m) := by
  refine hk_ofWP (by decide) (by simp [Value.category]) (Nat.le_of_ble_eq_true rfl) ?_
  show hk_WP _ _ _ _ _ _ _ [some (.ref 37), some (.int (nI t)), some (.int w)] [] _ _
  refine hk_aload_n dX10_trip_0 rfl rfl ?_
  refine hk_iload_n dX10_trip_1 rfl rfl ?_
  refine ivX10_389 rfl (md_isTrip hn _) dX10_trip_2 (hk_lt (by decide)) rfl rfl rfl (by decide) ⟨by decide, by decide⟩ (Nat.le_of_ble_eq_true rfl) (hk_kd ?_)
  refine hk_if_ne (tgt := 11) dX10_trip_5 (by decide) (fun _ => ?_) (fun c5 => absurd c5 (fun q => bI_0.mp q (inR_nI ht (by omega))))
  refine hk_iload_n dX10_trip_11 rfl rfl ?_
  by_cases e0 : w = 0
  · subst e0
    refine hk_tableIn (tgt := 80) dX10_trip_12 (by decide) (by decide) rfl (by decide) ?_
    refine hk_aload_n dX10_trip_80 rfl rfl ?_
    refine gfX10_115 rfl dX10_trip_81 (hk_lt (by decide)) rfl rfl ?_
    refine hk_iload_n dX10_trip_84 rfl rfl ?_
    refine hk_ian dX10_trip_85 (by decide) (fun _ => rfl) rfl (by omega) (by decide) ?_
    exact hk_ireturn dX10_trip_86 rfl rfl (by decide) ⟨by first | (simp [trm]; done) | (simp [trm, c156]; done) | simp [trm, e0, e1, e2, e3, e4, e5, e6, e7, e8, e9, e10, e11, e12], rfl⟩
  by_cases e1 : w = 1
  · subst e1
    refine hk_tableIn (tgt := 87) dX10_trip_12 (by decide) (by decide) rfl (by decide) ?_
    refine hk_aload_n dX10_trip_87 rfl rfl ?_
    refine gfX10_118 rfl dX10_trip_88 (hk_lt (by decide)) rfl rfl ?_
    refine hk_iload_n dX10_trip_91 rfl rfl ?_
    refine hk_ian dX10_trip_92 (by decide) (fun _ => rfl) rfl (by omega) (by decide) ?_
    exact hk_ireturn dX10_trip_93 rfl rfl (by decide) ⟨by first | (simp [trm]; done) | (simp [trm, c156]; done) | simp [trm, e0, e1, e2, e3, e4, e5, e6, e7, e8, e9, e10, e11, e12], rfl⟩
  by_cases e2 : w = 2
  · subst e2
    refine hk_tableIn (tgt := 94) dX10_trip_12 (by decide) (by decide) rfl (by decide) ?_
    refine hk_aload_n dX10_trip_94 rfl rfl ?_
    refine gfX10_121 rfl dX10_trip_95 (hk_lt (by decide)) rfl rfl ?_
    refine hk_iload_n dX10_trip_98 rfl rfl ?_
    refine hk_ian dX10_trip_99 (by decide) (fun _ => rfl) rfl (by omega) (by decide) ?_
    exact hk_ireturn dX10_trip_100 rfl rfl (by decide) ⟨by first | (simp [trm]; done) | (simp [trm, c156]; done) | simp [trm, e0, e1, e2, e3, e4, e5, e6, e7, e8, e9, e10, e11, e12], rfl⟩
  by_cases e3 : w = 3
  · subst e3
    refine hk_tableIn (tgt := 101) dX10_trip_12 (by decide) (by decide) rfl (by decide) ?_
    refine hk_aload_n dX10_trip_101 rfl rfl ?_
    refine gfX10_124 rfl dX10_trip_102 (hk_lt (by decide)) rfl rfl ?_
    refine hk_iload_n dX10_trip_105 rfl rfl ?_
    refine hk_ian dX10_trip_106 (by decide) (fun _ => rfl) rfl (by omega) (by decide) ?_
    exact hk_ireturn dX10_trip_107 rfl rfl (by decide) ⟨by first | (simp [trm]; done) | (simp [trm, c156]; done) | simp [trm, e0, e1, e2, e3, e4, e5, e6, e7, e8, e9, e10, e11, e12], rfl⟩
  by_cases e4 : w = 4
  · subst e4
    refine hk_tableIn (tgt := 108) dX10_trip_12 (by decide) (by decide) rfl (by decide) ?_
    refine hk_aload_n dX10_trip_108 rfl rfl ?_
    refine gfX10_127 rfl dX10_trip_109 (hk_lt (by decide)) rfl rfl ?_
    refine hk_iload_n dX10_trip_112 rfl rfl ?_
    refine hk_ian dX10_trip_113 (by decide) (fun _ => rfl) rfl (by omega) (by decide) ?_
    exact hk_ireturn dX10_trip_114 rfl rfl (by decide) ⟨by first | (simp [trm]; done) | (simp [trm, c156]; done) | simp [trm, e0, e1, e2, e3, e4, e5, e6, e7, e8, e9, e10, e11, e12], rfl⟩
  by_cases e5 : w = 5
  · subst e5
    refine hk_tableIn (tgt := 115) dX10_trip_12 (by decide) (by decide) rfl (by decide) ?_
    refine hk_aload_n dX10_trip_115 rfl rfl ?_
    refine gfX10_130 rfl dX10_trip_116 (hk_lt (by decide)) rfl rfl ?_
    refine hk_iload_n dX10_trip_119 rfl rfl ?_
    refine hk_ian dX10_trip_120 (by decide) (fun _ => rfl) rfl (by omega) (by decide) ?_
    exact hk_ireturn dX10_trip_121 rfl rfl (by decide) ⟨by first | (simp [trm]; done) | (simp [trm, c156]; done) | simp [trm, e0, e1, e2, e3, e4, e5, e6, e7, e8, e9, e10, e11, e12], rfl⟩
  by_cases e6 : w = 6
  · subst e6
    refine hk_tableIn (tgt := 122) dX10_trip_12 (by decide) (by decide) rfl (by decide) ?_
    refine hk_aload_n dX10_trip_122 rfl rfl ?_
    refine gfX10_133 rfl dX10_trip_123 (hk_lt (by decide)) rfl rfl ?_
    refine hk_iload_n dX10_trip_126 rfl rfl ?_
    refine hk_ian dX10_trip_127 (by decide) (fun _ => rfl) rfl (by omega) (by decide) ?_
    exact hk_ireturn dX10_trip_128 rfl rfl (by decide) ⟨by first | (simp [trm]; done) | (simp [trm, c156]; done) | simp [trm, e0, e1, e2, e3, e4, e5, e6, e7, e8, e9, e10, e11, e12], rfl⟩
  by_cases e7 : w = 7
  · subst e7
    refine hk_tableIn (tgt := 129) dX10_trip_12 (by decide) (by decide) rfl (by decide) ?_
    refine hk_aload_n dX10_trip_129 rfl rfl ?_
    refine gfX10_136 rfl dX10_trip_130 (hk_lt (by decide)) rfl rfl ?_
    refine hk_iload_n dX10_trip_133 rfl rfl ?_
    refine hk_ian dX10_trip_134 (by decide) (fun _ => rfl) rfl (by omega) (by decide) ?_
    exact hk_ireturn dX10_trip_135 rfl rfl (by decide) ⟨by first | (simp [trm]; done) | (simp [trm, c156]; done) | simp [trm, e0, e1, e2, e3, e4, e5, e6, e7, e8, e9, e10, e11, e12], rfl⟩
  by_cases e8 : w = 8
  · subst e8
    refine hk_tableIn (tgt := 136) dX10_trip_12 (by decide) (by decide) rfl (by decide) ?_
    refine hk_aload_n dX10_trip_136 rfl rfl ?_
    refine gfX10_139 rfl dX10_trip_137 (hk_lt (by decide)) rfl rfl ?_
    refine hk_iload_n dX10_trip_140 rfl rfl ?_
    refine hk_ian dX10_trip_141 (by decide) (fun _ => rfl) rfl (by omega) (by decide) ?_
    exact hk_ireturn dX10_trip_142 rfl rfl (by decide) ⟨by first | (simp [trm]; done) | (simp [trm, c156]; done) | simp [trm, e0, e1, e2, e3, e4, e5, e6, e7, e8, e9, e10, e11, e12], rfl⟩
  by_cases e9 : w = 9
  · subst e9
    refine hk_tableIn (tgt := 143) dX10_trip_12 (by decide) (by decide) rfl (by decide) ?_
    refine hk_aload_n dX10_trip_143 rfl rfl ?_
    refine gfX10_142 rfl dX10_trip_144 (hk_lt (by decide)) rfl rfl ?_
    refine hk_iload_n dX10_trip_147 rfl rfl ?_
    refine hk_ian dX10_trip_148 (by decide) (fun _ => rfl) rfl (by omega) (by decide) ?_
    exact hk_ireturn dX10_trip_149 rfl rfl (by decide) ⟨by first | (simp [trm]; done) | (simp [trm, c156]; done) | simp [trm, e0, e1, e2, e3, e4, e5, e6, e7, e8, e9, e10, e11, e12], rfl⟩
  by_cases e10 : w = 10
  · subst e10
    refine hk_tableIn (tgt := 150) dX10_trip_12 (by decide) (by decide) rfl (by decide) ?_
    refine hk_aload_n dX10_trip_150 rfl rfl ?_
    refine gfX10_148 rfl dX10_trip_151 (hk_lt (by decide)) rfl rfl ?_
    refine hk_iload_n dX10_trip_154 rfl rfl ?_
    refine hk_zan dX10_trip_155 (by decide) (fun _ => rfl) rfl (by omega) (by decide) ?_
    refine hk_if_eq (tgt := 163) dX10_trip_156 (by decide) (fun c156 => ?_) (fun c156 => ?_)
    · refine hk_iconst (v := 0) dX10_trip_163 (by decide) ?_
      exact hk_ireturn dX10_trip_164 rfl rfl (by decide) ⟨by first | (simp [trm]; done) | (simp [trm, c156]; done) | simp [trm, e0, e1, e2, e3, e4, e5, e6, e7, e8, e9, e10, e11, e12], rfl⟩
    · refine hk_iconst (v := 1) dX10_trip_159 (by decide) ?_
      refine hk_goto (tgt := 164) dX10_trip_160 (by decide) ?_
      exact hk_ireturn dX10_trip_164 rfl rfl (by decide) ⟨by first | (simp [trm]; done) | (simp [trm, c156]; done) | simp [trm, e0, e1, e2, e3, e4, e5, e6, e7, e8, e9, e10, e11, e12], rfl⟩
  by_cases e11 : w = 11
  · subst e11
    refine hk_tableIn (tgt := 165) dX10_trip_12 (by decide) (by decide) rfl (by decide) ?_
    refine hk_aload_n dX10_trip_165 rfl rfl ?_
    refine gfX10_145 rfl dX10_trip_166 (hk_lt (by decide)) rfl rfl ?_
    refine hk_iload_n dX10_trip_169 rfl rfl ?_
    refine hk_ian dX10_trip_170 (by decide) (fun _ => rfl) rfl (by omega) (by decide) ?_
    exact hk_ireturn dX10_trip_171 rfl rfl (by decide) ⟨by first | (simp [trm]; done) | (simp [trm, c156]; done) | simp [trm, e0, e1, e2, e3, e4, e5, e6, e7, e8, e9, e10, e11, e12], rfl⟩
  by_cases e12 : w = 12
  · subst e12
    refine hk_tableIn (tgt := 172) dX10_trip_12 (by decide) (by decide) rfl (by decide) ?_
    refine hk_aload_n dX10_trip_172 rfl rfl ?_
    refine gfX10_152 rfl dX10_trip_173 (hk_lt (by decide)) rfl rfl ?_
    refine hk_iload_n dX10_trip_176 rfl rfl ?_
    refine hk_ian dX10_trip_177 (by decide) (fun _ => rfl) rfl (by omega) (by decide) ?_
    exact hk_ireturn dX10_trip_178 rfl rfl (by decide) ⟨by first | (simp [trm]; done) | (simp [trm, c156]; done) | simp [trm, e0, e1, e2, e3, e4, e5, e6, e7, e8, e9, e10, e11, e12], rfl⟩
  refine hk_tableOut (tgt := 179) dX10_trip_12 (hk_out0_12 e0 e1 e2 e3 e4 e5 e6 e7 e8 e9 e10 e11 e12) (by decide) ?_
  refine hk_bipush (v := (-9)) dX10_trip_179 (by decide) ?_
  exact hk_ireturn dX10_trip_181 rfl rfl (by decide) ⟨by first | (simp [trm]; done) | (simp [trm, c156]; done) | simp [trm, e0, e1, e2, e3, e4, e5, e6, e7, e8, e9, e10, e11, e12], rfl⟩
theorem op_trip (hI : Inv L z m) (i w : Int32) : OpOK L m MX9_trip MX10_trip [.int i, .int w] := by
  obtain ⟨g0, ⟨⟨a0, a1, a2, a3, a4, a5, a6, a7, a8, a9, a10, a11, a12, a13⟩, ⟨b0, b1, b2, b3, b4, b5, b6, b7, b8, b9, b10, b11, b12⟩, ⟨c0, c1, c2, c3, c4, c5, c6, c7, c8, c9, c10, c11, c12⟩⟩, g2, g3, g4, g5, g6, g7, g8, g9, g10, g11, g12, g13, g14⟩ := id hI
  by_cases h : inR i (z 5)
  · obtain ⟨t, ht, rfl⟩ := inR_of h (by omega)
    refine ⟨2, 0, 0, 1, _, L, m, m, z, by decide, by decide, by decide, by decide, ct_trip a5 c5 _ w, ?_, hI⟩
    have := md_trip (L := L) b5 c5 ht w
    have g := g10 t ht
    by_cases hw : inR w 13
    · rw [cI_t ⟨h, hw⟩]
      obtain ⟨k, hk, rfl⟩ := inR_of hw (by omega)
      rw [tg_in (by omega) (by decide) ht hk]
      have e : m (23 + 1) (t * 13 + k) = trm m t (nI k) := by
        rcases (show k = 0 ∨ k = 1 ∨ k = 2 ∨ k = 3 ∨ k = 4 ∨ k = 5 ∨ k = 6 ∨ k = 7 ∨ k = 8 ∨ k = 9 ∨ k = 10 ∨ k = 11 ∨ k = 12 by omega) with rfl | rfl | rfl | rfl | rfl | rfl | rfl | rfl | rfl | rfl | rfl | rfl | rfl
        · exact g.1
        · exact g.2.1
        · exact g.2.2.1
        · exact g.2.2.2.1
        · exact g.2.2.2.2.1
        · exact g.2.2.2.2.2.1
        · exact g.2.2.2.2.2.2.1
        · exact g.2.2.2.2.2.2.2.1
        · exact g.2.2.2.2.2.2.2.2.1
        · exact g.2.2.2.2.2.2.2.2.2.1
        · refine g.2.2.2.2.2.2.2.2.2.2.1.trans ?_
          show _ = (if m 84 t = 0 then 0 else 1)
          rcases g.2.2.2.2.2.2.2.2.2.2.2.2.2.1 with q | q <;> rw [q] <;> rfl
        · exact g.2.2.2.2.2.2.2.2.2.2.2.1
        · exact g.2.2.2.2.2.2.2.2.2.2.2.2.1
      rw [e]; exact this
    · rw [cI_f (fun q => hw q.2)]
      have e : trm m t w = -9 := by
        have hk : ∀ k, k < 13 → w ≠ nI k := fun k hk q => hw (q ▸ inR_nI hk (by decide))
        unfold trm
        rw [if_neg (show ¬ w = 0 from hk 0 (by decide)), if_neg (show ¬ w = 1 from hk 1 (by decide)), if_neg (show ¬ w = 2 from hk 2 (by decide)), if_neg (show ¬ w = 3 from hk 3 (by decide)), if_neg (show ¬ w = 4 from hk 4 (by decide)), if_neg (show ¬ w = 5 from hk 5 (by decide)), if_neg (show ¬ w = 6 from hk 6 (by decide)), if_neg (show ¬ w = 7 from hk 7 (by decide)), if_neg (show ¬ w = 8 from hk 8 (by decide)), if_neg (show ¬ w = 9 from hk 9 (by decide)), if_neg (show ¬ w = 10 from hk 10 (by decide)), if_neg (show ¬ w = 11 from hk 11 (by decide)), if_neg (show ¬ w = 12 from hk 12 (by decide))]
      rw [e] at this; exact this
  · refine ⟨2, 0, 0, 1, -9, L, m, m, z, by decide, by decide, by decide, by decide, ?_, md_trip_no b5 i w h, hI⟩
    have := ct_trip (L := L) a5 c5 i w
    rw [cI_f (fun q => h q.1)] at this; exact this
end O9
