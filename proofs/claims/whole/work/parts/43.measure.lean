/-! WAYS: the class measures -/
section MSx
variable {L nC nS : Nat} {m m0 m1 m2 : Nat → Nat → Int32} {z : Nat → Nat}
abbrev GS (m : Nat → Nat → Int32) (nC nS : Nat) : Prop := GStr nC nS (m 3) (m 40) (m 41) (m 42) (m 43) (m 44) (m 45) (m 46)
/-- street s is not shut at minute u -/
def opn (m : Nat → Nat → Int32) (s : Nat) (u : Int32) : Prop := ¬ ∃ i, i < (m 46 s).toNatClampNeg ∧ ¬ u < m 44 (4 * s + i) ∧ u < m 45 (4 * s + i)
def GG (m : Nat → Nat → Int32) (nS : Nat) (u : Int32) : MP := (nS, fun s => opn m s u, fun s => (m 40 s).toNatClampNeg, fun s => (m 41 s).toNatClampNeg, fun s => (m 42 s).toNatClampNeg, fun s => (m 43 s).toNatClampNeg)
/-- the class's marks and costs alone are changed -/
def CYF (m m1 : Nat → Nat → Int32) : Prop := (∀ a, a ≠ 3 → a ≠ 6 → m1 a = m a) ∧ ∀ j, j % 13 ≠ 3 → m1 3 j = m 3 j
theorem CYF.refl : CYF m m := ⟨fun _ _ _ => rfl, fun _ _ => rfl⟩
theorem CYF.t (s : CYF m m1) (u : CYF m1 m2) : CYF m m2 := ⟨fun a h h2 => (u.1 a h h2).trans (s.1 a h h2), fun j h => (u.2 j h).trans (s.2 j h)⟩
theorem CYF.scr (s : CYF m m1) : SCR m m1 := ⟨fun a h1 h2 _ _ _ _ _ _ _ _ _ _ => s.1 a h1 h2, s.2, by rw [s.1 16 (by decide) (by decide)], fun j _ _ _ _ _ _ => by rw [s.1 37 (by decide) (by decide)]⟩
theorem CYF.gs (s : CYF m m1) (h : GS m nC nS) : GS m1 nC nS := by
  unfold GS
  rw [s.1 40 (by decide) (by decide), s.1 41 (by decide) (by decide), s.1 42 (by decide) (by decide), s.1 43 (by decide) (by decide), s.1 44 (by decide) (by decide), s.1 45 (by decide) (by decide), s.1 46 (by decide) (by decide)]
  exact GStr_scr h s.2
theorem CYF.op (s : CYF m m1) : opn m1 = opn m := by
  unfold opn
  rw [s.1 44 (by decide) (by decide), s.1 45 (by decide) (by decide), s.1 46 (by decide) (by decide)]
theorem CYF.w6 {j : Nat} {x : Int32} (s : CYF m m1) : CYF m (hk_w m1 6 j x) := ⟨fun a h h2 => by rw [hk_wo h2]; exact s.1 a h h2, fun j h => by rw [hk_w_ne (by decide)]; exact s.2 j h⟩
theorem CYF.w3 {i : Nat} {x : Int32} (s : CYF m m1) : CYF m (hk_w m1 3 (i * 13 + 3) x) := ⟨fun a h h2 => by rw [hk_wo h]; exact s.1 a h h2, fun j h => by rw [hk_w_off (by omega)]; exact s.2 j h⟩
theorem GS.g (h : GS m nC nS) (u : Int32) {s : Nat} (hs : s < nS) (hC : nC ≤ 24) : m 40 s = nI (gA (GG m nS u) s) ∧ m 41 s = nI (gB (GG m nS u) s) ∧ m 42 s = nI (gY (GG m nS u) s) ∧ m 43 s = nI (gZ (GG m nS u) s) ∧ (gA (GG m nS u) s < nC ∧ gB (GG m nS u) s < nC ∧ 1 ≤ gY (GG m nS u) s ∧ gY (GG m nS u) s ≤ 2000 ∧ gZ (GG m nS u) s ≤ 1) ∧
    m 3 (s * 13 + 0) = nI (gA (GG m nS u) s) ∧ m 3 (s * 13 + 1) = nI (gB (GG m nS u) s) ∧ m 3 (s * 13 + 2) = nI (cs (GG m nS u) s) ∧ (∃ k, m 3 (s * 13 + 4) = nI k ∧ m 46 s = nI k ∧ k ≤ 4 ∧ ∀ i, i < k → m 3 (s * 13 + (5 + 2 * i)) = m 44 (4 * s + i) ∧ m 3 (s * 13 + (5 + 2 * i + 1)) = m 45 (4 * s + i)) := by
  obtain ⟨h1, h2, h3, h4, a, b, y, w, k, g1, g2, g3, g4, g5, g6, g7, g8, g9, g10, g11, g12, g13⟩ := h.1 s hs
  have ea : gA (GG m nS u) s = a := by show (m 40 s).toNatClampNeg = a; rw [g1, nI_clamp (by omega)]
  have eb : gB (GG m nS u) s = b := by show (m 41 s).toNatClampNeg = b; rw [g2, nI_clamp (by omega)]
  have ey : gY (GG m nS u) s = y := by show (m 42 s).toNatClampNeg = y; rw [g3, nI_clamp (by omega)]
  have ez : gZ (GG m nS u) s = w := by show (m 43 s).toNatClampNeg = w; rw [g4, nI_clamp (by omega)]
  unfold cs
  rw [ea, eb, ey, ez]
  refine ⟨g1, g2, g3, g4, ⟨g6, g7, g9, g10, g11⟩, h1.trans g1, h2.trans g2, ?_, k, h4.trans g5, g5, g12, g13⟩
  rw [h3, g3, g4, show (100 : Int32) = nI 100 from rfl, nI_mul, nI_add, Nat.mul_comm]
theorem GS.gm (h : GS m nC nS) (u : Int32) (hC : nC ≤ 24) : GM (GG m nS u) nC := ⟨hC, fun s hs => (GS.g h u hs hC).2.2.2.2.1⟩
set_option maxRecDepth 20000 in
set_option maxHeartbeats 2000000 in
theorem lp_isShut (hS : m 2 3 = nI nS) (hS6 : nS ≤ 60) (hg : GS m nC nS) (hC : nC ≤ 24) {s k : Nat} (hs : s < nS) (u : Int32) (hk : m 46 s = nI k) (hk4 : k ≤ 4) (hsp : ∀ i, i < k → m 3 (s * 13 + (5 + 2 * i)) = m 44 (4 * s + i) ∧ m 3 (s * 13 + (5 + 2 * i + 1)) = m 45 (4 * s + i)) (i : Nat) (hi : i ≤ k) (hno : ∀ j, j < i → ¬ (¬ u < m 44 (4 * s + j) ∧ u < m 45 (4 * s + j))) (l5 l6 : Option Value) : hk_WP MX0_isShut 1 0 0 0 0 13 [some (.ref 1), some (.int (nI s)), some (.int u), some (.int (nI k)), some (.int (nI i)), l5, l6] [] (hk_h L m) (fun r h' => r = some (.int (bI (¬ opn m s u))) ∧ h' = hk_h L m) := by
  have ek : (m 46 s).toNatClampNeg = k := by rw [hk, nI_clamp (by omega)]
  refine hk_iload dX0_isShut_13 rfl ?_
  refine hk_iload_n dX0_isShut_15 rfl rfl ?_
  refine hk_icmp_ge (tgt := 73) dX0_isShut_16 (by decide) (fun c16 => ?_) (fun c16 => ?_)
  · rw [nI_leI (by omega) (by omega)] at c16
    refine hk_iconst (v := 0) dX0_isShut_73 (by decide) ?_
    exact hk_ireturn dX0_isShut_74 rfl rfl (by decide) ⟨bI_r0 (fun z => z (fun ⟨j, hj, q⟩ => hno j (by omega) q)), rfl⟩
  · rw [nI_leI (by omega) (by omega)] at c16
    obtain ⟨f1, f2⟩ := hsp i (by omega)
    refine hk_aload_n dX0_isShut_19 rfl rfl ?_
    refine gfX0_16 rfl dX0_isShut_20 (hk_lt (by decide)) rfl rfl ?_
    refine hk_iload_n dX0_isShut_23 rfl rfl ?_
    refine hk_iconst (v := 5) dX0_isShut_24 (by decide) ?_
    refine hk_iconst (v := 2) dX0_isShut_25 (by decide) ?_
    refine hk_iload dX0_isShut_26 rfl ?_
    refine hk_imul dX0_isShut_28 ?_
    refine hk_iadd dX0_isShut_29 ?_
    rw [show (5 : Int32) + 2 * nI i = nI (5 + 2 * i) by rw [show (2 : Int32) = nI 2 from rfl, nI_mul, show (5 : Int32) = nI 5 from rfl, nI_add]]
    refine ivX0_47 rfl (ct_geti (i := s) tb2 hS6 hS rfl hs (show 5 + 2 * i < 13 by omega)) dX0_isShut_30 (hk_lt (by decide)) rfl rfl rfl (by decide) ⟨by decide, by decide⟩ (Nat.le_of_ble_eq_true rfl) (hk_kd ?_)
    refine hk_istore dX0_isShut_33 (by decide) rfl ?_
    refine hk_aload_n dX0_isShut_35 rfl rfl ?_
    refine gfX0_16 rfl dX0_isShut_36 (hk_lt (by decide)) rfl rfl ?_
    refine hk_iload_n dX0_isShut_39 rfl rfl ?_
    refine hk_iconst (v := 5) dX0_isShut_40 (by decide) ?_
    refine hk_iconst (v := 2) dX0_isShut_41 (by decide) ?_
    refine hk_iload dX0_isShut_42 rfl ?_
    refine hk_imul dX0_isShut_44 ?_
    refine hk_iadd dX0_isShut_45 ?_
    refine hk_iconst (v := 1) dX0_isShut_46 (by decide) ?_
    refine hk_iadd dX0_isShut_47 ?_
    rw [show (5 : Int32) + 2 * nI i + 1 = nI (5 + 2 * i + 1) by rw [show (2 : Int32) = nI 2 from rfl, nI_mul, show (5 : Int32) = nI 5 from rfl, nI_add, nI_1]]
    refine ivX0_47 rfl (ct_geti (i := s) tb2 hS6 hS rfl hs (show 5 + 2 * i + 1 < 13 by omega)) dX0_isShut_48 (hk_lt (by decide)) rfl rfl rfl (by decide) ⟨by decide, by decide⟩ (Nat.le_of_ble_eq_true rfl) (hk_kd ?_)
    refine hk_istore dX0_isShut_51 (by decide) rfl ?_
    refine hk_iload_n dX0_isShut_53 rfl rfl ?_
    refine hk_iload dX0_isShut_54 rfl ?_
    refine hk_icmp_lt (tgt := 67) dX0_isShut_56 (by decide) (fun c56 => ?_) (fun c56 => ?_)
    · refine hk_iinc (v := nI (i + 1)) dX0_isShut_67 rfl (nI_1 i) (by decide) rfl ?_
      refine hk_goto (tgt := 13) dX0_isShut_70 (by decide) ?_
      have hlt : i < k := by omega
      exact lp_isShut hS hS6 hg hC hs u hk hk4 hsp (i + 1) (by omega) (fun j hj => by
        rcases Nat.lt_succ_iff_lt_or_eq.mp hj with h | h
        · exact hno j h
        · rw [h, ← f1, ← f2]
          first
          | exact fun q => q.1 c56
          | exact fun q => absurd c62 (Int32.not_le.mpr q.2)) _ _
    · refine hk_iload_n dX0_isShut_59 rfl rfl ?_
      refine hk_iload dX0_isShut_60 rfl ?_
      refine hk_icmp_ge (tgt := 67) dX0_isShut_62 (by decide) (fun c62 => ?_) (fun c62 => ?_)
      · refine hk_iinc (v := nI (i + 1)) dX0_isShut_67 rfl (nI_1 i) (by decide) rfl ?_
        refine hk_goto (tgt := 13) dX0_isShut_70 (by decide) ?_
        have hlt : i < k := by omega
        exact lp_isShut hS hS6 hg hC hs u hk hk4 hsp (i + 1) (by omega) (fun j hj => by
          rcases Nat.lt_succ_iff_lt_or_eq.mp hj with h | h
          · exact hno j h
          · rw [h, ← f1, ← f2]
            first
            | exact fun q => q.1 c56
            | exact fun q => absurd c62 (Int32.not_le.mpr q.2)) _ _
      · refine hk_iconst (v := 1) dX0_isShut_65 (by decide) ?_
        exact hk_ireturn dX0_isShut_66 rfl rfl (by decide) ⟨bI_r1 (fun z => z ⟨i, by omega, by rw [← f1]; exact c56, by rw [← f2]; exact Int32.not_le.mp c62⟩), rfl⟩
termination_by k - i
decreasing_by all_goals omega
set_option maxRecDepth 20000 in
set_option maxHeartbeats 2000000 in
theorem ct_isShut (hS : m 2 3 = nI nS) (hS6 : nS ≤ 60) (hg : GS m nC nS) (hC : nC ≤ 24) {s : Nat} (hs : s < nS) (u : Int32) : hk_Cd MX0_isShut 1 0 0 [.ref 1, .int (nI s), .int u] (hk_h L m) (some (.int (bI (¬ opn m s u)))) (hk_h L m) := by
  obtain ⟨_, _, _, _, _, _, _, _, k, e1, e2, e3, e4⟩ := GS.g hg u hs hC
  refine hk_ofWP (by decide) (by simp [Value.category]) (Nat.le_of_ble_eq_true rfl) ?_
  show hk_WP _ _ _ _ _ _ _ [some (.ref 1), some (.int (nI s)), some (.int u), none, none, none, none] [] _ _
  refine hk_aload_n dX0_isShut_0 rfl rfl ?_
  refine gfX0_16 rfl dX0_isShut_1 (hk_lt (by decide)) rfl rfl ?_
  refine hk_iload_n dX0_isShut_4 rfl rfl ?_
  refine hk_iconst (v := 4) dX0_isShut_5 (by decide) ?_
  refine ivX0_47 rfl (ct_geti (i := s) tb2 hS6 hS rfl hs (show 4 < 13 by omega)) dX0_isShut_6 (hk_lt (by decide)) rfl rfl rfl (by decide) ⟨by decide, by decide⟩ (Nat.le_of_ble_eq_true rfl) (hk_kd ?_)
  rw [e1]
  refine hk_istore_n dX0_isShut_9 rfl (by decide) rfl ?_
  refine hk_iconst (v := 0) dX0_isShut_10 (by decide) ?_
  refine hk_istore dX0_isShut_11 (by decide) rfl ?_
  exact lp_isShut hS hS6 hg hC hs u e2 e3 e4 0 (Nat.zero_le _) (fun j hj => absurd hj (Nat.not_lt_zero _)) _ _
set_option maxRecDepth 20000 in
set_option maxHeartbeats 2000000 in
theorem ct_isOpen (hS : m 2 3 = nI nS) (hS6 : nS ≤ 60) (hg : GS m nC nS) (hC : nC ≤ 24) {s : Nat} (hs : s < nS) {p : Prop} (e : m 3 (s * 13 + 3) = bI p) : hk_Cd MX0_isOpen 1 0 0 [.ref 1, .int (nI s)] (hk_h L m) (some (.int (bI p))) (hk_h L m) := by
  refine hk_ofWP (by decide) (by simp [Value.category]) (Nat.le_of_ble_eq_true rfl) ?_
  show hk_WP _ _ _ _ _ _ _ [some (.ref 1), some (.int (nI s))] [] _ _
  refine hk_aload_n dX0_isOpen_0 rfl rfl ?_
  refine gfX0_16 rfl dX0_isOpen_1 (hk_lt (by decide)) rfl rfl ?_
  refine hk_iload_n dX0_isOpen_4 rfl rfl ?_
  refine hk_iconst (v := 3) dX0_isOpen_5 (by decide) ?_
  refine ivX0_47 rfl (ct_geti (i := s) tb2 hS6 hS rfl hs (show 3 < 13 by omega)) dX0_isOpen_6 (hk_lt (by decide)) rfl rfl rfl (by decide) ⟨by decide, by decide⟩ (Nat.le_of_ble_eq_true rfl) (hk_kd ?_)
  rw [e]
  refine hk_iconst (v := 1) dX0_isOpen_9 (by decide) ?_
  refine hk_icmp_ne (tgt := 17) dX0_isOpen_10 (by decide) (fun c10 => ?_) (fun c10 => ?_)
  · refine hk_iconst (v := 0) dX0_isOpen_17 (by decide) ?_
    exact hk_ireturn dX0_isOpen_18 rfl rfl (by decide) ⟨by first | exact bI_r1 (Classical.byContradiction (fun q => by rw [bI_f q] at c10; revert c10; decide)) | exact bI_r0 (fun q => by rw [bI_t q] at c10; exact c10 rfl), rfl⟩
  · refine hk_iconst (v := 1) dX0_isOpen_13 (by decide) ?_
    refine hk_goto (tgt := 18) dX0_isOpen_14 (by decide) ?_
    exact hk_ireturn dX0_isOpen_18 rfl rfl (by decide) ⟨by first | exact bI_r1 (Classical.byContradiction (fun q => by rw [bI_f q] at c10; revert c10; decide)) | exact bI_r0 (fun q => by rw [bI_t q] at c10; exact c10 rfl), rfl⟩
set_option maxRecDepth 20000 in
set_option maxHeartbeats 2000000 in
theorem ct_costFrom (hn : m 1 0 = nI nC) (hC : nC ≤ 24) {c : Nat} (hc : c < nC) : hk_Cd MX0_costFrom 1 0 0 [.ref 1, .int (nI c)] (hk_h L m) (some (.int (m 6 c))) (hk_h L m) := by
  refine hk_ofWP (by decide) (by simp [Value.category]) (Nat.le_of_ble_eq_true rfl) ?_
  show hk_WP _ _ _ _ _ _ _ [some (.ref 1), some (.int (nI c))] [] _ _
  refine hk_aload_n dX0_costFrom_0 rfl rfl ?_
  refine hk_iload_n dX0_costFrom_1 rfl rfl ?_
  refine ivX0_56 rfl (ct_isCorner hn _) dX0_costFrom_2 (hk_lt (by decide)) rfl rfl rfl (by decide) ⟨by decide, by decide⟩ (Nat.le_of_ble_eq_true rfl) (hk_kd ?_)
  refine hk_if_eq (tgt := 17) dX0_costFrom_5 (by decide) (fun c5 => absurd c5 (fun e => bI_0.mp e (inR_nI hc (by omega)))) (fun _ => ?_)
  refine hk_aload_n dX0_costFrom_8 rfl rfl ?_
  refine gfX0_27 rfl dX0_costFrom_9 (hk_lt (by decide)) rfl rfl ?_
  refine hk_iload_n dX0_costFrom_12 rfl rfl ?_
  refine hk_ian dX0_costFrom_13 (by decide) (fun _ => rfl) rfl (by omega) (by decide) ?_
  refine hk_goto (tgt := 19) dX0_costFrom_14 (by decide) ?_
  exact hk_ireturn dX0_costFrom_19 rfl rfl (by decide) ⟨rfl, rfl⟩
set_option maxRecDepth 20000 in
set_option maxHeartbeats 2000000 in
theorem ct_lower (hn : m 1 0 = nI nC) (hC : nC ≤ 24) {c : Nat} (hc : c < nC) (v : Int32) : hk_Cd MX0_lower 1 0 0 [.ref 1, .int (nI c), .int v] (hk_h L m) (some (.int (bI (v < m 6 c)))) (hk_h L (cI (v < m 6 c) (hk_w m 6 c v) m)) := by
  refine hk_ofWP (by decide) (by simp [Value.category]) (Nat.le_of_ble_eq_true rfl) ?_
  show hk_WP _ _ _ _ _ _ _ [some (.ref 1), some (.int (nI c)), some (.int v)] [] _ _
  refine hk_aload_n dX0_lower_0 rfl rfl ?_
  refine hk_iload_n dX0_lower_1 rfl rfl ?_
  refine ivX0_56 rfl (ct_isCorner hn _) dX0_lower_2 (hk_lt (by decide)) rfl rfl rfl (by decide) ⟨by decide, by decide⟩ (Nat.le_of_ble_eq_true rfl) (hk_kd ?_)
  refine hk_if_eq (tgt := 18) dX0_lower_5 (by decide) (fun c5 => absurd c5 (fun e => bI_0.mp e (inR_nI hc (by omega)))) (fun _ => ?_)
  refine hk_aload_n dX0_lower_8 rfl rfl ?_
  refine gfX0_27 rfl dX0_lower_9 (hk_lt (by decide)) rfl rfl ?_
  refine hk_iload_n dX0_lower_12 rfl rfl ?_
  refine hk_ian dX0_lower_13 (by decide) (fun _ => rfl) rfl (by omega) (by decide) ?_
  refine hk_iload_n dX0_lower_14 rfl rfl ?_
  refine hk_icmp_gt (tgt := 20) dX0_lower_15 (by decide) (fun c15 => ?_) (fun c15 => ?_)
  · refine hk_aload_n dX0_lower_20 rfl rfl ?_
    refine gfX0_27 rfl dX0_lower_21 (hk_lt (by decide)) rfl rfl ?_
    refine hk_iload_n dX0_lower_24 rfl rfl ?_
    refine hk_iload_n dX0_lower_25 rfl rfl ?_
    refine hk_isn dX0_lower_26 (by decide) (fun _ => rfl) rfl (by omega) (by decide) ?_
    refine hk_iconst (v := 1) dX0_lower_27 (by decide) ?_
    exact hk_ireturn dX0_lower_28 rfl rfl (by decide) ⟨bI_r1 c15, cI_h1 c15⟩
  · refine hk_iconst (v := 0) dX0_lower_18 (by decide) ?_
    exact hk_ireturn dX0_lower_19 rfl rfl (by decide) ⟨bI_r0 c15, cI_h0 c15⟩
theorem bI_or {P R : Prop} : bI P ||| bI R = bI (P ∨ R) := by
  by_cases h : P
  · rw [bI_t h, bI_t (Or.inl h)]
    by_cases h2 : R
    · rw [bI_t h2]; rfl
    · rw [bI_f h2]; rfl
  · rw [bI_f h]
    by_cases h2 : R
    · rw [bI_t h2, bI_t (Or.inr h2)]; rfl
    · rw [bI_f h2, bI_f (fun q => q.elim h h2)]; rfl
/-- the class's costs are x: attained, or none -/
def CX (m0 : Nat → Nat → Int32) (nS : Nat) (u : Int32) (t : Nat) (x : Nat → Nat) (m1 : Nat → Nat → Int32) : Prop := CYF m0 m1 ∧ (∀ c, c < 24 → m1 6 c = nI (x c)) ∧ (∀ s, s < nS → m1 3 (s * 13 + 3) = bI (opn m0 s u)) ∧ x t = 0 ∧ ∀ c, x c = 1000000000 ∨ (x c < 1000000000 ∧ ∃ k y b, Wp (GG m0 nS u) t k c y b ∧ x c = 100 * y + b)
theorem CX.le {u : Int32} {t : Nat} {x : Nat → Nat} (h : CX m0 nS u t x m1) (c : Nat) : x c ≤ 1000000000 := by
  rcases h.2.2.2.2 c with q | ⟨q, _⟩ <;> omega
def xu (x : Nat → Nat) (a v : Nat) : Nat → Nat := fun c => if c = a then v else x c
theorem xu_e {x : Nat → Nat} {a v : Nat} : xu x a v a = v := if_pos rfl
theorem xu_n {x : Nat → Nat} {a v c : Nat} (h : ¬ c = a) : xu x a v c = x c := if_neg h
theorem rx_lower {u : Int32} {t a b s : Nat} {x : Nat → Nat} (hg : GS m0 nC nS) (hC : nC ≤ 24) (hn : m0 1 0 = nI nC) (hX : CX m0 nS u t x m1) (e : EG (GG m0 nS u) s a b) : hk_Ct MX0_lower 1 0 0 [.ref 1, .int (nI a), .int (nI (x b) + nI (cs (GG m0 nS u) s))] (hk_h L m1) (fun r h => ∃ (f : Prop) (x' : Nat → Nat) (m2 : Nat → Nat → Int32), r = some (.int (bI f)) ∧ h = hk_h L m2 ∧ CX m0 nS u t x' m2 ∧ (∀ c, x' c ≤ x c) ∧ x' a ≤ x b + cs (GG m0 nS u) s ∧ (¬ f → x' = x)) := by
  have g := GS.gm hg u hC
  have hs := g.2 s e.1
  have ha : a < nC := by rcases e.2.2 with ⟨q, _⟩ | ⟨_, q⟩ <;> omega
  obtain ⟨h1, h2, h3, h4, h5⟩ := id hX
  have hle := hX.le
  have hlb := hle b
  have hla := hle a
  have hcs : cs (GG m0 nS u) s ≤ 200001 := by unfold cs; omega
  have := ct_lower (L := L) (m := m1) (nC := nC) (by rw [h1.1 1 (by decide) (by decide)]; exact hn) hC ha (nI (x b) + nI (cs (GG m0 nS u) s))
  rw [nI_add] at this ⊢
  refine hk_imp ?_ this
  rintro r h ⟨rfl, rfl⟩
  by_cases hl : nI (x b + cs (GG m0 nS u) s) < m1 6 a
  · rw [cI_t hl]
    rw [h2 a (by omega), nI_ltI (by omega) (by omega)] at hl
    refine ⟨_, xu x a (x b + cs (GG m0 nS u) s), _, rfl, rfl, ⟨h1.w6, fun c hc => ?_, fun s hs => ?_, ?_, fun c => ?_⟩, fun c => ?_, ?_, fun q => ?_⟩
    · by_cases hca : c = a
      · subst hca; rw [hk_w_eq, xu_e]
      · rw [hk_w_off hca, xu_n hca]; exact h2 c hc
    · rw [hk_w_ne (by decide)]; exact h3 s hs
    · by_cases hta : t = a
      · subst hta; omega
      · rw [xu_n hta]; exact h4
    · by_cases hca : c = a
      · subst hca
        rw [xu_e]
        right
        refine ⟨by omega, ?_⟩
        rcases h5 b with q | ⟨_, k, y, b', w, q⟩
        · omega
        · refine ⟨k + 1, _, _, ⟨s, b, y, b', e, w, rfl, rfl⟩, ?_⟩
          rw [q]; unfold cs; omega
      · rw [xu_n hca]; exact h5 c
    · by_cases hca : c = a
      · subst hca; rw [xu_e]; omega
      · rw [xu_n hca]; exact Nat.le_refl _
    · rw [xu_e]; exact Nat.le_refl _
    · exact absurd (show nI (x b + cs (GG m0 nS u) s) < m1 6 a by rw [h2 a (by omega), nI_ltI (by omega) (by omega)]; exact hl) q
  · rw [cI_f hl]
    have hl2 := hl
    rw [h2 a (by omega), nI_ltI (by omega) (by omega)] at hl2
    exact ⟨_, x, _, rfl, rfl, hX, fun _ => Nat.le_refl _, by omega, fun _ => rfl⟩
set_option maxRecDepth 20000 in
set_option maxHeartbeats 2000000 in
theorem lp_lowerAll (hS : m0 2 3 = nI nS) (hS6 : nS ≤ 60) (hg : GS m0 nC nS) (hC : nC ≤ 24) (hn : m0 1 0 = nI nC) {u : Int32} {t : Nat} {x0 : Nat → Nat} (s : Nat) (hs0 : s ≤ nS) (f : Prop) (x : Nat → Nat) (m1 : Nat → Nat → Int32) (hI : CX m0 nS u t x m1 ∧ (∀ c, x c ≤ x0 c) ∧ (∀ s', s' < s → ∀ c n, EG (GG m0 nS u) s' c n → x c ≤ x0 n + cs (GG m0 nS u) s') ∧ (¬ f → x = x0 ∧ ∀ s', s' < s → ∀ c n, EG (GG m0 nS u) s' c n → x c ≤ x n + cs (GG m0 nS u) s')) (l3 l4 l5 : Option Value) : hk_WP MX0_lowerAll 2 0 0 0 0 4 [some (.ref 1), some (.int (bI f)), some (.int (nI s)), l3, l4, l5] [] (hk_h L m1) (fun r h => ∃ (f : Prop) (x : Nat → Nat) (m2 : Nat → Nat → Int32), r = some (.int (bI f)) ∧ h = hk_h L m2 ∧ CX m0 nS u t x m2 ∧ (∀ c, x c ≤ x0 c) ∧ (∀ s c n, EG (GG m0 nS u) s c n → x c ≤ x0 n + cs (GG m0 nS u) s) ∧ (¬ f → ∀ s c n, EG (GG m0 nS u) s c n → x c ≤ x n + cs (GG m0 nS u) s)) := by
  obtain ⟨hX, hI2, hI3, hI4⟩ := id hI
  obtain ⟨h1, h2, h3, h4, h5⟩ := id hX
  have e23 : m1 2 3 = nI nS := by rw [h1.1 2 (by decide) (by decide)]; exact hS
  have e10 : m1 1 0 = nI nC := by rw [h1.1 1 (by decide) (by decide)]; exact hn
  have hg1 := h1.gs hg
  refine hk_iload_n dX0_lowerAll_4 rfl rfl ?_
  refine hk_aload_n dX0_lowerAll_5 rfl rfl ?_
  refine gfX0_16 rfl dX0_lowerAll_6 (hk_lt (by decide)) rfl rfl ?_
  refine gfX0_61 rfl dX0_lowerAll_9 (hk_lt (by decide)) rfl rfl ?_
  refine hk_icmp_ge (tgt := 95) dX0_lowerAll_12 (by decide) (fun c12 => ?_) (fun c12 => ?_)
  · rw [e23, nI_leI (by omega) (by omega)] at c12
    refine hk_iload_n dX0_lowerAll_95 rfl rfl ?_
    exact hk_ireturn dX0_lowerAll_96 rfl bI_nar (by decide) ⟨f, x, m1, rfl, rfl, hX, hI2, fun s' c n ec => hI3 s' (by have := ec.1; show s' < s; have h9 : gN (GG m0 nS u) = nS := rfl; omega) c n ec, fun hf s' c n ec => (hI4 hf).2 s' (by have := ec.1; have h9 : gN (GG m0 nS u) = nS := rfl; omega) c n ec⟩
  · rw [e23, nI_leI (by omega) (by omega)] at c12
    have hs : s < nS := by omega
    obtain ⟨_, _, _, _, f5, _, _, _, _⟩ := GS.g hg u hs hC
    obtain ⟨_, _, _, _, _, f6, f7, f8, _⟩ := GS.g hg u hs hC
    have q0 : m1 3 (s * 13 + 0) = nI (gA (GG m0 nS u) s) := (h1.2 _ (by omega)).trans f6
    have q1 : m1 3 (s * 13 + 1) = nI (gB (GG m0 nS u) s) := (h1.2 _ (by omega)).trans f7
    have q2 : m1 3 (s * 13 + 2) = nI (cs (GG m0 nS u) s) := (h1.2 _ (by omega)).trans f8
    refine hk_aload_n dX0_lowerAll_15 rfl rfl ?_
    refine hk_iload_n dX0_lowerAll_16 rfl rfl ?_
    refine ivX0_72 rfl (ct_isOpen e23 hS6 hg1 hC hs (h3 s hs)) dX0_lowerAll_17 (hk_lt (by decide)) rfl rfl rfl (by decide) ⟨by decide, by decide⟩ (Nat.le_of_ble_eq_true rfl) (hk_kd ?_)
    refine hk_if_eq (tgt := 89) dX0_lowerAll_20 (by decide) (fun c20 => ?_) (fun c20 => ?_)
    · rw [bI_0] at c20
      refine hk_iinc (v := nI (s + 1)) dX0_lowerAll_89 rfl (nI_1 s) (by decide) rfl ?_
      refine hk_goto (tgt := 4) dX0_lowerAll_92 (by decide) ?_
      first
      | (refine lp_lowerAll hS hS6 hg hC hn (s + 1) (by omega) _ x2 m3 ⟨hX2, fun c => Nat.le_trans (d4 c) (Nat.le_trans (d1 c) (hI2 c)), fun s' hs' c n ec => ?_, fun hf => ?_⟩ _ _ _
         · rcases Nat.lt_succ_iff_lt_or_eq.mp hs' with h | h
           · have := hI3 s' h c n ec
             have := d4 c
             have := d1 c
             omega
           · subst h
             rcases ec.2.2 with ⟨k1, k2⟩ | ⟨k1, k2⟩
             · subst k1; subst k2
               have := d4 (gA (GG m0 nS u) s')
               have := hI2 (gB (GG m0 nS u) s')
               omega
             · subst k1; subst k2
               have := d1 (gA (GG m0 nS u) s')
               have := hI2 (gA (GG m0 nS u) s')
               omega
         · have hf0 : ¬ f := fun q => hf (Or.inl (Or.inl q))
           have hf1 : ¬ f1 := fun q => hf (Or.inl (Or.inr q))
           have hf2 : ¬ f2 := fun q => hf (Or.inr q)
           have y2 := d6 hf2
           have y1 := d3 hf1
           subst y2
           subst y1
           obtain ⟨y0, k0⟩ := hI4 hf0
           refine ⟨y0, fun s' hs' c n ec => ?_⟩
           rcases Nat.lt_succ_iff_lt_or_eq.mp hs' with h | h
           · exact k0 s' h c n ec
           · subst h
             rcases ec.2.2 with ⟨k1, k2⟩ | ⟨k1, k2⟩
             · subst k1; subst k2; exact d2
             · subst k1; subst k2; exact d5)
      | (refine lp_lowerAll hS hS6 hg hC hn (s + 1) (by omega) _ x m1 ⟨hX, hI2, fun s' hs' c n ec => ?_, fun hf => ⟨(hI4 hf).1, fun s' hs' c n ec => ?_⟩⟩ _ _ _
         · rcases Nat.lt_succ_iff_lt_or_eq.mp hs' with h | h
           · exact hI3 s' h c n ec
           · subst h; exact absurd ec.2.1 c20
         · rcases Nat.lt_succ_iff_lt_or_eq.mp hs' with h | h
           · exact (hI4 hf).2 s' h c n ec
           · subst h; exact absurd ec.2.1 c20)
    · rw [bI_0] at c20
      refine hk_aload_n dX0_lowerAll_23 rfl rfl ?_
      refine gfX0_16 rfl dX0_lowerAll_24 (hk_lt (by decide)) rfl rfl ?_
      refine hk_iload_n dX0_lowerAll_27 rfl rfl ?_
      refine hk_iconst (v := 0) dX0_lowerAll_28 (by decide) ?_
      refine ivX0_47 rfl (ct_geti (i := s) tb2 hS6 e23 rfl hs (show 0 < 13 by omega)) dX0_lowerAll_29 (hk_lt (by decide)) rfl rfl rfl (by decide) ⟨by decide, by decide⟩ (Nat.le_of_ble_eq_true rfl) (hk_kd ?_)
      rw [q0]
      refine hk_istore_n dX0_lowerAll_32 rfl (by decide) rfl ?_
      refine hk_aload_n dX0_lowerAll_33 rfl rfl ?_
      refine gfX0_16 rfl dX0_lowerAll_34 (hk_lt (by decide)) rfl rfl ?_
      refine hk_iload_n dX0_lowerAll_37 rfl rfl ?_
      refine hk_iconst (v := 1) dX0_lowerAll_38 (by decide) ?_
      refine ivX0_47 rfl (ct_geti (i := s) tb2 hS6 e23 rfl hs (show 1 < 13 by omega)) dX0_lowerAll_39 (hk_lt (by decide)) rfl rfl rfl (by decide) ⟨by decide, by decide⟩ (Nat.le_of_ble_eq_true rfl) (hk_kd ?_)
      rw [q1]
      refine hk_istore dX0_lowerAll_42 (by decide) rfl ?_
      refine hk_aload_n dX0_lowerAll_44 rfl rfl ?_
      refine gfX0_16 rfl dX0_lowerAll_45 (hk_lt (by decide)) rfl rfl ?_
      refine hk_iload_n dX0_lowerAll_48 rfl rfl ?_
      refine hk_iconst (v := 2) dX0_lowerAll_49 (by decide) ?_
      refine ivX0_47 rfl (ct_geti (i := s) tb2 hS6 e23 rfl hs (show 2 < 13 by omega)) dX0_lowerAll_50 (hk_lt (by decide)) rfl rfl rfl (by decide) ⟨by decide, by decide⟩ (Nat.le_of_ble_eq_true rfl) (hk_kd ?_)
      rw [q2]
      refine hk_istore dX0_lowerAll_53 (by decide) rfl ?_
      refine hk_iload_n dX0_lowerAll_55 rfl rfl ?_
      refine hk_aload_n dX0_lowerAll_56 rfl rfl ?_
      refine hk_iload_n dX0_lowerAll_57 rfl rfl ?_
      refine hk_aload_n dX0_lowerAll_58 rfl rfl ?_
      refine hk_iload dX0_lowerAll_59 rfl ?_
      refine ivX0_75 rfl (ct_costFrom e10 hC f5.2.1) dX0_lowerAll_61 (hk_lt (by decide)) rfl rfl rfl (by decide) ⟨by decide, by decide⟩ (Nat.le_of_ble_eq_true rfl) (hk_kd ?_)
      have he : EG (GG m0 nS u) s (gA (GG m0 nS u) s) (gB (GG m0 nS u) s) := ⟨hs, Classical.not_not.mp c20, Or.inl ⟨rfl, rfl⟩⟩
      rw [h2 _ (by omega)]
      refine hk_iload dX0_lowerAll_64 rfl ?_
      refine hk_iadd dX0_lowerAll_66 ?_
      refine ivX0_79 rfl (rx_lower hg hC hn hX he) dX0_lowerAll_67 (hk_lt (by decide)) rfl rfl rfl (by decide) ⟨by decide, by decide⟩ (Nat.le_of_ble_eq_true rfl) (fun r h1 hq => ?_)
      obtain ⟨f1, x1, m2, rfl, rfl, hX1, d1, d2, d3⟩ := hq
      obtain ⟨i1, i2, i3, i4, i5⟩ := id hX1
      have e12 : m2 1 0 = nI nC := by rw [i1.1 1 (by decide) (by decide)]; exact hn
      refine hk_ior dX0_lowerAll_70 ?_
      rw [bI_or]
      refine hk_istore_n dX0_lowerAll_71 rfl (by decide) rfl ?_
      refine hk_iload_n dX0_lowerAll_72 rfl rfl ?_
      refine hk_aload_n dX0_lowerAll_73 rfl rfl ?_
      refine hk_iload dX0_lowerAll_74 rfl ?_
      refine hk_aload_n dX0_lowerAll_76 rfl rfl ?_
      refine hk_iload_n dX0_lowerAll_77 rfl rfl ?_
      refine ivX0_75 rfl (ct_costFrom e12 hC f5.1) dX0_lowerAll_78 (hk_lt (by decide)) rfl rfl rfl (by decide) ⟨by decide, by decide⟩ (Nat.le_of_ble_eq_true rfl) (hk_kd ?_)
      rw [i2 _ (by omega)]
      refine hk_iload dX0_lowerAll_81 rfl ?_
      refine hk_iadd dX0_lowerAll_83 ?_
      refine ivX0_79 rfl (rx_lower hg hC hn hX1 he.sym) dX0_lowerAll_84 (hk_lt (by decide)) rfl rfl rfl (by decide) ⟨by decide, by decide⟩ (Nat.le_of_ble_eq_true rfl) (fun r h1 hq => ?_)
      obtain ⟨f2, x2, m3, rfl, rfl, hX2, d4, d5, d6⟩ := hq
      refine hk_ior dX0_lowerAll_87 ?_
      rw [bI_or]
      refine hk_istore_n dX0_lowerAll_88 rfl (by decide) rfl ?_
      refine hk_iinc (v := nI (s + 1)) dX0_lowerAll_89 rfl (nI_1 s) (by decide) rfl ?_
      refine hk_goto (tgt := 4) dX0_lowerAll_92 (by decide) ?_
      first
      | (refine lp_lowerAll hS hS6 hg hC hn (s + 1) (by omega) _ x2 m3 ⟨hX2, fun c => Nat.le_trans (d4 c) (Nat.le_trans (d1 c) (hI2 c)), fun s' hs' c n ec => ?_, fun hf => ?_⟩ _ _ _
         · rcases Nat.lt_succ_iff_lt_or_eq.mp hs' with h | h
           · have := hI3 s' h c n ec
             have := d4 c
             have := d1 c
             omega
           · subst h
             rcases ec.2.2 with ⟨k1, k2⟩ | ⟨k1, k2⟩
             · subst k1; subst k2
               have := d4 (gA (GG m0 nS u) s')
               have := hI2 (gB (GG m0 nS u) s')
               omega
             · subst k1; subst k2
               have := d1 (gA (GG m0 nS u) s')
               have := hI2 (gA (GG m0 nS u) s')
               omega
         · have hf0 : ¬ f := fun q => hf (Or.inl (Or.inl q))
           have hf1 : ¬ f1 := fun q => hf (Or.inl (Or.inr q))
           have hf2 : ¬ f2 := fun q => hf (Or.inr q)
           have y2 := d6 hf2
           have y1 := d3 hf1
           subst y2
           subst y1
           obtain ⟨y0, k0⟩ := hI4 hf0
           refine ⟨y0, fun s' hs' c n ec => ?_⟩
           rcases Nat.lt_succ_iff_lt_or_eq.mp hs' with h | h
           · exact k0 s' h c n ec
           · subst h
             rcases ec.2.2 with ⟨k1, k2⟩ | ⟨k1, k2⟩
             · subst k1; subst k2; exact d2
             · subst k1; subst k2; exact d5)
      | (refine lp_lowerAll hS hS6 hg hC hn (s + 1) (by omega) _ x m1 ⟨hX, hI2, fun s' hs' c n ec => ?_, fun hf => ⟨(hI4 hf).1, fun s' hs' c n ec => ?_⟩⟩ _ _ _
         · rcases Nat.lt_succ_iff_lt_or_eq.mp hs' with h | h
           · exact hI3 s' h c n ec
           · subst h; exact absurd ec.2.1 c20
         · rcases Nat.lt_succ_iff_lt_or_eq.mp hs' with h | h
           · exact (hI4 hf).2 s' h c n ec
           · subst h; exact absurd ec.2.1 c20)
termination_by nS - s
decreasing_by all_goals omega
set_option maxRecDepth 20000 in
set_option maxHeartbeats 2000000 in
theorem ct_lowerAll (hS : m0 2 3 = nI nS) (hS6 : nS ≤ 60) (hg : GS m0 nC nS) (hC : nC ≤ 24) (hn : m0 1 0 = nI nC) {u : Int32} {t : Nat} {x0 : Nat → Nat} (hX : CX m0 nS u t x0 m1) : hk_Ct MX0_lowerAll 2 0 0 [.ref 1] (hk_h L m1) (fun r h => ∃ (f : Prop) (x : Nat → Nat) (m2 : Nat → Nat → Int32), r = some (.int (bI f)) ∧ h = hk_h L m2 ∧ CX m0 nS u t x m2 ∧ (∀ c, x c ≤ x0 c) ∧ (∀ s c n, EG (GG m0 nS u) s c n → x c ≤ x0 n + cs (GG m0 nS u) s) ∧ (¬ f → ∀ s c n, EG (GG m0 nS u) s c n → x c ≤ x n + cs (GG m0 nS u) s)) := by
  refine hk_ofWP (by decide) (by simp [Value.category]) (Nat.le_of_ble_eq_true rfl) ?_
  show hk_WP _ _ _ _ _ _ _ [some (.ref 1), none, none, none, none, none] [] _ _
  refine hk_iconst (v := 0) dX0_lowerAll_0 (by decide) ?_
  refine hk_istore_n dX0_lowerAll_1 rfl (by decide) rfl ?_
  refine hk_iconst (v := 0) dX0_lowerAll_2 (by decide) ?_
  refine hk_istore_n dX0_lowerAll_3 rfl (by decide) rfl ?_
  have hs := lp_lowerAll (L := L) hS hS6 hg hC hn 0 (Nat.zero_le _) False x0 m1 ⟨hX, fun _ => Nat.le_refl _, fun s' hs' => absurd hs' (Nat.not_lt_zero _), fun _ => ⟨rfl, fun s' hs' => absurd hs' (Nat.not_lt_zero _)⟩⟩ none none none
  rw [bI_f (fun q => q)] at hs
  exact hs
theorem ub_step {G : MP} {t k : Nat} {x x0 : Nat → Nat} (h0 : ∀ j, j ≤ k → ∀ c y b, Wp G t j c y b → x0 c ≤ 100 * y + b) (h1 : ∀ c, x c ≤ x0 c) (h2 : ∀ s c n, EG G s c n → x c ≤ x0 n + cs G s) : ∀ j, j ≤ k + 1 → ∀ c y b, Wp G t j c y b → x c ≤ 100 * y + b := by
  intro j hj c y b w
  cases j with
  | zero => exact Nat.le_trans (h1 c) (h0 0 (Nat.zero_le _) c y b w)
  | succ j =>
    obtain ⟨s, n, y', b', e, w', rfl, rfl⟩ := w
    have q1 := h0 j (by omega) n y' b' w'
    have q2 := h2 s c n e
    unfold cs at q2
    omega
set_option maxRecDepth 20000 in
set_option maxHeartbeats 2000000 in
theorem lp_rounds (hS : m 2 3 = nI nS) (hS6 : nS ≤ 60) (hg : GS m nC nS) (hC : nC ≤ 24) (hn : m 1 0 = nI nC) {u : Int32} {t : Nat} (i : Nat) (hr : i ≤ 24) : ∀ (f : Prop) (x : Nat → Nat) (m1 : Nat → Nat → Int32) (hI : CX m nS u t x m1 ∧ (∀ j, j ≤ i → ∀ c y b, Wp (GG m nS u) t j c y b → x c ≤ 100 * y + b) ∧ (¬ f → ∀ s c n, EG (GG m nS u) s c n → x c ≤ x n + cs (GG m nS u) s)), hk_WP MX0_measure 3 0 0 0 0 78 [some (.ref 1), some (.int (nI t)), some (.int u), some (.int (bI f)), some (.int (nI i))] [] (hk_h L m1) (fun r h => ∃ m2, r = none ∧ h = hk_h L m2 ∧ CX m nS u t (fun c => DD (GG m nS u) t c) m2) := by
  intro f x m1 hI
  obtain ⟨hX, hI2, hI3⟩ := id hI
  refine hk_iload_n dX0_measure_78 rfl rfl ?_
  refine hk_if_eq (tgt := 100) dX0_measure_79 (by decide) (fun c79 => ?_) (fun c79 => ?_)
  · rw [bI_0] at c79
    exact hk_return dX0_measure_100 rfl (by decide) (by
      first
      | (have hfin : ∀ c, x c = DD (GG m nS u) t c := fun c => fixC (GS.gm hg u hC) ((hX.2.2.2.2 c).imp id (fun q => q.2)) (fun k y b _ w => ub_all hX.2.2.2.1 (hI3 c79) k c y b w)
         have : x = fun c => DD (GG m nS u) t c := funext hfin
         exact ⟨m1, rfl, rfl, this ▸ hX⟩)
      | (have hfin : ∀ c, x c = DD (GG m nS u) t c := fun c => fixC (GS.gm hg u hC) ((hX.2.2.2.2 c).imp id (fun q => q.2)) (fun k y b hk w => hI2 k (by omega) c y b w)
         have : x = fun c => DD (GG m nS u) t c := funext hfin
         exact ⟨m1, rfl, rfl, this ▸ hX⟩))
  · rw [bI_0] at c79
    refine hk_iload dX0_measure_82 rfl ?_
    refine hk_bipush (v := 24) dX0_measure_84 (by decide) ?_
    refine hk_icmp_ge (tgt := 100) dX0_measure_86 (by decide) (fun c86 => ?_) (fun c86 => ?_)
    · rw [show (24 : Int32) = nI 24 from rfl, nI_leI (by omega) (by omega)] at c86
      exact hk_return dX0_measure_100 rfl (by decide) (by
      first
      | (have hfin : ∀ c, x c = DD (GG m nS u) t c := fun c => fixC (GS.gm hg u hC) ((hX.2.2.2.2 c).imp id (fun q => q.2)) (fun k y b _ w => ub_all hX.2.2.2.1 (hI3 c79) k c y b w)
         have : x = fun c => DD (GG m nS u) t c := funext hfin
         exact ⟨m1, rfl, rfl, this ▸ hX⟩)
      | (have hfin : ∀ c, x c = DD (GG m nS u) t c := fun c => fixC (GS.gm hg u hC) ((hX.2.2.2.2 c).imp id (fun q => q.2)) (fun k y b hk w => hI2 k (by omega) c y b w)
         have : x = fun c => DD (GG m nS u) t c := funext hfin
         exact ⟨m1, rfl, rfl, this ▸ hX⟩))
    · rw [show (24 : Int32) = nI 24 from rfl, nI_leI (by omega) (by omega)] at c86
      refine hk_aload_n dX0_measure_89 rfl rfl ?_
      refine ivX0_68 rfl (ct_lowerAll hS hS6 hg hC hn hX) dX0_measure_90 (hk_lt (by decide)) rfl rfl rfl (by decide) ⟨by decide, by decide⟩ (Nat.le_of_ble_eq_true rfl) (fun r h1 hq => ?_)
      obtain ⟨f1, x1, m2, rfl, rfl, hX1, d1, d2, d3⟩ := hq
      refine hk_istore_n dX0_measure_93 rfl (by decide) rfl ?_
      refine hk_iinc (v := nI (i + 1)) dX0_measure_94 rfl (nI_1 i) (by decide) rfl ?_
      refine hk_goto (tgt := 78) dX0_measure_97 (by decide) ?_
      have hlt : i < 24 := by omega
      exact lp_rounds hS hS6 hg hC hn (i + 1) (by omega) f1 x1 m2 ⟨hX1, ub_step hI2 d1 d2, d3⟩
termination_by 24 - i
decreasing_by all_goals omega
set_option maxRecDepth 20000 in
set_option maxHeartbeats 2000000 in
theorem lp_costs (hS : m 2 3 = nI nS) (hS6 : nS ≤ 60) (hg : GS m nC nS) (hC : nC ≤ 24) (hn : m 1 0 = nI nC) {u : Int32} {t : Nat} (ht : t < 24) (c : Nat) (hc : c ≤ 24) (m1 : Nat → Nat → Int32) (hI : CYF m m1 ∧ (∀ s, s < nS → m1 3 (s * 13 + 3) = bI (opn m s u))) (hx : ∀ c', c' < c → m1 6 c' = nI (if c' = t then 0 else 1000000000)) (l4 : Option Value) : hk_WP MX0_measure 3 0 0 0 0 44 [some (.ref 1), some (.int (nI t)), some (.int u), some (.int (nI c)), l4] [] (hk_h L m1) (fun r h => ∃ m2, r = none ∧ h = hk_h L m2 ∧ CX m nS u t (fun c => DD (GG m nS u) t c) m2) := by
  refine hk_iload_n dX0_measure_44 rfl rfl ?_
  refine hk_bipush (v := 24) dX0_measure_45 (by decide) ?_
  refine hk_icmp_ge (tgt := 73) dX0_measure_47 (by decide) (fun c47 => ?_) (fun c47 => ?_)
  · rw [show (24 : Int32) = nI 24 from rfl, nI_leI (by omega) (by omega)] at c47
    refine hk_iconst (v := 1) dX0_measure_73 (by decide) ?_
    refine hk_istore_n dX0_measure_74 rfl (by decide) rfl ?_
    refine hk_iconst (v := 0) dX0_measure_75 (by decide) ?_
    refine hk_istore dX0_measure_76 (by decide) rfl ?_
    have hc24 : c = 24 := by omega
    have hs := lp_rounds (L := L) hS hS6 hg hC hn (u := u) (t := t) 0 (by omega) True (fun c => if c = t then 0 else 1000000000) m1 ⟨⟨hI.1, fun c hc => hx c (by omega), hI.2, if_pos rfl, fun c => ?_⟩, fun j hj c y b w => ?_, fun q => absurd trivial q⟩
    rotate_left
    · by_cases e : c = t
      · right
        show (if c = t then 0 else 1000000000) < _ ∧ ∃ k y b, _ ∧ (if c = t then 0 else 1000000000) = _
        rw [if_pos e]
        exact ⟨by decide, 0, 0, 0, ⟨e, rfl, rfl⟩, rfl⟩
      · left; exact if_neg e
    · have : j = 0 := by omega
      subst this
      obtain ⟨rfl, _, _⟩ := w
      show (if c = c then 0 else 1000000000) ≤ _
      rw [if_pos rfl]; exact Nat.zero_le _
    rw [bI_t trivial] at hs
    exact hs
  · rw [show (24 : Int32) = nI 24 from rfl, nI_leI (by omega) (by omega)] at c47
    refine hk_aload_n dX0_measure_50 rfl rfl ?_
    refine gfX0_27 rfl dX0_measure_51 (hk_lt (by decide)) rfl rfl ?_
    refine hk_iload_n dX0_measure_54 rfl rfl ?_
    refine hk_iload_n dX0_measure_55 rfl rfl ?_
    refine hk_iload_n dX0_measure_56 rfl rfl ?_
    refine hk_icmp_ne (tgt := 64) dX0_measure_57 (by decide) (fun c57 => ?_) (fun c57 => ?_)
    · rw [nI_eq (by omega) (by omega)] at c57
      refine hk_ldc dX0_measure_64 hk_k0_60 ?_
      refine hk_isn dX0_measure_66 (by decide) (fun _ => rfl) rfl (by omega) (by decide) ?_
      refine hk_iinc (v := nI (c + 1)) dX0_measure_67 rfl (nI_1 c) (by decide) rfl ?_
      refine hk_goto (tgt := 44) dX0_measure_70 (by decide) ?_
      have hlt : c < 24 := by omega
      have hx2 : ∀ v, v = nI (if c = t then 0 else 1000000000) → ∀ c', c' < c + 1 → hk_w m1 6 c v 6 c' = nI (if c' = t then 0 else 1000000000) := fun v hv c' hc' => by
        by_cases e : c' = c
        · subst e; rw [hk_w_eq, hv]
        · rw [hk_w_off e]; exact hx c' (by omega)
      refine lp_costs hS hS6 hg hC hn ht (c + 1) (by omega) _ ⟨hI.1.w6, fun s hs => by rw [hk_w_ne (by decide)]; exact hI.2 s hs⟩ (hx2 _ (by first | (rw [if_pos c57]; rfl) | (rw [if_neg c57]; rfl))) _
    · rw [nI_eq (by omega) (by omega)] at c57
      refine hk_iconst (v := 0) dX0_measure_60 (by decide) ?_
      refine hk_goto (tgt := 66) dX0_measure_61 (by decide) ?_
      refine hk_isn dX0_measure_66 (by decide) (fun _ => rfl) rfl (by omega) (by decide) ?_
      refine hk_iinc (v := nI (c + 1)) dX0_measure_67 rfl (nI_1 c) (by decide) rfl ?_
      refine hk_goto (tgt := 44) dX0_measure_70 (by decide) ?_
      have hlt : c < 24 := by omega
      have hx2 : ∀ v, v = nI (if c = t then 0 else 1000000000) → ∀ c', c' < c + 1 → hk_w m1 6 c v 6 c' = nI (if c' = t then 0 else 1000000000) := fun v hv c' hc' => by
        by_cases e : c' = c
        · subst e; rw [hk_w_eq, hv]
        · rw [hk_w_off e]; exact hx c' (by omega)
      refine lp_costs hS hS6 hg hC hn ht (c + 1) (by omega) _ ⟨hI.1.w6, fun s hs => by rw [hk_w_ne (by decide)]; exact hI.2 s hs⟩ (hx2 _ (by first | (rw [if_pos c57]; rfl) | (rw [if_neg c57]; rfl))) _
termination_by 24 - c
decreasing_by all_goals omega
set_option maxRecDepth 20000 in
set_option maxHeartbeats 2000000 in
theorem lp_marks (hS : m 2 3 = nI nS) (hS6 : nS ≤ 60) (hg : GS m nC nS) (hC : nC ≤ 24) (hn : m 1 0 = nI nC) {u : Int32} {t : Nat} (ht : t < 24) (s : Nat) (hs0 : s ≤ nS) (m1 : Nat → Nat → Int32) (hI : CYF m m1 ∧ ∀ s', s' < s → m1 3 (s' * 13 + 3) = bI (opn m s' u)) (l4 : Option Value) : hk_WP MX0_measure 3 0 0 0 0 2 [some (.ref 1), some (.int (nI t)), some (.int u), some (.int (nI s)), l4] [] (hk_h L m1) (fun r h => ∃ m2, r = none ∧ h = hk_h L m2 ∧ CX m nS u t (fun c => DD (GG m nS u) t c) m2) := by
  have e23 : m1 2 3 = nI nS := by rw [hI.1.1 2 (by decide) (by decide)]; exact hS
  refine hk_iload_n dX0_measure_2 rfl rfl ?_
  refine hk_aload_n dX0_measure_3 rfl rfl ?_
  refine gfX0_16 rfl dX0_measure_4 (hk_lt (by decide)) rfl rfl ?_
  refine gfX0_61 rfl dX0_measure_7 (hk_lt (by decide)) rfl rfl ?_
  refine hk_icmp_ge (tgt := 42) dX0_measure_10 (by decide) (fun c10 => ?_) (fun c10 => ?_)
  · rw [e23, nI_leI (by omega) (by omega)] at c10
    refine hk_iconst (v := 0) dX0_measure_42 (by decide) ?_
    refine hk_istore_n dX0_measure_43 rfl (by decide) rfl ?_
    have hsn : s = nS := by omega
    exact lp_costs hS hS6 hg hC hn ht 0 (Nat.zero_le _) m1 ⟨hI.1, fun s' hs' => hI.2 s' (by omega)⟩ (fun c' hc' => absurd hc' (Nat.not_lt_zero _)) _
  · rw [e23, nI_leI (by omega) (by omega)] at c10
    have hs : s < nS := by omega
    refine hk_aload_n dX0_measure_13 rfl rfl ?_
    refine gfX0_16 rfl dX0_measure_14 (hk_lt (by decide)) rfl rfl ?_
    refine hk_iload_n dX0_measure_17 rfl rfl ?_
    refine hk_iconst (v := 3) dX0_measure_18 (by decide) ?_
    refine hk_aload_n dX0_measure_19 rfl rfl ?_
    refine hk_iload_n dX0_measure_20 rfl rfl ?_
    refine hk_iload_n dX0_measure_21 rfl rfl ?_
    refine ivX0_64 rfl (ct_isShut e23 hS6 (hI.1.gs hg) hC hs u) dX0_measure_22 (hk_lt (by decide)) rfl rfl rfl (by decide) ⟨by decide, by decide⟩ (Nat.le_of_ble_eq_true rfl) (hk_kd ?_)
    rw [hI.1.op]
    refine hk_if_eq (tgt := 32) dX0_measure_25 (by decide) (fun c25 => ?_) (fun c25 => ?_)
    · rw [bI_0] at c25
      refine hk_iconst (v := 1) dX0_measure_32 (by decide) ?_
      refine ivX0_45 rfl (ct_seti tb2 hS6 e23 rfl hs (by decide) _) dX0_measure_33 (hk_lt (by decide)) rfl rfl rfl (by decide) ⟨by decide, by decide⟩ (Nat.le_of_ble_eq_true rfl) (hk_kv ?_)
      refine hk_iinc (v := nI (s + 1)) dX0_measure_36 rfl (nI_1 s) (by decide) rfl ?_
      refine hk_goto (tgt := 2) dX0_measure_39 (by decide) ?_
      have hx2 : ∀ v, v = bI (opn m s u) → ∀ s', s' < s + 1 → hk_w m1 3 (s * 13 + 3) v 3 (s' * 13 + 3) = bI (opn m s' u) := fun v hv s' hs' => by
        by_cases e : s' = s
        · subst e; rw [hk_w_eq, hv]
        · rw [hk_w_off (by omega)]; exact hI.2 s' (by omega)
      exact lp_marks hS hS6 hg hC hn ht (s + 1) (by omega) _ ⟨hI.1.w3, hx2 _ (by first | exact (bI_t (Classical.not_not.mp c25)).symm | exact (bI_f (Classical.not_not.mp c25)).symm)⟩ _
    · rw [bI_0] at c25
      refine hk_iconst (v := 0) dX0_measure_28 (by decide) ?_
      refine hk_goto (tgt := 33) dX0_measure_29 (by decide) ?_
      refine ivX0_45 rfl (ct_seti tb2 hS6 e23 rfl hs (by decide) _) dX0_measure_33 (hk_lt (by decide)) rfl rfl rfl (by decide) ⟨by decide, by decide⟩ (Nat.le_of_ble_eq_true rfl) (hk_kv ?_)
      refine hk_iinc (v := nI (s + 1)) dX0_measure_36 rfl (nI_1 s) (by decide) rfl ?_
      refine hk_goto (tgt := 2) dX0_measure_39 (by decide) ?_
      have hx2 : ∀ v, v = bI (opn m s u) → ∀ s', s' < s + 1 → hk_w m1 3 (s * 13 + 3) v 3 (s' * 13 + 3) = bI (opn m s' u) := fun v hv s' hs' => by
        by_cases e : s' = s
        · subst e; rw [hk_w_eq, hv]
        · rw [hk_w_off (by omega)]; exact hI.2 s' (by omega)
      exact lp_marks hS hS6 hg hC hn ht (s + 1) (by omega) _ ⟨hI.1.w3, hx2 _ (by first | exact (bI_t (Classical.not_not.mp c25)).symm | exact (bI_f (Classical.not_not.mp c25)).symm)⟩ _
termination_by nS - s
decreasing_by all_goals omega
set_option maxRecDepth 20000 in
set_option maxHeartbeats 2000000 in
theorem ct_measure (hS : m 2 3 = nI nS) (hS6 : nS ≤ 60) (hg : GS m nC nS) (hC : nC ≤ 24) (hn : m 1 0 = nI nC) (u : Int32) {t : Nat} (ht : t < 24) : hk_Ct MX0_measure 3 0 0 [.ref 1, .int (nI t), .int u] (hk_h L m) (fun r h => ∃ m2, r = none ∧ h = hk_h L m2 ∧ CX m nS u t (fun c => DD (GG m nS u) t c) m2) := by
  refine hk_ofWP (by decide) (by simp [Value.category]) (Nat.le_of_ble_eq_true rfl) ?_
  show hk_WP _ _ _ _ _ _ _ [some (.ref 1), some (.int (nI t)), some (.int u), none, none] [] _ _
  refine hk_iconst (v := 0) dX0_measure_0 (by decide) ?_
  refine hk_istore_n dX0_measure_1 rfl (by decide) rfl ?_
  exact lp_marks hS hS6 hg hC hn ht 0 (Nat.zero_le _) m ⟨CYF.refl, fun s' hs' => absurd hs' (Nat.not_lt_zero _)⟩ _
/-- yards of the way from c to t; -5 without one -/
noncomputable def yv (G : MP) (t c : Nat) : Int32 := cI (RC G t c) (nI (DD G t c / 100)) (-5)
theorem DDb {u : Int32} (g : GM (GG m nS u) nC) {t c : Nat} : DD (GG m nS u) t c < 2 ^ 31 := Nat.lt_of_le_of_lt (DD_max g) (by decide)
set_option maxRecDepth 20000 in
set_option maxHeartbeats 2000000 in
theorem ct_yardsFrom (hg : GS m nC nS) (hC : nC ≤ 24) (hn : m 1 0 = nI nC) {u : Int32} {t c : Nat} (hX : CX m nS u t (fun c => DD (GG m nS u) t c) m1) (hc : c < nC) : hk_Cd MX0_yardsFrom 2 0 0 [.ref 1, .int (nI c)] (hk_h L m1) (some (.int (yv (GG m nS u) t c))) (hk_h L m1) := by
  have g := GS.gm hg u hC
  have e10 : m1 1 0 = nI nC := by rw [hX.1.1 1 (by decide) (by decide)]; exact hn
  refine hk_ofWP (by decide) (by simp [Value.category]) (Nat.le_of_ble_eq_true rfl) ?_
  show hk_WP _ _ _ _ _ _ _ [some (.ref 1), some (.int (nI c)), none] [] _ _
  refine hk_aload_n dX0_yardsFrom_0 rfl rfl ?_
  refine hk_iload_n dX0_yardsFrom_1 rfl rfl ?_
  refine ivX0_75 rfl (ct_costFrom e10 hC hc) dX0_yardsFrom_2 (hk_lt (by decide)) rfl rfl rfl (by decide) ⟨by decide, by decide⟩ (Nat.le_of_ble_eq_true rfl) (hk_kd ?_)
  rw [hX.2.1 c (by omega)]
  refine hk_istore_n dX0_yardsFrom_5 rfl (by decide) rfl ?_
  refine hk_iload_n dX0_yardsFrom_6 rfl rfl ?_
  refine hk_ldc dX0_yardsFrom_7 hk_k0_60 ?_
  refine hk_icmp_ge (tgt := 19) dX0_yardsFrom_9 (by decide) (fun c9 => ?_) (fun c9 => ?_)
  · rw [show (1000000000 : Int32) = nI 1000000000 from rfl, nI_leI (by decide) (DDb g)] at c9
    refine hk_bipush (v := (-5)) dX0_yardsFrom_19 (by decide) ?_
    exact hk_ireturn dX0_yardsFrom_21 rfl rfl (by decide) ⟨by
      unfold yv
      first
      | (rw [cI_f (fun q => by have := DD_lt g q; omega)])
      | (rw [cI_t ((DD_iff g).mp (by omega))]; exact congrArg (fun x => some (Value.int x)) (nI_div (DDb g) (b := 100) (by decide))), rfl⟩
  · rw [show (1000000000 : Int32) = nI 1000000000 from rfl, nI_leI (by decide) (DDb g)] at c9
    refine hk_iload_n dX0_yardsFrom_12 rfl rfl ?_
    refine hk_bipush (v := 100) dX0_yardsFrom_13 (by decide) ?_
    refine hk_idiv dX0_yardsFrom_15 (by decide) ?_
    refine hk_goto (tgt := 21) dX0_yardsFrom_16 (by decide) ?_
    exact hk_ireturn dX0_yardsFrom_21 rfl rfl (by decide) ⟨by
      unfold yv
      first
      | (rw [cI_f (fun q => by have := DD_lt g q; omega)])
      | (rw [cI_t ((DD_iff g).mp (by omega))]; exact congrArg (fun x => some (Value.int x)) (nI_div (DDb g) (b := 100) (by decide))), rfl⟩
set_option maxRecDepth 20000 in
set_option maxHeartbeats 2000000 in
theorem ct_badFrom (hg : GS m nC nS) (hC : nC ≤ 24) (hn : m 1 0 = nI nC) {u : Int32} {t c : Nat} (hX : CX m nS u t (fun c => DD (GG m nS u) t c) m1) (hc : c < nC) : hk_Cd MX0_badFrom 2 0 0 [.ref 1, .int (nI c)] (hk_h L m1) (some (.int (nI (DD (GG m nS u) t c % 100)))) (hk_h L m1) := by
  have g := GS.gm hg u hC
  have e10 : m1 1 0 = nI nC := by rw [hX.1.1 1 (by decide) (by decide)]; exact hn
  refine hk_ofWP (by decide) (by simp [Value.category]) (Nat.le_of_ble_eq_true rfl) ?_
  show hk_WP _ _ _ _ _ _ _ [some (.ref 1), some (.int (nI c))] [] _ _
  refine hk_aload_n dX0_badFrom_0 rfl rfl ?_
  refine hk_iload_n dX0_badFrom_1 rfl rfl ?_
  refine ivX0_75 rfl (ct_costFrom e10 hC hc) dX0_badFrom_2 (hk_lt (by decide)) rfl rfl rfl (by decide) ⟨by decide, by decide⟩ (Nat.le_of_ble_eq_true rfl) (hk_kd ?_)
  rw [hX.2.1 c (by omega)]
  refine hk_bipush (v := 100) dX0_badFrom_5 (by decide) ?_
  refine hk_irem dX0_badFrom_7 (by decide) ?_
  exact hk_ireturn dX0_badFrom_8 rfl rfl (by decide) ⟨congrArg (fun x => some (Value.int x)) (rm_nI (DDb g) (b := 100) (by decide)), rfl⟩
end MSx
