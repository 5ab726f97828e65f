/-! THE CALLS one by one: both objects answer alike, and what holds goes on holding -/
/-- laws: the reference's text and the class's commands come from one parse -/
def GLw (L : Nat) (tx tm kd fr md : Nat → Int32) (o : Nat → Nat → Int32) : Prop := ∀ i, i < L → kd i = o (2 * i) 0 ∧ fr i = o (2 * i) 1 ∧ md i = o (2 * i) 2 ∧
  ∃ (n : Nat) (c : List Int32) (v : (Nat → Int32) → Int32), tm i = nI n ∧ n ≤ 160 ∧ PE (fun j => tx (160 * i + j)) n 12 0 0 = .inr (n, c, v) ∧ o (2 * i + 1) 1000 = nI c.length ∧ ∀ j, j < c.length → o (2 * i + 1) j = c.getD j 0
def Inv (L : Nat) (z : Nat → Nat) (m : Nat → Nat → Int32) : Prop := L = z 4 ∧ GSz z m ∧ GStr (z 0) (z 1) (m 3) (m 40) (m 41) (m 42) (m 43) (m 44) (m 45) (m 46) ∧ GSun (m 4) (m 5) (m 38) (m 39) ∧ GStep (m 1 6) (m 37 17) (m 7) (m 50) ∧
  GCo (z 0) (z 2) (z 3) (z 8) (m 10) (m 51) (m 52) (m 53) (m 54) (m 55) (m 56) (m 57) (m 58) (m 14) ∧ GLic (z 12) (m 12) (m 59) (m 60) (m 61) ∧ GSt (z 0) (z 2) (z 3) (m 14) (m 62) (m 63) (m 64) (m 65) (m 10) ∧ GTape (z 9) (m 17) (m 66) ∧
  GLw L (m 67) (m 68) (m 69) (m 70) (m 71) (fun k => m (99 + k)) ∧ GTrip (z 5) (m 24) (m 73) (m 74) (m 75) (m 76) (m 77) (m 78) (m 79) (m 80) (m 81) (m 82) (m 84) (m 83) (m 85) ∧ GRef (z 6) (m 28) (m 86) (m 87) (m 88) (m 89) ∧
  GCom (z 7) (z 5) (m 31) (m 90) (m 91) ∧ GLo (z 10) (m 34) (m 92) (m 93) (m 94) (m 95) ∧ GFo (z 11) (z 2) (m 36) (m 96) (m 97) (m 98)
theorem hk_wo {m : Nat → Nat → Int32} {a j b : Nat} {x : Int32} (h : b ≠ a) : hk_w m a j x b = m b := if_neg h
theorem hk_wt {m : Nat → Nat → Int32} {a j : Nat} {x : Int32} : hk_w m a j x a = upd (m a) j x := if_pos rfl
theorem hk_w99 {m : Nat → Nat → Int32} {a j : Nat} {x : Int32} (h : a < 99) : (fun k => hk_w m a j x (99 + k)) = fun k => m (99 + k) := by
  funext k; exact hk_wo (by omega)
def up (z : Nat → Nat) (i v : Nat) : Nat → Nat := fun j => if j = i then v else z j
/-- a call of both objects: they answer alike, and Inv holds behind it -/
def OpOK (L : Nat) (m : Nat → Nat → Int32) (A B : hk_M) (av : List Value) : Prop :=
  ∃ (d1 c1 s1 d2 : Nat) (r : Int32) (L' : Nat) (m1 m2 : Nat → Nat → Int32) (z' : Nat → Nat), d1 ≤ 300 ∧ c1 ≤ 2 ∧ s1 ≤ 164 ∧ d2 ≤ 300 ∧
    hk_Cd A d1 c1 s1 (.ref 0 :: av) (hk_h L m) (some (.int r)) (hk_h L' m1) ∧ hk_Cd B d2 0 0 (.ref 37 :: av) (hk_h L' m1) (some (.int r)) (hk_h L' m2) ∧ Inv L' z' m2
theorem GStr_c {a b n : Nat} {t fr to yd bd sf st sh : Nat → Int32} (h : GStr a n t fr to yd bd sf st sh) (hab : a ≤ b) : GStr b n t fr to yd bd sf st sh := by
  refine ⟨fun s hs => ?_, h.2⟩
  obtain ⟨h1, h2, h3, h4, x, y, u, w, k, g1, g2, g3, g4, g5, g6, g7, g8⟩ := h.1 s hs
  exact ⟨h1, h2, h3, h4, x, y, u, w, k, g1, g2, g3, g4, g5, by omega, by omega, g8⟩
theorem GCo_c {a b nK nD now : Nat} {t pl ho st lo sta co th go sd : Nat → Int32} (h : GCo a nK nD now t pl ho st lo sta co th go sd) (hab : a ≤ b) : GCo b nK nD now t pl ho st lo sta co th go sd := by
  refine ⟨fun c hc => ?_, h.2⟩
  obtain ⟨h1, h2, h3, h4, h5, h6, ⟨g, x, s, k, g1, g2, g3, g4, g5, g6, g7, g8⟩, h8⟩ := h.1 c hc
  exact ⟨h1, h2, h3, h4, h5, h6, ⟨g, x, s, k, g1, g2, g3, by omega, g5, g6, g7, by omega⟩, h8⟩
theorem GSt_c {a b nK nD : Nat} {t sc pl ro rm ct : Nat → Int32} (h : GSt a nK nD t sc pl ro rm ct) (hab : a ≤ b) : GSt b nK nD t sc pl ro rm ct := by
  refine ⟨fun s hs => ?_, h.2⟩
  obtain ⟨h1, h2, h3, x, p, q, g1, g2, g3⟩ := h.1 s hs
  exact ⟨h1, h2, h3, x, p, q, g1, by omega, g3⟩
section OP
variable {L : Nat} {m : Nat → Nat → Int32} {z : Nat → Nat}
set_option maxRecDepth 20000 in
set_option maxHeartbeats 2000000 in
theorem ct_addCorner {n : Nat} (hn : m 1 0 = nI n) (hn2 : n < 24) : hk_Cd MX0_addCorner 0 0 0 [.ref 1] (hk_h L m) (some (.int (nI n))) (hk_h L (hk_w m 1 0 (nI (n + 1)))) := by
  refine hk_ofWP (by decide) (by simp [Value.category]) (Nat.le_of_ble_eq_true rfl) ?_
  show hk_WP _ _ _ _ _ _ _ [some (.ref 1)] [] _ _
  refine hk_aload_n dX0_addCorner_0 rfl rfl ?_
  refine gfX0_37 rfl dX0_addCorner_1 (hk_lt (by decide)) rfl rfl ?_
  refine hk_bipush (v := 24) dX0_addCorner_4 (by decide) ?_
  refine hk_icmp_lt (tgt := 12) dX0_addCorner_6 (by decide) (fun _ => ?_) (fun c6 => absurd (by rw [hn]; exact nI_lt hn2 (by decide)) c6)
  refine hk_aload_n dX0_addCorner_12 rfl rfl ?_
  refine hk_dup dX0_addCorner_13 rfl ?_
  refine gfX0_37 rfl dX0_addCorner_14 (hk_lt (by decide)) rfl rfl ?_
  refine hk_iconst (v := 1) dX0_addCorner_17 (by decide) ?_
  refine hk_iadd dX0_addCorner_18 ?_
  refine pfX0_37 rfl dX0_addCorner_19 (hk_lt (by decide)) rfl (Nat.le_of_ble_eq_true rfl) (hk_st (j := 0) rfl ?_)
  rw [show m 1 0 + 1 = nI (n + 1) by rw [hn]; exact nI_1 n]
  refine hk_aload_n dX0_addCorner_22 rfl rfl ?_
  refine gfX0_37 rfl dX0_addCorner_23 (hk_lt (by decide)) rfl rfl ?_
  refine hk_iconst (v := 1) dX0_addCorner_26 (by decide) ?_
  refine hk_isub dX0_addCorner_27 ?_
  exact hk_ireturn dX0_addCorner_28 rfl rfl (by decide) ⟨by rw [hk_w_eq]; exact congrArg (fun x => some (Value.int x)) (nI_pred n), rfl⟩
set_option maxRecDepth 20000 in
set_option maxHeartbeats 2000000 in
theorem ct_addCorner_full (hn : m 1 0 = nI 24) : hk_Cd MX0_addCorner 0 0 0 [.ref 1] (hk_h L m) (some (.int (-2))) (hk_h L m) := by
  refine hk_ofWP (by decide) (by simp [Value.category]) (Nat.le_of_ble_eq_true rfl) ?_
  show hk_WP _ _ _ _ _ _ _ [some (.ref 1)] [] _ _
  refine hk_aload_n dX0_addCorner_0 rfl rfl ?_
  refine gfX0_37 rfl dX0_addCorner_1 (hk_lt (by decide)) rfl rfl ?_
  refine hk_bipush (v := 24) dX0_addCorner_4 (by decide) ?_
  refine hk_icmp_lt (tgt := 12) dX0_addCorner_6 (by decide) (fun c6 => absurd c6 (by rw [hn]; decide)) (fun _ => ?_)
  refine hk_bipush (v := (-2)) dX0_addCorner_9 (by decide) ?_
  exact hk_ireturn dX0_addCorner_11 rfl rfl (by decide) ⟨rfl, rfl⟩
set_option maxRecDepth 20000 in
set_option maxHeartbeats 2000000 in
theorem ct_corner {n : Nat} (hn : m 1 0 = nI n) (hn2 : n < 24) : hk_Cd MX9_corner 1 0 0 [.ref 0] (hk_h L m) (some (.int (nI n))) (hk_h L (hk_w m 1 0 (nI (n + 1)))) := by
  refine hk_ofWP (by decide) (by simp [Value.category]) (Nat.le_of_ble_eq_true rfl) ?_
  show hk_WP _ _ _ _ _ _ _ [some (.ref 0)] [] _ _
  refine hk_aload_n dX9_corner_0 rfl rfl ?_
  refine gfX9_16 rfl dX9_corner_1 (hk_lt (by decide)) rfl rfl ?_
  refine ivX9_55 rfl (ct_addCorner hn hn2) dX9_corner_4 (hk_lt (by decide)) rfl rfl rfl (by decide) ⟨by decide, by decide⟩ (Nat.le_of_ble_eq_true rfl) (hk_kd ?_)
  exact hk_ireturn dX9_corner_7 rfl rfl (by decide) ⟨rfl, rfl⟩
set_option maxRecDepth 20000 in
set_option maxHeartbeats 2000000 in
theorem ct_corner_full (hn : m 1 0 = nI 24) : hk_Cd MX9_corner 1 0 0 [.ref 0] (hk_h L m) (some (.int (-2))) (hk_h L m) := by
  refine hk_ofWP (by decide) (by simp [Value.category]) (Nat.le_of_ble_eq_true rfl) ?_
  show hk_WP _ _ _ _ _ _ _ [some (.ref 0)] [] _ _
  refine hk_aload_n dX9_corner_0 rfl rfl ?_
  refine gfX9_16 rfl dX9_corner_1 (hk_lt (by decide)) rfl rfl ?_
  refine ivX9_55 rfl (ct_addCorner_full hn) dX9_corner_4 (hk_lt (by decide)) rfl rfl rfl (by decide) ⟨by decide, by decide⟩ (Nat.le_of_ble_eq_true rfl) (hk_kd ?_)
  exact hk_ireturn dX9_corner_7 rfl rfl (by decide) ⟨rfl, rfl⟩
set_option maxRecDepth 20000 in
set_option maxHeartbeats 2000000 in
theorem md_corner {n : Nat} (hn : m 37 3 = nI n) (hn2 : n < 24) : hk_Cd MX10_corner 0 0 0 [.ref 37] (hk_h L m) (some (.int (nI n))) (hk_h L (hk_w m 37 3 (nI (n + 1)))) := by
  refine hk_ofWP (by decide) (by simp [Value.category]) (Nat.le_of_ble_eq_true rfl) ?_
  show hk_WP _ _ _ _ _ _ _ [some (.ref 37)] [] _ _
  refine hk_aload_n dX10_corner_0 rfl rfl ?_
  refine gfX10_198 rfl dX10_corner_1 (hk_lt (by decide)) rfl rfl ?_
  refine hk_bipush (v := 24) dX10_corner_4 (by decide) ?_
  refine hk_icmp_ne (tgt := 12) dX10_corner_6 (by decide) (fun _ => ?_) (fun c6 => absurd c6 (by rw [hn, show (24 : Int32) = nI 24 from rfl, nI_eq (by omega) (by decide)]; omega))
  refine hk_aload_n dX10_corner_12 rfl rfl ?_
  refine hk_dup dX10_corner_13 rfl ?_
  refine gfX10_198 rfl dX10_corner_14 (hk_lt (by decide)) rfl rfl ?_
  refine hk_iconst (v := 1) dX10_corner_17 (by decide) ?_
  refine hk_iadd dX10_corner_18 ?_
  refine pfX10_198 rfl dX10_corner_19 (hk_lt (by decide)) rfl (Nat.le_of_ble_eq_true rfl) (hk_st (j := 3) rfl ?_)
  rw [show m 37 3 + 1 = nI (n + 1) by rw [hn]; exact nI_1 n]
  refine hk_aload_n dX10_corner_22 rfl rfl ?_
  refine gfX10_198 rfl dX10_corner_23 (hk_lt (by decide)) rfl rfl ?_
  refine hk_iconst (v := 1) dX10_corner_26 (by decide) ?_
  refine hk_isub dX10_corner_27 ?_
  exact hk_ireturn dX10_corner_28 rfl rfl (by decide) ⟨by rw [hk_w_eq]; exact congrArg (fun x => some (Value.int x)) (nI_pred n), rfl⟩
set_option maxRecDepth 20000 in
set_option maxHeartbeats 2000000 in
theorem md_corner_full (hn : m 37 3 = nI 24) : hk_Cd MX10_corner 0 0 0 [.ref 37] (hk_h L m) (some (.int (-2))) (hk_h L m) := by
  refine hk_ofWP (by decide) (by simp [Value.category]) (Nat.le_of_ble_eq_true rfl) ?_
  show hk_WP _ _ _ _ _ _ _ [some (.ref 37)] [] _ _
  refine hk_aload_n dX10_corner_0 rfl rfl ?_
  refine gfX10_198 rfl dX10_corner_1 (hk_lt (by decide)) rfl rfl ?_
  refine hk_bipush (v := 24) dX10_corner_4 (by decide) ?_
  refine hk_icmp_ne (tgt := 12) dX10_corner_6 (by decide) (fun c6 => absurd (by rw [hn]; rfl) c6) (fun _ => ?_)
  refine hk_bipush (v := (-2)) dX10_corner_9 (by decide) ?_
  exact hk_ireturn dX10_corner_11 rfl rfl (by decide) ⟨rfl, rfl⟩
theorem op_corner (hI : Inv L z m) : OpOK L m MX9_corner MX10_corner [] := by
  obtain ⟨g0, ⟨a, b, c⟩, g2, g3, g4, g5, g6, g7, g8, g9, g10, g11, g12, g13, g14⟩ := id hI
  by_cases h : z 0 = 24
  · exact ⟨1, 0, 0, 0, -2, L, m, m, z, by decide, by decide, by decide, by decide, ct_corner_full (h ▸ a.1), md_corner_full (h ▸ b.1), hI⟩
  · refine ⟨1, 0, 0, 0, nI (z 0), L, _, _, up z 0 (z 0 + 1), by decide, by decide, by decide, by decide, ct_corner a.1 (by omega), md_corner (by simpa [hk_wo, hk_wt] using b.1) (by omega), ?_⟩
    refine ⟨g0, ⟨?_, ?_, ?_⟩, ?_, ?_, ?_, ?_, ?_, ?_, ?_, ?_, ?_, ?_, ?_, ?_, ?_⟩
    · simpa [hk_wo, hk_wt, hk_w99, up, upd] using a.2
    · simpa [hk_wo, hk_wt, hk_w99, up, upd] using b.2
    · simp only [up]; simp; omega
    · simpa [hk_wo, hk_wt, hk_w99, up, upd] using GStr_c g2 (Nat.le_succ _)
    · simpa [hk_wo, hk_wt, hk_w99, up, upd] using g3
    · simpa [hk_wo, hk_wt, hk_w99, up, upd] using g4
    · simpa [hk_wo, hk_wt, hk_w99, up, upd] using GCo_c g5 (Nat.le_succ _)
    · simpa [hk_wo, hk_wt, hk_w99, up, upd] using g6
    · simpa [hk_wo, hk_wt, hk_w99, up, upd] using GSt_c g7 (Nat.le_succ _)
    · simpa [hk_wo, hk_wt, hk_w99, up, upd] using g8
    · simpa [hk_wo, hk_wt, hk_w99, up, upd] using g9
    · simpa [hk_wo, hk_wt, hk_w99, up, upd] using g10
    · simpa [hk_wo, hk_wt, hk_w99, up, upd] using g11
    · simpa [hk_wo, hk_wt, hk_w99, up, upd] using g12
    · simpa [hk_wo, hk_wt, hk_w99, up, upd] using g13
    · simpa [hk_wo, hk_wt, hk_w99, up, upd] using g14
end OP
