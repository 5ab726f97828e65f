/-! TABLES -/
theorem nI_mul (a b : Nat) : nI a * nI b = nI (a * b) := by
  apply Int32.toBitVec_inj.mp
  simp [nI, Int32.ofNat, BitVec.ofNat_mul]
theorem hk_dn {x : Int32} {n : Nat} (h0 : ¬ x < 0) (h1 : ¬ nI n ≤ x) (hn : n < 2 ^ 31) : ∃ i, i < n ∧ x = nI i := by
  obtain ⟨j, hj, rfl⟩ := nI_of h0
  rw [nI_leI hn hj] at h1
  exact ⟨j, Nat.not_le.mp h1, rfl⟩
def hk_Tb (T LIM W : Nat) : Prop := T + 1 < hk_C0 ∧ LIM * W < 2 ^ 31 ∧ (LIM < 2 ^ 31 ∧ W < 2 ^ 31) ∧ (∀ (L : Nat) (f : Nat → Int32), hk_ent L T f = .inr (6, [.int (nI LIM), .int (nI W), .ref (T + 1), .int (f 3)])) ∧ ∀ (L : Nat) (f : Nat → Int32), hk_ent L (T + 1) f = .inl (0, LIM * W, .inl f)
/-- what a table's cell is, asked at any place -/
def tg (m : Nat → Nat → Int32) (T W R : Nat) (r c : Int32) : Int32 := if ¬ r < 0 ∧ ¬ nI R ≤ r ∧ ¬ c < 0 ∧ ¬ nI W ≤ c then m (T + 1) (r.toNatClampNeg * W + c.toNatClampNeg) else -1
theorem tg_in {m : Nat → Nat → Int32} {T W R i j : Nat} (hR : R < 2 ^ 31) (hW : W < 2 ^ 31) (hi : i < R) (hj : j < W) : tg m T W R (nI i) (nI j) = m (T + 1) (i * W + j) := by
  have h1 : i < 2 ^ 31 := Nat.lt_trans hi hR
  have h2 : j < 2 ^ 31 := Nat.lt_trans hj hW
  unfold tg
  rw [if_pos ⟨nI_pos h1, nI_ge hi hR, nI_pos h2, nI_ge hj hW⟩, nI_clamp h1, nI_clamp h2]
theorem hk_cell {R LIM W : Nat} {r c : Int32} (h1 : ¬ r < 0) (h2 : ¬ nI R ≤ r) (h3 : ¬ c < 0) (h4 : ¬ nI W ≤ c) (hR : R ≤ LIM) (hL : LIM < 2 ^ 31) (hW : W < 2 ^ 31) (hLW : LIM * W < 2 ^ 31) :
    vp_in (r * nI W + c) (LIM * W) ∧ (r * nI W + c).toNatClampNeg = r.toNatClampNeg * W + c.toNatClampNeg := by
  obtain ⟨i, hi, rfl⟩ := hk_dn h1 h2 (Nat.lt_of_le_of_lt hR hL)
  obtain ⟨j, hj, rfl⟩ := hk_dn h3 h4 hW
  have hlt : i * W + j < LIM * W := by
    have : (i + 1) * W ≤ LIM * W := Nat.mul_le_mul_right _ (by omega)
    rw [Nat.succ_mul] at this
    omega
  rw [nI_mul, nI_add, nI_clamp (by omega), nI_clamp (by omega), nI_clamp (by omega)]
  exact ⟨vp_in_nI hlt hLW, rfl⟩
section TB
variable {L : Nat} {m : Nat → Nat → Int32} {T LIM W R : Nat}
set_option maxRecDepth 20000 in
set_option maxHeartbeats 2000000 in
theorem ct_has (hT : hk_Tb T LIM W) (hR : R ≤ LIM) (hm : m T 3 = nI R) (r : Int32) : hk_Cd MX6_has 0 0 0 [.ref T, .int r] (hk_h L m) (some (.int (if ¬ r < 0 ∧ ¬ nI R ≤ r then 1 else 0))) (hk_h L m) := by
  refine hk_ofWP (by decide) (by simp [Value.category]) (by decide) ?_
  show hk_WP _ _ _ _ _ _ _ [some (.ref T), some (.int r)] [] _ _
  refine hk_iload_n dX6_has_0 rfl rfl ?_
  refine hk_if_lt dX6_has_1 (by decide) (fun c1 => ?_) (fun c1 => ?_)
  · refine hk_iconst (v := 0) dX6_has_16 (by decide) ?_
    exact hk_ireturn dX6_has_17 rfl rfl (by decide) ⟨by first | simp [c1, c9] | simp [c1], rfl⟩
  · refine hk_iload_n dX6_has_4 rfl rfl ?_
    refine hk_aload_n dX6_has_5 rfl rfl ?_
    refine gfX6_22 rfl dX6_has_6 (hk_lt (Nat.lt_of_succ_lt hT.1)) (hT.2.2.2.1 _ _) rfl ?_
    refine hk_icmp_ge dX6_has_9 (by decide) (fun c9 => ?_) (fun c9 => ?_)
    · rw [hm] at c9
      refine hk_iconst (v := 0) dX6_has_16 (by decide) ?_
      exact hk_ireturn dX6_has_17 rfl rfl (by decide) ⟨by first | simp [c1, c9] | simp [c1], rfl⟩
    · rw [hm] at c9
      refine hk_iconst (v := 1) dX6_has_12 (by decide) ?_
      refine hk_goto dX6_has_13 (by decide) ?_
      exact hk_ireturn dX6_has_17 rfl rfl (by decide) ⟨by first | simp [c1, c9] | simp [c1], rfl⟩
set_option maxRecDepth 20000 in
set_option maxHeartbeats 2000000 in
theorem ct_isFull (hT : hk_Tb T LIM W) (hR : R ≤ LIM) (hm : m T 3 = nI R) : hk_Cd MX6_isFull 0 0 0 [.ref T] (hk_h L m) (some (.int (if nI LIM ≤ nI R then 1 else 0))) (hk_h L m) := by
  refine hk_ofWP (by decide) (by simp [Value.category]) (by decide) ?_
  show hk_WP _ _ _ _ _ _ _ [some (.ref T)] [] _ _
  refine hk_aload_n dX6_isFull_0 rfl rfl ?_
  refine gfX6_22 rfl dX6_isFull_1 (hk_lt (Nat.lt_of_succ_lt hT.1)) (hT.2.2.2.1 _ _) rfl ?_
  refine hk_aload_n dX6_isFull_4 rfl rfl ?_
  refine gfX6_9 rfl dX6_isFull_5 (hk_lt (Nat.lt_of_succ_lt hT.1)) (hT.2.2.2.1 _ _) rfl ?_
  refine hk_icmp_lt dX6_isFull_8 (by decide) (fun c8 => ?_) (fun c8 => ?_)
  · rw [hm] at c8
    refine hk_iconst (v := 0) dX6_isFull_15 (by decide) ?_
    exact hk_ireturn dX6_isFull_16 rfl rfl (by decide) ⟨by simp [c8], rfl⟩
  · rw [hm] at c8
    refine hk_iconst (v := 1) dX6_isFull_11 (by decide) ?_
    refine hk_goto dX6_isFull_12 (by decide) ?_
    exact hk_ireturn dX6_isFull_16 rfl rfl (by decide) ⟨by simp [c8], rfl⟩
set_option maxRecDepth 20000 in
set_option maxHeartbeats 2000000 in
theorem ct_get (hT : hk_Tb T LIM W) (hR : R ≤ LIM) (hm : m T 3 = nI R) (r c : Int32) : hk_Cd MX6_get 0 0 0 [.ref T, .int r, .int c] (hk_h L m) (some (.int (tg m T W R r c))) (hk_h L m) := by
  refine hk_ofWP (by decide) (by simp [Value.category]) (by decide) ?_
  show hk_WP _ _ _ _ _ _ _ [some (.ref T), some (.int r), some (.int c), none] [] _ _
  refine hk_iload_n dX6_get_0 rfl rfl ?_
  refine hk_if_lt dX6_get_1 (by decide) (fun c1 => ?_) (fun c1 => ?_)
  · refine hk_iconst (v := 0) dX6_get_28 (by decide) ?_
    refine hk_istore_n dX6_get_29 rfl (by decide) rfl ?_
    refine hk_iload_n dX6_get_30 rfl rfl ?_
    refine hk_if_eq dX6_get_31 (by decide) (fun _ => ?_) (fun c31 => absurd (by decide) c31)
    refine hk_iconst (v := (-1)) dX6_get_50 (by decide) ?_
    exact hk_ireturn dX6_get_51 rfl rfl (by decide) ⟨by first | (simp [tg, c1, c9, c13, c21]; done) | (rw [(hk_cell c1 c9 c13 c21 hR hT.2.2.1.1 hT.2.2.1.2 hT.2.1).2]; simp [tg, c1, c9, c13, c21]; done) | simp [tg, c1, c9, c13] | simp [tg, c1, c9] | simp [tg, c1], rfl⟩
  · refine hk_iload_n dX6_get_4 rfl rfl ?_
    refine hk_aload_n dX6_get_5 rfl rfl ?_
    refine gfX6_22 rfl dX6_get_6 (hk_lt (Nat.lt_of_succ_lt hT.1)) (hT.2.2.2.1 _ _) rfl ?_
    refine hk_icmp_ge dX6_get_9 (by decide) (fun c9 => ?_) (fun c9 => ?_)
    · rw [hm] at c9
      refine hk_iconst (v := 0) dX6_get_28 (by decide) ?_
      refine hk_istore_n dX6_get_29 rfl (by decide) rfl ?_
      refine hk_iload_n dX6_get_30 rfl rfl ?_
      refine hk_if_eq dX6_get_31 (by decide) (fun _ => ?_) (fun c31 => absurd (by decide) c31)
      refine hk_iconst (v := (-1)) dX6_get_50 (by decide) ?_
      exact hk_ireturn dX6_get_51 rfl rfl (by decide) ⟨by first | (simp [tg, c1, c9, c13, c21]; done) | (rw [(hk_cell c1 c9 c13 c21 hR hT.2.2.1.1 hT.2.2.1.2 hT.2.1).2]; simp [tg, c1, c9, c13, c21]; done) | simp [tg, c1, c9, c13] | simp [tg, c1, c9] | simp [tg, c1], rfl⟩
    · rw [hm] at c9
      refine hk_iload_n dX6_get_12 rfl rfl ?_
      refine hk_if_lt dX6_get_13 (by decide) (fun c13 => ?_) (fun c13 => ?_)
      · refine hk_iconst (v := 0) dX6_get_28 (by decide) ?_
        refine hk_istore_n dX6_get_29 rfl (by decide) rfl ?_
        refine hk_iload_n dX6_get_30 rfl rfl ?_
        refine hk_if_eq dX6_get_31 (by decide) (fun _ => ?_) (fun c31 => absurd (by decide) c31)
        refine hk_iconst (v := (-1)) dX6_get_50 (by decide) ?_
        exact hk_ireturn dX6_get_51 rfl rfl (by decide) ⟨by first | (simp [tg, c1, c9, c13, c21]; done) | (rw [(hk_cell c1 c9 c13 c21 hR hT.2.2.1.1 hT.2.2.1.2 hT.2.1).2]; simp [tg, c1, c9, c13, c21]; done) | simp [tg, c1, c9, c13] | simp [tg, c1, c9] | simp [tg, c1], rfl⟩
      · refine hk_iload_n dX6_get_16 rfl rfl ?_
        refine hk_aload_n dX6_get_17 rfl rfl ?_
        refine gfX6_15 rfl dX6_get_18 (hk_lt (Nat.lt_of_succ_lt hT.1)) (hT.2.2.2.1 _ _) rfl ?_
        refine hk_icmp_ge dX6_get_21 (by decide) (fun c21 => ?_) (fun c21 => ?_)
        · refine hk_iconst (v := 0) dX6_get_28 (by decide) ?_
          refine hk_istore_n dX6_get_29 rfl (by decide) rfl ?_
          refine hk_iload_n dX6_get_30 rfl rfl ?_
          refine hk_if_eq dX6_get_31 (by decide) (fun _ => ?_) (fun c31 => absurd (by decide) c31)
          refine hk_iconst (v := (-1)) dX6_get_50 (by decide) ?_
          exact hk_ireturn dX6_get_51 rfl rfl (by decide) ⟨by first | (simp [tg, c1, c9, c13, c21]; done) | (rw [(hk_cell c1 c9 c13 c21 hR hT.2.2.1.1 hT.2.2.1.2 hT.2.1).2]; simp [tg, c1, c9, c13, c21]; done) | simp [tg, c1, c9, c13] | simp [tg, c1, c9] | simp [tg, c1], rfl⟩
        · refine hk_iconst (v := 1) dX6_get_24 (by decide) ?_
          refine hk_goto dX6_get_25 (by decide) ?_
          refine hk_istore_n dX6_get_29 rfl (by decide) rfl ?_
          refine hk_iload_n dX6_get_30 rfl rfl ?_
          refine hk_if_eq dX6_get_31 (by decide) (fun c31 => absurd c31 (by decide)) (fun _ => ?_)
          refine hk_aload_n dX6_get_34 rfl rfl ?_
          refine gfX6_18 rfl dX6_get_35 (hk_lt (Nat.lt_of_succ_lt hT.1)) (hT.2.2.2.1 _ _) rfl ?_
          refine hk_iload_n dX6_get_38 rfl rfl ?_
          refine hk_aload_n dX6_get_39 rfl rfl ?_
          refine gfX6_15 rfl dX6_get_40 (hk_lt (Nat.lt_of_succ_lt hT.1)) (hT.2.2.2.1 _ _) rfl ?_
          refine hk_imul dX6_get_43 ?_
          refine hk_iload_n dX6_get_44 rfl rfl ?_
          refine hk_iadd dX6_get_45 ?_
          refine hk_iaload dX6_get_46 (hk_lt hT.1) (hT.2.2.2.2 _ _) (hk_cell c1 c9 c13 c21 hR hT.2.2.1.1 hT.2.2.1.2 hT.2.1).1 ?_
          refine hk_goto dX6_get_47 (by decide) ?_
          exact hk_ireturn dX6_get_51 rfl rfl (by decide) ⟨by first | (simp [tg, c1, c9, c13, c21]; done) | (rw [(hk_cell c1 c9 c13 c21 hR hT.2.2.1.1 hT.2.2.1.2 hT.2.1).2]; simp [tg, c1, c9, c13, c21]; done) | simp [tg, c1, c9, c13] | simp [tg, c1, c9] | simp [tg, c1], rfl⟩
end TB
