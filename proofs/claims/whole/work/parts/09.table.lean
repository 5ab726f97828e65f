/-! TABLES -/
theorem nI_mul (a b : Nat) : nI a * nI b = nI (a * b) := by
  exact (Int32.ofNat_mul a b).symm
noncomputable def bI (P : Prop) : Int32 := @ite _ P (Classical.propDecidable P) 1 0
theorem bI_t {P : Prop} (h : P) : bI P = 1 := if_pos h
theorem bI_f {P : Prop} (h : ¬ P) : bI P = 0 := if_neg h
theorem bI_0 {P : Prop} : bI P = 0 ↔ ¬ P := by
  by_cases h : P
  · rw [bI_t h]; simp [h]
  · rw [bI_f h]; simp [h]
theorem bI_c {P Q : Prop} (h : P ↔ Q) : bI P = bI Q := by rw [propext h]
theorem bI_nar {P : Prop} : narrow .boolean (.int (bI P)) = .int (bI P) := by
  by_cases h : P
  · rw [bI_t h]; rfl
  · rw [bI_f h]; rfl
theorem bI_r1 {P : Prop} (h : P) : some (Value.int 1) = some (Value.int (bI P)) := by rw [bI_t h]
theorem bI_r0 {P : Prop} (h : ¬ P) : some (Value.int 0) = some (Value.int (bI P)) := by rw [bI_f h]
/-- a number of Java's that is an index below n -/
abbrev inR (x : Int32) (n : Nat) : Prop := ¬ x < 0 ∧ ¬ nI n ≤ x
theorem inR_nI {i n : Nat} (h : i < n) (hn : n < 2 ^ 31) : inR (nI i) n := ⟨nI_pos (Nat.lt_trans h hn), nI_ge h hn⟩
/-- the first index below n with p; n if there is none -/
noncomputable def fi (p : Nat → Prop) : Nat → Nat
  | 0 => 0
  | n + 1 => if fi p n < n then fi p n else @ite _ (p n) (Classical.propDecidable _) n (n + 1)
theorem fi_le (p : Nat → Prop) : ∀ n, fi p n ≤ n
  | 0 => Nat.le_refl _
  | n + 1 => by
    have := fi_le p n
    unfold fi
    split
    · omega
    · split <;> omega
theorem fi_yes (p : Nat → Prop) : ∀ n, fi p n < n → p (fi p n)
  | 0, h => absurd h (Nat.not_lt_zero _)
  | n + 1, h => by
    unfold fi at h ⊢
    by_cases h1 : fi p n < n
    · rw [if_pos h1]; exact fi_yes p n h1
    · rw [if_neg h1] at h ⊢
      by_cases h2 : p n
      · rw [if_pos h2]; exact h2
      · rw [if_neg h2] at h; omega
theorem fi_no (p : Nat → Prop) : ∀ n k, k < fi p n → ¬ p k
  | 0, k, h => absurd h (Nat.not_lt_zero _)
  | n + 1, k, h => by
    have hle := fi_le p n
    unfold fi at h
    by_cases h1 : fi p n < n
    · rw [if_pos h1] at h; exact fi_no p n k h
    · rw [if_neg h1] at h
      have hn : fi p n = n := by omega
      by_cases h2 : p n
      · rw [if_pos h2] at h; exact fi_no p n k (by omega)
      · rw [if_neg h2] at h
        by_cases h3 : k = n
        · rw [h3]; exact h2
        · exact fi_no p n k (by omega)
theorem fi_is {p : Nat → Prop} {n i : Nat} (hi : i < n) (hp : p i) (hno : ∀ j, j < i → ¬ p j) : fi p n = i := by
  have h1 : ¬ i < fi p n := fun h => fi_no p n i h hp
  by_cases h2 : fi p n < i
  · exact absurd (fi_yes p n (by omega)) (hno _ h2)
  · omega
theorem fi_none {p : Nat → Prop} {n : Nat} (hno : ∀ j, j < n → ¬ p j) : fi p n = n := by
  have := fi_le p n
  by_cases h : fi p n < n
  · exact absurd (fi_yes p n h) (hno _ h)
  · omega
theorem fi_c {p q : Nat → Prop} : ∀ {n : Nat}, (∀ i, i < n → (p i ↔ q i)) → fi p n = fi q n
  | 0, _ => rfl
  | n + 1, h => by
    unfold fi
    rw [fi_c (fun i hi => h i (Nat.lt_succ_of_lt hi)), propext (h n (Nat.lt_succ_self n))]
/-- the last index below n with p -/
noncomputable def la (p : Nat → Prop) : Nat → Option Nat
  | 0 => none
  | n + 1 => @ite _ (p n) (Classical.propDecidable _) (some n) (la p n)
theorem la_c {p q : Nat → Prop} : ∀ {n : Nat}, (∀ i, i < n → (p i ↔ q i)) → la p n = la q n
  | 0, _ => rfl
  | n + 1, h => by
    unfold la
    rw [la_c (fun i hi => h i (Nat.lt_succ_of_lt hi)), propext (h n (Nat.lt_succ_self n))]
theorem la_lt {p : Nat → Prop} : ∀ {n i : Nat}, la p n = some i → i < n ∧ p i
  | 0, i, h => by cases h
  | n + 1, i, h => by
    unfold la at h
    by_cases h2 : p n
    · rw [if_pos h2] at h; cases h; exact ⟨Nat.lt_succ_self _, h2⟩
    · rw [if_neg h2] at h; have := la_lt h; exact ⟨Nat.lt_succ_of_lt this.1, this.2⟩
theorem la_y {p : Nat → Prop} {n : Nat} (h : p n) : la p (n + 1) = some n := if_pos h
theorem la_n {p : Nat → Prop} {n : Nat} (h : ¬ p n) : la p (n + 1) = la p n := if_neg h
/-- how many below n with p -/
noncomputable def cn (p : Nat → Prop) : Nat → Nat
  | 0 => 0
  | n + 1 => cn p n + @ite _ (p n) (Classical.propDecidable _) 1 0
theorem cn_c {p q : Nat → Prop} : ∀ {n : Nat}, (∀ i, i < n → (p i ↔ q i)) → cn p n = cn q n
  | 0, _ => rfl
  | n + 1, h => by
    unfold cn
    rw [cn_c (fun i hi => h i (Nat.lt_succ_of_lt hi)), propext (h n (Nat.lt_succ_self n))]
theorem cn_y {p : Nat → Prop} {n : Nat} (h : p n) : cn p (n + 1) = cn p n + 1 := by show cn p n + @ite _ (p n) (Classical.propDecidable _) 1 0 = _; rw [if_pos h]
theorem cn_n {p : Nat → Prop} {n : Nat} (h : ¬ p n) : cn p (n + 1) = cn p n := by show cn p n + @ite _ (p n) (Classical.propDecidable _) 1 0 = _; rw [if_neg h]; rfl
theorem cn_le (p : Nat → Prop) : ∀ n, cn p n ≤ n
  | 0 => Nat.le_refl _
  | n + 1 => by
    have := cn_le p n
    by_cases h : p n
    · rw [cn_y h]; omega
    · rw [cn_n h]; omega
theorem hk_b0 {P : Prop} [Decidable P] : ((if P then (1 : Int32) else 0) = 0) ↔ ¬ P := by by_cases h : P <;> simp [h]
theorem hk_dn {x : Int32} {n : Nat} (h0 : ¬ x < 0) (h1 : ¬ nI n ≤ x) (hn : n < 2 ^ 31) : ∃ i, i < n ∧ x = nI i := by
  obtain ⟨j, hj, rfl⟩ := nI_of h0
  rw [nI_leI hn hj] at h1
  exact ⟨j, Nat.not_le.mp h1, rfl⟩
def hk_Tb (T LIM W : Nat) : Prop := T + 1 < hk_C0 ∧ LIM * W < 2 ^ 31 ∧ (LIM < 2 ^ 31 ∧ W < 2 ^ 31) ∧ (∀ (L : Nat) (f : Nat → Int32), hk_ent L T f = .inr (6, [.int (nI LIM), .int (nI W), .ref (T + 1), .int (f 3)])) ∧ ∀ (L : Nat) (f : Nat → Int32), hk_ent L (T + 1) f = .inl (0, LIM * W, .inl f)
/-- what a table's cell is, asked at any place -/
def tg (m : Nat → Nat → Int32) (T W R : Nat) (r c : Int32) : Int32 := if ¬ r < 0 ∧ ¬ nI R ≤ r ∧ ¬ c < 0 ∧ ¬ nI W ≤ c then m (T + 1) (r.toNatClampNeg * W + c.toNatClampNeg) else -1
theorem tg_in {m : Nat → Nat → Int32} {T W R i j : Nat} (hR : R < 2 ^ 31) (hW : W < 2 ^ 31) (hi : i < R) (hj : j < W) : tg m T W R (nI i) (nI j) = m (T + 1) (i * W + j) := by
  have h1 : i < 2 ^ 31 := Nat.lt_trans hi hR
  have h2 : j < 2 ^ 31 := Nat.lt_trans hj hW
  unfold tg
  rw [if_pos ⟨nI_pos h1, nI_ge hi hR, nI_pos h2, nI_ge hj hW⟩, nI_clamp h1, nI_clamp h2]
theorem hk_cell {R LIM W : Nat} {r c : Int32} (h1 : ¬ r < 0) (h2 : ¬ nI R ≤ r) (h3 : ¬ c < 0) (h4 : ¬ nI W ≤ c) (hR : R ≤ LIM) (hL : LIM < 2 ^ 31) (hW : W < 2 ^ 31) (hLW : LIM * W < 2 ^ 31) :
    vp_in (r * nI W + c) (LIM * W) ∧ (r * nI W + c).toNatClampNeg = r.toNatClampNeg * W + c.toNatClampNeg := by
  obtain ⟨i, hi, rfl⟩ := hk_dn h1 h2 (Nat.lt_of_le_of_lt hR hL)
  obtain ⟨j, hj, rfl⟩ := hk_dn h3 h4 hW
  have hlt : i * W + j < LIM * W := by
    have : (i + 1) * W ≤ LIM * W := Nat.mul_le_mul_right _ (by omega)
    rw [Nat.succ_mul] at this
    omega
  rw [nI_mul, nI_add, nI_clamp (by omega), nI_clamp (by omega), nI_clamp (by omega)]
  exact ⟨vp_in_nI hlt hLW, rfl⟩
section TB
variable {L : Nat} {m : Nat → Nat → Int32} {T LIM W R : Nat}
set_option maxRecDepth 20000 in
set_option maxHeartbeats 2000000 in
theorem ct_has (hT : hk_Tb T LIM W) (hR : R ≤ LIM) (hm : m T 3 = nI R) (r : Int32) : hk_Cd MX6_has 0 0 0 [.ref T, .int r] (hk_h L m) (some (.int (bI (inR r R)))) (hk_h L m) := by
  refine hk_ofWP (by decide) (by simp [Value.category]) (Nat.le_of_ble_eq_true rfl) ?_
  show hk_WP _ _ _ _ _ _ _ [some (.ref T), some (.int r)] [] _ _
  refine hk_iload_n dX6_has_0 rfl rfl ?_
  refine hk_if_lt (tgt := 16) dX6_has_1 (by decide) (fun c1 => ?_) (fun c1 => ?_)
  · refine hk_iconst (v := 0) dX6_has_16 (by decide) ?_
    exact hk_ireturn dX6_has_17 rfl rfl (by decide) ⟨by first | exact bI_r1 (by grind) | exact bI_r0 (by grind), rfl⟩
  · refine hk_iload_n dX6_has_4 rfl rfl ?_
    refine hk_aload_n dX6_has_5 rfl rfl ?_
    refine gfX6_22 rfl dX6_has_6 (hk_lt (Nat.lt_of_succ_lt hT.1)) (hT.2.2.2.1 _ _) rfl ?_
    refine hk_icmp_ge (tgt := 16) dX6_has_9 (by decide) (fun c9 => ?_) (fun c9 => ?_)
    · rw [hm] at c9
      refine hk_iconst (v := 0) dX6_has_16 (by decide) ?_
      exact hk_ireturn dX6_has_17 rfl rfl (by decide) ⟨by first | exact bI_r1 (by grind) | exact bI_r0 (by grind), rfl⟩
    · rw [hm] at c9
      refine hk_iconst (v := 1) dX6_has_12 (by decide) ?_
      refine hk_goto (tgt := 17) dX6_has_13 (by decide) ?_
      exact hk_ireturn dX6_has_17 rfl rfl (by decide) ⟨by first | exact bI_r1 (by grind) | exact bI_r0 (by grind), rfl⟩
set_option maxRecDepth 20000 in
set_option maxHeartbeats 2000000 in
theorem ct_isFull (hT : hk_Tb T LIM W) (hR : R ≤ LIM) (hm : m T 3 = nI R) : hk_Cd MX6_isFull 0 0 0 [.ref T] (hk_h L m) (some (.int (if nI LIM ≤ nI R then 1 else 0))) (hk_h L m) := by
  refine hk_ofWP (by decide) (by simp [Value.category]) (Nat.le_of_ble_eq_true rfl) ?_
  show hk_WP _ _ _ _ _ _ _ [some (.ref T)] [] _ _
  refine hk_aload_n dX6_isFull_0 rfl rfl ?_
  refine gfX6_22 rfl dX6_isFull_1 (hk_lt (Nat.lt_of_succ_lt hT.1)) (hT.2.2.2.1 _ _) rfl ?_
  refine hk_aload_n dX6_isFull_4 rfl rfl ?_
  refine gfX6_9 rfl dX6_isFull_5 (hk_lt (Nat.lt_of_succ_lt hT.1)) (hT.2.2.2.1 _ _) rfl ?_
  refine hk_icmp_lt (tgt := 15) dX6_isFull_8 (by decide) (fun c8 => ?_) (fun c8 => ?_)
  · rw [hm] at c8
    refine hk_iconst (v := 0) dX6_isFull_15 (by decide) ?_
    exact hk_ireturn dX6_isFull_16 rfl rfl (by decide) ⟨by simp [c8], rfl⟩
  · rw [hm] at c8
    refine hk_iconst (v := 1) dX6_isFull_11 (by decide) ?_
    refine hk_goto (tgt := 16) dX6_isFull_12 (by decide) ?_
    exact hk_ireturn dX6_isFull_16 rfl rfl (by decide) ⟨by simp [c8], rfl⟩
set_option maxRecDepth 20000 in
set_option maxHeartbeats 2000000 in
theorem ct_get (hT : hk_Tb T LIM W) (hR : R ≤ LIM) (hm : m T 3 = nI R) (r c : Int32) : hk_Cd MX6_get 0 0 0 [.ref T, .int r, .int c] (hk_h L m) (some (.int (tg m T W R r c))) (hk_h L m) := by
  refine hk_ofWP (by decide) (by simp [Value.category]) (Nat.le_of_ble_eq_true rfl) ?_
  show hk_WP _ _ _ _ _ _ _ [some (.ref T), some (.int r), some (.int c), none] [] _ _
  refine hk_iload_n dX6_get_0 rfl rfl ?_
  refine hk_if_lt (tgt := 28) dX6_get_1 (by decide) (fun c1 => ?_) (fun c1 => ?_)
  · refine hk_iconst (v := 0) dX6_get_28 (by decide) ?_
    refine hk_istore_n dX6_get_29 rfl (by decide) rfl ?_
    refine hk_iload_n dX6_get_30 rfl rfl ?_
    refine hk_if_eq (tgt := 50) dX6_get_31 (by decide) (fun _ => ?_) (fun c31 => absurd (by decide) c31)
    refine hk_iconst (v := (-1)) dX6_get_50 (by decide) ?_
    exact hk_ireturn dX6_get_51 rfl rfl (by decide) ⟨by first | (simp [tg, c1, c9, c13, c21]; done) | (rw [(hk_cell c1 c9 c13 c21 hR hT.2.2.1.1 hT.2.2.1.2 hT.2.1).2]; simp [tg, c1, c9, c13, c21]; done) | simp [tg, c1, c9, c13] | simp [tg, c1, c9] | simp [tg, c1], rfl⟩
  · refine hk_iload_n dX6_get_4 rfl rfl ?_
    refine hk_aload_n dX6_get_5 rfl rfl ?_
    refine gfX6_22 rfl dX6_get_6 (hk_lt (Nat.lt_of_succ_lt hT.1)) (hT.2.2.2.1 _ _) rfl ?_
    refine hk_icmp_ge (tgt := 28) dX6_get_9 (by decide) (fun c9 => ?_) (fun c9 => ?_)
    · rw [hm] at c9
      refine hk_iconst (v := 0) dX6_get_28 (by decide) ?_
      refine hk_istore_n dX6_get_29 rfl (by decide) rfl ?_
      refine hk_iload_n dX6_get_30 rfl rfl ?_
      refine hk_if_eq (tgt := 50) dX6_get_31 (by decide) (fun _ => ?_) (fun c31 => absurd (by decide) c31)
      refine hk_iconst (v := (-1)) dX6_get_50 (by decide) ?_
      exact hk_ireturn dX6_get_51 rfl rfl (by decide) ⟨by first | (simp [tg, c1, c9, c13, c21]; done) | (rw [(hk_cell c1 c9 c13 c21 hR hT.2.2.1.1 hT.2.2.1.2 hT.2.1).2]; simp [tg, c1, c9, c13, c21]; done) | simp [tg, c1, c9, c13] | simp [tg, c1, c9] | simp [tg, c1], rfl⟩
    · rw [hm] at c9
      refine hk_iload_n dX6_get_12 rfl rfl ?_
      refine hk_if_lt (tgt := 28) dX6_get_13 (by decide) (fun c13 => ?_) (fun c13 => ?_)
      · refine hk_iconst (v := 0) dX6_get_28 (by decide) ?_
        refine hk_istore_n dX6_get_29 rfl (by decide) rfl ?_
        refine hk_iload_n dX6_get_30 rfl rfl ?_
        refine hk_if_eq (tgt := 50) dX6_get_31 (by decide) (fun _ => ?_) (fun c31 => absurd (by decide) c31)
        refine hk_iconst (v := (-1)) dX6_get_50 (by decide) ?_
        exact hk_ireturn dX6_get_51 rfl rfl (by decide) ⟨by first | (simp [tg, c1, c9, c13, c21]; done) | (rw [(hk_cell c1 c9 c13 c21 hR hT.2.2.1.1 hT.2.2.1.2 hT.2.1).2]; simp [tg, c1, c9, c13, c21]; done) | simp [tg, c1, c9, c13] | simp [tg, c1, c9] | simp [tg, c1], rfl⟩
      · refine hk_iload_n dX6_get_16 rfl rfl ?_
        refine hk_aload_n dX6_get_17 rfl rfl ?_
        refine gfX6_15 rfl dX6_get_18 (hk_lt (Nat.lt_of_succ_lt hT.1)) (hT.2.2.2.1 _ _) rfl ?_
        refine hk_icmp_ge (tgt := 28) dX6_get_21 (by decide) (fun c21 => ?_) (fun c21 => ?_)
        · refine hk_iconst (v := 0) dX6_get_28 (by decide) ?_
          refine hk_istore_n dX6_get_29 rfl (by decide) rfl ?_
          refine hk_iload_n dX6_get_30 rfl rfl ?_
          refine hk_if_eq (tgt := 50) dX6_get_31 (by decide) (fun _ => ?_) (fun c31 => absurd (by decide) c31)
          refine hk_iconst (v := (-1)) dX6_get_50 (by decide) ?_
          exact hk_ireturn dX6_get_51 rfl rfl (by decide) ⟨by first | (simp [tg, c1, c9, c13, c21]; done) | (rw [(hk_cell c1 c9 c13 c21 hR hT.2.2.1.1 hT.2.2.1.2 hT.2.1).2]; simp [tg, c1, c9, c13, c21]; done) | simp [tg, c1, c9, c13] | simp [tg, c1, c9] | simp [tg, c1], rfl⟩
        · refine hk_iconst (v := 1) dX6_get_24 (by decide) ?_
          refine hk_goto (tgt := 29) dX6_get_25 (by decide) ?_
          refine hk_istore_n dX6_get_29 rfl (by decide) rfl ?_
          refine hk_iload_n dX6_get_30 rfl rfl ?_
          refine hk_if_eq (tgt := 50) dX6_get_31 (by decide) (fun c31 => absurd c31 (by decide)) (fun _ => ?_)
          refine hk_aload_n dX6_get_34 rfl rfl ?_
          refine gfX6_18 rfl dX6_get_35 (hk_lt (Nat.lt_of_succ_lt hT.1)) (hT.2.2.2.1 _ _) rfl ?_
          refine hk_iload_n dX6_get_38 rfl rfl ?_
          refine hk_aload_n dX6_get_39 rfl rfl ?_
          refine gfX6_15 rfl dX6_get_40 (hk_lt (Nat.lt_of_succ_lt hT.1)) (hT.2.2.2.1 _ _) rfl ?_
          refine hk_imul dX6_get_43 ?_
          refine hk_iload_n dX6_get_44 rfl rfl ?_
          refine hk_iadd dX6_get_45 ?_
          refine hk_iaload dX6_get_46 (hk_lt hT.1) (hT.2.2.2.2 _ _) (hk_cell c1 c9 c13 c21 hR hT.2.2.1.1 hT.2.2.1.2 hT.2.1).1 ?_
          refine hk_goto (tgt := 51) dX6_get_47 (by decide) ?_
          exact hk_ireturn dX6_get_51 rfl rfl (by decide) ⟨by first | (simp [tg, c1, c9, c13, c21]; done) | (rw [(hk_cell c1 c9 c13 c21 hR hT.2.2.1.1 hT.2.2.1.2 hT.2.1).2]; simp [tg, c1, c9, c13, c21]; done) | simp [tg, c1, c9, c13] | simp [tg, c1, c9] | simp [tg, c1], rfl⟩
set_option maxRecDepth 20000 in
set_option maxHeartbeats 2000000 in
theorem ct_set_in (hT : hk_Tb T LIM W) (hR : R ≤ LIM) (hm : m T 3 = nI R) {i j : Nat} (hi : i < R) (hj : j < W) (x : Int32) : hk_Cd MX6_set 0 0 0 [.ref T, .int (nI i), .int (nI j), .int x] (hk_h L m) none (hk_h L (hk_w m (T + 1) (i * W + j) x)) := by
  have hRR : R < 2 ^ 31 := Nat.lt_of_le_of_lt hR hT.2.2.1.1
  have hi31 : i < 2 ^ 31 := by omega
  have hj31 : j < 2 ^ 31 := Nat.lt_trans hj hT.2.2.1.2
  have hc := hk_cell (nI_pos hi31) (nI_ge hi hRR) (nI_pos hj31) (nI_ge hj hT.2.2.1.2) hR hT.2.2.1.1 hT.2.2.1.2 hT.2.1
  rw [nI_clamp hi31, nI_clamp hj31] at hc
  refine hk_ofWP (by decide) (by simp [Value.category]) (Nat.le_of_ble_eq_true rfl) ?_
  show hk_WP _ _ _ _ _ _ _ [some (.ref T), some (.int (nI i)), some (.int (nI j)), some (.int x)] [] _ _
  refine hk_iload_n dX6_set_0 rfl rfl ?_
  refine hk_if_lt (tgt := 38) dX6_set_1 (by decide) (fun c1 => absurd c1 (nI_pos hi31)) (fun _ => ?_)
  refine hk_iload_n dX6_set_4 rfl rfl ?_
  refine hk_aload_n dX6_set_5 rfl rfl ?_
  refine gfX6_22 rfl dX6_set_6 (hk_lt (Nat.lt_of_succ_lt hT.1)) (hT.2.2.2.1 _ _) rfl ?_
  refine hk_icmp_ge (tgt := 38) dX6_set_9 (by decide) (fun c9 => absurd c9 (by rw [hm]; exact nI_ge hi hRR)) (fun _ => ?_)
  refine hk_iload_n dX6_set_12 rfl rfl ?_
  refine hk_if_lt (tgt := 38) dX6_set_13 (by decide) (fun c13 => absurd c13 (nI_pos hj31)) (fun _ => ?_)
  refine hk_iload_n dX6_set_16 rfl rfl ?_
  refine hk_aload_n dX6_set_17 rfl rfl ?_
  refine gfX6_15 rfl dX6_set_18 (hk_lt (Nat.lt_of_succ_lt hT.1)) (hT.2.2.2.1 _ _) rfl ?_
  refine hk_icmp_ge (tgt := 38) dX6_set_21 (by decide) (fun c21 => absurd c21 (nI_ge hj hT.2.2.1.2)) (fun _ => ?_)
  refine hk_aload_n dX6_set_24 rfl rfl ?_
  refine gfX6_18 rfl dX6_set_25 (hk_lt (Nat.lt_of_succ_lt hT.1)) (hT.2.2.2.1 _ _) rfl ?_
  refine hk_iload_n dX6_set_28 rfl rfl ?_
  refine hk_aload_n dX6_set_29 rfl rfl ?_
  refine gfX6_15 rfl dX6_set_30 (hk_lt (Nat.lt_of_succ_lt hT.1)) (hT.2.2.2.1 _ _) rfl ?_
  refine hk_imul dX6_set_33 ?_
  refine hk_iload_n dX6_set_34 rfl rfl ?_
  refine hk_iadd dX6_set_35 ?_
  refine hk_iload_n dX6_set_36 rfl rfl ?_
  refine hk_iastore dX6_set_37 (hk_lt hT.1) (hT.2.2.2.2 _ _) hc.1 (hk_st (hT.2.2.2.2 _ _) ?_)
  exact hk_return dX6_set_38 rfl (by decide) ⟨rfl, by rw [hc.2]⟩
set_option maxRecDepth 20000 in
set_option maxHeartbeats 2000000 in
theorem ct_set_out (hT : hk_Tb T LIM W) (hR : R ≤ LIM) (hm : m T 3 = nI R) {r : Int32} (hr : r < 0) (c x : Int32) : hk_Cd MX6_set 0 0 0 [.ref T, .int r, .int c, .int x] (hk_h L m) none (hk_h L m) := by
  refine hk_ofWP (by decide) (by simp [Value.category]) (Nat.le_of_ble_eq_true rfl) ?_
  show hk_WP _ _ _ _ _ _ _ [some (.ref T), some (.int r), some (.int c), some (.int x)] [] _ _
  refine hk_iload_n dX6_set_0 rfl rfl ?_
  refine hk_if_lt (tgt := 38) dX6_set_1 (by decide) (fun _ => ?_) (fun c1 => absurd hr c1)
  exact hk_return dX6_set_38 rfl (by decide) ⟨rfl, rfl⟩
set_option maxRecDepth 20000 in
set_option maxHeartbeats 2000000 in
theorem ct_add_full (hT : hk_Tb T LIM W) (hR : R ≤ LIM) (hm : m T 3 = nI R) (hf : R = LIM) : hk_Cd MX6_add 1 0 0 [.ref T] (hk_h L m) (some (.int (-2))) (hk_h L m) := by
  refine hk_ofWP (by decide) (by simp [Value.category]) (Nat.le_of_ble_eq_true rfl) ?_
  show hk_WP _ _ _ _ _ _ _ [some (.ref T)] [] _ _
  refine hk_aload_n dX6_add_0 rfl rfl ?_
  refine ivX6_29 rfl (ct_isFull hT hR hm) dX6_add_1 (hk_lt (Nat.lt_of_succ_lt hT.1)) (hT.2.2.2.1 _ _) rfl rfl (by decide) ⟨by decide, by decide⟩ (Nat.le_of_ble_eq_true rfl) (hk_kd ?_)
  refine hk_if_eq (tgt := 10) dX6_add_4 (by decide) (fun c4 => absurd c4 (by subst hf; rw [if_pos (by rw [nI_leI hT.2.2.1.1 hT.2.2.1.1]; exact Nat.le_refl _)]; decide)) (fun _ => ?_)
  refine hk_bipush (v := (-2)) dX6_add_7 (by decide) ?_
  exact hk_ireturn dX6_add_9 rfl rfl (by decide) ⟨rfl, rfl⟩
set_option maxRecDepth 20000 in
set_option maxHeartbeats 2000000 in
theorem ct_add (hT : hk_Tb T LIM W) (hR : R ≤ LIM) (hm : m T 3 = nI R) (hf : R < LIM) : hk_Cd MX6_add 1 0 0 [.ref T] (hk_h L m) (some (.int (nI R))) (hk_h L (hk_w m T 3 (nI (R + 1)))) := by
  refine hk_ofWP (by decide) (by simp [Value.category]) (Nat.le_of_ble_eq_true rfl) ?_
  show hk_WP _ _ _ _ _ _ _ [some (.ref T)] [] _ _
  refine hk_aload_n dX6_add_0 rfl rfl ?_
  refine ivX6_29 rfl (ct_isFull hT hR hm) dX6_add_1 (hk_lt (Nat.lt_of_succ_lt hT.1)) (hT.2.2.2.1 _ _) rfl rfl (by decide) ⟨by decide, by decide⟩ (Nat.le_of_ble_eq_true rfl) (hk_kd ?_)
  refine hk_if_eq (tgt := 10) dX6_add_4 (by decide) (fun _ => ?_) (fun c4 => absurd (by rw [if_neg (by rw [nI_leI hT.2.2.1.1 (by have := hT.2.2.1.1; omega)]; omega)]) c4)
  refine hk_aload_n dX6_add_10 rfl rfl ?_
  refine hk_dup dX6_add_11 rfl ?_
  refine gfX6_22 rfl dX6_add_12 (hk_lt (Nat.lt_of_succ_lt hT.1)) (hT.2.2.2.1 _ _) rfl ?_
  refine hk_iconst (v := 1) dX6_add_15 (by decide) ?_
  refine hk_iadd dX6_add_16 ?_
  refine pfX6_22 rfl dX6_add_17 (hk_lt (Nat.lt_of_succ_lt hT.1)) (hT.2.2.2.1 _ _) (Nat.le_of_ble_eq_true rfl) (hk_st (j := 3) (x := m T 3 + 1) ((hT.2.2.2.1 _ _).trans (by simp [upd])) ?_)
  rw [show m T 3 + 1 = nI (R + 1) by rw [hm]; exact nI_1 R]
  refine hk_aload_n dX6_add_20 rfl rfl ?_
  refine gfX6_22 rfl dX6_add_21 (hk_lt (Nat.lt_of_succ_lt hT.1)) (hT.2.2.2.1 _ _) rfl ?_
  refine hk_iconst (v := 1) dX6_add_24 (by decide) ?_
  refine hk_isub dX6_add_25 ?_
  exact hk_ireturn dX6_add_26 rfl rfl (by decide) ⟨by rw [hk_w_eq]; exact congrArg (fun z => some (Value.int z)) (nI_pred R), rfl⟩
set_option maxRecDepth 20000 in
set_option maxHeartbeats 2000000 in
theorem ct_isCell (hT : hk_Tb T LIM W) (hR : R ≤ LIM) (hm : m T 3 = nI R) (r c : Int32) : hk_Cd MX6_isCell 1 0 0 [.ref T, .int r, .int c] (hk_h L m) (some (.int (bI (inR r R ∧ inR c W)))) (hk_h L m) := by
  refine hk_ofWP (by decide) (by simp [Value.category]) (Nat.le_of_ble_eq_true rfl) ?_
  show hk_WP _ _ _ _ _ _ _ [some (.ref T), some (.int r), some (.int c)] [] _ _
  refine hk_aload_n dX6_isCell_0 rfl rfl ?_
  refine hk_iload_n dX6_isCell_1 rfl rfl ?_
  refine ivX6_25 rfl (ct_has hT hR hm r) dX6_isCell_2 (hk_lt (Nat.lt_of_succ_lt hT.1)) (hT.2.2.2.1 _ _) rfl rfl (by decide) ⟨by decide, by decide⟩ (Nat.le_of_ble_eq_true rfl) (hk_kd ?_)
  refine hk_if_eq (tgt := 24) dX6_isCell_5 (by decide) (fun c5 => ?_) (fun c5 => ?_)
  · rw [bI_0] at c5
    refine hk_iconst (v := 0) dX6_isCell_24 (by decide) ?_
    exact hk_ireturn dX6_isCell_25 rfl rfl (by decide) ⟨by first | exact bI_r1 (by grind) | exact bI_r0 (by grind), rfl⟩
  · rw [bI_0] at c5
    refine hk_iload_n dX6_isCell_8 rfl rfl ?_
    refine hk_if_lt (tgt := 24) dX6_isCell_9 (by decide) (fun c9 => ?_) (fun c9 => ?_)
    · refine hk_iconst (v := 0) dX6_isCell_24 (by decide) ?_
      exact hk_ireturn dX6_isCell_25 rfl rfl (by decide) ⟨by first | exact bI_r1 (by grind) | exact bI_r0 (by grind), rfl⟩
    · refine hk_iload_n dX6_isCell_12 rfl rfl ?_
      refine hk_aload_n dX6_isCell_13 rfl rfl ?_
      refine gfX6_15 rfl dX6_isCell_14 (hk_lt (Nat.lt_of_succ_lt hT.1)) (hT.2.2.2.1 _ _) rfl ?_
      refine hk_icmp_ge (tgt := 24) dX6_isCell_17 (by decide) (fun c17 => ?_) (fun c17 => ?_)
      · refine hk_iconst (v := 0) dX6_isCell_24 (by decide) ?_
        exact hk_ireturn dX6_isCell_25 rfl rfl (by decide) ⟨by first | exact bI_r1 (by grind) | exact bI_r0 (by grind), rfl⟩
      · refine hk_iconst (v := 1) dX6_isCell_20 (by decide) ?_
        refine hk_goto (tgt := 25) dX6_isCell_21 (by decide) ?_
        exact hk_ireturn dX6_isCell_25 rfl rfl (by decide) ⟨by first | exact bI_r1 (by grind) | exact bI_r0 (by grind), rfl⟩
theorem ct_geti (hT : hk_Tb T LIM W) (hR : R ≤ LIM) (hm : m T 3 = nI R) {A i j : Nat} (hA : A = T + 1) (hi : i < R) (hj : j < W) : hk_Cd MX6_get 0 0 0 [.ref T, .int (nI i), .int (nI j)] (hk_h L m) (some (.int (m A (i * W + j)))) (hk_h L m) := by
  have := ct_get (L := L) hT hR hm (nI i) (nI j)
  rw [tg_in (Nat.lt_of_le_of_lt hR hT.2.2.1.1) hT.2.2.1.2 hi hj] at this
  rw [hA]; exact this
theorem ct_seti (hT : hk_Tb T LIM W) (hR : R ≤ LIM) (hm : m T 3 = nI R) {A i j : Nat} (hA : A = T + 1) (hi : i < R) (hj : j < W) (x : Int32) : hk_Cd MX6_set 0 0 0 [.ref T, .int (nI i), .int (nI j), .int x] (hk_h L m) none (hk_h L (hk_w m A (i * W + j) x)) := by
  rw [hA]; exact ct_set_in hT hR hm hi hj x
end TB
theorem tb2 : hk_Tb 2 60 13 := ⟨by decide, by decide, ⟨by decide, by decide⟩, fun _ _ => rfl, fun _ _ => rfl⟩
theorem tb9 : hk_Tb 9 30 8 := ⟨by decide, by decide, ⟨by decide, by decide⟩, fun _ _ => rfl, fun _ _ => rfl⟩
theorem tb11 : hk_Tb 11 200 3 := ⟨by decide, by decide, ⟨by decide, by decide⟩, fun _ _ => rfl, fun _ _ => rfl⟩
theorem tb13 : hk_Tb 13 12 13 := ⟨by decide, by decide, ⟨by decide, by decide⟩, fun _ _ => rfl, fun _ _ => rfl⟩
theorem tb23 : hk_Tb 23 300 13 := ⟨by decide, by decide, ⟨by decide, by decide⟩, fun _ _ => rfl, fun _ _ => rfl⟩
theorem tb25 : hk_Tb 25 1 13 := ⟨by decide, by decide, ⟨by decide, by decide⟩, fun _ _ => rfl, fun _ _ => rfl⟩
theorem tb27 : hk_Tb 27 300 4 := ⟨by decide, by decide, ⟨by decide, by decide⟩, fun _ _ => rfl, fun _ _ => rfl⟩
theorem tb30 : hk_Tb 30 300 2 := ⟨by decide, by decide, ⟨by decide, by decide⟩, fun _ _ => rfl, fun _ _ => rfl⟩
theorem tb33 : hk_Tb 33 60 4 := ⟨by decide, by decide, ⟨by decide, by decide⟩, fun _ _ => rfl, fun _ _ => rfl⟩
theorem tb35 : hk_Tb 35 60 3 := ⟨by decide, by decide, ⟨by decide, by decide⟩, fun _ _ => rfl, fun _ _ => rfl⟩
