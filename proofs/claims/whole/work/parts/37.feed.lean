/-! feed -/
section OIx
variable {L : Nat} {m m0 m1 m2 : Nat → Nat → Int32} {z : Nat → Nat}
def byt (v : Int32) (i : Nat) : Int32 := (v >>> ((8 * nI i) &&& 31)) &&& 255
theorem and255 (x : Int32) : ∃ b : Nat, b < 256 ∧ x &&& 255 = nI b := by
  refine ⟨(x &&& 255).toBitVec.toNat, ?_, ?_⟩
  · have : (x &&& 255).toBitVec = x.toBitVec &&& 255#32 := rfl
    rw [this, BitVec.toNat_and]
    have h : x.toBitVec.toNat &&& (255#32).toNat ≤ (255#32).toNat := Nat.and_le_right
    have h2 : (255#32).toNat = 255 := rfl
    omega
  · show _ = Int32.ofNat _
    apply Int32.toBitVec_inj.mp
    show _ = BitVec.ofNat 32 _
    rw [BitVec.ofNat_toNat, BitVec.setWidth_eq]
/-- k bytes of v stand behind the first n of row A -/
def TW (m m1 : Nat → Nat → Int32) (A n k : Nat) (v : Int32) : Prop := (∀ j, j < n → m1 A j = m A j) ∧ ∀ i, i < k → m1 A (n + i) = byt v i
theorem TW.s {A n k : Nat} {v : Int32} (h : TW m m1 A n k v) : TW m (hk_w m1 A (n + k) (byt v k)) A n (k + 1) v := by
  refine ⟨fun j hj => ?_, fun i hi => ?_⟩
  · rw [hk_w_off (by omega)]; exact h.1 j hj
  · by_cases e : i = k
    · subst e; exact hk_w_eq
    · rw [hk_w_off (by omega)]; exact h.2 i (by omega)
theorem TW.o {A B n k j : Nat} {v x : Int32} (h : TW m m1 A n k v) (hB : A ≠ B) : TW m (hk_w m1 B j x) A n k v := ⟨fun j hj => by rw [hk_w_ne hB]; exact h.1 j hj, fun i hi => by rw [hk_w_ne hB]; exact h.2 i hi⟩
theorem TW.g {n k : Nat} {v : Int32} (h : TW m m1 17 n k v) (h2 : TW m m2 66 n k v) (g : GTape n (m 17) (m 66)) : GTape (n + k) (m1 17) (m2 66) := by
  intro j hj
  by_cases hn : j < n
  · obtain ⟨q1, q2⟩ := g j hn
    rw [h.1 j hn, h2.1 j hn]
    exact ⟨q1, q2⟩
  · have e : j = n + (j - n) := by omega
    rw [e, h.2 _ (by omega), h2.2 _ (by omega)]
    exact ⟨rfl, and255 _⟩
set_option maxRecDepth 20000 in
set_option maxHeartbeats 2000000 in
theorem lp_addBytes {n : Nat} (hn : m 16 2 = nI n) {k : Nat} (hk : n + k ≤ 160) (v : Int32) (i : Nat) (hi : i ≤ k) (m1 : Nat → Nat → Int32) (s : (∀ a, a ≠ 17 → m1 a = m a) ∧ TW m m1 17 n i v) : hk_WP MX5_addBytes 0 0 0 0 0 21 [some (.ref 16), some (.int (nI k)), some (.int v), some (.int (nI i))] [] (hk_h L m1) (fun r h => ∃ m2, r = some (.int (nI (n + k))) ∧ h = hk_h L m2 ∧ (∀ a, a ≠ 16 → a ≠ 17 → m2 a = m a) ∧ m2 16 2 = nI (n + k) ∧ TW m m2 17 n k v) := by
  have e0 : m1 16 2 = nI n := by rw [s.1 16 (by decide)]; exact hn
  refine hk_iload_n dX5_addBytes_21 rfl rfl ?_
  refine hk_iload_n dX5_addBytes_22 rfl rfl ?_
  refine hk_icmp_ge (tgt := 53) dX5_addBytes_23 (by decide) (fun c23 => ?_) (fun c23 => ?_)
  · rw [nI_leI (by omega) (by omega)] at c23
    have eik : i = k := by omega
    subst eik
    refine hk_aload_n dX5_addBytes_53 rfl rfl ?_
    refine hk_dup dX5_addBytes_54 rfl ?_
    refine gfX5_18 rfl dX5_addBytes_55 (hk_lt (by decide)) rfl rfl ?_
    refine hk_iload_n dX5_addBytes_58 rfl rfl ?_
    refine hk_iadd dX5_addBytes_59 ?_
    refine pfX5_18 rfl dX5_addBytes_60 (hk_lt (by decide)) rfl (Nat.le_of_ble_eq_true rfl) (hk_st (j := 2) rfl ?_)
    rw [show m1 16 2 + nI i = nI (n + i) by rw [e0, nI_add]]
    refine hk_aload_n dX5_addBytes_63 rfl rfl ?_
    refine gfX5_18 rfl dX5_addBytes_64 (hk_lt (by decide)) rfl rfl ?_
    exact hk_ireturn dX5_addBytes_67 rfl rfl (by decide) ⟨_, by rw [hk_w_eq], rfl, fun a h1 h2 => by rw [hk_wo h1]; exact s.1 a h2, hk_w_eq, s.2.o (by decide)⟩
  · rw [nI_leI (by omega) (by omega)] at c23
    refine hk_aload_n dX5_addBytes_26 rfl rfl ?_
    refine gfX5_11 rfl dX5_addBytes_27 (hk_lt (by decide)) rfl rfl ?_
    refine hk_aload_n dX5_addBytes_30 rfl rfl ?_
    refine gfX5_18 rfl dX5_addBytes_31 (hk_lt (by decide)) rfl rfl ?_
    refine hk_iload_n dX5_addBytes_34 rfl rfl ?_
    refine hk_iadd dX5_addBytes_35 ?_
    refine hk_iload_n dX5_addBytes_36 rfl rfl ?_
    refine hk_bipush (v := 8) dX5_addBytes_37 (by decide) ?_
    refine hk_iload_n dX5_addBytes_39 rfl rfl ?_
    refine hk_imul dX5_addBytes_40 ?_
    refine hk_ishr dX5_addBytes_41 ?_
    refine hk_sipush (v := 255) dX5_addBytes_42 (by decide) ?_
    refine hk_iand dX5_addBytes_45 ?_
    refine hk_isn dX5_addBytes_46 (by decide) (fun _ => rfl) (by rw [e0, nI_add]) (by omega) (by decide) ?_
    refine hk_iinc (v := nI (i + 1)) dX5_addBytes_47 rfl (nI_1 i) (by decide) rfl ?_
    refine hk_goto (tgt := 21) dX5_addBytes_50 (by decide) ?_
    have hlt : i < k := by omega
    exact lp_addBytes hn hk v (i + 1) (by omega) (hk_w m1 17 (n + i) (byt v i)) ⟨fun a ha => by rw [hk_wo ha]; exact s.1 a ha, s.2.s⟩
termination_by k - i
decreasing_by all_goals omega
set_option maxRecDepth 20000 in
set_option maxHeartbeats 2000000 in
theorem ct_addBytes {n : Nat} (hn : m 16 2 = nI n) {k : Nat} (hk : n + k ≤ 160) (v : Int32) : hk_Ct MX5_addBytes 0 0 0 [.ref 16, .int (nI k), .int v] (hk_h L m) (fun r h => ∃ m2, r = some (.int (nI (n + k))) ∧ h = hk_h L m2 ∧ (∀ a, a ≠ 16 → a ≠ 17 → m2 a = m a) ∧ m2 16 2 = nI (n + k) ∧ TW m m2 17 n k v) := by
  refine hk_ofWP (by decide) (by simp [Value.category]) (Nat.le_of_ble_eq_true rfl) ?_
  show hk_WP _ _ _ _ _ _ _ [some (.ref 16), some (.int (nI k)), some (.int v), none] [] _ _
  refine hk_iload_n dX5_addBytes_0 rfl rfl ?_
  refine hk_if_lt (tgt := 16) dX5_addBytes_1 (by decide) (fun c1 => absurd c1 (nI_pos (by omega))) (fun _ => ?_)
  refine hk_aload_n dX5_addBytes_4 rfl rfl ?_
  refine gfX5_18 rfl dX5_addBytes_5 (hk_lt (by decide)) rfl rfl ?_
  refine hk_iload_n dX5_addBytes_8 rfl rfl ?_
  refine hk_iadd dX5_addBytes_9 ?_
  refine hk_sipush (v := 160) dX5_addBytes_10 (by decide) ?_
  refine hk_icmp_le (tgt := 19) dX5_addBytes_13 (by decide) (fun _ => ?_) (fun c13 => absurd (by rw [hn, nI_add, show (160 : Int32) = nI 160 from rfl, nI_leI (by omega) (by decide)]; exact hk) c13)
  refine hk_iconst (v := 0) dX5_addBytes_19 (by decide) ?_
  refine hk_istore_n dX5_addBytes_20 rfl (by decide) rfl ?_
  exact lp_addBytes hn hk v 0 (Nat.zero_le _) m ⟨fun _ _ => rfl, fun _ _ => rfl, fun i hi => absurd hi (Nat.not_lt_zero _)⟩
set_option maxRecDepth 20000 in
set_option maxHeartbeats 2000000 in
theorem ct_addBytes_full {n : Nat} (hn : m 16 2 = nI n) {k : Nat} (hn2 : n ≤ 160) (hk4 : k ≤ 4) (hk : ¬ n + k ≤ 160) (v : Int32) : hk_Cd MX5_addBytes 0 0 0 [.ref 16, .int (nI k), .int v] (hk_h L m) (some (.int (-2))) (hk_h L m) := by
  refine hk_ofWP (by decide) (by simp [Value.category]) (Nat.le_of_ble_eq_true rfl) ?_
  show hk_WP _ _ _ _ _ _ _ [some (.ref 16), some (.int (nI k)), some (.int v), none] [] _ _
  refine hk_iload_n dX5_addBytes_0 rfl rfl ?_
  refine hk_if_lt (tgt := 16) dX5_addBytes_1 (by decide) (fun c1 => absurd c1 (nI_pos (by omega))) (fun _ => ?_)
  refine hk_aload_n dX5_addBytes_4 rfl rfl ?_
  refine gfX5_18 rfl dX5_addBytes_5 (hk_lt (by decide)) rfl rfl ?_
  refine hk_iload_n dX5_addBytes_8 rfl rfl ?_
  refine hk_iadd dX5_addBytes_9 ?_
  refine hk_sipush (v := 160) dX5_addBytes_10 (by decide) ?_
  refine hk_icmp_le (tgt := 19) dX5_addBytes_13 (by decide) (fun c13 => absurd c13 (by rw [hn, nI_add, show (160 : Int32) = nI 160 from rfl, nI_leI (by omega) (by decide)]; exact hk)) (fun _ => ?_)
  refine hk_bipush (v := (-2)) dX5_addBytes_16 (by decide) ?_
  exact hk_ireturn dX5_addBytes_18 rfl rfl (by decide) ⟨rfl, rfl⟩
set_option maxRecDepth 20000 in
set_option maxHeartbeats 2000000 in
theorem ct_feed {n : Nat} (hn : m 16 2 = nI n) {k : Nat} (h1 : 1 ≤ k) (h4 : k ≤ 4) (hk : n + k ≤ 160) (v : Int32) : hk_Ct MX9_feed 1 0 0 [.ref 0, .int (nI k), .int v] (hk_h L m) (fun r h => ∃ m2, r = some (.int (nI (n + k))) ∧ h = hk_h L m2 ∧ (∀ a, a ≠ 16 → a ≠ 17 → m2 a = m a) ∧ m2 16 2 = nI (n + k) ∧ TW m m2 17 n k v) := by
  refine hk_ofWP (by decide) (by simp [Value.category]) (Nat.le_of_ble_eq_true rfl) ?_
  show hk_WP _ _ _ _ _ _ _ [some (.ref 0), some (.int (nI k)), some (.int v)] [] _ _
  refine hk_iload_n dX9_feed_0 rfl rfl ?_
  refine hk_iconst (v := 1) dX9_feed_1 (by decide) ?_
  refine hk_icmp_lt (tgt := 10) dX9_feed_2 (by decide) (fun c2 => absurd c2 (by rw [show (1 : Int32) = nI 1 from rfl, nI_ltI (by omega) (by decide)]; omega)) (fun _ => ?_)
  refine hk_iload_n dX9_feed_5 rfl rfl ?_
  refine hk_iconst (v := 4) dX9_feed_6 (by decide) ?_
  refine hk_icmp_le (tgt := 12) dX9_feed_7 (by decide) (fun _ => ?_) (fun c7 => absurd (by rw [show (4 : Int32) = nI 4 from rfl, nI_leI (by omega) (by decide)]; exact h4) c7)
  refine hk_aload_n dX9_feed_12 rfl rfl ?_
  refine gfX9_30 rfl dX9_feed_13 (hk_lt (by decide)) rfl rfl ?_
  refine gfX9_172 rfl dX9_feed_16 (hk_lt (by decide)) rfl rfl ?_
  refine hk_iload_n dX9_feed_19 rfl rfl ?_
  refine hk_iload_n dX9_feed_20 rfl rfl ?_
  refine ivX9_176 rfl (ct_addBytes hn hk v) dX9_feed_21 (hk_lt (by decide)) rfl rfl rfl (by decide) ⟨by decide, by decide⟩ (Nat.le_of_ble_eq_true rfl) (fun r h1 hq => ?_)
  obtain ⟨m3, rfl, rfl, q1, q2, q3⟩ := hq
  exact hk_ireturn dX9_feed_24 rfl rfl (by decide) ⟨m3, rfl, rfl, q1, q2, q3⟩
set_option maxRecDepth 20000 in
set_option maxHeartbeats 2000000 in
theorem ct_feed_full {n : Nat} (hn : m 16 2 = nI n) {k : Nat} (h1 : 1 ≤ k) (h4 : k ≤ 4) (hn2 : n ≤ 160) (hk : ¬ n + k ≤ 160) (v : Int32) : hk_Cd MX9_feed 1 0 0 [.ref 0, .int (nI k), .int v] (hk_h L m) (some (.int (-2))) (hk_h L m) := by
  refine hk_ofWP (by decide) (by simp [Value.category]) (Nat.le_of_ble_eq_true rfl) ?_
  show hk_WP _ _ _ _ _ _ _ [some (.ref 0), some (.int (nI k)), some (.int v)] [] _ _
  refine hk_iload_n dX9_feed_0 rfl rfl ?_
  refine hk_iconst (v := 1) dX9_feed_1 (by decide) ?_
  refine hk_icmp_lt (tgt := 10) dX9_feed_2 (by decide) (fun c2 => absurd c2 (by rw [show (1 : Int32) = nI 1 from rfl, nI_ltI (by omega) (by decide)]; omega)) (fun _ => ?_)
  refine hk_iload_n dX9_feed_5 rfl rfl ?_
  refine hk_iconst (v := 4) dX9_feed_6 (by decide) ?_
  refine hk_icmp_le (tgt := 12) dX9_feed_7 (by decide) (fun _ => ?_) (fun c7 => absurd (by rw [show (4 : Int32) = nI 4 from rfl, nI_leI (by omega) (by decide)]; exact h4) c7)
  refine hk_aload_n dX9_feed_12 rfl rfl ?_
  refine gfX9_30 rfl dX9_feed_13 (hk_lt (by decide)) rfl rfl ?_
  refine gfX9_172 rfl dX9_feed_16 (hk_lt (by decide)) rfl rfl ?_
  refine hk_iload_n dX9_feed_19 rfl rfl ?_
  refine hk_iload_n dX9_feed_20 rfl rfl ?_
  refine ivX9_176 rfl (ct_addBytes_full hn hn2 h4 hk v) dX9_feed_21 (hk_lt (by decide)) rfl rfl rfl (by decide) ⟨by decide, by decide⟩ (Nat.le_of_ble_eq_true rfl) (hk_kd ?_)
  exact hk_ireturn dX9_feed_24 rfl rfl (by decide) ⟨rfl, rfl⟩
set_option maxRecDepth 20000 in
set_option maxHeartbeats 2000000 in
theorem ct_feed_no (k v : Int32) (h : ¬ (¬ k < 1 ∧ ¬ 4 < k)) : hk_Cd MX9_feed 1 0 0 [.ref 0, .int k, .int v] (hk_h L m) (some (.int (-1))) (hk_h L m) := by
  refine hk_ofWP (by decide) (by simp [Value.category]) (Nat.le_of_ble_eq_true rfl) ?_
  show hk_WP _ _ _ _ _ _ _ [some (.ref 0), some (.int k), some (.int v)] [] _ _
  refine hk_iload_n dX9_feed_0 rfl rfl ?_
  refine hk_iconst (v := 1) dX9_feed_1 (by decide) ?_
  refine hk_icmp_lt (tgt := 10) dX9_feed_2 (by decide) (fun c2 => ?_) (fun c2 => ?_)
  · refine hk_iconst (v := (-1)) dX9_feed_10 (by decide) ?_
    exact hk_ireturn dX9_feed_11 rfl rfl (by decide) ⟨rfl, rfl⟩
  · refine hk_iload_n dX9_feed_5 rfl rfl ?_
    refine hk_iconst (v := 4) dX9_feed_6 (by decide) ?_
    refine hk_icmp_le (tgt := 12) dX9_feed_7 (by decide) (fun c7 => ?_) (fun c7 => ?_)
    · exact absurd ⟨c2, Int32.not_lt.mpr c7⟩ h
    · refine hk_iconst (v := (-1)) dX9_feed_10 (by decide) ?_
      exact hk_ireturn dX9_feed_11 rfl rfl (by decide) ⟨rfl, rfl⟩
set_option maxRecDepth 20000 in
set_option maxHeartbeats 2000000 in
theorem lp_mfeed {n : Nat} (hn : m 37 37 = nI n) {k : Nat} (hk : n + k ≤ 160) (v : Int32) (i : Nat) (hi : i ≤ k) (m1 : Nat → Nat → Int32) (s : (∀ a, a ≠ 37 → a ≠ 66 → m1 a = m a) ∧ (∀ j, j ≠ 37 → m1 37 j = m 37 j) ∧ m1 37 37 = nI (n + i) ∧ TW m m1 66 n i v) : hk_WP MX10_feed 1 0 0 0 0 28 [some (.ref 37), some (.int (nI k)), some (.int v), some (.int (nI i))] [] (hk_h L m1) (fun r h => ∃ m1, r = some (.int (nI (n + k))) ∧ h = hk_h L m1 ∧ (∀ a, a ≠ 37 → a ≠ 66 → m1 a = m a) ∧ (∀ j, j ≠ 37 → m1 37 j = m 37 j) ∧ m1 37 37 = nI (n + k) ∧ TW m m1 66 n k v) := by
  obtain ⟨s1, s2, s3, s4⟩ := id s
  refine hk_iload_n dX10_feed_28 rfl rfl ?_
  refine hk_iload_n dX10_feed_29 rfl rfl ?_
  refine hk_icmp_ge (tgt := 68) dX10_feed_30 (by decide) (fun c30 => ?_) (fun c30 => ?_)
  · rw [nI_leI (by omega) (by omega)] at c30
    have eik : i = k := by omega
    subst eik
    refine hk_aload_n dX10_feed_68 rfl rfl ?_
    refine gfX10_293 rfl dX10_feed_69 (hk_lt (by decide)) rfl rfl ?_
    exact hk_ireturn dX10_feed_72 rfl rfl (by decide) ⟨m1, by rw [s3], rfl, s⟩
  · rw [nI_leI (by omega) (by omega)] at c30
    refine hk_aload_n dX10_feed_33 rfl rfl ?_
    refine gfX10_94 rfl dX10_feed_34 (hk_lt (by decide)) rfl rfl ?_
    refine hk_aload_n dX10_feed_37 rfl rfl ?_
    refine gfX10_293 rfl dX10_feed_38 (hk_lt (by decide)) rfl rfl ?_
    refine hk_iload_n dX10_feed_41 rfl rfl ?_
    refine hk_bipush (v := 8) dX10_feed_42 (by decide) ?_
    refine hk_iload_n dX10_feed_44 rfl rfl ?_
    refine hk_imul dX10_feed_45 ?_
    refine hk_ishr dX10_feed_46 ?_
    refine hk_sipush (v := 255) dX10_feed_47 (by decide) ?_
    refine hk_iand dX10_feed_50 ?_
    refine hk_isn dX10_feed_51 (by decide) (fun _ => rfl) s3 (by omega) (by decide) ?_
    refine hk_aload_n dX10_feed_52 rfl rfl ?_
    refine hk_dup dX10_feed_53 rfl ?_
    refine gfX10_293 rfl dX10_feed_54 (hk_lt (by decide)) rfl rfl ?_
    refine hk_iconst (v := 1) dX10_feed_57 (by decide) ?_
    refine hk_iadd dX10_feed_58 ?_
    refine pfX10_293 rfl dX10_feed_59 (hk_lt (by decide)) rfl (Nat.le_of_ble_eq_true rfl) (hk_st (j := 37) rfl ?_)
    rw [show hk_w m1 66 (n + i) (v >>> (8 * nI i &&& 31) &&& 255) 37 37 + 1 = nI (n + (i + 1)) by rw [hk_w_ne (by decide), s3, nI_1]; congr 1]
    refine hk_iinc (v := nI (i + 1)) dX10_feed_62 rfl (nI_1 i) (by decide) rfl ?_
    refine hk_goto (tgt := 28) dX10_feed_65 (by decide) ?_
    have hlt : i < k := by omega
    exact lp_mfeed hn hk v (i + 1) (by omega) _ ⟨fun a h1 h2 => by rw [hk_wo h1, hk_wo h2]; exact s1 a h1 h2, fun j hj => by rw [hk_w_off hj, hk_w_ne (by decide)]; exact s2 j hj, hk_w_eq, s4.s.o (by decide)⟩
termination_by k - i
decreasing_by all_goals omega
set_option maxRecDepth 20000 in
set_option maxHeartbeats 2000000 in
theorem md_feed {n : Nat} (hn : m 37 37 = nI n) {k : Nat} (h1 : 1 ≤ k) (h4 : k ≤ 4) (hk : n + k ≤ 160) (v : Int32) : hk_Ct MX10_feed 1 0 0 [.ref 37, .int (nI k), .int v] (hk_h L m) (fun r h => ∃ m1, r = some (.int (nI (n + k))) ∧ h = hk_h L m1 ∧ (∀ a, a ≠ 37 → a ≠ 66 → m1 a = m a) ∧ (∀ j, j ≠ 37 → m1 37 j = m 37 j) ∧ m1 37 37 = nI (n + k) ∧ TW m m1 66 n k v) := by
  refine hk_ofWP (by decide) (by simp [Value.category]) (Nat.le_of_ble_eq_true rfl) ?_
  show hk_WP _ _ _ _ _ _ _ [some (.ref 37), some (.int (nI k)), some (.int v), none] [] _ _
  refine hk_iload_n dX10_feed_0 rfl rfl ?_
  refine hk_iconst (v := 1) dX10_feed_1 (by decide) ?_
  refine hk_iconst (v := 4) dX10_feed_2 (by decide) ?_
  refine ivX10_208 rfl (ct_within (nI k) 1 4) dX10_feed_3 rfl rfl (by decide) ⟨by decide, by decide⟩ (Nat.le_of_ble_eq_true rfl) (hk_kd ?_)
  refine hk_if_ne (tgt := 11) dX10_feed_6 (by decide) (fun _ => ?_) (fun c6 => absurd c6 (fun e => bI_0.mp e ⟨by rw [show (1 : Int32) = nI 1 from rfl, nI_ltI (by omega) (by decide)]; omega, by rw [show (4 : Int32) = nI 4 from rfl, nI_ltI (by decide) (by omega)]; omega⟩))
  refine hk_aload_n dX10_feed_11 rfl rfl ?_
  refine gfX10_293 rfl dX10_feed_12 (hk_lt (by decide)) rfl rfl ?_
  refine hk_iload_n dX10_feed_15 rfl rfl ?_
  refine hk_iadd dX10_feed_16 ?_
  refine hk_sipush (v := 160) dX10_feed_17 (by decide) ?_
  refine hk_icmp_le (tgt := 26) dX10_feed_20 (by decide) (fun _ => ?_) (fun c20 => absurd (by rw [hn, nI_add, show (160 : Int32) = nI 160 from rfl, nI_leI (by omega) (by decide)]; exact hk) c20)
  refine hk_iconst (v := 0) dX10_feed_26 (by decide) ?_
  refine hk_istore_n dX10_feed_27 rfl (by decide) rfl ?_
  exact lp_mfeed hn hk v 0 (Nat.zero_le _) m ⟨fun _ _ _ => rfl, fun _ _ => rfl, hn, fun _ _ => rfl, fun i hi => absurd hi (Nat.not_lt_zero _)⟩
set_option maxRecDepth 20000 in
set_option maxHeartbeats 2000000 in
theorem md_feed_full {n : Nat} (hn : m 37 37 = nI n) {k : Nat} (h1 : 1 ≤ k) (h4 : k ≤ 4) (hn2 : n ≤ 160) (hk : ¬ n + k ≤ 160) (v : Int32) : hk_Cd MX10_feed 1 0 0 [.ref 37, .int (nI k), .int v] (hk_h L m) (some (.int (-2))) (hk_h L m) := by
  refine hk_ofWP (by decide) (by simp [Value.category]) (Nat.le_of_ble_eq_true rfl) ?_
  show hk_WP _ _ _ _ _ _ _ [some (.ref 37), some (.int (nI k)), some (.int v), none] [] _ _
  refine hk_iload_n dX10_feed_0 rfl rfl ?_
  refine hk_iconst (v := 1) dX10_feed_1 (by decide) ?_
  refine hk_iconst (v := 4) dX10_feed_2 (by decide) ?_
  refine ivX10_208 rfl (ct_within (nI k) 1 4) dX10_feed_3 rfl rfl (by decide) ⟨by decide, by decide⟩ (Nat.le_of_ble_eq_true rfl) (hk_kd ?_)
  refine hk_if_ne (tgt := 11) dX10_feed_6 (by decide) (fun _ => ?_) (fun c6 => absurd c6 (fun e => bI_0.mp e ⟨by rw [show (1 : Int32) = nI 1 from rfl, nI_ltI (by omega) (by decide)]; omega, by rw [show (4 : Int32) = nI 4 from rfl, nI_ltI (by decide) (by omega)]; omega⟩))
  refine hk_aload_n dX10_feed_11 rfl rfl ?_
  refine gfX10_293 rfl dX10_feed_12 (hk_lt (by decide)) rfl rfl ?_
  refine hk_iload_n dX10_feed_15 rfl rfl ?_
  refine hk_iadd dX10_feed_16 ?_
  refine hk_sipush (v := 160) dX10_feed_17 (by decide) ?_
  refine hk_icmp_le (tgt := 26) dX10_feed_20 (by decide) (fun c20 => absurd c20 (by rw [hn, nI_add, show (160 : Int32) = nI 160 from rfl, nI_leI (by omega) (by decide)]; exact hk)) (fun _ => ?_)
  refine hk_bipush (v := (-2)) dX10_feed_23 (by decide) ?_
  exact hk_ireturn dX10_feed_25 rfl rfl (by decide) ⟨rfl, rfl⟩
set_option maxRecDepth 20000 in
set_option maxHeartbeats 2000000 in
theorem md_feed_no (k v : Int32) (h : ¬ (¬ k < 1 ∧ ¬ 4 < k)) : hk_Cd MX10_feed 1 0 0 [.ref 37, .int k, .int v] (hk_h L m) (some (.int (-1))) (hk_h L m) := by
  refine hk_ofWP (by decide) (by simp [Value.category]) (Nat.le_of_ble_eq_true rfl) ?_
  show hk_WP _ _ _ _ _ _ _ [some (.ref 37), some (.int k), some (.int v), none] [] _ _
  refine hk_iload_n dX10_feed_0 rfl rfl ?_
  refine hk_iconst (v := 1) dX10_feed_1 (by decide) ?_
  refine hk_iconst (v := 4) dX10_feed_2 (by decide) ?_
  refine ivX10_208 rfl (ct_within k 1 4) dX10_feed_3 rfl rfl (by decide) ⟨by decide, by decide⟩ (Nat.le_of_ble_eq_true rfl) (hk_kd ?_)
  refine hk_if_ne (tgt := 11) dX10_feed_6 (by decide) (fun c6 => absurd (bI_0.mpr h) c6) (fun _ => ?_)
  refine hk_iconst (v := (-1)) dX10_feed_9 (by decide) ?_
  exact hk_ireturn dX10_feed_10 rfl rfl (by decide) ⟨rfl, rfl⟩
/-- tape and its length alone are changed -/
theorem Inv_tape {k : Nat} (hI : Inv L z m) (h1 : ∀ a, a ≠ 16 → a ≠ 17 → a ≠ 37 → a ≠ 66 → m1 a = m a) (h2 : ∀ j, j ≠ 37 → m1 37 j = m 37 j) (h3 : m1 16 2 = nI k) (h4 : m1 37 37 = nI k) (hk : k ≤ 160) (g : GTape k (m1 17) (m1 66)) : Inv L (up z 9 k) m1 := by
  obtain ⟨g0, ⟨a, b, c⟩, g2, g3, g4, g5, g6, g7, g8, g9, g10, g11, g12, g13, g14⟩ := hI
  have e : ∀ a, a ≠ 16 → a ≠ 17 → a ≠ 37 → a ≠ 66 → m1 a = m a := h1
  have u : ∀ j, j ≠ 9 → up z 9 k j = z j := fun j hj => if_neg hj
  have u9 : up z 9 k 9 = k := if_pos rfl
  refine ⟨by rw [u 4 (by decide)]; exact g0, ⟨?_, ?_, ?_⟩, ?_, ?_, ?_, ?_, ?_, ?_, by rw [u9]; exact g, ?_, ?_, ?_, ?_, ?_, ?_⟩
  · rw [h3, u9]
    rw [e 1 (by decide) (by decide) (by decide) (by decide), e 2 (by decide) (by decide) (by decide) (by decide), e 9 (by decide) (by decide) (by decide) (by decide), e 13 (by decide) (by decide) (by decide) (by decide), e 15 (by decide) (by decide) (by decide) (by decide), e 23 (by decide) (by decide) (by decide) (by decide), e 27 (by decide) (by decide) (by decide) (by decide), e 30 (by decide) (by decide) (by decide) (by decide), e 0 (by decide) (by decide) (by decide) (by decide), e 33 (by decide) (by decide) (by decide) (by decide), e 35 (by decide) (by decide) (by decide) (by decide), e 11 (by decide) (by decide) (by decide) (by decide), e 25 (by decide) (by decide) (by decide) (by decide)]
    rw [u 0 (by decide), u 1 (by decide), u 2 (by decide), u 3 (by decide), u 4 (by decide), u 5 (by decide), u 6 (by decide), u 7 (by decide), u 8 (by decide), u 10 (by decide), u 11 (by decide), u 12 (by decide)]
    exact ⟨a.1, a.2.1, a.2.2.1, a.2.2.2.1, a.2.2.2.2.1, a.2.2.2.2.2.1, a.2.2.2.2.2.2.1, a.2.2.2.2.2.2.2.1, a.2.2.2.2.2.2.2.2.1, rfl, a.2.2.2.2.2.2.2.2.2.2⟩
  · rw [h4, u9, h2 3 (by decide), h2 11 (by decide), h2 26 (by decide), h2 35 (by decide), h2 43 (by decide), h2 60 (by decide), h2 65 (by decide), h2 68 (by decide), h2 0 (by decide), h2 73 (by decide), h2 77 (by decide), h2 30 (by decide)]
    rw [u 0 (by decide), u 1 (by decide), u 2 (by decide), u 3 (by decide), u 4 (by decide), u 5 (by decide), u 6 (by decide), u 7 (by decide), u 8 (by decide), u 10 (by decide), u 11 (by decide), u 12 (by decide)]
    exact ⟨b.1, b.2.1, b.2.2.1, b.2.2.2.1, b.2.2.2.2.1, b.2.2.2.2.2.1, b.2.2.2.2.2.2.1, b.2.2.2.2.2.2.2.1, b.2.2.2.2.2.2.2.2.1, rfl, b.2.2.2.2.2.2.2.2.2.2⟩
  · rw [u9]
    rw [u 0 (by decide), u 1 (by decide), u 2 (by decide), u 3 (by decide), u 4 (by decide), u 5 (by decide), u 6 (by decide), u 7 (by decide), u 8 (by decide), u 10 (by decide), u 11 (by decide), u 12 (by decide)]
    exact ⟨c.1, c.2.1, c.2.2.1, c.2.2.2.1, c.2.2.2.2.1, c.2.2.2.2.2.1, c.2.2.2.2.2.2.1, c.2.2.2.2.2.2.2.1, c.2.2.2.2.2.2.2.2.1, hk, c.2.2.2.2.2.2.2.2.2.2⟩
  · rw [e 3 (by decide) (by decide) (by decide) (by decide), e 40 (by decide) (by decide) (by decide) (by decide), e 41 (by decide) (by decide) (by decide) (by decide), e 42 (by decide) (by decide) (by decide) (by decide), e 43 (by decide) (by decide) (by decide) (by decide), e 44 (by decide) (by decide) (by decide) (by decide), e 45 (by decide) (by decide) (by decide) (by decide), e 46 (by decide) (by decide) (by decide) (by decide)]
    rw [u 0 (by decide), u 1 (by decide)]
    exact g2
  · rw [e 4 (by decide) (by decide) (by decide) (by decide), e 5 (by decide) (by decide) (by decide) (by decide), e 38 (by decide) (by decide) (by decide) (by decide), e 39 (by decide) (by decide) (by decide) (by decide)]
    exact g3
  · rw [e 1 (by decide) (by decide) (by decide) (by decide), e 7 (by decide) (by decide) (by decide) (by decide), e 50 (by decide) (by decide) (by decide) (by decide)]
    rw [h2 17 (by decide)]
    exact g4
  · rw [e 10 (by decide) (by decide) (by decide) (by decide), e 51 (by decide) (by decide) (by decide) (by decide), e 52 (by decide) (by decide) (by decide) (by decide), e 53 (by decide) (by decide) (by decide) (by decide), e 54 (by decide) (by decide) (by decide) (by decide), e 55 (by decide) (by decide) (by decide) (by decide), e 56 (by decide) (by decide) (by decide) (by decide), e 57 (by decide) (by decide) (by decide) (by decide), e 58 (by decide) (by decide) (by decide) (by decide), e 14 (by decide) (by decide) (by decide) (by decide)]
    rw [u 0 (by decide), u 2 (by decide), u 3 (by decide), u 8 (by decide)]
    exact g5
  · rw [e 12 (by decide) (by decide) (by decide) (by decide), e 59 (by decide) (by decide) (by decide) (by decide), e 60 (by decide) (by decide) (by decide) (by decide), e 61 (by decide) (by decide) (by decide) (by decide)]
    rw [u 12 (by decide)]
    exact g6
  · rw [e 14 (by decide) (by decide) (by decide) (by decide), e 62 (by decide) (by decide) (by decide) (by decide), e 63 (by decide) (by decide) (by decide) (by decide), e 64 (by decide) (by decide) (by decide) (by decide), e 65 (by decide) (by decide) (by decide) (by decide), e 10 (by decide) (by decide) (by decide) (by decide)]
    rw [u 0 (by decide), u 2 (by decide), u 3 (by decide)]
    exact g7
  · rw [e 67 (by decide) (by decide) (by decide) (by decide), e 68 (by decide) (by decide) (by decide) (by decide), e 69 (by decide) (by decide) (by decide) (by decide), e 70 (by decide) (by decide) (by decide) (by decide), e 71 (by decide) (by decide) (by decide) (by decide)]
    rw [show (fun k => m1 (99 + k)) = fun k => m (99 + k) from by funext k; exact e _ (by omega) (by omega) (by omega) (by omega)]
    exact g9
  · rw [e 24 (by decide) (by decide) (by decide) (by decide), e 73 (by decide) (by decide) (by decide) (by decide), e 74 (by decide) (by decide) (by decide) (by decide), e 75 (by decide) (by decide) (by decide) (by decide), e 76 (by decide) (by decide) (by decide) (by decide), e 77 (by decide) (by decide) (by decide) (by decide), e 78 (by decide) (by decide) (by decide) (by decide), e 79 (by decide) (by decide) (by decide) (by decide), e 80 (by decide) (by decide) (by decide) (by decide), e 81 (by decide) (by decide) (by decide) (by decide), e 82 (by decide) (by decide) (by decide) (by decide), e 84 (by decide) (by decide) (by decide) (by decide), e 83 (by decide) (by decide) (by decide) (by decide), e 85 (by decide) (by decide) (by decide) (by decide)]
    rw [u 5 (by decide)]
    exact g10
  · rw [e 28 (by decide) (by decide) (by decide) (by decide), e 86 (by decide) (by decide) (by decide) (by decide), e 87 (by decide) (by decide) (by decide) (by decide), e 88 (by decide) (by decide) (by decide) (by decide), e 89 (by decide) (by decide) (by decide) (by decide)]
    rw [u 6 (by decide)]
    exact g11
  · rw [e 31 (by decide) (by decide) (by decide) (by decide), e 90 (by decide) (by decide) (by decide) (by decide), e 91 (by decide) (by decide) (by decide) (by decide)]
    rw [u 7 (by decide), u 5 (by decide)]
    exact g12
  · rw [e 34 (by decide) (by decide) (by decide) (by decide), e 92 (by decide) (by decide) (by decide) (by decide), e 93 (by decide) (by decide) (by decide) (by decide), e 94 (by decide) (by decide) (by decide) (by decide), e 95 (by decide) (by decide) (by decide) (by decide)]
    rw [u 10 (by decide)]
    exact g13
  · rw [e 36 (by decide) (by decide) (by decide) (by decide), e 96 (by decide) (by decide) (by decide) (by decide), e 97 (by decide) (by decide) (by decide) (by decide), e 98 (by decide) (by decide) (by decide) (by decide)]
    rw [u 11 (by decide), u 2 (by decide)]
    exact g14
theorem op_feed (hI : Inv L z m) (k v : Int32) : OpE L m MX9_feed MX10_feed [.int k, .int v] := by
  have hT : GTape (z 9) (m 17) (m 66) := hI.2.2.2.2.2.2.2.2.1
  have a9 : m 16 2 = nI (z 9) := hI.2.1.1.2.2.2.2.2.2.2.2.2.1
  have b9 : m 37 37 = nI (z 9) := hI.2.1.2.1.2.2.2.2.2.2.2.2.2.1
  have c9 : z 9 ≤ 160 := hI.2.1.2.2.2.2.2.2.2.2.2.2.2.1
  by_cases h : ¬ k < 1 ∧ ¬ 4 < k
  · obtain ⟨n, hn, rfl⟩ := inR_of (x := k) (n := 5) ⟨fun q => h.1 (by rw [i32_lt, i32_0] at q; rw [i32_lt, show (1 : Int32).toInt = 1 from rfl]; omega), fun q => h.2 (by rw [i32_le, nI_toInt (by decide)] at q; rw [i32_lt, show (4 : Int32).toInt = 4 from rfl]; omega)⟩ (by decide)
    have h1 : 1 ≤ n := by
      have := h.1
      rw [show (1 : Int32) = nI 1 from rfl, nI_ltI (by omega) (by decide)] at this
      omega
    by_cases hf : z 9 + n ≤ 160
    · refine ⟨1, 0, 0, 1, by decide, by decide, by decide, by decide, hk_imp ?_ (ct_feed a9 h1 (by omega) hf v)⟩
      rintro r h ⟨m1, rfl, rfl, q1, q2, q3⟩
      refine ⟨_, L, m1, rfl, rfl, hk_imp ?_ (md_feed (m := m1) (by rw [q1 37 (by decide) (by decide)]; exact b9) h1 (by omega) hf v)⟩
      rintro r h ⟨m2, rfl, rfl, s1, s2, s3, s4⟩
      have e66 : m1 66 = m 66 := q1 66 (by decide) (by decide)
      refine ⟨m2, _, rfl, rfl, Inv_tape (k := z 9 + n) hI (fun a h1 h2 h3 h4 => by rw [s1 a h3 h4, q1 a h1 h2]) (fun j hj => by rw [s2 j hj, q1 37 (by decide) (by decide)]) (by rw [s1 16 (by decide) (by decide)]; exact q2) s3 hf ?_⟩
      rw [s1 17 (by decide) (by decide)]
      exact TW.g q3 (m2 := m2) (show TW m m2 66 (z 9) n v from ⟨fun j hj => by rw [s4.1 j hj, e66], s4.2⟩) hT
    · exact OpOK.e ⟨1, 0, 0, 1, -2, L, m, m, z, by decide, by decide, by decide, by decide, ct_feed_full a9 h1 (by omega) c9 hf v, md_feed_full b9 h1 (by omega) c9 hf v, hI⟩
  · exact OpOK.e ⟨1, 0, 0, 1, -1, L, m, m, z, by decide, by decide, by decide, by decide, ct_feed_no k v h, md_feed_no k v h, hI⟩
end OIx
