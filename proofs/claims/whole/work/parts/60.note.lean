/-! call: the reference's -/
section CHz
variable {L nC nS nK nD : Nat} {m m0 m1 m2 : Nat → Nat → Int32} {z : Nat → Nat}
/-- the reference's refusals: those of m, and behind them a list's -/
def RFr (m : Nat → Nat → Int32) (r0 n f t : Nat) (rl : List Nat) (m1 : Nat → Nat → Int32) : Prop := m1 37 65 = nI (min 300 (r0 + rl.length)) ∧ (∀ j, j < r0 → m1 86 j = m 86 j ∧ m1 87 j = m 87 j ∧ m1 88 j = m 88 j ∧ m1 89 j = m 89 j) ∧
  ∀ j, j < rl.length → r0 + j < 300 → m1 86 (r0 + j) = nI (rl.getD j 0) ∧ m1 87 (r0 + j) = nI n ∧ m1 88 (r0 + j) = nI f ∧ m1 89 (r0 + j) = nI t
def NF (m1 m2 : Nat → Nat → Int32) : Prop := (∀ a, a ≠ 37 → a ≠ 86 → a ≠ 87 → a ≠ 88 → a ≠ 89 → m2 a = m1 a) ∧ ∀ j, j ≠ 65 → m2 37 j = m1 37 j
set_option maxRecDepth 20000 in
set_option maxHeartbeats 2000000 in
theorem md_note_full {c f t : Int32} (h : m1 37 65 = nI 300) : hk_Cd MX10_note 0 0 0 [.ref 37, .int c, .int f, .int t] (hk_h L m1) none (hk_h L m1) := by
  refine hk_ofWP (by decide) (by simp [Value.category]) (Nat.le_of_ble_eq_true rfl) ?_
  show hk_WP _ _ _ _ _ _ _ [some (.ref 37), some (.int c), some (.int f), some (.int t)] [] _ _
  refine hk_aload_n dX10_note_0 rfl rfl ?_
  refine gfX10_370 rfl dX10_note_1 (hk_lt (by decide)) rfl rfl ?_
  refine hk_sipush (v := 300) dX10_note_4 (by decide) ?_
  refine hk_icmp_ge (tgt := 63) dX10_note_7 (by decide) (fun _ => ?_) (fun c7 => absurd (by rw [h]; exact Int32.le_refl _) c7)
  exact hk_return dX10_note_63 rfl (by decide) ⟨rfl, rfl⟩
set_option maxRecDepth 20000 in
set_option maxHeartbeats 2000000 in
theorem md_note_in {c f t : Int32} {q n : Nat} (h : m1 37 65 = nI q) (hq : q < 300) (hn : m1 37 0 = nI n) : hk_Cd MX10_note 0 0 0 [.ref 37, .int c, .int f, .int t] (hk_h L m1) none (hk_h L (hk_w (hk_w (hk_w (hk_w (hk_w m1 86 q c) 87 q (nI n)) 88 q f) 89 q t) 37 65 (nI (q + 1)))) := by
  refine hk_ofWP (by decide) (by simp [Value.category]) (Nat.le_of_ble_eq_true rfl) ?_
  show hk_WP _ _ _ _ _ _ _ [some (.ref 37), some (.int c), some (.int f), some (.int t)] [] _ _
  refine hk_aload_n dX10_note_0 rfl rfl ?_
  refine gfX10_370 rfl dX10_note_1 (hk_lt (by decide)) rfl rfl ?_
  refine hk_sipush (v := 300) dX10_note_4 (by decide) ?_
  refine hk_icmp_ge (tgt := 63) dX10_note_7 (by decide) (fun c7 => absurd c7 (by rw [h]; exact nI_ge hq (by decide))) (fun _ => ?_)
  refine hk_aload_n dX10_note_10 rfl rfl ?_
  refine gfX10_155 rfl dX10_note_11 (hk_lt (by decide)) rfl rfl ?_
  refine hk_aload_n dX10_note_14 rfl rfl ?_
  refine gfX10_370 rfl dX10_note_15 (hk_lt (by decide)) rfl rfl ?_
  refine hk_iload_n dX10_note_18 rfl rfl ?_
  refine hk_isn (j := q) dX10_note_19 (by decide) (fun _ => rfl) (by simp [hk_w, h]) (by omega) (by decide) ?_
  refine hk_aload_n dX10_note_20 rfl rfl ?_
  refine gfX10_158 rfl dX10_note_21 (hk_lt (by decide)) rfl rfl ?_
  refine hk_aload_n dX10_note_24 rfl rfl ?_
  refine gfX10_370 rfl dX10_note_25 (hk_lt (by decide)) rfl rfl ?_
  refine hk_aload_n dX10_note_28 rfl rfl ?_
  refine gfX10_194 rfl dX10_note_29 (hk_lt (by decide)) rfl rfl ?_
  rw [show hk_w m1 86 q c 37 0 = nI n by rw [hk_wo (by decide)]; exact hn]
  refine hk_isn (j := q) dX10_note_32 (by decide) (fun _ => rfl) (by simp [hk_w, h]) (by omega) (by decide) ?_
  refine hk_aload_n dX10_note_33 rfl rfl ?_
  refine gfX10_161 rfl dX10_note_34 (hk_lt (by decide)) rfl rfl ?_
  refine hk_aload_n dX10_note_37 rfl rfl ?_
  refine gfX10_370 rfl dX10_note_38 (hk_lt (by decide)) rfl rfl ?_
  refine hk_iload_n dX10_note_41 rfl rfl ?_
  refine hk_isn (j := q) dX10_note_42 (by decide) (fun _ => rfl) (by simp [hk_w, h]) (by omega) (by decide) ?_
  refine hk_aload_n dX10_note_43 rfl rfl ?_
  refine gfX10_164 rfl dX10_note_44 (hk_lt (by decide)) rfl rfl ?_
  refine hk_aload_n dX10_note_47 rfl rfl ?_
  refine gfX10_370 rfl dX10_note_48 (hk_lt (by decide)) rfl rfl ?_
  refine hk_iload_n dX10_note_51 rfl rfl ?_
  refine hk_isn (j := q) dX10_note_52 (by decide) (fun _ => rfl) (by simp [hk_w, h]) (by omega) (by decide) ?_
  refine hk_aload_n dX10_note_53 rfl rfl ?_
  refine hk_dup dX10_note_54 rfl ?_
  refine gfX10_370 rfl dX10_note_55 (hk_lt (by decide)) rfl rfl ?_
  refine hk_iconst (v := 1) dX10_note_58 (by decide) ?_
  refine hk_iadd dX10_note_59 ?_
  rw [show hk_w (hk_w (hk_w (hk_w m1 86 q c) 87 q (nI n)) 88 q f) 89 q t 37 65 + 1 = nI (q + 1) by rw [hk_wo (by decide), hk_wo (by decide), hk_wo (by decide), hk_wo (by decide), h, nI_1]]
  refine pfX10_370 rfl dX10_note_60 (hk_lt (by decide)) rfl (Nat.le_of_ble_eq_true rfl) (hk_st (j := 65) rfl ?_)
  exact hk_return dX10_note_63 rfl (by decide) ⟨rfl, rfl⟩
theorem md_note {r0 n f t c : Nat} {rl : List Nat} (hr : r0 ≤ 300) (hn : m1 37 0 = nI n) (h : RFr m r0 n f t rl m1) :
    hk_Ct MX10_note 0 0 0 [.ref 37, .int (nI c), .int (nI f), .int (nI t)] (hk_h L m1) (fun r h => ∃ m2, r = none ∧ h = hk_h L m2 ∧ NF m1 m2 ∧ RFr m r0 n f t (rl ++ [c]) m2) := by
  obtain ⟨h1, h2, h3⟩ := h
  by_cases hf : r0 + rl.length < 300
  · have e : min 300 (r0 + rl.length) = r0 + rl.length := by omega
    rw [e] at h1
    refine hk_imp ?_ (md_note_in h1 hf hn)
    rintro r h ⟨rfl, rfl⟩
    refine ⟨_, rfl, rfl, ⟨fun a k1 k2 k3 k4 k5 => by rw [hk_wo k1, hk_wo k5, hk_wo k4, hk_wo k3, hk_wo k2], fun j hj => by rw [hk_w_off hj, hk_wo (by decide), hk_wo (by decide), hk_wo (by decide), hk_wo (by decide)]⟩, ?_, fun j hj => ?_, fun j hj hj3 => ?_⟩
    · rw [List.length_append, List.length_singleton, show min 300 (r0 + (rl.length + 1)) = r0 + rl.length + 1 by omega]
      exact hk_w_eq
    · have ne : j ≠ r0 + rl.length := by omega
      refine ⟨?_, ?_, ?_, ?_⟩
      · rw [hk_wo (by decide), hk_wo (by decide), hk_wo (by decide), hk_wo (by decide), hk_w_off ne]; exact (h2 j hj).1
      · rw [hk_wo (by decide), hk_wo (by decide), hk_wo (by decide), hk_w_off ne, hk_wo (by decide)]; exact (h2 j hj).2.1
      · rw [hk_wo (by decide), hk_wo (by decide), hk_w_off ne, hk_wo (by decide), hk_wo (by decide)]; exact (h2 j hj).2.2.1
      · rw [hk_wo (by decide), hk_w_off ne, hk_wo (by decide), hk_wo (by decide), hk_wo (by decide)]; exact (h2 j hj).2.2.2
    · rw [List.length_append, List.length_singleton] at hj
      by_cases ej : j = rl.length
      · subst ej
        rw [getD_snoc2]
        refine ⟨?_, ?_, ?_, ?_⟩
        · rw [hk_wo (by decide), hk_wo (by decide), hk_wo (by decide), hk_wo (by decide)]; exact hk_w_eq
        · rw [hk_wo (by decide), hk_wo (by decide), hk_wo (by decide)]; exact hk_w_eq
        · rw [hk_wo (by decide), hk_wo (by decide)]; exact hk_w_eq
        · rw [hk_wo (by decide)]; exact hk_w_eq
      · have hj2 : j < rl.length := by omega
        have ne : r0 + j ≠ r0 + rl.length := by omega
        rw [getD_snoc1 hj2]
        obtain ⟨q1, q2, q3, q4⟩ := h3 j hj2 hj3
        refine ⟨?_, ?_, ?_, ?_⟩
        · rw [hk_wo (by decide), hk_wo (by decide), hk_wo (by decide), hk_wo (by decide), hk_w_off ne]; exact q1
        · rw [hk_wo (by decide), hk_wo (by decide), hk_wo (by decide), hk_w_off ne, hk_wo (by decide)]; exact q2
        · rw [hk_wo (by decide), hk_wo (by decide), hk_w_off ne, hk_wo (by decide), hk_wo (by decide)]; exact q3
        · rw [hk_wo (by decide), hk_w_off ne, hk_wo (by decide), hk_wo (by decide), hk_wo (by decide)]; exact q4
  · have e : min 300 (r0 + rl.length) = 300 := by omega
    rw [e] at h1
    refine hk_imp ?_ (md_note_full h1)
    rintro r h ⟨rfl, rfl⟩
    refine ⟨m1, rfl, rfl, ⟨fun _ _ _ _ _ _ => rfl, fun _ _ => rfl⟩, ?_, h2, fun j hj hj3 => ?_⟩
    · rw [List.length_append, List.length_singleton, show min 300 (r0 + (rl.length + 1)) = 300 by omega]; exact h1
    · have hj2 : j < rl.length := by omega
      rw [getD_snoc1 hj2]; exact h3 j hj2 hj3
end CHz
