/-! the reference's bits of the stands asked -/
section CIz
theorem bit_n : ∀ j, j < 12 → ((nI j &&& 31).toBitVec.smod 32).toNat = j := by decide
theorem bit_1 : ∀ s, s < 12 → ∀ j, j < 12 → ((1 : Int32) <<< (nI s &&& 31)).toBitVec.getLsbD j = decide (j = s) := by decide
theorem bit_t {x : Int32} {j : Nat} (hj : j < 12) : (x >>> (nI j &&& 31)) &&& 1 = 0 ↔ x.toBitVec.getLsbD j = false := by
  have e : (x >>> (nI j &&& 31)).toBitVec = x.toBitVec.sshiftRight j := by
    show x.toBitVec.sshiftRight ((nI j &&& 31).toBitVec.smod 32).toNat = _
    rw [bit_n j hj]
  have e0 : (x >>> (nI j &&& 31)).toBitVec.getLsbD 0 = x.toBitVec.getLsbD j := by
    rw [e, BitVec.getLsbD_sshiftRight]
    rw [if_pos (by omega), Nat.add_zero]
    simp
  constructor
  · intro h
    have h2 : ((x >>> (nI j &&& 31)) &&& 1).toBitVec.getLsbD 0 = false := by rw [h]; rfl
    rw [show ((x >>> (nI j &&& 31)) &&& 1).toBitVec = (x >>> (nI j &&& 31)).toBitVec &&& 1#32 from rfl, BitVec.getLsbD_and, e0] at h2
    simpa using h2
  · intro h
    apply Int32.toBitVec_inj.mp
    show (x >>> (nI j &&& 31)).toBitVec &&& 1#32 = 0#32
    apply BitVec.eq_of_getLsbD_eq
    intro i hi
    rw [BitVec.getLsbD_and]
    by_cases hi0 : i = 0
    · subst hi0; rw [e0, h]; rfl
    · simp [hi0]
theorem bit_s {x : Int32} {j s : Nat} (hj : j < 12) (hs : s < 12) : (x ||| ((1 : Int32) <<< (nI s &&& 31))).toBitVec.getLsbD j = (x.toBitVec.getLsbD j || decide (j = s)) := by
  show (x.toBitVec ||| ((1 : Int32) <<< (nI s &&& 31)).toBitVec).getLsbD j = _
  rw [BitVec.getLsbD_or, bit_1 s hs j hj]
theorem mk_some {R : Nat → Prop} {K : Nat → Nat} {b : Nat} : ∀ {n j : Nat}, R j → b ≤ K j → j < n → mk R K b n ≠ none
  | 0, j, _, _, h => absurd h (Nat.not_lt_zero _)
  | n + 1, j, hr, hb, h => by
    by_cases c : R n ∧ b ≤ K n ∧ ∀ s, mk R K b n = some s → K n < K s
    · rw [mk_y c]; intro e; cases e
    · rw [mk_n c]
      by_cases e : j = n
      · subst e
        intro hn
        exact c ⟨hr, hb, fun s hs => by rw [hn] at hs; cases hs⟩
      · exact mk_some hr hb (by omega)
theorem mk_min {R : Nat → Prop} {K : Nat → Nat} {b : Nat} : ∀ {n s : Nat}, mk R K b n = some s → ∀ j, j < n → R j → b ≤ K j → K s ≤ K j
  | 0, s, h => by cases h
  | n + 1, s, h => by
    intro j hj hr hb
    by_cases c : R n ∧ b ≤ K n ∧ ∀ s, mk R K b n = some s → K n < K s
    · rw [mk_y c] at h; cases h
      by_cases e : j = n
      · subst e; exact Nat.le_refl _
      · have hjn : j < n := by omega
        cases hq : mk R K b n with
        | none => exact absurd hq (mk_some hr hb hjn)
        | some q =>
          have h1 := c.2.2 q hq
          have h2 := mk_min hq j hjn hr hb
          omega
    · rw [mk_n c] at h
      by_cases e : j = n
      · subst e
        by_cases hlt : K j < K s
        · exact absurd ⟨hr, hb, fun q hq => by rw [h] at hq; cases hq; exact hlt⟩ c
        · omega
      · exact mk_min h j (by omega) hr hb
/-- the bits of x are those asked, whose key is under b -/
def ASK (R : Nat → Prop) (K : Nat → Nat) (b : Nat) (x : Int32) : Prop := ∀ j, j < 12 → (x.toBitVec.getLsbD j = true ↔ R j ∧ K j < b)
theorem ASK_0 {R : Nat → Prop} {K : Nat → Nat} : ASK R K 0 0 := by
  intro j hj
  refine ⟨fun h => ?_, fun h => absurd h.2 (Nat.not_lt_zero _)⟩
  rw [show (0 : Int32).toBitVec = 0#32 from rfl, BitVec.getLsbD_zero] at h
  cases h
theorem ASK_t {R : Nat → Prop} {K : Nat → Nat} {b j : Nat} {x : Int32} (h : ASK R K b x) (hj : j < 12) : (x >>> (nI j &&& 31)) &&& 1 = 0 ↔ ¬ (R j ∧ K j < b) := by
  rw [bit_t hj, ← h j hj]; simp
/-- of the least at or above b, the bit is set: then all up to its key are -/
theorem ASK_s {R : Nat → Prop} {K : Nat → Nat} {b s D : Nat} {x : Int32} (h : ASK R K b x) (hD : D ≤ 12) (hm : mk R K b D = some s) (hK : ∀ i j, i < 12 → j < 12 → K i = K j → i = j) (hR : ∀ j, D ≤ j → ¬ R j) : ASK R K (K s + 1) (x ||| ((1 : Int32) <<< (nI s &&& 31))) := by
  obtain ⟨k1, k2, k3⟩ := mk_lt hm
  intro j hj
  rw [bit_s hj (by omega), Bool.or_eq_true, h j hj, decide_eq_true_iff]
  constructor
  · rintro (⟨q1, q2⟩ | rfl)
    · exact ⟨q1, by omega⟩
    · exact ⟨k2, by omega⟩
  · rintro ⟨q1, q2⟩
    by_cases hb : K j < b
    · exact Or.inl ⟨q1, hb⟩
    · have hjD : j < D := Classical.byContradiction (fun hn => hR j (by omega) q1)
      have := mk_min hm j hjD q1 (by omega)
      exact Or.inr (hK j s hj (by omega) (by omega))
end CIz
