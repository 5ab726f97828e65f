/-! TEXTS OF LAWS as one function: from place p, with o commands behind: the fault's place, or the place behind, the commands, and what they give for names -/
abbrev LRes : Type := Nat ⊕ (Nat × List Int32 × ((Nat → Int32) → Int32))
abbrev at_ (b : Nat → Int32) (n p : Nat) (c : Int32) : Prop := p < n ∧ b p = c
abbrev isDg (b : Nat → Int32) (n p : Nat) : Prop := p < n ∧ ¬ b p < 48 ∧ ¬ 57 < b p
def nmo (c : Int32) : Int32 := if c = 121 then 0 else if c = 116 then 1 else if c = 119 then 2 else if c = 110 then 3 else if c = 100 then 4 else if c = 104 then 5 else if c = 112 then 6 else if c = 98 then 7 else if c = 115 then 8 else -1
def opv (s x y : Int32) : Int32 := if s = 43 then x + y else if s = 45 then x - y else if s = 42 then x * y else if s = 47 then (if y = 0 then 0 else x / y) else if s = 37 then (if y = 0 then 0 else x - x / y * y) else if s = 60 then (if x < y then 1 else 0) else if s = 61 then (if x = y then 1 else 0) else if s = 62 then (if y < x then 1 else 0) else 0
noncomputable def pNum (b : Nat → Int32) (n : Nat) : Nat → Nat → Int32 → Nat × Int32
  | 0, p, v => (p, v)
  | f + 1, p, v => cI (isDg b n p) (pNum b n f (p + 1) (v * 10 + b p - 48)) (p, v)
abbrev PF : Type := Nat → Nat → LRes
noncomputable def pO (b : Nat → Int32) (n : Nat) (E : Option PF) (p o : Nat) : LRes :=
  cI (isDg b n p) (cI (isDg b n (pNum b n 5 p 0).1) (.inl (pNum b n 5 p 0).1) (.inr ((pNum b n 5 p 0).1, [48 + 256 * (pNum b n 5 p 0).2], fun _ => (pNum b n 5 p 0).2)))
  (cI (at_ b n p 40) (match E with
    | none => .inl p
    | some F => match F (p + 1) o with
      | .inl f => .inl f
      | .inr (p1, c, v) => cI (at_ b n p1 41) (.inr (p1 + 1, c, v)) (.inl p1))
  (cI (p < n ∧ ¬ nmo (b p) < 0) (.inr (p + 1, [97 + 256 * nmo (b p)], fun nm => nm (nmo (b p)).toNatClampNeg)) (.inl p)))
noncomputable def pL (b : Nat → Int32) (n : Nat) (is : Int32 → Prop) (F : PF) (o : Nat) : Nat → Nat → List Int32 → ((Nat → Int32) → Int32) → LRes
  | 0, p, _, _ => .inl p
  | f + 1, p, c, v => cI (p < n ∧ is (b p)) (match F (p + 1) (o + c.length) with
      | .inl q => .inl q
      | .inr (p1, c1, v1) => pL b n is F o f p1 (c ++ c1 ++ [b p]) (fun nm => opv (b p) (v nm) (v1 nm))) (.inr (p, c, v))
noncomputable def pLoop (b : Nat → Int32) (n : Nat) (is : Int32 → Prop) (F : PF) (p o : Nat) : LRes := match F p o with
  | .inl q => .inl q
  | .inr (p1, c, v) => pL b n is F o (n + 1 - p1) p1 c v
abbrev isMul (c : Int32) : Prop := c = 42 ∨ c = 47 ∨ c = 37
abbrev isAdd (c : Int32) : Prop := c = 43 ∨ c = 45
abbrev isCmp (c : Int32) : Prop := c = 60 ∨ c = 61 ∨ c = 62
noncomputable def pP (b : Nat → Int32) (n : Nat) (E : Option PF) : PF := pLoop b n isMul (pO b n E)
noncomputable def pS (b : Nat → Int32) (n : Nat) (E : Option PF) : PF := pLoop b n isAdd (pP b n E)
noncomputable def pC (b : Nat → Int32) (n : Nat) (E : Option PF) (p o : Nat) : LRes := match pS b n E p o with
  | .inl q => .inl q
  | .inr (p1, c, v) => cI (p1 < n ∧ isCmp (b p1)) (match pS b n E (p1 + 1) (o + c.length) with
      | .inl q => .inl q
      | .inr (p2, c2, v2) => .inr (p2, c ++ c2 ++ [b p1], fun nm => opv (b p1) (v nm) (v2 nm))) (.inr (p1, c, v))
noncomputable def pE (b : Nat → Int32) (n : Nat) (E : Option PF) (p o : Nat) : LRes := match pC b n E p o with
  | .inl q => .inl q
  | .inr (p1, c1, v1) => cI (at_ b n p1 63) (match E with
    | none => .inl p1
    | some F => match F (p1 + 1) (o + c1.length + 1) with
      | .inl q => .inl q
      | .inr (p2, c2, v2) => cI (at_ b n p2 58) (match F (p2 + 1) (o + c1.length + 1 + c2.length + 1) with
        | .inl q => .inl q
        | .inr (p3, c3, v3) => .inr (p3, c1 ++ [63 + 256 * nI (o + c1.length + 1 + c2.length + 1)] ++ c2 ++ [58 + 256 * nI (o + c1.length + 1 + c2.length + 1 + c3.length)] ++ c3, fun nm => if v1 nm = 0 then v3 nm else v2 nm)) (.inl p2)) (.inr (p1, c1, v1))
/-- the E of a level: k more may be opened -/
noncomputable def PE (b : Nat → Int32) (n : Nat) : Nat → PF
  | 0 => pE b n none
  | k + 1 => pE b n (some (PE b n k))
/-- what every parse from a place below the length keeps to -/
def PB (n : Nat) (F : PF) : Prop := ∀ p o, p ≤ n → match F p o with
  | .inl q => p ≤ q ∧ q ≤ n
  | .inr (p1, c, _) => p < p1 ∧ p1 ≤ n ∧ c.length ≤ p1 - p
theorem pNum_b (b : Nat → Int32) (n : Nat) : ∀ f p v, p ≤ n → p ≤ (pNum b n f p v).1 ∧ (pNum b n f p v).1 ≤ n
  | 0, p, v, h => ⟨Nat.le_refl _, h⟩
  | f + 1, p, v, h => by
    unfold pNum
    by_cases hd : isDg b n p
    · rw [cI_t hd]
      have := pNum_b b n f (p + 1) (v * 10 + b p - 48) hd.1
      omega
    · rw [cI_f hd]; exact ⟨Nat.le_refl _, h⟩
theorem pNum_s (b : Nat → Int32) (n : Nat) {f p : Nat} {v : Int32} (hd : isDg b n p) : p < (pNum b n (f + 1) p v).1 := by
  unfold pNum
  rw [cI_t hd]
  have := pNum_b b n f (p + 1) (v * 10 + b p - 48) hd.1
  omega
theorem PB_O {b : Nat → Int32} {n : Nat} {E : Option PF} (hE : ∀ F, E = some F → PB n F) : PB n (pO b n E) := by
  intro p o hp
  unfold pO
  by_cases h1 : isDg b n p
  · rw [cI_t h1]
    have h2 := pNum_b b n 5 p 0 hp
    have h3 : p < (pNum b n 5 p 0).1 := pNum_s b n (f := 4) (v := 0) h1
    by_cases h4 : isDg b n (pNum b n 5 p 0).1
    · rw [cI_t h4]; exact h2
    · rw [cI_f h4]
      refine ⟨h3, h2.2, ?_⟩
      simp only [List.length_singleton]; omega
  · rw [cI_f h1]
    by_cases h2 : at_ b n p 40
    · rw [cI_t h2]
      cases E with
      | none => exact ⟨Nat.le_refl _, hp⟩
      | some F =>
        have := hE F rfl (p + 1) o h2.1
        cases hF : F (p + 1) o with
        | inl q => rw [hF] at this; simp only at this; simp only [hF]; omega
        | inr t =>
          obtain ⟨p1, c, v⟩ := t
          rw [hF] at this
          simp only at this
          simp only [hF]
          by_cases h3 : at_ b n p1 41
          · rw [cI_t h3]
            refine ⟨by omega, h3.1, by omega⟩
          · rw [cI_f h3]; exact ⟨by omega, by omega⟩
    · rw [cI_f h2]
      by_cases h3 : p < n ∧ ¬ nmo (b p) < 0
      · rw [cI_t h3]
        refine ⟨Nat.lt_succ_self p, h3.1, ?_⟩
        simp only [List.length_singleton]; omega
      · rw [cI_f h3]; exact ⟨Nat.le_refl _, hp⟩
theorem PB_L {b : Nat → Int32} {n : Nat} {is : Int32 → Prop} {F : PF} (hF : PB n F) (o p0 : Nat) : ∀ f p c v, p0 < p → p ≤ n → c.length ≤ p - p0 → n + 1 - p ≤ f → match pL b n is F o f p c v with
    | .inl q => p0 ≤ q ∧ q ≤ n
    | .inr (p1, c, _) => p0 < p1 ∧ p1 ≤ n ∧ c.length ≤ p1 - p0
  | 0, p, c, v, h1, h2, h3, h4 => by omega
  | f + 1, p, c, v, h1, h2, h3, h4 => by
    unfold pL
    by_cases hi : p < n ∧ is (b p)
    · rw [cI_t hi]
      have := hF (p + 1) (o + c.length) hi.1
      cases hf : F (p + 1) (o + c.length) with
      | inl q => rw [hf] at this; simp only at this ⊢; omega
      | inr t =>
        obtain ⟨p1, c1, v1⟩ := t
        rw [hf] at this
        simp only at this ⊢
        exact PB_L hF o p0 f p1 _ _ (by omega) this.2.1 (by simp only [List.length_append, List.length_singleton]; omega) (by omega)
    · rw [cI_f hi]; exact ⟨h1, h2, h3⟩
theorem PB_Loop {b : Nat → Int32} {n : Nat} {is : Int32 → Prop} {F : PF} (hF : PB n F) : PB n (pLoop b n is F) := by
  intro p o hp
  unfold pLoop
  have := hF p o hp
  cases hf : F p o with
  | inl q => rw [hf] at this; simpa using this
  | inr t =>
    obtain ⟨p1, c, v⟩ := t
    rw [hf] at this
    simp only at this ⊢
    exact PB_L hF o p _ p1 c v this.1 this.2.1 this.2.2 (Nat.le_refl _)
theorem PB_C {b : Nat → Int32} {n : Nat} {E : Option PF} (hE : ∀ F, E = some F → PB n F) : PB n (pC b n E) := by
  have hS : PB n (pS b n E) := PB_Loop (PB_Loop (PB_O hE))
  intro p o hp
  unfold pC
  have := hS p o hp
  cases hf : pS b n E p o with
  | inl q => rw [hf] at this; simpa using this
  | inr t =>
    obtain ⟨p1, c, v⟩ := t
    rw [hf] at this
    simp only at this ⊢
    by_cases h1 : p1 < n ∧ isCmp (b p1)
    · rw [cI_t h1]
      have h2 := hS (p1 + 1) (o + c.length) h1.1
      cases hg : pS b n E (p1 + 1) (o + c.length) with
      | inl q => rw [hg] at h2; simp only at h2 ⊢; omega
      | inr t =>
        obtain ⟨p2, c2, v2⟩ := t
        rw [hg] at h2
        simp only at h2 ⊢
        simp only [List.length_append, List.length_singleton]
        omega
    · rw [cI_f h1]; exact this
theorem PB_E {b : Nat → Int32} {n : Nat} {E : Option PF} (hE : ∀ F, E = some F → PB n F) : PB n (pE b n E) := by
  intro p o hp
  unfold pE
  have := PB_C (b := b) hE p o hp
  cases hf : pC b n E p o with
  | inl q => rw [hf] at this; simpa using this
  | inr t =>
    obtain ⟨p1, c1, v1⟩ := t
    rw [hf] at this
    simp only at this ⊢
    by_cases h1 : at_ b n p1 63
    · rw [cI_t h1]
      cases E with
      | none => exact ⟨by omega, by omega⟩
      | some F =>
        have h2 := hE F rfl (p1 + 1) (o + c1.length + 1) h1.1
        cases hg : F (p1 + 1) (o + c1.length + 1) with
        | inl q => rw [hg] at h2; simp only at h2 ⊢; rw [hg]; simp only; omega
        | inr t =>
          obtain ⟨p2, c2, v2⟩ := t
          rw [hg] at h2
          simp only at h2 ⊢
          rw [hg]
          simp only
          by_cases h3 : at_ b n p2 58
          · rw [cI_t h3]
            have h4 := hE F rfl (p2 + 1) (o + c1.length + 1 + c2.length + 1) h3.1
            cases hh : F (p2 + 1) (o + c1.length + 1 + c2.length + 1) with
            | inl q => rw [hh] at h4; simp only at h4 ⊢; omega
            | inr t =>
              obtain ⟨p3, c3, v3⟩ := t
              rw [hh] at h4
              simp only at h4 ⊢
              simp only [List.length_append, List.length_singleton]
              omega
          · rw [cI_f h3]; exact ⟨by omega, by omega⟩
    · rw [cI_f h1]; exact this
theorem PB_PE (b : Nat → Int32) (n : Nat) : ∀ k, PB n (PE b n k)
  | 0 => PB_E (fun F h => by cases h)
  | k + 1 => PB_E (fun F h => by cases h; exact PB_PE b n k)
