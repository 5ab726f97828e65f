/-! more of the parse: its commands are odd in number; it reads no further than n -/
def ODF (F : PF) : Prop := ∀ (p o p1 : Nat) (c : List Int32) (v : (Nat → Int32) → Int32), F p o = .inr (p1, c, v) → c.length % 2 = 1
theorem od_O {b : Nat → Int32} {n : Nat} {E : Option PF} (hE : ∀ F, E = some F → ODF F) : ODF (pO b n E) := by
  intro p o p1 c v hr
  unfold pO at hr
  by_cases h1 : isDg b n p
  · rw [cI_t h1] at hr
    by_cases h2 : isDg b n (pNum b n 5 p 0).1
    · rw [cI_t h2] at hr; cases hr
    · rw [cI_f h2] at hr; cases hr; rfl
  · rw [cI_f h1] at hr
    by_cases h2 : at_ b n p 40
    · rw [cI_t h2] at hr
      cases E with
      | none => cases hr
      | some F =>
        simp only at hr
        cases hF : F (p + 1) o with
        | inl q => rw [hF] at hr; cases hr
        | inr t =>
          obtain ⟨p2, c2, v2⟩ := t
          rw [hF] at hr
          simp only at hr
          by_cases h3 : at_ b n p2 41
          · rw [cI_t h3] at hr; cases hr; exact hE F rfl _ _ _ _ _ hF
          · rw [cI_f h3] at hr; cases hr
    · rw [cI_f h2] at hr
      by_cases h3 : p < n ∧ ¬ nmo (b p) < 0
      · rw [cI_t h3] at hr; cases hr; rfl
      · rw [cI_f h3] at hr; cases hr
theorem od_L {b : Nat → Int32} {n : Nat} {is : Int32 → Prop} {F : PF} (hF : ODF F) (o : Nat) : ∀ f p p1 c c' v v', c.length % 2 = 1 → pL b n is F o f p c v = .inr (p1, c', v') → c'.length % 2 = 1
  | 0, p, p1, c, c', v, v', h, hr => by cases hr
  | f + 1, p, p1, c, c', v, v', h, hr => by
    unfold pL at hr
    by_cases hc : p < n ∧ is (b p)
    · rw [cI_t hc] at hr
      cases hF2 : F (p + 1) (o + c.length) with
      | inl q => rw [hF2] at hr; cases hr
      | inr t =>
        obtain ⟨p2, c2, v2⟩ := t
        rw [hF2] at hr
        simp only at hr
        have h2 := hF _ _ _ _ _ hF2
        exact od_L hF o f p2 p1 _ c' _ v' (by simp only [List.length_append, List.length_singleton]; omega) hr
    · rw [cI_f hc] at hr; cases hr; exact h
theorem od_Loop {b : Nat → Int32} {n : Nat} {is : Int32 → Prop} {F : PF} (hF : ODF F) : ODF (pLoop b n is F) := by
  intro p o p1 c v hr
  unfold pLoop at hr
  cases hF2 : F p o with
  | inl q => rw [hF2] at hr; cases hr
  | inr t =>
    obtain ⟨p2, c2, v2⟩ := t
    rw [hF2] at hr
    simp only at hr
    exact od_L hF o _ p2 p1 c2 c v2 v (hF _ _ _ _ _ hF2) hr
theorem od_C {b : Nat → Int32} {n : Nat} {E : Option PF} (hF : ODF (pS b n E)) : ODF (pC b n E) := by
  intro p o p1 c v hr
  unfold pC at hr
  cases hF2 : pS b n E p o with
  | inl q => rw [hF2] at hr; cases hr
  | inr t =>
    obtain ⟨p2, c2, v2⟩ := t
    rw [hF2] at hr
    simp only at hr
    have h1 := hF _ _ _ _ _ hF2
    by_cases hc : p2 < n ∧ isCmp (b p2)
    · rw [cI_t hc] at hr
      cases hF3 : pS b n E (p2 + 1) (o + c2.length) with
      | inl q => rw [hF3] at hr; cases hr
      | inr t =>
        obtain ⟨p3, c3, v3⟩ := t
        rw [hF3] at hr
        simp only at hr
        cases hr
        have h2 := hF _ _ _ _ _ hF3
        simp only [List.length_append, List.length_singleton]; omega
    · rw [cI_f hc] at hr; cases hr; exact h1
theorem od_E {b : Nat → Int32} {n : Nat} {E : Option PF} (hE : ∀ F, E = some F → ODF F) (hF : ODF (pC b n E)) : ODF (pE b n E) := by
  intro p o p1 c v hr
  unfold pE at hr
  cases hF2 : pC b n E p o with
  | inl q => rw [hF2] at hr; cases hr
  | inr t =>
    obtain ⟨p2, c1, v1⟩ := t
    rw [hF2] at hr
    simp only at hr
    have h1 := hF _ _ _ _ _ hF2
    by_cases hc : at_ b n p2 63
    · rw [cI_t hc] at hr
      cases E with
      | none => cases hr
      | some G =>
        simp only at hr
        cases hF3 : G (p2 + 1) (o + c1.length + 1) with
        | inl q => rw [hF3] at hr; cases hr
        | inr t =>
          obtain ⟨p3, c2, v2⟩ := t
          rw [hF3] at hr
          simp only at hr
          by_cases h3 : at_ b n p3 58
          · rw [cI_t h3] at hr
            cases hF4 : G (p3 + 1) (o + c1.length + 1 + c2.length + 1) with
            | inl q => rw [hF4] at hr; cases hr
            | inr t =>
              obtain ⟨p4, c3, v3⟩ := t
              rw [hF4] at hr
              simp only at hr
              cases hr
              have h2 := hE G rfl _ _ _ _ _ hF3
              have h4 := hE G rfl _ _ _ _ _ hF4
              simp only [List.length_append, List.length_singleton]; omega
          · rw [cI_f h3] at hr; cases hr
    · rw [cI_f hc] at hr; cases hr; exact h1
theorem od_up {b : Nat → Int32} {n : Nat} {E : Option PF} (hE : ∀ F, E = some F → ODF F) : ODF (pE b n E) := od_E hE (od_C (od_Loop (od_Loop (od_O hE))))
theorem od_PE {b : Nat → Int32} {n : Nat} : ∀ k, ODF (PE b n k)
  | 0 => od_up (fun F h => by cases h)
  | k + 1 => od_up (fun F h => by cases h; exact od_PE k)
section CGx
variable {b b' : Nat → Int32} {n : Nat}
theorem dg_cg (hb : ∀ j, j < n → b j = b' j) {p : Nat} : isDg b n p ↔ isDg b' n p := by
  unfold isDg
  constructor
  · rintro ⟨h, q⟩; rw [hb p h] at q; exact ⟨h, q⟩
  · rintro ⟨h, q⟩; rw [← hb p h] at q; exact ⟨h, q⟩
theorem at_cg (hb : ∀ j, j < n → b j = b' j) {p : Nat} {c : Int32} : at_ b n p c ↔ at_ b' n p c := by
  unfold at_
  constructor
  · rintro ⟨h, q⟩; rw [hb p h] at q; exact ⟨h, q⟩
  · rintro ⟨h, q⟩; rw [← hb p h] at q; exact ⟨h, q⟩
theorem is_cg (hb : ∀ j, j < n → b j = b' j) {p : Nat} {is : Int32 → Prop} : (p < n ∧ is (b p)) ↔ (p < n ∧ is (b' p)) := by
  constructor
  · rintro ⟨h, q⟩; rw [hb p h] at q; exact ⟨h, q⟩
  · rintro ⟨h, q⟩; rw [← hb p h] at q; exact ⟨h, q⟩
theorem pNum_cg (hb : ∀ j, j < n → b j = b' j) : ∀ f p v, pNum b n f p v = pNum b' n f p v
  | 0, p, v => rfl
  | f + 1, p, v => by
    unfold pNum
    by_cases h : isDg b n p
    · rw [cI_t h, cI_t ((dg_cg hb).mp h), hb p h.1]; exact pNum_cg hb f _ _
    · rw [cI_f h, cI_f (fun q => h ((dg_cg hb).mpr q))]
theorem cI_cg {α : Type} {P P' : Prop} {x y y' : α} {x' : α} (h : P ↔ P') (hx : P → x = x') (hy : ¬ P → y = y') : cI P x y = cI P' x' y' := by
  by_cases q : P
  · rw [cI_t q, cI_t (h.mp q)]; exact hx q
  · rw [cI_f q, cI_f (fun z => q (h.mpr z))]; exact hy q
theorem pO_cg (hb : ∀ j, j < n → b j = b' j) (E : Option PF) : pO b n E = pO b' n E := by
  funext p o
  unfold pO
  rw [pNum_cg hb]
  refine cI_cg (dg_cg hb) (fun _ => cI_cg (dg_cg hb) (fun _ => rfl) (fun _ => rfl)) (fun _ => cI_cg (at_cg hb) (fun _ => ?_) (fun _ => cI_cg (is_cg hb (is := fun c => ¬ nmo c < 0)) (fun h => by rw [hb p h.1]) (fun _ => rfl)))
  cases E with
  | none => rfl
  | some F =>
    simp only
    cases F (p + 1) o with
    | inl q => rfl
    | inr t => exact cI_cg (at_cg hb) (fun _ => rfl) (fun _ => rfl)
theorem pL_cg (hb : ∀ j, j < n → b j = b' j) (is : Int32 → Prop) (F : PF) (o : Nat) : ∀ f p c v, pL b n is F o f p c v = pL b' n is F o f p c v
  | 0, p, c, v => rfl
  | f + 1, p, c, v => by
    unfold pL
    refine cI_cg (is_cg hb) (fun h => ?_) (fun _ => rfl)
    cases F (p + 1) (o + c.length) with
    | inl q => rfl
    | inr t => simp only; rw [hb p h.1]; exact pL_cg hb is F o f _ _ _
theorem pLoop_cg (hb : ∀ j, j < n → b j = b' j) (is : Int32 → Prop) (F : PF) : pLoop b n is F = pLoop b' n is F := by
  funext p o
  unfold pLoop
  cases F p o with
  | inl q => rfl
  | inr t => exact pL_cg hb is F o _ _ _ _
theorem pS_cg (hb : ∀ j, j < n → b j = b' j) (E : Option PF) : pS b n E = pS b' n E := by
  unfold pS pP
  rw [pO_cg hb, pLoop_cg hb, pLoop_cg hb]
theorem pC_cg (hb : ∀ j, j < n → b j = b' j) (E : Option PF) : pC b n E = pC b' n E := by
  funext p o
  unfold pC
  rw [pS_cg hb]
  cases pS b' n E p o with
  | inl q => rfl
  | inr t =>
    refine cI_cg (is_cg hb) (fun h => ?_) (fun _ => rfl)
    cases pS b' n E (t.1 + 1) (o + t.2.1.length) with
    | inl q => rfl
    | inr u => simp only; rw [hb _ h.1]
theorem pE_cg (hb : ∀ j, j < n → b j = b' j) (E : Option PF) : pE b n E = pE b' n E := by
  funext p o
  unfold pE
  rw [pC_cg hb]
  cases pC b' n E p o with
  | inl q => rfl
  | inr t =>
    refine cI_cg (at_cg hb) (fun h => ?_) (fun _ => rfl)
    cases E with
    | none => rfl
    | some F =>
      simp only
      cases F (t.1 + 1) (o + t.2.1.length + 1) with
      | inl q => rfl
      | inr u => exact cI_cg (at_cg hb) (fun _ => rfl) (fun _ => rfl)
theorem PE_cg (hb : ∀ j, j < n → b j = b' j) : ∀ k, PE b n k = PE b' n k
  | 0 => pE_cg hb none
  | k + 1 => by
    show pE b n (some (PE b n k)) = pE b' n (some (PE b' n k))
    rw [PE_cg hb k]
    exact pE_cg hb _
theorem PT_cg (hb : ∀ j, j < n → b j = b' j) : PT b n = PT b' n := by
  unfold PT
  rw [PE_cg hb]
end CGx
