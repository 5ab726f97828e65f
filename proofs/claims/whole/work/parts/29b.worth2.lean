/-! THE CLASS works a law's commands out: all texts -/
section WDx
variable {L : Nat} {m : Nat → Nat → Int32} {i N : Nat}
def CD (f : Nat → Int32) (o : Nat) (c : List Int32) : Prop := ∀ j, j < c.length → f (o + j) = c.getD j 0
theorem CD_l {f : Nat → Int32} {o : Nat} {a b : List Int32} (h : CD f o (a ++ b)) : CD f o a := fun j hj => by
  rw [h j (by rw [List.length_append]; omega), gD_l hj]
theorem CD_r {f : Nat → Int32} {o : Nat} {a b : List Int32} (h : CD f o (a ++ b)) : CD f (o + a.length) b := fun j hj => by
  have := h (a.length + j) (by rw [List.length_append]; omega)
  rw [gD_r (by omega)] at this
  rw [Nat.add_assoc, this]
  congr 1; omega
theorem CD_1 {f : Nat → Int32} {o : Nat} {x : Int32} (h : CD f o [x]) : f o = x := h 0 (by simp)
/-- these commands leave v on top -/
def SgC (L : Nat) (m : Nat → Nat → Int32) (i N o : Nat) (c : List Int32) (v : Int32) : Prop := 1 ≤ c.length ∧ (CD (m (99 + 2 * i + 1)) o c → o + c.length ≤ N → ∀ (Q : Option Value → hk_H → Prop) (t : Nat) (S : Nat → Int32), t + c.length ≤ 160 → HD L m i Q (o + c.length) (t + 1) (upd S t v) → HD L m i Q o t S)
theorem cmd_of {s w : Nat} (hs : s < 256) (hw : w < 100000) : nI s + 256 * nI w - (nI s + 256 * nI w) / 256 * 256 = nI s ∧ (nI s + 256 * nI w) / 256 = nI w := by
  have e : nI s + 256 * nI w = nI (s + 256 * w) := by rw [show (256 : Int32) = nI 256 from rfl, nI_mul, nI_add]
  rw [e]
  constructor
  · have := rm_nI (a := s + 256 * w) (b := 256) (by omega) (by decide)
    unfold rm at this
    rw [show (256 : Int32) = nI 256 from rfl, this]
    congr 1; omega
  · rw [show (256 : Int32) = nI 256 from rfl, nI_div (by omega) (by decide)]
    congr 1; omega
theorem op_cmd {g : Int32} (h : isOp g) : g - g / 256 * 256 = g ∧ g / 256 = nI 0 := by
  unfold isOp isMul isAdd isCmp at h
  rcases h with (rfl | rfl | rfl) | (rfl | rfl) | rfl | rfl | rfl <;> decide
theorem upd_e {S : Nat → Int32} {t : Nat} {x : Int32} : upd S t x t = x := if_pos rfl
theorem upd_n {S : Nat → Int32} {t j : Nat} {x : Int32} (h : j ≠ t) : upd S t x j = S j := if_neg h
section WDh
variable (hi : i < L) (hN : m (99 + 2 * i + 1) 1000 = nI N) (hN2 : N ≤ 160)
theorem sg_op {o : Nat} {c1 c2 : List Int32} {v1 v2 g : Int32} (hi : i < L) (hN : m (99 + 2 * i + 1) 1000 = nI N) (hN2 : N ≤ 160) (h1 : SgC L m i N o c1 v1) (h2 : SgC L m i N (o + c1.length) c2 v2) (hg : isOp g) : SgC L m i N o (c1 ++ c2 ++ [g]) (opv g v1 v2) := by
  refine ⟨by simp only [List.length_append, List.length_singleton]; omega, ?_⟩
  intro hc hl Q t S ht hh
  have hlen : (c1 ++ c2 ++ [g]).length = c1.length + c2.length + 1 := by simp only [List.length_append, List.length_singleton]
  rw [hlen] at hl ht hh
  rw [show o + (c1.length + c2.length + 1) = o + c1.length + c2.length + 1 by omega] at hh
  have q3 := CD_1 (CD_r hc)
  rw [show o + (c1 ++ c2).length = o + c1.length + c2.length by simp; omega] at q3
  have hx1 := h1.1
  have hx2 := h2.1
  refine h1.2 (CD_l (CD_l hc)) (by omega) Q t S (by omega) (h2.2 (CD_r (CD_l hc)) (by omega) Q (t + 1) _ (by omega) ?_)
  refine hd_op (w := 0) hi hN hN2 (by omega) hg (by rw [q3]; exact (op_cmd hg).1) (by rw [q3]; exact (op_cmd hg).2) (by omega) ?_
  rw [upd_e, upd_n (by omega), upd_e]
  exact HD.cg hh (fun j hj => by
    by_cases e : j = t
    · subst e; rw [upd_e, upd_e]
    · rw [upd_n e, upd_n (by omega), upd_n e, upd_n e])
theorem pNum_v {b : Nat → Int32} {n : Nat} : ∀ f p w, w < 100000 → (w + 1) * 10 ^ f ≤ 100000 → ∃ w', (pNum b n f p (nI w)).2 = nI w' ∧ w' < 100000
  | 0, p, w, h, _ => ⟨w, rfl, h⟩
  | f + 1, p, w, h, h2 => by
    unfold pNum
    by_cases hd : isDg b n p
    · rw [cI_t hd]
      obtain ⟨g, hg, e⟩ : ∃ g, g < 10 ∧ b p = nI (48 + g) := by
        have h1 := hd.2.1
        have h3 := hd.2.2
        obtain ⟨x, hx, ex⟩ := inR_of (x := b p) (n := 58) ⟨fun z => h1 (by rw [i32_lt] at z ⊢; rw [i32_0] at z; have : (48 : Int32).toInt = 48 := rfl; omega), fun z => h3 (by rw [i32_le, nI_toInt (by decide)] at z; rw [i32_lt]; have : (57 : Int32).toInt = 57 := rfl; omega)⟩ (by decide)
        rw [ex, show (48 : Int32) = nI 48 from rfl, nI_ltI (by omega) (by decide)] at h1
        exact ⟨x - 48, by omega, by rw [ex]; congr 1; omega⟩
      have h10 : 1 ≤ 10 ^ f := Nat.one_le_pow _ _ (by decide)
      rw [Nat.pow_succ] at h2
      have h4 : (w + 1) * 10 ≤ 100000 := by
        calc (w + 1) * 10 = (w + 1) * 10 * 1 := by omega
          _ ≤ (w + 1) * 10 * 10 ^ f := Nat.mul_le_mul_left _ h10
          _ = (w + 1) * (10 ^ f * 10) := by rw [Nat.mul_assoc, Nat.mul_comm 10]
          _ ≤ 100000 := h2
      rw [e, show nI w * 10 + nI (48 + g) - 48 = nI (w * 10 + g) by
        rw [show (10 : Int32) = nI 10 from rfl, nI_mul, nI_add, show (48 : Int32) = nI 48 from rfl, nI_sub (by omega)]; congr 1; omega]
      refine pNum_v f (p + 1) (w * 10 + g) (by omega) ?_
      calc (w * 10 + g + 1) * 10 ^ f ≤ ((w + 1) * 10) * 10 ^ f := Nat.mul_le_mul_right _ (by omega)
        _ = (w + 1) * (10 ^ f * 10) := by rw [Nat.mul_assoc, Nat.mul_comm 10]
        _ ≤ 100000 := h2
    · rw [cI_f hd]; exact ⟨w, rfl, h⟩
def SgF (L : Nat) (m : Nat → Nat → Int32) (i N n : Nat) (F : PF) : Prop := ∀ (p o p1 : Nat) (c : List Int32) (v : (Nat → Int32) → Int32), p ≤ n → F p o = .inr (p1, c, v) → SgC L m i N o c (v (nmC m))
theorem sg_O {b : Nat → Int32} {n : Nat} {E : Option PF} (hi : i < L) (hN : m (99 + 2 * i + 1) 1000 = nI N) (hN2 : N ≤ 160) (hE : ∀ F, E = some F → SgF L m i N n F) : SgF L m i N n (pO b n E) := by
  intro p o p1 c v hp hr
  unfold pO at hr
  by_cases h1 : isDg b n p
  · rw [cI_t h1] at hr
    by_cases h2 : isDg b n (pNum b n 5 p 0).1
    · rw [cI_t h2] at hr; cases hr
    · rw [cI_f h2] at hr
      obtain ⟨w, ew, hw⟩ := pNum_v (b := b) (n := n) 5 p 0 (by decide) (by decide)
      have ew' : (pNum b n 5 p 0).2 = nI w := ew
      rw [ew'] at hr
      cases hr
      refine ⟨by simp, ?_⟩
      intro hc hl Q t S ht hh
      have q := CD_1 hc
      have hc2 := cmd_of (s := 48) (w := w) (by decide) hw
      exact hd_num hi hN hN2 (by simp at hl; omega) (by rw [q]; exact hc2.1) (by rw [q]; exact hc2.2) (by simp at ht; omega) hh
  · rw [cI_f h1] at hr
    by_cases h2 : at_ b n p 40
    · rw [cI_t h2] at hr
      cases E with
      | none => cases hr
      | some F =>
        simp only at hr
        cases hF : F (p + 1) o with
        | inl q => rw [hF] at hr; cases hr
        | inr t =>
          obtain ⟨p2, c2, v2⟩ := t
          rw [hF] at hr
          simp only at hr
          by_cases h3 : at_ b n p2 41
          · rw [cI_t h3] at hr
            cases hr
            exact hE F rfl (p + 1) o p2 c v h2.1 hF
          · rw [cI_f h3] at hr; cases hr
    · rw [cI_f h2] at hr
      by_cases h3 : p < n ∧ ¬ nmo (b p) < 0
      · rw [cI_t h3] at hr
        cases hr
        obtain ⟨g1, g2, g3, g4⟩ := nmo2_y h3.2
        refine ⟨by simp, ?_⟩
        intro hc hl Q t S ht hh
        have q := CD_1 hc
        have hc2 := cmd_of (s := 97) (w := (nmo (b p)).toNatClampNeg) (by decide) (by omega)
        rw [← g4] at hc2
        exact hd_name hi hN hN2 (by simp at hl; omega) (by rw [q]; exact hc2.1) (by rw [q]; exact hc2.2.trans g4) (by simp at ht; omega) g1 hh
      · rw [cI_f h3] at hr; cases hr
theorem sg_L {b : Nat → Int32} {n : Nat} {is : Int32 → Prop} {F : PF} (hi : i < L) (hN : m (99 + 2 * i + 1) 1000 = nI N) (hN2 : N ≤ 160) (hB : PB n F) (hF : SgF L m i N n F) (hs : ∀ g, is g → isOp g) (o : Nat) : ∀ f p p1 c c' v v', p ≤ n → SgC L m i N o c (v (nmC m)) → pL b n is F o f p c v = .inr (p1, c', v') → SgC L m i N o c' (v' (nmC m))
  | 0, p, p1, c, c', v, v', hp, h, hr => by cases hr
  | f + 1, p, p1, c, c', v, v', hp, h, hr => by
    unfold pL at hr
    by_cases hc : p < n ∧ is (b p)
    · rw [cI_t hc] at hr
      cases hF2 : F (p + 1) (o + c.length) with
      | inl q => rw [hF2] at hr; cases hr
      | inr t =>
        obtain ⟨p2, c2, v2⟩ := t
        rw [hF2] at hr
        simp only at hr
        have h2 := hF _ _ _ _ _ hc.1 hF2
        have hb := hB (p + 1) (o + c.length) hc.1
        rw [hF2] at hb
        exact sg_L hi hN hN2 hB hF hs o f p2 p1 _ c' _ v' hb.2.1 (sg_op hi hN hN2 h h2 (hs _ hc.2)) hr
    · rw [cI_f hc] at hr
      cases hr
      exact h
theorem sg_Loop {b : Nat → Int32} {n : Nat} {is : Int32 → Prop} {F : PF} (hi : i < L) (hN : m (99 + 2 * i + 1) 1000 = nI N) (hN2 : N ≤ 160) (hB : PB n F) (hF : SgF L m i N n F) (hs : ∀ g, is g → isOp g) : SgF L m i N n (pLoop b n is F) := by
  intro p o p1 c v hp hr
  unfold pLoop at hr
  cases hF2 : F p o with
  | inl q => rw [hF2] at hr; cases hr
  | inr t =>
    obtain ⟨p2, c2, v2⟩ := t
    rw [hF2] at hr
    simp only at hr
    have hb := hB p o hp
    rw [hF2] at hb
    exact sg_L hi hN hN2 hB hF hs o _ p2 p1 c2 c v2 v hb.2.1 (hF _ _ _ _ _ hp hF2) hr
theorem sg_C {b : Nat → Int32} {n : Nat} {E : Option PF} (hi : i < L) (hN : m (99 + 2 * i + 1) 1000 = nI N) (hN2 : N ≤ 160) (hB : PB n (pS b n E)) (hF : SgF L m i N n (pS b n E)) : SgF L m i N n (pC b n E) := by
  intro p o p1 c v hp hr
  unfold pC at hr
  cases hF2 : pS b n E p o with
  | inl q => rw [hF2] at hr; cases hr
  | inr t =>
    obtain ⟨p2, c2, v2⟩ := t
    rw [hF2] at hr
    simp only at hr
    have h1 := hF _ _ _ _ _ hp hF2
    by_cases hc : p2 < n ∧ isCmp (b p2)
    · rw [cI_t hc] at hr
      cases hF3 : pS b n E (p2 + 1) (o + c2.length) with
      | inl q => rw [hF3] at hr; cases hr
      | inr t =>
        obtain ⟨p3, c3, v3⟩ := t
        rw [hF3] at hr
        simp only at hr
        cases hr
        exact sg_op hi hN hN2 h1 (hF _ _ _ _ _ hc.1 hF3) (Or.inr (Or.inr hc.2))
    · rw [cI_f hc] at hr
      cases hr
      exact h1
theorem sg_E {b : Nat → Int32} {n : Nat} {E : Option PF} (hi : i < L) (hN : m (99 + 2 * i + 1) 1000 = nI N) (hN2 : N ≤ 160) (hE : ∀ F, E = some F → SgF L m i N n F) (hF : SgF L m i N n (pC b n E)) : SgF L m i N n (pE b n E) := by
  intro p o p1 c v hp hr
  unfold pE at hr
  cases hF2 : pC b n E p o with
  | inl q => rw [hF2] at hr; cases hr
  | inr t =>
    obtain ⟨p2, c1, v1⟩ := t
    rw [hF2] at hr
    simp only at hr
    have h1 := hF _ _ _ _ _ hp hF2
    by_cases hc : at_ b n p2 63
    · rw [cI_t hc] at hr
      cases E with
      | none => cases hr
      | some G =>
        simp only at hr
        cases hF3 : G (p2 + 1) (o + c1.length + 1) with
        | inl q => rw [hF3] at hr; cases hr
        | inr t =>
          obtain ⟨p3, c2, v2⟩ := t
          rw [hF3] at hr
          simp only at hr
          by_cases h3 : at_ b n p3 58
          · rw [cI_t h3] at hr
            cases hF4 : G (p3 + 1) (o + c1.length + 1 + c2.length + 1) with
            | inl q => rw [hF4] at hr; cases hr
            | inr t =>
              obtain ⟨p4, c3, v3⟩ := t
              rw [hF4] at hr
              simp only at hr
              cases hr
              have h2 := hE G rfl _ _ _ _ _ hc.1 hF3
              have h4 := hE G rfl _ _ _ _ _ h3.1 hF4
              refine ⟨by simp only [List.length_append, List.length_singleton]; omega, ?_⟩
              intro hd hl Q t S ht hh
              have hlen : (c1 ++ [63 + 256 * nI (o + c1.length + 1 + c2.length + 1)] ++ c2 ++ [58 + 256 * nI (o + c1.length + 1 + c2.length + 1 + c3.length)] ++ c3).length = c1.length + 1 + c2.length + 1 + c3.length := by simp only [List.length_append, List.length_singleton]
              rw [hlen] at hl ht hh
              have d3 := CD_r hd
              have d58 := CD_1 (CD_r (CD_l hd))
              have d2 := CD_r (CD_l (CD_l hd))
              have d63 := CD_1 (CD_r (CD_l (CD_l (CD_l hd))))
              have d1 := CD_l (CD_l (CD_l (CD_l hd)))
              rw [show o + (c1 ++ [63 + 256 * nI (o + c1.length + 1 + c2.length + 1)] ++ c2 ++ [58 + 256 * nI (o + c1.length + 1 + c2.length + 1 + c3.length)]).length = o + c1.length + 1 + c2.length + 1 by simp; omega] at d3
              rw [show o + (c1 ++ [63 + 256 * nI (o + c1.length + 1 + c2.length + 1)] ++ c2).length = o + c1.length + 1 + c2.length by simp; omega] at d58
              rw [show o + (c1 ++ [63 + 256 * nI (o + c1.length + 1 + c2.length + 1)]).length = o + c1.length + 1 by simp; omega] at d2
              refine h1.2 d1 (by omega) Q t S (by omega) ?_
              have k63 := cmd_of (s := 63) (w := o + c1.length + 1 + c2.length + 1) (by decide) (by omega)
              have k58 := cmd_of (s := 58) (w := o + c1.length + 1 + c2.length + 1 + c3.length) (by decide) (by omega)
              refine hd_if hi hN hN2 (by omega) (by rw [d63]; exact k63.1) (by rw [d63]; exact k63.2) (by omega) (by omega) (fun hy => ?_) (fun hn => ?_)
              · rw [upd_e] at hy
                refine h4.2 d3 (by omega) Q t _ (by omega) ?_
                rw [show o + c1.length + 1 + c2.length + 1 + c3.length = o + (c1.length + 1 + c2.length + 1 + c3.length) by omega]
                refine HD.cg hh (fun j hj => ?_)
                by_cases e : j = t
                · subst e; rw [upd_e, upd_e]; exact (if_pos hy).symm
                · rw [upd_n e, upd_n e, upd_n e]
              · rw [upd_e] at hn
                refine h2.2 d2 (by omega) Q t _ (by omega) ?_
                refine hd_skip hi hN hN2 (by omega) (by rw [d58]; exact k58.1) (by rw [d58]; exact k58.2) (by omega) ?_
                rw [show o + c1.length + 1 + c2.length + 1 + c3.length = o + (c1.length + 1 + c2.length + 1 + c3.length) by omega]
                refine HD.cg hh (fun j hj => ?_)
                by_cases e : j = t
                · subst e; rw [upd_e, upd_e]; exact (if_neg hn).symm
                · rw [upd_n e, upd_n e, upd_n e]
          · rw [cI_f h3] at hr; cases hr
    · rw [cI_f hc] at hr
      cases hr
      exact h1
theorem sg_up {b : Nat → Int32} {n : Nat} {E : Option PF} (hi : i < L) (hN : m (99 + 2 * i + 1) 1000 = nI N) (hN2 : N ≤ 160) (hB : ∀ F, E = some F → PB n F) (hE : ∀ F, E = some F → SgF L m i N n F) : SgF L m i N n (pE b n E) :=
  sg_E hi hN hN2 hE (sg_C hi hN hN2 (PB_Loop (PB_Loop (PB_O hB))) (sg_Loop hi hN hN2 (PB_Loop (PB_O hB)) (sg_Loop hi hN hN2 (PB_O hB) (sg_O hi hN hN2 hE) (fun _ h => Or.inl h)) (fun _ h => Or.inr (Or.inl h))))
theorem sg_PE {b : Nat → Int32} {n : Nat} (hi : i < L) (hN : m (99 + 2 * i + 1) 1000 = nI N) (hN2 : N ≤ 160) : ∀ k, SgF L m i N n (PE b n k)
  | 0 => sg_up hi hN hN2 (fun F h => by cases h) (fun F h => by cases h)
  | k + 1 => sg_up hi hN hN2 (fun F h => by cases h; exact PB_PE b n k) (fun F h => by cases h; exact sg_PE hi hN hN2 k)
end WDh
set_option maxRecDepth 20000 in
set_option maxHeartbeats 2000000 in
theorem ct_worth {b : Nat → Int32} {n p1 : Nat} {c : List Int32} {v : (Nat → Int32) → Int32} (hi : i < L) (hN : m (99 + 2 * i + 1) 1000 = nI c.length) (hN2 : c.length ≤ 160) (hr : PE b n 12 0 0 = .inr (p1, c, v)) (hc : ∀ j, j < c.length → m (99 + 2 * i + 1) j = c.getD j 0) : hk_Ct MX3_worth 1 0 0 [.ref (99 + 2 * i), .ref 20, .ref 21] (hk_h L m) (fun r h => ∃ m1, r = some (.int (v (nmC m))) ∧ h = hk_h L m1 ∧ ∀ a, a ≠ 21 → m1 a = m a) := by
  refine hk_ofWP (by decide) (by simp [Value.category]) (Nat.le_of_ble_eq_true rfl) ?_
  show hk_WP _ _ _ _ _ _ _ [some (.ref (99 + 2 * i)), some (.ref 20), some (.ref 21), none, none, none, none] [] _ _
  refine hk_iconst (v := 0) dX3_worth_0 (by decide) ?_
  refine hk_istore_n dX3_worth_1 rfl (by decide) rfl ?_
  refine hk_iconst (v := 0) dX3_worth_2 (by decide) ?_
  refine hk_istore dX3_worth_3 (by decide) rfl ?_
  have hs := (sg_PE (b := b) (n := n) hi hN hN2 12 0 0 p1 c v (Nat.zero_le _) hr).2 (fun j hj => by rw [Nat.zero_add]; exact hc j hj) (by omega) _ 0 (fun _ => 0) (by omega) (by rw [Nat.zero_add]; exact hd_end hi hN hN2)
  rw [upd_e] at hs
  exact hs m none none (fun _ _ => rfl) (fun j hj => absurd hj (Nat.not_lt_zero _))
end WDx
