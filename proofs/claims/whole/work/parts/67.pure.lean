/-! minutes: coaches spend them and arrive, as pure mathematics over the class's arrays -/
section CNy
variable {L nC nS nK nD : Nat} {m m0 m1 m2 ms : Nat → Nat → Int32} {z : Nat → Nat}
/-- what a state gains a minute; the strength after d of them -/
def gn (x : Int32) : Int32 := if x = 0 then 2 else if x = 2 then -1 else if x = 3 then -3 else 0
def gk (x : Int32) (d s : Nat) : Nat := if x = 0 then min 1000 (s + 2 * d) else if x = 2 then s - d else if x = 3 then s - 3 * d else s
def cl (x : Int32) : Int32 := if x < 0 then 0 else if x ≤ 1000 then x else 1000
theorem cl_pos {k : Nat} (h : k ≤ 1000) : cl (nI k) = nI k := by
  unfold cl
  rw [if_neg (nI_pos (by omega)), if_pos (show nI k ≤ 1000 from (nI_leI (by omega) (by decide)).mpr h)]
theorem cl_big {k : Nat} (h : 1000 < k) (h2 : k < 2 ^ 31) : cl (nI k) = nI 1000 := by
  unfold cl
  rw [if_neg (nI_pos h2), if_neg (show ¬ nI k ≤ 1000 from fun e => by have e2 := (nI_leI h2 (by decide)).mp (show nI k ≤ nI 1000 from e); omega)]
  rfl
theorem clN (x : Int32) : x.toNatClampNeg < 2 ^ 31 := by
  have h := Int32.toInt_lt x
  show x.toInt.toNat < 2 ^ 31
  omega
theorem cl_sub {s k : Nat} (hs : s ≤ 1000) (hk : k < 100000) : cl (nI s - nI k) = nI (s - k) := by
  by_cases h : k ≤ s
  · rw [nI_sub h]; exact cl_pos (by omega)
  · unfold cl
    have e : nI s - nI k < 0 := by
      rw [Int32.lt_iff_toInt_lt, Int32.toInt_sub, nI_toInt (by omega), nI_toInt (by omega)]
      rw [show ((0 : Int32)).toInt = 0 from by decide, Int.bmod_eq_of_le (by omega) (by omega)]
      omega
    rw [if_pos e, show s - k = 0 by omega]; rfl
theorem gk_cl {s d : Nat} {x : Int32} (hs : s ≤ 1000) (hd : d ≤ 2000) : cl (nI s + nI d * gn x) = nI (gk x d s) := by
  unfold gn gk
  by_cases h0 : x = 0
  · rw [if_pos h0, if_pos h0, show (2 : Int32) = nI 2 from rfl, nI_mul, nI_add]
    by_cases hb : s + d * 2 ≤ 1000
    · rw [cl_pos hb]; congr 1; omega
    · rw [cl_big (by omega) (by omega)]; congr 1; omega
  rw [if_neg h0, if_neg h0]
  by_cases h2 : x = 2
  · rw [if_pos h2, if_pos h2, show nI s + nI d * (-1) = nI s - nI d by rw [Int32.mul_neg, Int32.mul_one, Int32.sub_eq_add_neg]]
    exact cl_sub hs (by omega)
  rw [if_neg h2, if_neg h2]
  by_cases h3 : x = 3
  · rw [if_pos h3, if_pos h3, show nI s + nI d * (-3) = nI s - nI (3 * d) by rw [show (-3 : Int32) = -(nI 3) from rfl, Int32.mul_neg, nI_mul, Int32.sub_eq_add_neg, Nat.mul_comm]]
    exact cl_sub hs (by omega)
  · rw [if_neg h3, if_neg h3, Int32.mul_zero, Int32.add_zero]
    exact cl_pos hs
theorem gk_le {s d : Nat} {x : Int32} (hs : s < 2 ^ 31) : gk x d s < 2 ^ 31 := by
  unfold gk; split; (omega); split; (omega); split <;> omega
theorem gk_1000 {s d : Nat} {x : Int32} (hs : s ≤ 1000) : gk x d s ≤ 1000 := by
  unfold gk; split; (omega); split; (omega); split <;> omega
theorem gk_gk {s d d' : Nat} {x : Int32} : gk x d' (gk x d s) = gk x (d + d') s := by
  unfold gk; split; (omega); split; (omega); split <;> omega
theorem gk_0 {s : Nat} {x : Int32} (hs : s ≤ 1000) : gk x 0 s = s := by
  unfold gk; split; (omega); split; (omega); split <;> omega
def mvg (m : Nat → Nat → Int32) (c : Nat) : Prop := m 10 (c * 8) = 2 ∨ m 10 (c * 8) = 3
/-- d minutes spent, of the first n coaches; the minute is u -/
def spK (m : Nat → Nat → Int32) (d n : Nat) : Nat → Nat → Int32 := fun a j => if a = 10 ∧ j % 8 = 2 ∧ j / 8 < n then nI (gk (m 10 (j - 2)) d (m 10 j).toNatClampNeg) else m a j
def spC (nK : Nat) (m : Nat → Nat → Int32) (d u : Nat) : Nat → Nat → Int32 := hk_w (spK m d nK) 0 0 (nI u)
theorem spK_ne {d n a : Nat} (h : a ≠ 10) : spK m d n a = m a := by
  funext j; exact if_neg (fun q => h q.1)
theorem spK_k {d n x k : Nat} (hk : k < 8) (h : k ≠ 2) : spK m d n 10 (x * 8 + k) = m 10 (x * 8 + k) := if_neg (by omega)
theorem spK_2 {d n x : Nat} (h : x < n) : spK m d n 10 (x * 8 + 2) = nI (gk (m 10 (x * 8)) d (m 10 (x * 8 + 2)).toNatClampNeg) := by
  unfold spK
  rw [if_pos ⟨rfl, by omega, by omega⟩, show x * 8 + 2 - 2 = x * 8 by omega]
theorem spK_0 {d : Nat} : spK m d 0 = m := by
  funext a j; exact if_neg (by omega)
theorem spK_s {d n : Nat} : hk_w (spK m d n) 10 (n * 8 + 2) (nI (gk (m 10 (n * 8)) d (m 10 (n * 8 + 2)).toNatClampNeg)) = spK m d (n + 1) := by
  funext a j
  by_cases ha : a = 10
  · subst ha
    by_cases hj : j = n * 8 + 2
    · subst hj; rw [hk_w_eq, spK_2 (Nat.lt_succ_self n)]
    · rw [hk_w_off hj]
      unfold spK
      by_cases hc : j % 8 = 2 ∧ j / 8 < n
      · rw [if_pos ⟨rfl, hc⟩, if_pos ⟨rfl, hc.1, by omega⟩]
      · rw [if_neg (fun q => hc q.2), if_neg (fun q => hc ⟨q.2.1, by omega⟩)]
  · rw [hk_wo ha, spK_ne ha, spK_ne ha]
theorem spC_ne {d u a : Nat} (h : a ≠ 10) (h0 : a ≠ 0) : spC nK m d u a = m a := by
  unfold spC; rw [hk_wo h0, spK_ne h]
theorem spC_k {d u x k : Nat} (hk : k < 8) (h : k ≠ 2) : spC nK m d u 10 (x * 8 + k) = m 10 (x * 8 + k) := by
  unfold spC; rw [hk_wo (by decide), spK_k hk h]
theorem spC_0 {d u x : Nat} : spC nK m d u 10 (x * 8) = m 10 (x * 8) := spC_k (k := 0) (by decide) (by decide)
theorem spC_2 {d u x : Nat} (h : x < nK) : spC nK m d u 10 (x * 8 + 2) = nI (gk (m 10 (x * 8)) d (m 10 (x * 8 + 2)).toNatClampNeg) := by
  unfold spC; rw [hk_wo (by decide), spK_2 h]
theorem spC_mv {d u x : Nat} : mvg (spC nK m d u) x ↔ mvg m x := by unfold mvg; rw [spC_0]
theorem spC_spC {d d' u v : Nat} : spC nK (spC nK m d u) d' v = spC nK m (d + d') v := by
  funext a j
  by_cases h0 : a = 0
  · subst h0
    unfold spC
    by_cases hj : j = 0
    · subst hj; rw [hk_w_eq, hk_w_eq]
    · rw [hk_w_off hj, hk_w_off hj, spK_ne (by decide), spK_ne (by decide), hk_w_off hj, spK_ne (by decide)]
  · by_cases h1 : a = 10
    · subst h1
      by_cases hj : j % 8 = 2 ∧ j / 8 < nK
      · obtain ⟨x, rfl⟩ : ∃ x, j = x * 8 + 2 := ⟨j / 8, by omega⟩
        have hx : x < nK := by omega
        rw [spC_2 hx, spC_2 hx, spC_2 hx, spC_0, nI_clamp (gk_le (clN _)), gk_gk]
      · have e : ∀ (M : Nat → Nat → Int32) d u, spC nK M d u 10 j = M 10 j := fun M d u => by
          unfold spC; rw [hk_wo (by decide)]; exact if_neg (fun q => hj q.2)
        rw [e, e, e]
    · rw [spC_ne h1 h0, spC_ne h1 h0, spC_ne h1 h0]
/-- what the class asks of its own rows -/
def WC (nK nD : Nat) (m : Nat → Nat → Int32) : Prop := (∀ c, c < nK → (∃ s : Nat, m 10 (c * 8 + 2) = nI s ∧ s ≤ 1000) ∧ (mvg m c → ∃ a : Nat, m 10 (c * 8 + 3) = nI a ∧ a < 1000000) ∧ (m 10 (c * 8) = 2 → m 10 (c * 8 + 4) = -1 ∨ ∃ s : Nat, s < nD ∧ m 10 (c * 8 + 4) = nI s)) ∧
  ∀ s, s < nD → ∃ p q : Nat, m 14 (s * 13 + 1) = nI p ∧ m 14 (s * 13 + 2) = nI q ∧ q ≤ p ∧ p ≤ 10
theorem spC_z (h : WC nK nD m) {u : Nat} (hu : m 0 0 = nI u) : spC nK m 0 u = m := by
  funext a j
  by_cases h0 : a = 0
  · subst h0
    unfold spC
    by_cases hj : j = 0
    · subst hj; rw [hk_w_eq]; exact hu.symm
    · rw [hk_w_off hj, spK_ne (by decide)]
  · by_cases h1 : a = 10
    · subst h1
      by_cases hj : j % 8 = 2 ∧ j / 8 < nK
      · obtain ⟨x, rfl⟩ : ∃ x, j = x * 8 + 2 := ⟨j / 8, by omega⟩
        have hx : x < nK := by omega
        obtain ⟨s, hs, hs2⟩ := (h.1 x hx).1
        rw [spC_2 hx, hs, nI_clamp (by omega), gk_0 hs2]
      · unfold spC; rw [hk_wo (by decide)]; exact if_neg (fun q => hj q.2)
    · rw [spC_ne h1 h0]
theorem WC_sp (h : WC nK nD m) {d u : Nat} : WC nK nD (spC nK m d u) := by
  refine ⟨fun c hc => ?_, fun s hs => ?_⟩
  · obtain ⟨⟨s, hs, hs2⟩, k2, k3⟩ := h.1 c hc
    rw [spC_2 hc, spC_k (k := 3) (by decide) (by decide), spC_k (k := 4) (by decide) (by decide), spC_0]
    refine ⟨⟨_, rfl, ?_⟩, fun q => k2 (spC_mv.mp q), k3⟩
    rw [hs, nI_clamp (by omega)]; exact gk_1000 hs2
  · rw [spC_ne (by decide) (by decide)]; exact h.2 s hs
/-- a coach arrives: the class's arrays -/
noncomputable def arCm (m : Nat → Nat → Int32) (c : Nat) : Nat → Nat → Int32 :=
  if m 10 (c * 8 + 0) = 3 then stl m c 4 (-1) else if m 10 (c * 8 + 4) < 0 then stl m c 0 (-1) else
    if m 14 ((m 10 (c * 8 + 4)).toNatClampNeg * 13 + 2) = m 14 ((m 10 (c * 8 + 4)).toNatClampNeg * 13 + 1) then stl m c 4 (-1)
    else stl (rin m 14 ((m 10 (c * 8 + 4)).toNatClampNeg * 13) (3 + (m 14 ((m 10 (c * 8 + 4)).toNatClampNeg * 13 + 2)).toNatClampNeg) 14 ((m 10 (c * 8 + 4)).toNatClampNeg * 13 + 2) (nI c) (m 14 ((m 10 (c * 8 + 4)).toNatClampNeg * 13 + 2)).toNatClampNeg) c 1 (nI (m 10 (c * 8 + 4)).toNatClampNeg)
theorem ar_sh {c : Nat} : ∃ (X : Nat → Nat → Int32) (d s1 : Int32), arCm m c = stl X c d s1 ∧ (∀ a, a ≠ 14 → X a = m a) ∧ (d = 0 ∨ d = 1 ∨ d = 4) := by
  unfold arCm
  by_cases h3 : m 10 (c * 8 + 0) = 3
  · rw [if_pos h3]; exact ⟨m, 4, -1, rfl, fun _ _ => rfl, Or.inr (Or.inr rfl)⟩
  rw [if_neg h3]
  by_cases h4 : m 10 (c * 8 + 4) < 0
  · rw [if_pos h4]; exact ⟨m, 0, -1, rfl, fun _ _ => rfl, Or.inl rfl⟩
  rw [if_neg h4]
  split
  · exact ⟨m, 4, -1, rfl, fun _ _ => rfl, Or.inr (Or.inr rfl)⟩
  · exact ⟨_, 1, _, rfl, fun a h => by unfold rin; rw [hk_wo h, hk_wo h], Or.inr (Or.inl rfl)⟩
theorem stl_at {X : Nat → Nat → Int32} {c : Nat} {d s1 : Int32} : stl X c d s1 10 = upd (upd (upd (X 10) (c * 8 + 0) d) (c * 8 + 4) s1) (c * 8 + 3) (-1) := rfl
theorem ar_ne {c a : Nat} (h : a ≠ 10) (h2 : a ≠ 14) : arCm m c a = m a := by
  obtain ⟨X, d, s1, e, hX, _⟩ := ar_sh (m := m) (c := c)
  rw [e]; unfold stl; rw [hk_wo h, hk_wo h, hk_wo h, hX a h2]
theorem ar_o {c x k : Nat} (hx : x ≠ c) (hk : k < 8) : arCm m c 10 (x * 8 + k) = m 10 (x * 8 + k) := by
  obtain ⟨X, d, s1, e, hX, _⟩ := ar_sh (m := m) (c := c)
  rw [e, stl_at, hX 10 (by decide)]; unfold upd; rw [if_neg (by omega), if_neg (by omega), if_neg (by omega)]
theorem ar_k {c k : Nat} (h0 : k ≠ 0) (h4 : k ≠ 4) (h3 : k ≠ 3) : arCm m c 10 (c * 8 + k) = m 10 (c * 8 + k) := by
  obtain ⟨X, d, s1, e, hX, _⟩ := ar_sh (m := m) (c := c)
  rw [e, stl_at, hX 10 (by decide)]; unfold upd; rw [if_neg (by omega), if_neg (by omega), if_neg (by omega)]
theorem ar_nm {c : Nat} : ¬ mvg (arCm m c) c := by
  obtain ⟨X, d, s1, e, hX, hd⟩ := ar_sh (m := m) (c := c)
  unfold mvg
  rw [e, stl_at]; unfold upd; rw [if_neg (by omega), if_neg (by omega), if_pos (by omega)]
  rcases hd with rfl | rfl | rfl <;> decide
theorem ar_mo {c x : Nat} (hx : x ≠ c) : mvg (arCm m c) x ↔ mvg m x := by
  have e := ar_o (m := m) hx (k := 0) (by decide)
  unfold mvg
  simp only [Nat.add_zero] at e
  rw [e]
theorem WC_ar (hD : nD ≤ 12) (h : WC nK nD m) {c : Nat} (hc : c < nK) (hm : mvg m c) : WC nK nD (arCm m c) := by
  obtain ⟨h1, h2⟩ := h
  refine ⟨fun x hx => ?_, ?_⟩
  · obtain ⟨k1, k2, k3⟩ := h1 x hx
    by_cases e : x = c
    · subst e
      refine ⟨by rw [ar_k (by decide) (by decide) (by decide)]; exact k1, fun q => absurd q ar_nm, fun q => absurd (Or.inl q) ar_nm⟩
    · have e0 := ar_o (m := m) e (k := 0) (by decide)
      simp only [Nat.add_zero] at e0
      rw [ar_o e (by decide), ar_o e (by decide), ar_o e (by decide), e0]
      exact ⟨k1, fun q => k2 ((ar_mo e).mp q), k3⟩
  · have hst : ∀ (X : Nat → Nat → Int32) (d s1 : Int32), stl X c d s1 14 = X 14 := fun X d s1 => by unfold stl; rw [hk_wo (by decide), hk_wo (by decide), hk_wo (by decide)]
    unfold arCm
    by_cases h3 : m 10 (c * 8 + 0) = 3
    · rw [if_pos h3]; intro s hs; rw [hst]; exact h2 s hs
    rw [if_neg h3]
    by_cases h4 : m 10 (c * 8 + 4) < 0
    · rw [if_pos h4]; intro s hs; rw [hst]; exact h2 s hs
    rw [if_neg h4]
    by_cases hf : m 14 ((m 10 (c * 8 + 4)).toNatClampNeg * 13 + 2) = m 14 ((m 10 (c * 8 + 4)).toNatClampNeg * 13 + 1)
    · rw [if_pos hf]; intro s hs; rw [hst]; exact h2 s hs
    rw [if_neg hf]
    have hz : m 10 (c * 8) = 2 := hm.elim id (fun e => absurd e h3)
    rcases (h1 c hc).2.2 hz with e4 | ⟨s, hs, e4⟩
    · exact absurd (by rw [e4]; decide) h4
    have es : (m 10 (c * 8 + 4)).toNatClampNeg = s := by
      rw [e4, nI_clamp (by omega)]
    intro x hx
    rw [hst, es]
    rw [es] at hf
    obtain ⟨p, q, g1, g2, g3, g4⟩ := h2 s hs
    have eq : (m 14 (s * 13 + 2)).toNatClampNeg = q := by rw [g2, nI_clamp (by omega)]
    rw [eq]
    obtain ⟨px, qx, f1, f2, f3, f4⟩ := h2 x hx
    unfold rin
    rw [hk_wt, hk_wt]
    unfold upd
    by_cases e : x = s
    · subst e
      have hne : q ≠ p := fun e2 => hf (by rw [g1, g2, e2])
      refine ⟨p, q + 1, ?_, ?_, by omega, g4⟩
      · rw [if_neg (by omega), if_neg (by omega)]; exact g1
      · rw [if_pos rfl]
    · refine ⟨px, qx, ?_, ?_, f3, f4⟩
      · rw [if_neg (by omega), if_neg (by omega)]; exact f1
      · rw [if_neg (by omega), if_neg (by omega)]; exact f2
/-- those of the first i coaches that are there at minute u arrive -/
noncomputable def arrs (m : Nat → Nat → Int32) (u : Nat) : Nat → Nat → Nat → Int32
  | 0 => m
  | i + 1 => @ite _ (mvg (arrs m u i) i ∧ arrs m u i 10 (i * 8 + 3) = nI u) (Classical.propDecidable _) (arCm (arrs m u i) i) (arrs m u i)
theorem arrs_y {u i : Nat} (h : mvg (arrs m u i) i ∧ arrs m u i 10 (i * 8 + 3) = nI u) : arrs m u (i + 1) = arCm (arrs m u i) i := if_pos h
theorem arrs_n {u i : Nat} (h : ¬ (mvg (arrs m u i) i ∧ arrs m u i 10 (i * 8 + 3) = nI u)) : arrs m u (i + 1) = arrs m u i := if_neg h
theorem arrs_row {u : Nat} : ∀ {i x k : Nat}, i ≤ x → k < 8 → arrs m u i 10 (x * 8 + k) = m 10 (x * 8 + k)
  | 0, _, _, _, _ => rfl
  | i + 1, x, k, h, hk => by
    by_cases c : mvg (arrs m u i) i ∧ arrs m u i 10 (i * 8 + 3) = nI u
    · rw [arrs_y c, ar_o (by omega) hk]; exact arrs_row (by omega) hk
    · rw [arrs_n c]; exact arrs_row (by omega) hk
theorem arrs_none {u : Nat} : ∀ {i : Nat}, (∀ x, x < i → ¬ (mvg m x ∧ m 10 (x * 8 + 3) = nI u)) → arrs m u i = m
  | 0, _ => rfl
  | i + 1, h => by
    have e := arrs_none (i := i) (fun x hx => h x (by omega))
    rw [arrs_n (by rw [e]; exact h i (Nat.lt_succ_self i)), e]
theorem arrs_first {u c : Nat} (hc : mvg m c ∧ m 10 (c * 8 + 3) = nI u) (h : ∀ x, x < c → ¬ (mvg m x ∧ m 10 (x * 8 + 3) = nI u)) : ∀ {N : Nat}, c < N → arrs m u N = arrs (arCm m c) u N
  | 0, h0 => absurd h0 (Nat.not_lt_zero _)
  | N + 1, h0 => by
    by_cases e : N = c
    · subst e
      have e1 := arrs_none h
      have e2 : arrs (arCm m N) u N = arCm m N := arrs_none (fun x hx q => h x hx (by
        have n : x ≠ N := by omega
        exact ⟨(ar_mo n).mp q.1, by rw [← ar_o (m := m) n (k := 3) (by decide)]; exact q.2⟩))
      rw [arrs_y (by rw [e1]; exact hc), e1, arrs_n (by rw [e2]; exact fun q => ar_nm q.1), e2]
    · have ih := arrs_first hc h (N := N) (by omega)
      by_cases c2 : mvg (arrs m u N) N ∧ arrs m u N 10 (N * 8 + 3) = nI u
      · rw [arrs_y c2, arrs_y (by rw [← ih]; exact c2), ih]
      · rw [arrs_n c2, arrs_n (by rw [← ih]; exact c2), ih]
/-- a minute; d minutes from u on; d minutes, those there at u first -/
noncomputable def tick (nK : Nat) (m : Nat → Nat → Int32) (v : Nat) : Nat → Nat → Int32 := arrs (spC nK m 1 v) v nK
noncomputable def tk (nK : Nat) : (Nat → Nat → Int32) → Nat → Nat → Nat → Nat → Int32
  | m, _, 0 => m
  | m, u, d + 1 => tk nK (tick nK m (u + 1)) (u + 1) d
noncomputable def tkF (nK : Nat) (m : Nat → Nat → Int32) (u d : Nat) : Nat → Nat → Int32 := tk nK (arrs m u nK) u d
theorem tk_skip {e : Nat} : ∀ (d : Nat) (m : Nat → Nat → Int32) (u : Nat), WC nK nD m → m 0 0 = nI u → (∀ x, x < nK → mvg m x → ∀ v, u < v → v ≤ u + d → m 10 (x * 8 + 3) ≠ nI v) → tk nK m u (d + e) = tk nK (spC nK m d (u + d)) (u + d) e
  | 0, m, u, h, hu, _ => by rw [Nat.add_zero, spC_z h hu, Nat.zero_add]
  | d + 1, m, u, h, hu, hn => by
    have e1 : tick nK m (u + 1) = spC nK m 1 (u + 1) := arrs_none (fun x hx q => hn x hx (spC_mv.mp q.1) (u + 1) (by omega) (by omega) (by rw [← spC_k (nK := nK) (m := m) (x := x) (d := 1) (u := u + 1) (k := 3) (by decide) (by decide)]; exact q.2))
    rw [show d + 1 + e = (d + e) + 1 by omega]
    show tk nK (tick nK m (u + 1)) (u + 1) (d + e) = _
    rw [e1, tk_skip d (spC nK m 1 (u + 1)) (u + 1) (WC_sp h) (by unfold spC; exact hk_w_eq) (fun x hx hm v h1 h2 => by rw [spC_k (by decide) (by decide)]; exact hn x hx (spC_mv.mp hm) v (by omega) (by omega)), spC_spC, show 1 + d = d + 1 by omega, show u + 1 + d = u + (d + 1) by omega]
/-- who arrives next, up to minute v, of the first n -/
def NAP (m : Nat → Nat → Int32) (v n : Nat) (o : Option Nat) (e : Nat) : Prop := (∀ x, x < n → mvg m x → ∀ a : Nat, a < 1000000 → m 10 (x * 8 + 3) = nI a → e ≤ a ∧ ∀ c, o = some c → x < c → e < a) ∧ (o = none → e = v + 1) ∧ ∀ c, o = some c → c < n ∧ mvg m c ∧ m 10 (c * 8 + 3) = nI e ∧ e ≤ v
theorem NAP_0 {v : Nat} : NAP m v 0 none (v + 1) := ⟨fun x hx => absurd hx (Nat.not_lt_zero _), fun _ => rfl, fun c h => by cases h⟩
theorem tkF_none (h : WC nK nD m) {u d : Nat} (hu : m 0 0 = nI u) {e : Nat} (hv : u + d < 1000000) (hN : NAP m (u + d) nK none e) : tkF nK m u d = spC nK m d (u + d) := by
  have he := hN.2.1 rfl
  have hn : ∀ x, x < nK → mvg m x → ∀ v, v ≤ u + d → m 10 (x * 8 + 3) ≠ nI v := fun x hx hm v hv2 e2 => by
    have := (hN.1 x hx hm v (by omega) e2).1
    omega
  unfold tkF
  rw [arrs_none (fun x hx q => hn x hx q.1 u (by omega) q.2)]
  have := tk_skip (e := 0) d m u h hu (fun x hx hm v _ h2 => hn x hx hm v h2)
  rw [Nat.add_zero] at this
  rw [this]; rfl
theorem tkF_some (h : WC nK nD m) {u d c a : Nat} (hu : m 0 0 = nI u) (hv : u + d < 1000000) (hN : NAP m (u + d) nK (some c) a) (hua : u ≤ a) : tkF nK m u d = tkF nK (arCm (spC nK m (a - u) a) c) a (u + d - a) := by
  obtain ⟨n1, _, n3⟩ := hN
  obtain ⟨c1, c2, c3, c4⟩ := n3 c rfl
  have hf : ∀ (X : Nat → Nat → Int32), (∀ x, mvg X x ↔ mvg m x) → (∀ x, X 10 (x * 8 + 3) = m 10 (x * 8 + 3)) → arrs X a nK = arrs (arCm X c) a nK := fun X k1 k2 => by
    refine arrs_first ⟨(k1 c).mpr c2, (k2 c).trans c3⟩ (fun x hx q => ?_) c1
    have := (n1 x (by omega) ((k1 x).mp q.1) a (by omega) ((k2 x).symm.trans q.2)).2 c rfl hx
    omega
  by_cases hz : a = u
  · subst hz
    rw [Nat.sub_self, spC_z h hu, show a + d - a = d by omega]
    unfold tkF
    rw [hf m (fun _ => Iff.rfl) (fun _ => rfl)]
  · have hn : ∀ x, x < nK → mvg m x → ∀ v, v < a → m 10 (x * 8 + 3) ≠ nI v := fun x hx hm v hv2 e2 => by
      have := (n1 x hx hm v (by omega) e2).1
      omega
    unfold tkF
    rw [arrs_none (m := m) (u := u) (fun x hx q => hn x hx q.1 u (by omega) q.2)]
    have h1 := tk_skip (e := u + d - a + 1) (a - u - 1) m u h hu (fun x hx hm v _ h2 => hn x hx hm v (by omega))
    rw [show a - u - 1 + (u + d - a + 1) = d by omega] at h1
    rw [h1]
    show tk nK (tick nK (spC nK m (a - u - 1) (u + (a - u - 1))) (u + (a - u - 1) + 1)) (u + (a - u - 1) + 1) (u + d - a) = _
    unfold tick
    rw [spC_spC, show a - u - 1 + 1 = a - u by omega, show u + (a - u - 1) + 1 = a by omega]
    rw [hf (spC nK m (a - u) a) (fun _ => spC_mv) (fun _ => spC_k (by decide) (by decide))]
end CNy
