/-! WHAT HOLDS OF THE TWO OBJECTS between calls: sizes z (by the numbers of count's questions), the class's numbers beside the reference's -/
/-- city: streets (class: m 3; reference: from, to, yards, bad, shutFrom, shutTo, shuts) -/
def GStr (nC nS : Nat) (t fr to yd bd sf st sh : Nat → Int32) : Prop :=
  (∀ s, s < nS → t (s * 13) = fr s ∧ t (s * 13 + 1) = to s ∧ t (s * 13 + 2) = yd s * 100 + bd s ∧ t (s * 13 + 4) = sh s ∧
    (∃ a b y w k : Nat, fr s = nI a ∧ to s = nI b ∧ yd s = nI y ∧ bd s = nI w ∧ sh s = nI k ∧ a < nC ∧ b < nC ∧ a ≠ b ∧ 1 ≤ y ∧ y ≤ 2000 ∧ w ≤ 1 ∧ k ≤ 4 ∧
      ∀ i, i < k → t (s * 13 + (5 + 2 * i)) = sf (4 * s + i) ∧ t (s * 13 + (5 + 2 * i + 1)) = st (4 * s + i))) ∧
  ∀ s, nS ≤ s → s < 60 → t (s * 13 + 4) = 0 ∧ sh s = 0
def GSun (r1 s1 r2 s2 : Nat → Int32) : Prop := ∀ i, i < 12 → r1 i = r2 i ∧ s1 i = s2 i
def GStep (q : Int32) (q2 : Int32) (t t2 : Nat → Int32) : Prop := q = q2 ∧ ∃ k : Nat, q = nI k ∧ k ≤ 24 ∧ ∀ i, i < k → t i = t2 i
/-- coaches -/
def CoRow (nC nD now : Nat) (sd : Nat → Int32) (t0 t1 t2 t3 t4 t5 t6 t7 pl ho st lo sta co th go : Int32) : Prop :=
  t0 = sta ∧ t1 = co ∧ t2 = st ∧ t5 = lo ∧ t6 = pl ∧ t7 = ho ∧
    (∃ g a s h : Nat, sta = nI g ∧ g ≤ 4 ∧ co = nI a ∧ a < nC ∧ st = nI s ∧ s ≤ 1000 ∧ ho = nI h ∧ h < nC) ∧
    ((sta = 2 ∨ sta = 3) → t3 = th ∧ ∃ u : Nat, th = nI u ∧ now < u ∧ u < 1000000) ∧
    (¬ (sta = 2 ∨ sta = 3) → t3 = -1) ∧
    (sta = 1 → ∃ s : Nat, s < nD ∧ t4 = nI s ∧ co = sd (s * 13)) ∧
    (sta = 2 → t4 = go ∧ (go = -1 ∨ ∃ s : Nat, s < nD ∧ go = nI s ∧ co = sd (s * 13))) ∧
    (¬ (sta = 1 ∨ sta = 2) → t4 = -1)
def GCo (nC nK nD now : Nat) (t pl ho st lo sta co th go : Nat → Int32) (sd : Nat → Int32) : Prop :=
  (∀ c, c < nK → CoRow nC nD now sd (t (c * 8)) (t (c * 8 + 1)) (t (c * 8 + 2)) (t (c * 8 + 3)) (t (c * 8 + 4)) (t (c * 8 + 5)) (t (c * 8 + 6)) (t (c * 8 + 7)) (pl c) (ho c) (st c) (lo c) (sta c) (co c) (th c) (go c)) ∧
  ∀ c, nK ≤ c → c < 30 → sta c = 0
/-- one row written anew (or added), the others as they were -/
theorem GCo_set {nC nK nK' nD now i : Nat} {t pl ho st lo sta co th go sd t' pl' ho' st' lo' sta' co' th' go' : Nat → Int32} (h : GCo nC nK nD now t pl ho st lo sta co th go sd) (hi : i < nK') (hK : nK' = nK ∨ (nK' = nK + 1 ∧ i = nK))
    (ht : ∀ c k, c ≠ i → k < 8 → t' (c * 8 + k) = t (c * 8 + k)) (hm : ∀ c, c ≠ i → pl' c = pl c ∧ ho' c = ho c ∧ st' c = st c ∧ lo' c = lo c ∧ sta' c = sta c ∧ co' c = co c ∧ th' c = th c ∧ go' c = go c)
    (hr : CoRow nC nD now sd (t' (i * 8)) (t' (i * 8 + 1)) (t' (i * 8 + 2)) (t' (i * 8 + 3)) (t' (i * 8 + 4)) (t' (i * 8 + 5)) (t' (i * 8 + 6)) (t' (i * 8 + 7)) (pl' i) (ho' i) (st' i) (lo' i) (sta' i) (co' i) (th' i) (go' i)) :
    GCo nC nK' nD now t' pl' ho' st' lo' sta' co' th' go' sd := by
  refine ⟨fun c hc => ?_, fun c hc hc2 => ?_⟩
  · by_cases hci : c = i
    · subst hci; exact hr
    · obtain ⟨e1, e2, e3, e4, e5, e6, e7, e8⟩ := hm c hci
      have e0 := ht c 0 hci (by decide)
      simp only [Nat.add_zero] at e0
      rw [e0, ht c 1 hci (by decide), ht c 2 hci (by decide), ht c 3 hci (by decide), ht c 4 hci (by decide), ht c 5 hci (by decide), ht c 6 hci (by decide), ht c 7 hci (by decide), e1, e2, e3, e4, e5, e6, e7, e8]
      exact h.1 c (by omega)
  · rw [(hm c (by omega)).2.2.2.2.1]
    exact h.2 c (by omega) hc2
def GLic (n : Nat) (t a b c : Nat → Int32) : Prop := ∀ i, i < n → t (i * 3) = a i ∧ t (i * 3 + 1) = b i ∧ t (i * 3 + 2) = c i ∧ ¬ c i < 0
/-- stands with their rows -/
def GSt (nC nK nD : Nat) (t sc pl ro rm : Nat → Int32) (ct : Nat → Int32) : Prop :=
  (∀ s, s < nD → t (s * 13) = sc s ∧ t (s * 13 + 1) = pl s ∧ t (s * 13 + 2) = rm s ∧
    ∃ a p q : Nat, sc s = nI a ∧ a < nC ∧ pl s = nI p ∧ 1 ≤ p ∧ p ≤ 10 ∧ rm s = nI q ∧ q ≤ p ∧
      (∀ i, i < q → t (s * 13 + (3 + i)) = ro (10 * s + i) ∧ ∃ c : Nat, c < nK ∧ ro (10 * s + i) = nI c ∧ ct (c * 8) = 1 ∧ ct (c * 8 + 4) = nI s) ∧
      (∀ i j, i < j → j < q → ro (10 * s + i) ≠ ro (10 * s + j)) ∧
      (∀ c, c < nK → ct (c * 8) = 1 → ct (c * 8 + 4) = nI s → ∃ i, i < q ∧ ro (10 * s + i) = nI c)) ∧
  ∀ s, nD ≤ s → s < 12 → t (s * 13 + 2) = 0 ∧ rm s = 0
def GTape (n : Nat) (t t2 : Nat → Int32) : Prop := ∀ j, j < n → t j = t2 j ∧ ∃ b : Nat, b < 256 ∧ t2 j = nI b
def GTrip (n : Nat) (t co fr to ca gi en yd bd pe wa ni st sd : Nat → Int32) : Prop :=
  ∀ i, i < n → t (i * 13) = co i ∧ t (i * 13 + 1) = fr i ∧ t (i * 13 + 2) = to i ∧ t (i * 13 + 3) = ca i ∧ t (i * 13 + 4) = gi i ∧ t (i * 13 + 5) = en i ∧ t (i * 13 + 6) = yd i ∧ t (i * 13 + 7) = bd i ∧ t (i * 13 + 8) = pe i ∧
    t (i * 13 + 9) = wa i ∧ t (i * 13 + 10) = ni i ∧ t (i * 13 + 11) = st i ∧ t (i * 13 + 12) = sd i ∧ (ni i = 0 ∨ ni i = 1) ∧ ∃ u : Nat, ca i = nI u ∧ u < 720000
def GRef (n : Nat) (t a b c d : Nat → Int32) : Prop := ∀ i, i < n → t (i * 4) = a i ∧ t (i * 4 + 1) = b i ∧ t (i * 4 + 2) = c i ∧ t (i * 4 + 3) = d i
def GCom (n nT : Nat) (t a b : Nat → Int32) : Prop := (∀ i, i < n → t (i * 2) = a i ∧ t (i * 2 + 1) = b i ∧ ∃ k : Nat, a i = nI k ∧ k < nT) ∧ ∀ i j, i < j → j < n → a i ≠ a j
def GLo (n : Nat) (t a b c d : Nat → Int32) : Prop := ∀ i, i < n → t (i * 4) = a i ∧ t (i * 4 + 1) = b i ∧ t (i * 4 + 2) = c i ∧ t (i * 4 + 3) = d i
def GFo (n nK : Nat) (t a b c : Nat → Int32) : Prop := ∀ i, i < n → t (i * 3) = a i ∧ t (i * 3 + 1) = b i ∧ t (i * 3 + 2) = c i ∧ ∃ k : Nat, b i = nI k ∧ k < nK
/-- the sizes as both objects hold them -/
def GSz (z : Nat → Nat) (m : Nat → Nat → Int32) : Prop :=
  (m 1 0 = nI (z 0) ∧ m 2 3 = nI (z 1) ∧ m 9 3 = nI (z 2) ∧ m 13 3 = nI (z 3) ∧ m 15 2 = nI (z 4) ∧ m 23 3 = nI (z 5) ∧ m 27 3 = nI (z 6) ∧ m 30 3 = nI (z 7) ∧ m 0 0 = nI (z 8) ∧ m 16 2 = nI (z 9) ∧ m 33 3 = nI (z 10) ∧ m 35 3 = nI (z 11) ∧ m 11 3 = nI (z 12) ∧ m 25 3 = nI 1) ∧
  (m 37 3 = nI (z 0) ∧ m 37 11 = nI (z 1) ∧ m 37 26 = nI (z 2) ∧ m 37 35 = nI (z 3) ∧ m 37 43 = nI (z 4) ∧ m 37 60 = nI (z 5) ∧ m 37 65 = nI (z 6) ∧ m 37 68 = nI (z 7) ∧ m 37 0 = nI (z 8) ∧ m 37 37 = nI (z 9) ∧ m 37 73 = nI (z 10) ∧ m 37 77 = nI (z 11) ∧ m 37 30 = nI (z 12)) ∧
  (z 0 ≤ 24 ∧ z 1 ≤ 60 ∧ z 2 ≤ 30 ∧ z 3 ≤ 12 ∧ z 4 ≤ 40 ∧ z 5 ≤ 300 ∧ z 6 ≤ 300 ∧ z 7 ≤ 300 ∧ z 8 < 720000 ∧ z 9 ≤ 160 ∧ z 10 ≤ 60 ∧ z 11 ≤ 60 ∧ z 12 ≤ 200)

