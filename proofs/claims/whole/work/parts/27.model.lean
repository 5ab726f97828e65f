/-! THE REFERENCE works a text out as the parse says -/
section MDx
variable {L : Nat} {m m0 m1 : Nat → Nat → Int32}
/-- the text that base names: the tape (-1), or that of a law -/
def BS (m : Nat → Nat → Int32) (base : Int32) (b : Nat → Int32) : Prop := (base = -1 ∧ b = m 66) ∨ ∃ l, l < 40 ∧ base = nI (160 * l) ∧ b = fun j => m 67 (160 * l + j)
def prm (j : Nat) : Nat := if j = 4 then 6 else if j = 5 then 7 else if j = 6 then 4 else if j = 7 then 5 else j
/-- the reference's names in the class's order -/
def nmR (m : Nat → Nat → Int32) : Nat → Int32 := fun j => if j < 9 then m 72 (prm j) else 0
def EF (m0 m1 : Nat → Nat → Int32) : Prop := (∀ a, a ≠ 37 → m1 a = m0 a) ∧ ∀ j, j ≠ 44 → j ≠ 78 → j ≠ 79 → m1 37 j = m0 37 j
def ES (m0 : Nat → Nat → Int32) (p k : Nat) (m1 : Nat → Nat → Int32) : Prop := EF m0 m1 ∧ m1 37 44 = nI p ∧ m1 37 78 = -1 ∧ m1 37 79 = nI (12 - k)
def EX (m0 : Nat → Nat → Int32) (k f : Nat) (m1 : Nat → Nat → Int32) : Prop := EF m0 m1 ∧ m1 37 78 = nI f ∧ f ≤ 160 ∧ ∃ q, m1 37 44 = nI q ∧ q ≤ 161 + k
def EP (L : Nat) (m0 : Nat → Nat → Int32) (k : Nat) (res : LRes) (r : Option Value) (h : hk_H) : Prop := match res with
  | .inl f => ∃ m1 w, r = some (.int w) ∧ h = hk_h L m1 ∧ EX m0 k f m1
  | .inr (p, _, v) => ∃ m1, r = some (.int (v (nmR m0))) ∧ h = hk_h L m1 ∧ ES m0 p k m1
theorem EF.refl : EF m m := ⟨fun _ _ => rfl, fun _ _ _ _ => rfl⟩
theorem EF.t (s : EF m0 m) (u : EF m m1) : EF m0 m1 := ⟨fun a h => (u.1 a h).trans (s.1 a h), fun j h1 h2 h3 => (u.2 j h1 h2 h3).trans (s.2 j h1 h2 h3)⟩
theorem EF.b {base : Int32} {b : Nat → Int32} (s : EF m m1) (h : BS m base b) : BS m1 base b := by
  unfold BS at h ⊢
  rw [s.1 66 (by decide), s.1 67 (by decide)]
  exact h
theorem EF.e {n : Nat} (s : EF m m1) (h : m 37 45 = nI n) : m1 37 45 = nI n := (s.2 45 (by decide) (by decide) (by decide)).trans h
theorem EF.n (s : EF m m1) : nmR m1 = nmR m := by unfold nmR; rw [s.1 72 (by decide)]
theorem EF.w {j : Nat} {x : Int32} (s : EF m m1) (h : j = 44 ∨ j = 78 ∨ j = 79) : EF m (hk_w m1 37 j x) := by
  refine ⟨fun a ha => ?_, fun i h1 h2 h3 => ?_⟩
  · rw [hk_wo ha]; exact s.1 a ha
  · rw [hk_w_off (by omega)]; exact s.2 i h1 h2 h3
theorem ES.self {p k : Nat} (s : ES m0 p k m1) : ES m1 p k m1 := ⟨EF.refl, s.2⟩
theorem ES.pl {p k : Nat} (q : Nat) (s : ES m0 p k m1) : ES m0 q k (hk_w m1 37 44 (nI q)) := ⟨s.1.w (by decide), hk_w_eq, by rw [hk_w_off (by decide)]; exact s.2.2.1, by rw [hk_w_off (by decide)]; exact s.2.2.2⟩
theorem ES.op {p k k' : Nat} {x : Int32} (s : ES m0 p k m1) (hx : x = nI (12 - k')) : ES m0 p k' (hk_w m1 37 79 x) := ⟨s.1.w (by decide), by rw [hk_w_off (by decide)]; exact s.2.1, by rw [hk_w_off (by decide)]; exact s.2.2.1, by rw [hk_w_eq]; exact hx⟩
theorem ES.wr {p k : Nat} {x : Int32} (s : ES m0 p k m1) (hp : p ≤ 160) (hx : x = nI p) : EX m0 k p (hk_w m1 37 78 x) := ⟨s.1.w (by decide), by rw [hk_w_eq, hx], hp, p, by rw [hk_w_off (by decide)]; exact s.2.1, by omega⟩
theorem EX.pl {k f : Nat} {x : Int32} (s : EX m0 k f m1) (hx : x = m1 37 44 + 1) : EX m0 (k + 1) f (hk_w m1 37 44 x) := by
  obtain ⟨h1, h2, h3, q, h4, h5⟩ := s
  exact ⟨h1.w (by decide), by rw [hk_w_off (by decide)]; exact h2, h3, q + 1, by rw [hk_w_eq, hx, h4, nI_1], by omega⟩
theorem EX.op {k f : Nat} {x : Int32} (s : EX m0 k f m1) : EX m0 k f (hk_w m1 37 79 x) := by
  obtain ⟨h1, h2, h3, q, h4, h5⟩ := s
  exact ⟨h1.w (by decide), by rw [hk_w_off (by decide)]; exact h2, h3, q, by rw [hk_w_off (by decide)]; exact h4, h5⟩
theorem EX.up {k k' f : Nat} (s : EX m0 k f m1) (h : k ≤ k') : EX m0 k' f m1 := by
  obtain ⟨h1, h2, h3, q, h4, h5⟩ := s
  exact ⟨h1, h2, h3, q, h4, by omega⟩
theorem EX.ge {k f : Nat} (s : EX m0 k f m1) : 0 ≤ m1 37 78 := by rw [s.2.1]; exact nI_pos' (by have := s.2.2.1; omega)
theorem ES.lt {p k : Nat} (s : ES m0 p k m1) : ¬ 0 ≤ m1 37 78 := by rw [s.2.2.1]; decide
theorem EPf {k f : Nat} {res : LRes} {w : Int32} (e : res = .inl f) (s : EX m k f m1) : EP L m k res (some (.int w)) (hk_h L m1) := by rw [e]; exact ⟨m1, w, rfl, rfl, s⟩
theorem EPc {k p : Nat} {res : LRes} {c : List Int32} {v : (Nat → Int32) → Int32} {w : Int32} (e : res = .inr (p, c, v)) (s : ES m p k m1) (hw : w = v (nmR m)) : EP L m k res (some (.int w)) (hk_h L m1) := by rw [e, hw]; exact ⟨m1, rfl, rfl, s⟩
theorem EPi {k f : Nat} {res : LRes} {r : Option Value} {h : hk_H} (s : EF m0 m) (q : EP L m k res r h) (e : res = .inl f) : ∃ m1 w, r = some (.int w) ∧ h = hk_h L m1 ∧ EX m0 k f m1 := by
  rw [e] at q
  obtain ⟨m1, w, q1, q2, q3, q4⟩ := q
  exact ⟨m1, w, q1, q2, s.t q3, q4⟩
theorem EPj {k p : Nat} {res : LRes} {r : Option Value} {h : hk_H} {c : List Int32} {v : (Nat → Int32) → Int32} (s : EF m0 m) (q : EP L m k res r h) (e : res = .inr (p, c, v)) : ∃ m1, r = some (.int (v (nmR m0))) ∧ h = hk_h L m1 ∧ ES m0 p k m1 := by
  rw [e] at q
  obtain ⟨m1, q1, q2, q3, q4⟩ := q
  rw [s.n] at q1
  exact ⟨m1, q1, q2, s.t q3, q4⟩
theorem s_at0 {b : Nat → Int32} {n p : Nat} {c : Int32} (hc : ¬ c = 0) : cI (p < n) (b p) 0 = c ↔ at_ b n p c := by
  by_cases h : p < n
  · rw [cI_t h]; exact ⟨fun q => ⟨h, q⟩, fun q => q.2⟩
  · rw [cI_f h]; exact ⟨fun q => absurd q.symm hc, fun q => absurd q.1 h⟩
/-- nameOf of the reference -/
def nmo2 (c : Int32) : Int32 := if c = 121 then 0 else if c = 116 then 1 else if c = 119 then 2 else if c = 110 then 3 else if c = 112 then 4 else if c = 98 then 5 else if c = 100 then 6 else if c = 104 then 7 else if c = 115 then 8 else -1
theorem nmo2_y {c : Int32} (h : ¬ nmo c < 0) : (nmo c).toNatClampNeg < 9 ∧ nmo2 c = nI (prm (nmo c).toNatClampNeg) ∧ prm (nmo c).toNatClampNeg < 9 ∧ nmo c = nI (nmo c).toNatClampNeg := by
  unfold nmo at h ⊢
  unfold nmo2
  by_cases h1 : c = 121
  · subst h1; decide
  by_cases h2 : c = 116
  · subst h2; decide
  by_cases h3 : c = 119
  · subst h3; decide
  by_cases h4 : c = 110
  · subst h4; decide
  by_cases h5 : c = 100
  · subst h5; decide
  by_cases h6 : c = 104
  · subst h6; decide
  by_cases h7 : c = 112
  · subst h7; decide
  by_cases h8 : c = 98
  · subst h8; decide
  by_cases h9 : c = 115
  · subst h9; decide
  rw [if_neg h1, if_neg h2, if_neg h3, if_neg h4, if_neg h5, if_neg h6, if_neg h7, if_neg h8, if_neg h9] at h
  exact absurd (by decide) h
theorem nmo2_n {c : Int32} (h : nmo c < 0) : nmo2 c < 0 := by
  unfold nmo at h
  unfold nmo2
  by_cases h1 : c = 121
  · subst h1; revert h; decide
  by_cases h2 : c = 116
  · subst h2; revert h; decide
  by_cases h3 : c = 119
  · subst h3; revert h; decide
  by_cases h4 : c = 110
  · subst h4; revert h; decide
  by_cases h5 : c = 100
  · subst h5; revert h; decide
  by_cases h6 : c = 104
  · subst h6; revert h; decide
  by_cases h7 : c = 112
  · subst h7; revert h; decide
  by_cases h8 : c = 98
  · subst h8; revert h; decide
  by_cases h9 : c = 115
  · subst h9; revert h; decide
  rw [if_neg h1, if_neg h2, if_neg h3, if_neg h4, if_neg h7, if_neg h8, if_neg h5, if_neg h6, if_neg h9]
  decide
theorem hk_out98_121 {x : Int32} (h98 : ¬ x = 98) (h99 : ¬ x = 99) (h100 : ¬ x = 100) (h101 : ¬ x = 101) (h102 : ¬ x = 102) (h103 : ¬ x = 103) (h104 : ¬ x = 104) (h105 : ¬ x = 105) (h106 : ¬ x = 106) (h107 : ¬ x = 107) (h108 : ¬ x = 108) (h109 : ¬ x = 109) (h110 : ¬ x = 110) (h111 : ¬ x = 111) (h112 : ¬ x = 112) (h113 : ¬ x = 113) (h114 : ¬ x = 114) (h115 : ¬ x = 115) (h116 : ¬ x = 116) (h117 : ¬ x = 117) (h118 : ¬ x = 118) (h119 : ¬ x = 119) (h120 : ¬ x = 120) (h121 : ¬ x = 121) : x.toInt < 98 ∨ 121 < x.toInt := by
  simp only [i32_eq, show (98 : Int32).toInt = 98 from rfl, show (99 : Int32).toInt = 99 from rfl, show (100 : Int32).toInt = 100 from rfl, show (101 : Int32).toInt = 101 from rfl, show (102 : Int32).toInt = 102 from rfl, show (103 : Int32).toInt = 103 from rfl, show (104 : Int32).toInt = 104 from rfl, show (105 : Int32).toInt = 105 from rfl, show (106 : Int32).toInt = 106 from rfl, show (107 : Int32).toInt = 107 from rfl, show (108 : Int32).toInt = 108 from rfl, show (109 : Int32).toInt = 109 from rfl, show (110 : Int32).toInt = 110 from rfl, show (111 : Int32).toInt = 111 from rfl, show (112 : Int32).toInt = 112 from rfl, show (113 : Int32).toInt = 113 from rfl, show (114 : Int32).toInt = 114 from rfl, show (115 : Int32).toInt = 115 from rfl, show (116 : Int32).toInt = 116 from rfl, show (117 : Int32).toInt = 117 from rfl, show (118 : Int32).toInt = 118 from rfl, show (119 : Int32).toInt = 119 from rfl, show (120 : Int32).toInt = 120 from rfl, show (121 : Int32).toInt = 121 from rfl] at h98 h99 h100 h101 h102 h103 h104 h105 h106 h107 h108 h109 h110 h111 h112 h113 h114 h115 h116 h117 h118 h119 h120 h121
  omega
set_option maxRecDepth 20000 in
set_option maxHeartbeats 2000000 in
theorem md_nameOf (c : Int32) : hk_Cd MX10_nameOf 0 0 0 [.int c] (hk_h L m) (some (.int (nmo2 c))) (hk_h L m) := by
  refine hk_ofWP (by decide) (by simp [Value.category]) (Nat.le_of_ble_eq_true rfl) ?_
  show hk_WP _ _ _ _ _ _ _ [some (.int c)] [] _ _
  refine hk_iload_n dX10_nameOf_0 rfl rfl ?_
  by_cases e98 : c = 98
  · subst e98
    refine hk_tableIn (tgt := 122) dX10_nameOf_1 (by decide) (by decide) rfl (by decide) ?_
    refine hk_iconst (v := 5) dX10_nameOf_122 (by decide) ?_
    exact hk_ireturn dX10_nameOf_123 rfl rfl (by decide) ⟨rfl, rfl⟩
  by_cases e99 : c = 99
  · subst e99
    refine hk_tableIn (tgt := 133) dX10_nameOf_1 (by decide) (by decide) rfl (by decide) ?_
    refine hk_iconst (v := (-1)) dX10_nameOf_133 (by decide) ?_
    exact hk_ireturn dX10_nameOf_134 rfl rfl (by decide) ⟨by first | rfl | (unfold nmo2; rw [if_neg e121, if_neg e116, if_neg e119, if_neg e110, if_neg e112, if_neg e98, if_neg e100, if_neg e104, if_neg e115]), rfl⟩
  by_cases e100 : c = 100
  · subst e100
    refine hk_tableIn (tgt := 124) dX10_nameOf_1 (by decide) (by decide) rfl (by decide) ?_
    refine hk_bipush (v := 6) dX10_nameOf_124 (by decide) ?_
    exact hk_ireturn dX10_nameOf_126 rfl rfl (by decide) ⟨rfl, rfl⟩
  by_cases e101 : c = 101
  · subst e101
    refine hk_tableIn (tgt := 133) dX10_nameOf_1 (by decide) (by decide) rfl (by decide) ?_
    refine hk_iconst (v := (-1)) dX10_nameOf_133 (by decide) ?_
    exact hk_ireturn dX10_nameOf_134 rfl rfl (by decide) ⟨by first | rfl | (unfold nmo2; rw [if_neg e121, if_neg e116, if_neg e119, if_neg e110, if_neg e112, if_neg e98, if_neg e100, if_neg e104, if_neg e115]), rfl⟩
  by_cases e102 : c = 102
  · subst e102
    refine hk_tableIn (tgt := 133) dX10_nameOf_1 (by decide) (by decide) rfl (by decide) ?_
    refine hk_iconst (v := (-1)) dX10_nameOf_133 (by decide) ?_
    exact hk_ireturn dX10_nameOf_134 rfl rfl (by decide) ⟨by first | rfl | (unfold nmo2; rw [if_neg e121, if_neg e116, if_neg e119, if_neg e110, if_neg e112, if_neg e98, if_neg e100, if_neg e104, if_neg e115]), rfl⟩
  by_cases e103 : c = 103
  · subst e103
    refine hk_tableIn (tgt := 133) dX10_nameOf_1 (by decide) (by decide) rfl (by decide) ?_
    refine hk_iconst (v := (-1)) dX10_nameOf_133 (by decide) ?_
    exact hk_ireturn dX10_nameOf_134 rfl rfl (by decide) ⟨by first | rfl | (unfold nmo2; rw [if_neg e121, if_neg e116, if_neg e119, if_neg e110, if_neg e112, if_neg e98, if_neg e100, if_neg e104, if_neg e115]), rfl⟩
  by_cases e104 : c = 104
  · subst e104
    refine hk_tableIn (tgt := 127) dX10_nameOf_1 (by decide) (by decide) rfl (by decide) ?_
    refine hk_bipush (v := 7) dX10_nameOf_127 (by decide) ?_
    exact hk_ireturn dX10_nameOf_129 rfl rfl (by decide) ⟨rfl, rfl⟩
  by_cases e105 : c = 105
  · subst e105
    refine hk_tableIn (tgt := 133) dX10_nameOf_1 (by decide) (by decide) rfl (by decide) ?_
    refine hk_iconst (v := (-1)) dX10_nameOf_133 (by decide) ?_
    exact hk_ireturn dX10_nameOf_134 rfl rfl (by decide) ⟨by first | rfl | (unfold nmo2; rw [if_neg e121, if_neg e116, if_neg e119, if_neg e110, if_neg e112, if_neg e98, if_neg e100, if_neg e104, if_neg e115]), rfl⟩
  by_cases e106 : c = 106
  · subst e106
    refine hk_tableIn (tgt := 133) dX10_nameOf_1 (by decide) (by decide) rfl (by decide) ?_
    refine hk_iconst (v := (-1)) dX10_nameOf_133 (by decide) ?_
    exact hk_ireturn dX10_nameOf_134 rfl rfl (by decide) ⟨by first | rfl | (unfold nmo2; rw [if_neg e121, if_neg e116, if_neg e119, if_neg e110, if_neg e112, if_neg e98, if_neg e100, if_neg e104, if_neg e115]), rfl⟩
  by_cases e107 : c = 107
  · subst e107
    refine hk_tableIn (tgt := 133) dX10_nameOf_1 (by decide) (by decide) rfl (by decide) ?_
    refine hk_iconst (v := (-1)) dX10_nameOf_133 (by decide) ?_
    exact hk_ireturn dX10_nameOf_134 rfl rfl (by decide) ⟨by first | rfl | (unfold nmo2; rw [if_neg e121, if_neg e116, if_neg e119, if_neg e110, if_neg e112, if_neg e98, if_neg e100, if_neg e104, if_neg e115]), rfl⟩
  by_cases e108 : c = 108
  · subst e108
    refine hk_tableIn (tgt := 133) dX10_nameOf_1 (by decide) (by decide) rfl (by decide) ?_
    refine hk_iconst (v := (-1)) dX10_nameOf_133 (by decide) ?_
    exact hk_ireturn dX10_nameOf_134 rfl rfl (by decide) ⟨by first | rfl | (unfold nmo2; rw [if_neg e121, if_neg e116, if_neg e119, if_neg e110, if_neg e112, if_neg e98, if_neg e100, if_neg e104, if_neg e115]), rfl⟩
  by_cases e109 : c = 109
  · subst e109
    refine hk_tableIn (tgt := 133) dX10_nameOf_1 (by decide) (by decide) rfl (by decide) ?_
    refine hk_iconst (v := (-1)) dX10_nameOf_133 (by decide) ?_
    exact hk_ireturn dX10_nameOf_134 rfl rfl (by decide) ⟨by first | rfl | (unfold nmo2; rw [if_neg e121, if_neg e116, if_neg e119, if_neg e110, if_neg e112, if_neg e98, if_neg e100, if_neg e104, if_neg e115]), rfl⟩
  by_cases e110 : c = 110
  · subst e110
    refine hk_tableIn (tgt := 118) dX10_nameOf_1 (by decide) (by decide) rfl (by decide) ?_
    refine hk_iconst (v := 3) dX10_nameOf_118 (by decide) ?_
    exact hk_ireturn dX10_nameOf_119 rfl rfl (by decide) ⟨rfl, rfl⟩
  by_cases e111 : c = 111
  · subst e111
    refine hk_tableIn (tgt := 133) dX10_nameOf_1 (by decide) (by decide) rfl (by decide) ?_
    refine hk_iconst (v := (-1)) dX10_nameOf_133 (by decide) ?_
    exact hk_ireturn dX10_nameOf_134 rfl rfl (by decide) ⟨by first | rfl | (unfold nmo2; rw [if_neg e121, if_neg e116, if_neg e119, if_neg e110, if_neg e112, if_neg e98, if_neg e100, if_neg e104, if_neg e115]), rfl⟩
  by_cases e112 : c = 112
  · subst e112
    refine hk_tableIn (tgt := 120) dX10_nameOf_1 (by decide) (by decide) rfl (by decide) ?_
    refine hk_iconst (v := 4) dX10_nameOf_120 (by decide) ?_
    exact hk_ireturn dX10_nameOf_121 rfl rfl (by decide) ⟨rfl, rfl⟩
  by_cases e113 : c = 113
  · subst e113
    refine hk_tableIn (tgt := 133) dX10_nameOf_1 (by decide) (by decide) rfl (by decide) ?_
    refine hk_iconst (v := (-1)) dX10_nameOf_133 (by decide) ?_
    exact hk_ireturn dX10_nameOf_134 rfl rfl (by decide) ⟨by first | rfl | (unfold nmo2; rw [if_neg e121, if_neg e116, if_neg e119, if_neg e110, if_neg e112, if_neg e98, if_neg e100, if_neg e104, if_neg e115]), rfl⟩
  by_cases e114 : c = 114
  · subst e114
    refine hk_tableIn (tgt := 133) dX10_nameOf_1 (by decide) (by decide) rfl (by decide) ?_
    refine hk_iconst (v := (-1)) dX10_nameOf_133 (by decide) ?_
    exact hk_ireturn dX10_nameOf_134 rfl rfl (by decide) ⟨by first | rfl | (unfold nmo2; rw [if_neg e121, if_neg e116, if_neg e119, if_neg e110, if_neg e112, if_neg e98, if_neg e100, if_neg e104, if_neg e115]), rfl⟩
  by_cases e115 : c = 115
  · subst e115
    refine hk_tableIn (tgt := 130) dX10_nameOf_1 (by decide) (by decide) rfl (by decide) ?_
    refine hk_bipush (v := 8) dX10_nameOf_130 (by decide) ?_
    exact hk_ireturn dX10_nameOf_132 rfl rfl (by decide) ⟨rfl, rfl⟩
  by_cases e116 : c = 116
  · subst e116
    refine hk_tableIn (tgt := 114) dX10_nameOf_1 (by decide) (by decide) rfl (by decide) ?_
    refine hk_iconst (v := 1) dX10_nameOf_114 (by decide) ?_
    exact hk_ireturn dX10_nameOf_115 rfl rfl (by decide) ⟨rfl, rfl⟩
  by_cases e117 : c = 117
  · subst e117
    refine hk_tableIn (tgt := 133) dX10_nameOf_1 (by decide) (by decide) rfl (by decide) ?_
    refine hk_iconst (v := (-1)) dX10_nameOf_133 (by decide) ?_
    exact hk_ireturn dX10_nameOf_134 rfl rfl (by decide) ⟨by first | rfl | (unfold nmo2; rw [if_neg e121, if_neg e116, if_neg e119, if_neg e110, if_neg e112, if_neg e98, if_neg e100, if_neg e104, if_neg e115]), rfl⟩
  by_cases e118 : c = 118
  · subst e118
    refine hk_tableIn (tgt := 133) dX10_nameOf_1 (by decide) (by decide) rfl (by decide) ?_
    refine hk_iconst (v := (-1)) dX10_nameOf_133 (by decide) ?_
    exact hk_ireturn dX10_nameOf_134 rfl rfl (by decide) ⟨by first | rfl | (unfold nmo2; rw [if_neg e121, if_neg e116, if_neg e119, if_neg e110, if_neg e112, if_neg e98, if_neg e100, if_neg e104, if_neg e115]), rfl⟩
  by_cases e119 : c = 119
  · subst e119
    refine hk_tableIn (tgt := 116) dX10_nameOf_1 (by decide) (by decide) rfl (by decide) ?_
    refine hk_iconst (v := 2) dX10_nameOf_116 (by decide) ?_
    exact hk_ireturn dX10_nameOf_117 rfl rfl (by decide) ⟨rfl, rfl⟩
  by_cases e120 : c = 120
  · subst e120
    refine hk_tableIn (tgt := 133) dX10_nameOf_1 (by decide) (by decide) rfl (by decide) ?_
    refine hk_iconst (v := (-1)) dX10_nameOf_133 (by decide) ?_
    exact hk_ireturn dX10_nameOf_134 rfl rfl (by decide) ⟨by first | rfl | (unfold nmo2; rw [if_neg e121, if_neg e116, if_neg e119, if_neg e110, if_neg e112, if_neg e98, if_neg e100, if_neg e104, if_neg e115]), rfl⟩
  by_cases e121 : c = 121
  · subst e121
    refine hk_tableIn (tgt := 112) dX10_nameOf_1 (by decide) (by decide) rfl (by decide) ?_
    refine hk_iconst (v := 0) dX10_nameOf_112 (by decide) ?_
    exact hk_ireturn dX10_nameOf_113 rfl rfl (by decide) ⟨rfl, rfl⟩
  refine hk_tableOut (tgt := 133) dX10_nameOf_1 (hk_out98_121 e98 e99 e100 e101 e102 e103 e104 e105 e106 e107 e108 e109 e110 e111 e112 e113 e114 e115 e116 e117 e118 e119 e120 e121) (by decide) ?_
  refine hk_iconst (v := (-1)) dX10_nameOf_133 (by decide) ?_
  exact hk_ireturn dX10_nameOf_134 rfl rfl (by decide) ⟨by first | rfl | (unfold nmo2; rw [if_neg e121, if_neg e116, if_neg e119, if_neg e110, if_neg e112, if_neg e98, if_neg e100, if_neg e104, if_neg e115]), rfl⟩
set_option maxRecDepth 20000 in
set_option maxHeartbeats 2000000 in
theorem md_byteAt_a {n q : Nat} (he : m 37 45 = nI n) (hn2 : n ≤ 160) (ha : m 37 44 = nI q) (hq : q < 1000) : hk_Cd MX10_byteAt 0 0 0 [.ref 37, .int (-1)] (hk_h L m) (some (.int (cI (q < n) (m 66 q) 0))) (hk_h L m) := by
  refine hk_ofWP (by decide) (by simp [Value.category]) (Nat.le_of_ble_eq_true rfl) ?_
  show hk_WP _ _ _ _ _ _ _ [some (.ref 37), some (.int (-1))] [] _ _
  refine hk_aload_n dX10_byteAt_0 rfl rfl ?_
  refine gfX10_296 rfl dX10_byteAt_1 (hk_lt (by decide)) rfl rfl ?_
  refine hk_aload_n dX10_byteAt_4 rfl rfl ?_
  refine gfX10_299 rfl dX10_byteAt_5 (hk_lt (by decide)) rfl rfl ?_
  refine hk_icmp_ge (tgt := 41) dX10_byteAt_8 (by decide) (fun c8 => ?_) (fun c8 => ?_)
  · rw [he, ha, nI_leI (by omega) (by omega)] at c8
    refine hk_iconst (v := 0) dX10_byteAt_41 (by decide) ?_
    exact hk_ireturn dX10_byteAt_42 rfl rfl (by decide) ⟨by first | exact cI_r1 (by omega) | exact cI_r0 (by omega), rfl⟩
  · rw [he, ha, nI_leI (by omega) (by omega)] at c8
    refine hk_iload_n dX10_byteAt_11 rfl rfl ?_
    refine hk_if_ge (tgt := 27) dX10_byteAt_12 (by decide) (fun c12 => absurd c12 (by decide)) (fun _ => ?_)
    refine hk_aload_n dX10_byteAt_15 rfl rfl ?_
    refine gfX10_94 rfl dX10_byteAt_16 (hk_lt (by decide)) rfl rfl ?_
    refine hk_aload_n dX10_byteAt_19 rfl rfl ?_
    refine gfX10_296 rfl dX10_byteAt_20 (hk_lt (by decide)) rfl rfl ?_
    refine hk_ian dX10_byteAt_23 (by decide) (fun _ => rfl) ha (by omega) (by decide) ?_
    refine hk_goto (tgt := 42) dX10_byteAt_24 (by decide) ?_
    exact hk_ireturn dX10_byteAt_42 rfl rfl (by decide) ⟨by first | exact cI_r1 (by omega) | exact cI_r0 (by omega), rfl⟩
set_option maxRecDepth 20000 in
set_option maxHeartbeats 2000000 in
theorem md_byteAt_b {n q : Nat} (he : m 37 45 = nI n) (hn2 : n ≤ 160) (ha : m 37 44 = nI q) (hq : q < 1000) {l : Nat} (hl : l < 40) : hk_Cd MX10_byteAt 0 0 0 [.ref 37, .int (nI (160 * l))] (hk_h L m) (some (.int (cI (q < n) (m 67 (160 * l + q)) 0))) (hk_h L m) := by
  refine hk_ofWP (by decide) (by simp [Value.category]) (Nat.le_of_ble_eq_true rfl) ?_
  show hk_WP _ _ _ _ _ _ _ [some (.ref 37), some (.int (nI (160 * l)))] [] _ _
  refine hk_aload_n dX10_byteAt_0 rfl rfl ?_
  refine gfX10_296 rfl dX10_byteAt_1 (hk_lt (by decide)) rfl rfl ?_
  refine hk_aload_n dX10_byteAt_4 rfl rfl ?_
  refine gfX10_299 rfl dX10_byteAt_5 (hk_lt (by decide)) rfl rfl ?_
  refine hk_icmp_ge (tgt := 41) dX10_byteAt_8 (by decide) (fun c8 => ?_) (fun c8 => ?_)
  · rw [he, ha, nI_leI (by omega) (by omega)] at c8
    refine hk_iconst (v := 0) dX10_byteAt_41 (by decide) ?_
    exact hk_ireturn dX10_byteAt_42 rfl rfl (by decide) ⟨by first | exact cI_r1 (by omega) | exact cI_r0 (by omega), rfl⟩
  · rw [he, ha, nI_leI (by omega) (by omega)] at c8
    refine hk_iload_n dX10_byteAt_11 rfl rfl ?_
    refine hk_if_ge (tgt := 27) dX10_byteAt_12 (by decide) (fun _ => ?_) (fun c12 => absurd (nI_pos' (by omega)) c12)
    refine hk_aload_n dX10_byteAt_27 rfl rfl ?_
    refine gfX10_97 rfl dX10_byteAt_28 (hk_lt (by decide)) rfl rfl ?_
    refine hk_iload_n dX10_byteAt_31 rfl rfl ?_
    refine hk_aload_n dX10_byteAt_32 rfl rfl ?_
    refine gfX10_296 rfl dX10_byteAt_33 (hk_lt (by decide)) rfl rfl ?_
    refine hk_iadd dX10_byteAt_36 ?_
    refine hk_ian dX10_byteAt_37 (by decide) (fun _ => rfl) (by rw [ha, nI_add]) (by omega) (by decide) ?_
    refine hk_goto (tgt := 42) dX10_byteAt_38 (by decide) ?_
    exact hk_ireturn dX10_byteAt_42 rfl rfl (by decide) ⟨by first | exact cI_r1 (by omega) | exact cI_r0 (by omega), rfl⟩
theorem md_byteAt {base : Int32} {b : Nat → Int32} (hB : BS m base b) {n q : Nat} (he : m 37 45 = nI n) (hn2 : n ≤ 160) (ha : m 37 44 = nI q) (hq : q < 1000) : hk_Cd MX10_byteAt 0 0 0 [.ref 37, .int base] (hk_h L m) (some (.int (cI (q < n) (b q) 0))) (hk_h L m) := by
  rcases hB with ⟨rfl, rfl⟩ | ⟨l, hl, rfl, rfl⟩
  · exact md_byteAt_a he hn2 ha hq
  · exact md_byteAt_b he hn2 ha hq hl
set_option maxRecDepth 20000 in
set_option maxHeartbeats 2000000 in
theorem md_wrong (hf : m 37 78 = -1) : hk_Cd MX10_wrong 0 0 0 [.ref 37] (hk_h L m) (some (.int 0)) (hk_h L (hk_w m 37 78 (m 37 44))) := by
  refine hk_ofWP (by decide) (by simp [Value.category]) (Nat.le_of_ble_eq_true rfl) ?_
  show hk_WP _ _ _ _ _ _ _ [some (.ref 37)] [] _ _
  refine hk_aload_n dX10_wrong_0 rfl rfl ?_
  refine hk_aload_n dX10_wrong_1 rfl rfl ?_
  refine gfX10_302 rfl dX10_wrong_2 (hk_lt (by decide)) rfl rfl ?_
  refine hk_if_ge (tgt := 15) dX10_wrong_5 (by decide) (fun c5 => absurd c5 (by rw [hf]; decide)) (fun _ => ?_)
  refine hk_aload_n dX10_wrong_8 rfl rfl ?_
  refine gfX10_296 rfl dX10_wrong_9 (hk_lt (by decide)) rfl rfl ?_
  refine hk_goto (tgt := 19) dX10_wrong_12 (by decide) ?_
  refine pfX10_302 rfl dX10_wrong_19 (hk_lt (by decide)) rfl (Nat.le_of_ble_eq_true rfl) (hk_st (j := 78) rfl ?_)
  refine hk_iconst (v := 0) dX10_wrong_22 (by decide) ?_
  exact hk_ireturn dX10_wrong_23 rfl rfl (by decide) ⟨rfl, rfl⟩
set_option maxRecDepth 20000 in
set_option maxHeartbeats 2000000 in
theorem md_opens0 (hf : m 37 78 = -1) (ho : m 37 79 = nI (12 - 0)) : hk_Cd MX10_opens 1 0 0 [.ref 37] (hk_h L m) (some (.int 0)) (hk_h L (hk_w m 37 78 (m 37 44))) := by
  refine hk_ofWP (by decide) (by simp [Value.category]) (Nat.le_of_ble_eq_true rfl) ?_
  show hk_WP _ _ _ _ _ _ _ [some (.ref 37), none] [] _ _
  refine hk_aload_n dX10_opens_0 rfl rfl ?_
  refine gfX10_305 rfl dX10_opens_1 (hk_lt (by decide)) rfl rfl ?_
  refine hk_bipush (v := 12) dX10_opens_4 (by decide) ?_
  refine hk_icmp_ne (tgt := 16) dX10_opens_6 (by decide) (fun c6 => absurd (by rw [ho]; rfl) c6) (fun _ => ?_)
  refine hk_aload_n dX10_opens_9 rfl rfl ?_
  refine ivX10_308 rfl (md_wrong hf) dX10_opens_10 (hk_lt (by decide)) rfl rfl rfl (by decide) ⟨by decide, by decide⟩ (Nat.le_of_ble_eq_true rfl) (hk_kd ?_)
  refine hk_istore_n dX10_opens_13 rfl (by decide) rfl ?_
  refine hk_iconst (v := 0) dX10_opens_14 (by decide) ?_
  exact hk_ireturn dX10_opens_15 rfl rfl (by decide) ⟨rfl, rfl⟩
set_option maxRecDepth 20000 in
set_option maxHeartbeats 2000000 in
theorem md_opensS {k p : Nat} (hk : k < 12) (ha : m 37 44 = nI p) (ho : m 37 79 = nI (12 - (k + 1))) : hk_Cd MX10_opens 1 0 0 [.ref 37] (hk_h L m) (some (.int 1)) (hk_h L (hk_w (hk_w m 37 79 (nI (12 - k))) 37 44 (nI (p + 1)))) := by
  refine hk_ofWP (by decide) (by simp [Value.category]) (Nat.le_of_ble_eq_true rfl) ?_
  show hk_WP _ _ _ _ _ _ _ [some (.ref 37), none] [] _ _
  refine hk_aload_n dX10_opens_0 rfl rfl ?_
  refine gfX10_305 rfl dX10_opens_1 (hk_lt (by decide)) rfl rfl ?_
  refine hk_bipush (v := 12) dX10_opens_4 (by decide) ?_
  refine hk_icmp_ne (tgt := 16) dX10_opens_6 (by decide) (fun _ => ?_) (fun c6 => absurd c6 (by rw [ho, show (12 : Int32) = nI 12 from rfl, nI_eq (by omega) (by decide)]; omega))
  refine hk_aload_n dX10_opens_16 rfl rfl ?_
  refine hk_dup dX10_opens_17 rfl ?_
  refine gfX10_305 rfl dX10_opens_18 (hk_lt (by decide)) rfl rfl ?_
  refine hk_iconst (v := 1) dX10_opens_21 (by decide) ?_
  refine hk_iadd dX10_opens_22 ?_
  refine pfX10_305 rfl dX10_opens_23 (hk_lt (by decide)) rfl (Nat.le_of_ble_eq_true rfl) (hk_st (j := 79) rfl ?_)
  rw [show m 37 79 + 1 = nI (12 - k) by rw [ho, nI_1]; congr 1; omega]
  refine hk_aload_n dX10_opens_26 rfl rfl ?_
  refine hk_dup dX10_opens_27 rfl ?_
  refine gfX10_296 rfl dX10_opens_28 (hk_lt (by decide)) rfl rfl ?_
  refine hk_iconst (v := 1) dX10_opens_31 (by decide) ?_
  refine hk_iadd dX10_opens_32 ?_
  refine pfX10_296 rfl dX10_opens_33 (hk_lt (by decide)) rfl (Nat.le_of_ble_eq_true rfl) (hk_st (j := 44) rfl ?_)
  rw [show hk_w m 37 79 (nI (12 - k)) 37 44 + 1 = nI (p + 1) by rw [hk_w_off (by decide), ha, nI_1]]
  refine hk_iconst (v := 1) dX10_opens_36 (by decide) ?_
  exact hk_ireturn dX10_opens_37 rfl rfl (by decide) ⟨rfl, rfl⟩
/-- a working out of level k, its depth d -/
def MdX (L : Nat) (M : hk_M) (d k : Nat) (F : (Nat → Int32) → Nat → PF) : Prop := ∀ (m : Nat → Nat → Int32) (n p o : Nat) (base : Int32) (b : Nat → Int32), BS m base b → m 37 45 = nI n → n ≤ 160 → p ≤ n → ES m p k m → hk_Ct M d 0 0 [.ref 37, .int base] (hk_h L m) (EP L m k (F b n p o))
set_option maxRecDepth 20000 in
set_option maxHeartbeats 2000000 in
theorem md_chosen0 {d : Nat} (hd : 1 ≤ d) (hC : MdX L MX10_compared d 0 (fun b n => pC b n (EO b n 0))) (hPB : ∀ b n, PB n (pC b n (EO b n 0))) : MdX L MX10_chosen (d + 1) 0 (fun b n => PE b n 0) := by
  intro m n p o base b hB he hn2 hp2 s0
  replace hPB := hPB b n
  refine hk_ofWP (by decide) (by simp [Value.category]) (Nat.le_of_ble_eq_true rfl) ?_
  show hk_WP _ _ _ _ _ _ _ [some (.ref 37), some (.int base), none, none, none] [] _ _
  refine hk_aload_n dX10_chosen_0 rfl rfl ?_
  refine hk_iload_n dX10_chosen_1 rfl rfl ?_
  refine ivX10_311 rfl (hC m n p o base b hB he hn2 hp2 s0) dX10_chosen_2 (hk_lt (by decide)) rfl rfl rfl (Nat.le_refl _) ⟨by decide, by decide⟩ (Nat.le_of_ble_eq_true rfl) (fun r h1 hq => ?_)
  rcases hr : pC b n (EO b n 0) p o with f1 | ⟨p1, c1, v1⟩
  · obtain ⟨m1, w1, rfl, rfl, s1⟩ := EPi s0.1 hq hr
    refine hk_istore_n dX10_chosen_5 rfl (by decide) rfl ?_
    refine hk_aload_n dX10_chosen_6 rfl rfl ?_
    refine gfX10_302 rfl dX10_chosen_7 (hk_lt (by decide)) rfl rfl ?_
    refine hk_if_ge (tgt := 30) dX10_chosen_10 (by decide) (fun _ => ?_) (fun c10 => absurd s1.ge c10)
    refine hk_iload_n dX10_chosen_30 rfl rfl ?_
    exact hk_ireturn dX10_chosen_31 rfl rfl (by decide) (EPf (by show pE _ _ none _ _ = _; unfold pE; rw [show pC b n none p o = .inl f1 from hr]) s1)
  · obtain ⟨m1, rfl, rfl, s1⟩ := EPj s0.1 hq hr
    have hB1 := hPB p o hp2
    rw [hr] at hB1
    simp only at hB1
    refine hk_istore_n dX10_chosen_5 rfl (by decide) rfl ?_
    refine hk_aload_n dX10_chosen_6 rfl rfl ?_
    refine gfX10_302 rfl dX10_chosen_7 (hk_lt (by decide)) rfl rfl ?_
    refine hk_if_ge (tgt := 30) dX10_chosen_10 (by decide) (fun c10 => absurd c10 s1.lt) (fun _ => ?_)
    refine hk_aload_n dX10_chosen_13 rfl rfl ?_
    refine hk_iload_n dX10_chosen_14 rfl rfl ?_
    refine ivX10_314 rfl (md_byteAt (s1.1.b hB) (s1.1.e he) hn2 s1.2.1 (by omega)) dX10_chosen_15 (hk_lt (by decide)) rfl rfl rfl (by omega) ⟨by decide, by decide⟩ (Nat.le_of_ble_eq_true rfl) (hk_kd ?_)
    refine hk_bipush (v := 63) dX10_chosen_18 (by decide) ?_
    refine hk_icmp_ne (tgt := 30) dX10_chosen_20 (by decide) (fun c20 => ?_) (fun c20 => ?_)
    · rw [s_at0 (by decide)] at c20
      refine hk_iload_n dX10_chosen_30 rfl rfl ?_
      exact hk_ireturn dX10_chosen_31 rfl rfl (by decide) (EPc (by show pE _ _ none _ _ = _; unfold pE; rw [show pC b n none p o = .inr (p1, c1, v1) from hr]; simp only []; exact cI_f c20) s1 rfl)
    · rw [s_at0 (by decide)] at c20
      refine hk_aload_n dX10_chosen_23 rfl rfl ?_
      refine ivX10_317 rfl (md_opens0 s1.2.2.1 s1.2.2.2) dX10_chosen_24 (hk_lt (by decide)) rfl rfl rfl (by omega) ⟨by decide, by decide⟩ (Nat.le_of_ble_eq_true rfl) (hk_kd ?_)
      · have s2 := s1.wr (by omega) s1.2.1
        refine hk_if_ne (tgt := 32) dX10_chosen_27 (by decide) (fun c27 => absurd (by decide) c27) (fun _ => ?_)
        refine hk_iload_n dX10_chosen_30 rfl rfl ?_
        exact hk_ireturn dX10_chosen_31 rfl rfl (by decide) (EPf (by show pE _ _ none _ _ = _; unfold pE; rw [show pC b n none p o = .inr (p1, c1, v1) from hr]; simp only []; exact cI_t c20) s2)
set_option maxRecDepth 20000 in
set_option maxHeartbeats 2000000 in
theorem md_chosenS {k d e : Nat} (hk : k < 12) (hd : 1 ≤ d) (hed : e ≤ d) (hE : MdX L MX10_chosen e k (fun b n => PE b n k)) (hC : MdX L MX10_compared d (k + 1) (fun b n => pC b n (EO b n (k + 1)))) (hPB : ∀ b n, PB n (pC b n (EO b n (k + 1)))) : MdX L MX10_chosen (d + 1) (k + 1) (fun b n => PE b n (k + 1)) := by
  intro m n p o base b hB he hn2 hp2 s0
  replace hPB := hPB b n
  refine hk_ofWP (by decide) (by simp [Value.category]) (Nat.le_of_ble_eq_true rfl) ?_
  show hk_WP _ _ _ _ _ _ _ [some (.ref 37), some (.int base), none, none, none] [] _ _
  refine hk_aload_n dX10_chosen_0 rfl rfl ?_
  refine hk_iload_n dX10_chosen_1 rfl rfl ?_
  refine ivX10_311 rfl (hC m n p o base b hB he hn2 hp2 s0) dX10_chosen_2 (hk_lt (by decide)) rfl rfl rfl (Nat.le_refl _) ⟨by decide, by decide⟩ (Nat.le_of_ble_eq_true rfl) (fun r h1 hq => ?_)
  rcases hr : pC b n (EO b n (k + 1)) p o with f1 | ⟨p1, c1, v1⟩
  · obtain ⟨m1, w1, rfl, rfl, s1⟩ := EPi s0.1 hq hr
    refine hk_istore_n dX10_chosen_5 rfl (by decide) rfl ?_
    refine hk_aload_n dX10_chosen_6 rfl rfl ?_
    refine gfX10_302 rfl dX10_chosen_7 (hk_lt (by decide)) rfl rfl ?_
    refine hk_if_ge (tgt := 30) dX10_chosen_10 (by decide) (fun _ => ?_) (fun c10 => absurd s1.ge c10)
    refine hk_iload_n dX10_chosen_30 rfl rfl ?_
    exact hk_ireturn dX10_chosen_31 rfl rfl (by decide) (EPf (by show pE _ _ (some _) _ _ = _; unfold pE; rw [show pC b n (some (PE b n k)) p o = .inl f1 from hr]) s1)
  · obtain ⟨m1, rfl, rfl, s1⟩ := EPj s0.1 hq hr
    have hB1 := hPB p o hp2
    rw [hr] at hB1
    simp only at hB1
    refine hk_istore_n dX10_chosen_5 rfl (by decide) rfl ?_
    refine hk_aload_n dX10_chosen_6 rfl rfl ?_
    refine gfX10_302 rfl dX10_chosen_7 (hk_lt (by decide)) rfl rfl ?_
    refine hk_if_ge (tgt := 30) dX10_chosen_10 (by decide) (fun c10 => absurd c10 s1.lt) (fun _ => ?_)
    refine hk_aload_n dX10_chosen_13 rfl rfl ?_
    refine hk_iload_n dX10_chosen_14 rfl rfl ?_
    refine ivX10_314 rfl (md_byteAt (s1.1.b hB) (s1.1.e he) hn2 s1.2.1 (by omega)) dX10_chosen_15 (hk_lt (by decide)) rfl rfl rfl (by omega) ⟨by decide, by decide⟩ (Nat.le_of_ble_eq_true rfl) (hk_kd ?_)
    refine hk_bipush (v := 63) dX10_chosen_18 (by decide) ?_
    refine hk_icmp_ne (tgt := 30) dX10_chosen_20 (by decide) (fun c20 => ?_) (fun c20 => ?_)
    · rw [s_at0 (by decide)] at c20
      refine hk_iload_n dX10_chosen_30 rfl rfl ?_
      exact hk_ireturn dX10_chosen_31 rfl rfl (by decide) (EPc (by show pE _ _ (some _) _ _ = _; unfold pE; rw [show pC b n (some (PE b n k)) p o = .inr (p1, c1, v1) from hr]; simp only []; exact cI_f c20) s1 rfl)
    · rw [s_at0 (by decide)] at c20
      refine hk_aload_n dX10_chosen_23 rfl rfl ?_
      refine ivX10_317 rfl (md_opensS (by omega) s1.2.1 s1.2.2.2) dX10_chosen_24 (hk_lt (by decide)) rfl rfl rfl (by omega) ⟨by decide, by decide⟩ (Nat.le_of_ble_eq_true rfl) (hk_kd ?_)
      have s2 := (s1.op (k' := k) rfl).pl (p1 + 1)
      refine hk_if_ne (tgt := 32) dX10_chosen_27 (by decide) (fun _ => ?_) (fun c27 => absurd c27 (by decide))
      refine hk_aload_n dX10_chosen_32 rfl rfl ?_
      refine hk_iload_n dX10_chosen_33 rfl rfl ?_
      refine ivX10_321 rfl (hE _ n (p1 + 1) (o + c1.length + 1) base b (s2.1.b hB) (s2.1.e he) hn2 c20.1 s2.self) dX10_chosen_34 (hk_lt (by decide)) rfl rfl rfl (Nat.succ_le_succ hed) ⟨by decide, by decide⟩ (Nat.le_of_ble_eq_true rfl) (fun r h1 hq => ?_)
      rcases hr2 : PE b n k (p1 + 1) (o + c1.length + 1) with f2 | ⟨p2, c2, v2⟩
      · obtain ⟨m2, w2, rfl, rfl, s3⟩ := EPi s2.1 hq hr2
        refine hk_istore_n dX10_chosen_37 rfl (by decide) rfl ?_
        refine hk_aload_n dX10_chosen_38 rfl rfl ?_
        refine gfX10_302 rfl dX10_chosen_39 (hk_lt (by decide)) rfl rfl ?_
        refine hk_if_ge (tgt := 60) dX10_chosen_42 (by decide) (fun _ => ?_) (fun c42 => absurd s3.ge c42)
        refine hk_aload_n dX10_chosen_60 rfl rfl ?_
        refine hk_dup dX10_chosen_61 rfl ?_
        refine gfX10_296 rfl dX10_chosen_62 (hk_lt (by decide)) rfl rfl ?_
        refine hk_iconst (v := 1) dX10_chosen_65 (by decide) ?_
        refine hk_iadd dX10_chosen_66 ?_
        
        refine pfX10_296 rfl dX10_chosen_67 (hk_lt (by decide)) rfl (Nat.le_of_ble_eq_true rfl) (hk_st (j := 44) rfl ?_)
        have s4 := s3.pl (x := m2 37 44 + 1) rfl
        refine hk_aload_n dX10_chosen_70 rfl rfl ?_
        refine gfX10_302 rfl dX10_chosen_71 (hk_lt (by decide)) rfl rfl ?_
        refine hk_if_ge (tgt := 85) dX10_chosen_74 (by decide) (fun _ => ?_) (fun c74 => absurd s4.ge c74)
        refine hk_iconst (v := 0) dX10_chosen_85 (by decide) ?_
        refine hk_istore dX10_chosen_86 (by decide) rfl ?_
        refine hk_aload_n dX10_chosen_88 rfl rfl ?_
        refine hk_dup dX10_chosen_89 rfl ?_
        refine gfX10_305 rfl dX10_chosen_90 (hk_lt (by decide)) rfl rfl ?_
        refine hk_iconst (v := 1) dX10_chosen_93 (by decide) ?_
        refine hk_isub dX10_chosen_94 ?_
        refine pfX10_305 rfl dX10_chosen_95 (hk_lt (by decide)) rfl (Nat.le_of_ble_eq_true rfl) (hk_st (j := 79) rfl ?_)
        refine hk_iload_n dX10_chosen_98 rfl rfl ?_
        refine hk_if_eq (tgt := 106) dX10_chosen_99 (by decide) (fun c99 => ?_) (fun c99 => ?_)
        · refine hk_iload dX10_chosen_106 rfl ?_
          exact hk_ireturn dX10_chosen_108 rfl rfl (by decide) (EPf (by show pE _ _ (some _) _ _ = _; unfold pE; rw [show pC b n (some (PE b n k)) p o = .inr (p1, c1, v1) from hr]; simp only []; rw [cI_t c20, hr2]) s4.op)
        · refine hk_iload_n dX10_chosen_102 rfl rfl ?_
          refine hk_goto (tgt := 108) dX10_chosen_103 (by decide) ?_
          exact hk_ireturn dX10_chosen_108 rfl rfl (by decide) (EPf (by show pE _ _ (some _) _ _ = _; unfold pE; rw [show pC b n (some (PE b n k)) p o = .inr (p1, c1, v1) from hr]; simp only []; rw [cI_t c20, hr2]) s4.op)
      · obtain ⟨m2, rfl, rfl, s3⟩ := EPj s2.1 hq hr2
        have hB2 := PB_PE b n k (p1 + 1) (o + c1.length + 1) c20.1
        rw [hr2] at hB2
        simp only at hB2
        refine hk_istore_n dX10_chosen_37 rfl (by decide) rfl ?_
        refine hk_aload_n dX10_chosen_38 rfl rfl ?_
        refine gfX10_302 rfl dX10_chosen_39 (hk_lt (by decide)) rfl rfl ?_
        refine hk_if_ge (tgt := 60) dX10_chosen_42 (by decide) (fun c42 => absurd c42 s3.lt) (fun _ => ?_)
        refine hk_aload_n dX10_chosen_45 rfl rfl ?_
        refine hk_iload_n dX10_chosen_46 rfl rfl ?_
        refine ivX10_314 rfl (md_byteAt (s3.1.b hB) (s3.1.e he) hn2 s3.2.1 (by omega)) dX10_chosen_47 (hk_lt (by decide)) rfl rfl rfl (by omega) ⟨by decide, by decide⟩ (Nat.le_of_ble_eq_true rfl) (hk_kd ?_)
        refine hk_bipush (v := 58) dX10_chosen_50 (by decide) ?_
        refine hk_icmp_eq (tgt := 60) dX10_chosen_52 (by decide) (fun c52 => ?_) (fun c52 => ?_)
        · rw [s_at0 (by decide)] at c52
          refine hk_aload_n dX10_chosen_60 rfl rfl ?_
          refine hk_dup dX10_chosen_61 rfl ?_
          refine gfX10_296 rfl dX10_chosen_62 (hk_lt (by decide)) rfl rfl ?_
          refine hk_iconst (v := 1) dX10_chosen_65 (by decide) ?_
          refine hk_iadd dX10_chosen_66 ?_
          refine pfX10_296 rfl dX10_chosen_67 (hk_lt (by decide)) rfl (Nat.le_of_ble_eq_true rfl) (hk_st (j := 44) rfl ?_)
          rw [show m2 37 44 + 1 = nI (p2 + 1) by rw [s3.2.1, nI_1]]
          have s4 := s3.pl (p2 + 1)
          refine hk_aload_n dX10_chosen_70 rfl rfl ?_
          refine gfX10_302 rfl dX10_chosen_71 (hk_lt (by decide)) rfl rfl ?_
          refine hk_if_ge (tgt := 85) dX10_chosen_74 (by decide) (fun c74 => absurd c74 s4.lt) (fun _ => ?_)
          refine hk_aload_n dX10_chosen_77 rfl rfl ?_
          refine hk_iload_n dX10_chosen_78 rfl rfl ?_
          refine ivX10_321 rfl (hE _ n (p2 + 1) (o + c1.length + 1 + c2.length + 1) base b (s4.1.b hB) (s4.1.e he) hn2 c52.1 s4.self) dX10_chosen_79 (hk_lt (by decide)) rfl rfl rfl (Nat.succ_le_succ hed) ⟨by decide, by decide⟩ (Nat.le_of_ble_eq_true rfl) (fun r h1 hq => ?_)
          rcases hr3 : PE b n k (p2 + 1) (o + c1.length + 1 + c2.length + 1) with f3 | ⟨p3, c3, v3⟩
          · obtain ⟨m3, w3, rfl, rfl, s5⟩ := EPi s4.1 hq hr3
            refine hk_goto (tgt := 86) dX10_chosen_82 (by decide) ?_
            refine hk_istore dX10_chosen_86 (by decide) rfl ?_
            refine hk_aload_n dX10_chosen_88 rfl rfl ?_
            refine hk_dup dX10_chosen_89 rfl ?_
            refine gfX10_305 rfl dX10_chosen_90 (hk_lt (by decide)) rfl rfl ?_
            refine hk_iconst (v := 1) dX10_chosen_93 (by decide) ?_
            refine hk_isub dX10_chosen_94 ?_
            refine pfX10_305 rfl dX10_chosen_95 (hk_lt (by decide)) rfl (Nat.le_of_ble_eq_true rfl) (hk_st (j := 79) rfl ?_)
            refine hk_iload_n dX10_chosen_98 rfl rfl ?_
            refine hk_if_eq (tgt := 106) dX10_chosen_99 (by decide) (fun c99 => ?_) (fun c99 => ?_)
            · refine hk_iload dX10_chosen_106 rfl ?_
              exact hk_ireturn dX10_chosen_108 rfl rfl (by decide) (EPf (by show pE _ _ (some _) _ _ = _; unfold pE; rw [show pC b n (some (PE b n k)) p o = .inr (p1, c1, v1) from hr]; simp only []; rw [cI_t c20, hr2]; simp only []; rw [cI_t c52, hr3]) (s5.op.up (Nat.le_succ k)))
            · refine hk_iload_n dX10_chosen_102 rfl rfl ?_
              refine hk_goto (tgt := 108) dX10_chosen_103 (by decide) ?_
              exact hk_ireturn dX10_chosen_108 rfl rfl (by decide) (EPf (by show pE _ _ (some _) _ _ = _; unfold pE; rw [show pC b n (some (PE b n k)) p o = .inr (p1, c1, v1) from hr]; simp only []; rw [cI_t c20, hr2]; simp only []; rw [cI_t c52, hr3]) (s5.op.up (Nat.le_succ k)))
          · obtain ⟨m3, rfl, rfl, s5⟩ := EPj s4.1 hq hr3
            refine hk_goto (tgt := 86) dX10_chosen_82 (by decide) ?_
            refine hk_istore dX10_chosen_86 (by decide) rfl ?_
            refine hk_aload_n dX10_chosen_88 rfl rfl ?_
            refine hk_dup dX10_chosen_89 rfl ?_
            refine gfX10_305 rfl dX10_chosen_90 (hk_lt (by decide)) rfl rfl ?_
            refine hk_iconst (v := 1) dX10_chosen_93 (by decide) ?_
            refine hk_isub dX10_chosen_94 ?_
            refine pfX10_305 rfl dX10_chosen_95 (hk_lt (by decide)) rfl (Nat.le_of_ble_eq_true rfl) (hk_st (j := 79) rfl ?_)
            refine hk_iload_n dX10_chosen_98 rfl rfl ?_
            refine hk_if_eq (tgt := 106) dX10_chosen_99 (by decide) (fun c99 => ?_) (fun c99 => ?_)
            · refine hk_iload dX10_chosen_106 rfl ?_
              exact hk_ireturn dX10_chosen_108 rfl rfl (by decide) (EPc (by show pE _ _ (some _) _ _ = _; unfold pE; rw [show pC b n (some (PE b n k)) p o = .inr (p1, c1, v1) from hr]; simp only []; rw [cI_t c20, hr2]; simp only []; rw [cI_t c52, hr3]) (s5.op (k' := k + 1) (by rw [s5.2.2.2]; show nI (12 - k) - nI 1 = _; rw [nI_sub (by omega)]; congr 1)) (by first | exact (if_pos c99).symm | exact (if_neg c99).symm))
            · refine hk_iload_n dX10_chosen_102 rfl rfl ?_
              refine hk_goto (tgt := 108) dX10_chosen_103 (by decide) ?_
              exact hk_ireturn dX10_chosen_108 rfl rfl (by decide) (EPc (by show pE _ _ (some _) _ _ = _; unfold pE; rw [show pC b n (some (PE b n k)) p o = .inr (p1, c1, v1) from hr]; simp only []; rw [cI_t c20, hr2]; simp only []; rw [cI_t c52, hr3]) (s5.op (k' := k + 1) (by rw [s5.2.2.2]; show nI (12 - k) - nI 1 = _; rw [nI_sub (by omega)]; congr 1)) (by first | exact (if_pos c99).symm | exact (if_neg c99).symm))
        · rw [s_at0 (by decide)] at c52
          refine hk_aload_n dX10_chosen_55 rfl rfl ?_
          refine ivX10_308 rfl (md_wrong s3.2.2.1) dX10_chosen_56 (hk_lt (by decide)) rfl rfl rfl (by omega) ⟨by decide, by decide⟩ (Nat.le_of_ble_eq_true rfl) (hk_kd ?_)
          exact hk_ireturn dX10_chosen_59 rfl rfl (by decide) (EPf (by show pE _ _ (some _) _ _ = _; unfold pE; rw [show pC b n (some (PE b n k)) p o = .inr (p1, c1, v1) from hr]; simp only []; rw [cI_t c20, hr2]; simp only []; exact cI_f c52) ((s3.wr (by omega) s3.2.1).up (Nat.le_succ k)))
set_option maxRecDepth 20000 in
set_option maxHeartbeats 2000000 in
theorem lq_compared {k d : Nat} (hd : 1 ≤ d) (hF : MdX L MX10_sum d k (fun b n => pS b n (EO b n k))) {n p o : Nat} {base : Int32} {b : Nat → Int32} (hB : BS m base b) (he : m 37 45 = nI n) (hn2 : n ≤ 160) {p1 : Nat} {c1 : List Int32} {v1 : (Nat → Int32) → Int32} (hr : pS b n (EO b n k) p o = .inr (p1, c1, v1)) (s1 : ES m p1 k m1) (hc : p1 < n ∧ isCmp (b p1)) (l4 : Option Value) : hk_WP MX10_compared (d + 1) 0 0 0 0 39 [some (.ref 37), some (.int base), some (.int (v1 (nmR m))), some (.int (b p1)), l4] [] (hk_h L m1) (EP L m k (pC b n (EO b n k) p o)) := by
  have s2 := s1.pl (p1 + 1)
  refine hk_aload_n dX10_compared_39 rfl rfl ?_
  refine hk_dup dX10_compared_40 rfl ?_
  refine gfX10_296 rfl dX10_compared_41 (hk_lt (by decide)) rfl rfl ?_
  refine hk_iconst (v := 1) dX10_compared_44 (by decide) ?_
  refine hk_iadd dX10_compared_45 ?_
  refine pfX10_296 rfl dX10_compared_46 (hk_lt (by decide)) rfl (Nat.le_of_ble_eq_true rfl) (hk_st (j := 44) rfl ?_)
  rw [show m1 37 44 + 1 = nI (p1 + 1) by rw [s1.2.1, nI_1]]
  refine hk_aload_n dX10_compared_49 rfl rfl ?_
  refine hk_iload_n dX10_compared_50 rfl rfl ?_
  refine ivX10_324 rfl (hF _ n (p1 + 1) (o + c1.length) base b (s2.1.b hB) (s2.1.e he) hn2 hc.1 s2.self) dX10_compared_51 (hk_lt (by decide)) rfl rfl rfl (Nat.le_refl _) ⟨by decide, by decide⟩ (Nat.le_of_ble_eq_true rfl) (fun r h1 hq => ?_)
  rcases hr2 : pS b n (EO b n k) (p1 + 1) (o + c1.length) with f2 | ⟨p2, c2, v2⟩
  · obtain ⟨m2, w2, rfl, rfl, s3⟩ := EPi s2.1 hq hr2
    refine hk_istore dX10_compared_54 (by decide) rfl ?_
    refine hk_iload_n dX10_compared_56 rfl rfl ?_
    refine hk_bipush (v := 60) dX10_compared_57 (by decide) ?_
    refine hk_icmp_ne (tgt := 71) dX10_compared_59 (by decide) (fun c59 => ?_) (fun c59 => ?_)
    · refine hk_iload_n dX10_compared_71 rfl rfl ?_
      refine hk_bipush (v := 61) dX10_compared_72 (by decide) ?_
      refine hk_icmp_ne (tgt := 86) dX10_compared_74 (by decide) (fun c74 => ?_) (fun c74 => ?_)
      · refine hk_iload_n dX10_compared_86 rfl rfl ?_
        refine hk_iload dX10_compared_87 rfl ?_
        refine hk_icmp_le (tgt := 96) dX10_compared_89 (by decide) (fun c89 => ?_) (fun c89 => ?_)
        · refine hk_iconst (v := 0) dX10_compared_96 (by decide) ?_
          exact hk_ireturn dX10_compared_97 rfl rfl (by decide) (EPf (by unfold pC; simp only [hr]; rw [cI_t hc, hr2]) s3)
        · refine hk_iconst (v := 1) dX10_compared_92 (by decide) ?_
          refine hk_goto (tgt := 97) dX10_compared_93 (by decide) ?_
          exact hk_ireturn dX10_compared_97 rfl rfl (by decide) (EPf (by unfold pC; simp only [hr]; rw [cI_t hc, hr2]) s3)
      · refine hk_iload_n dX10_compared_77 rfl rfl ?_
        refine hk_iload dX10_compared_78 rfl ?_
        refine hk_icmp_ne (tgt := 96) dX10_compared_80 (by decide) (fun c80 => ?_) (fun c80 => ?_)
        · refine hk_iconst (v := 0) dX10_compared_96 (by decide) ?_
          exact hk_ireturn dX10_compared_97 rfl rfl (by decide) (EPf (by unfold pC; simp only [hr]; rw [cI_t hc, hr2]) s3)
        · refine hk_goto (tgt := 92) dX10_compared_83 (by decide) ?_
          refine hk_iconst (v := 1) dX10_compared_92 (by decide) ?_
          refine hk_goto (tgt := 97) dX10_compared_93 (by decide) ?_
          exact hk_ireturn dX10_compared_97 rfl rfl (by decide) (EPf (by unfold pC; simp only [hr]; rw [cI_t hc, hr2]) s3)
    · refine hk_iload_n dX10_compared_62 rfl rfl ?_
      refine hk_iload dX10_compared_63 rfl ?_
      refine hk_icmp_ge (tgt := 96) dX10_compared_65 (by decide) (fun c65 => ?_) (fun c65 => ?_)
      · refine hk_iconst (v := 0) dX10_compared_96 (by decide) ?_
        exact hk_ireturn dX10_compared_97 rfl rfl (by decide) (EPf (by unfold pC; simp only [hr]; rw [cI_t hc, hr2]) s3)
      · refine hk_goto (tgt := 92) dX10_compared_68 (by decide) ?_
        refine hk_iconst (v := 1) dX10_compared_92 (by decide) ?_
        refine hk_goto (tgt := 97) dX10_compared_93 (by decide) ?_
        exact hk_ireturn dX10_compared_97 rfl rfl (by decide) (EPf (by unfold pC; simp only [hr]; rw [cI_t hc, hr2]) s3)
  · obtain ⟨m2, rfl, rfl, s3⟩ := EPj s2.1 hq hr2
    refine hk_istore dX10_compared_54 (by decide) rfl ?_
    refine hk_iload_n dX10_compared_56 rfl rfl ?_
    refine hk_bipush (v := 60) dX10_compared_57 (by decide) ?_
    refine hk_icmp_ne (tgt := 71) dX10_compared_59 (by decide) (fun c59 => ?_) (fun c59 => ?_)
    · refine hk_iload_n dX10_compared_71 rfl rfl ?_
      refine hk_bipush (v := 61) dX10_compared_72 (by decide) ?_
      refine hk_icmp_ne (tgt := 86) dX10_compared_74 (by decide) (fun c74 => ?_) (fun c74 => ?_)
      · refine hk_iload_n dX10_compared_86 rfl rfl ?_
        refine hk_iload dX10_compared_87 rfl ?_
        refine hk_icmp_le (tgt := 96) dX10_compared_89 (by decide) (fun c89 => ?_) (fun c89 => ?_)
        · refine hk_iconst (v := 0) dX10_compared_96 (by decide) ?_
          exact hk_ireturn dX10_compared_97 rfl rfl (by decide) (EPc (by unfold pC; simp only [hr]; rw [cI_t hc, hr2]) s3 (by have hx := hc.2; unfold isCmp at hx; unfold opv; grind))
        · refine hk_iconst (v := 1) dX10_compared_92 (by decide) ?_
          refine hk_goto (tgt := 97) dX10_compared_93 (by decide) ?_
          exact hk_ireturn dX10_compared_97 rfl rfl (by decide) (EPc (by unfold pC; simp only [hr]; rw [cI_t hc, hr2]) s3 (by have hx := hc.2; unfold isCmp at hx; unfold opv; grind))
      · refine hk_iload_n dX10_compared_77 rfl rfl ?_
        refine hk_iload dX10_compared_78 rfl ?_
        refine hk_icmp_ne (tgt := 96) dX10_compared_80 (by decide) (fun c80 => ?_) (fun c80 => ?_)
        · refine hk_iconst (v := 0) dX10_compared_96 (by decide) ?_
          exact hk_ireturn dX10_compared_97 rfl rfl (by decide) (EPc (by unfold pC; simp only [hr]; rw [cI_t hc, hr2]) s3 (by have hx := hc.2; unfold isCmp at hx; unfold opv; grind))
        · refine hk_goto (tgt := 92) dX10_compared_83 (by decide) ?_
          refine hk_iconst (v := 1) dX10_compared_92 (by decide) ?_
          refine hk_goto (tgt := 97) dX10_compared_93 (by decide) ?_
          exact hk_ireturn dX10_compared_97 rfl rfl (by decide) (EPc (by unfold pC; simp only [hr]; rw [cI_t hc, hr2]) s3 (by have hx := hc.2; unfold isCmp at hx; unfold opv; grind))
    · refine hk_iload_n dX10_compared_62 rfl rfl ?_
      refine hk_iload dX10_compared_63 rfl ?_
      refine hk_icmp_ge (tgt := 96) dX10_compared_65 (by decide) (fun c65 => ?_) (fun c65 => ?_)
      · refine hk_iconst (v := 0) dX10_compared_96 (by decide) ?_
        exact hk_ireturn dX10_compared_97 rfl rfl (by decide) (EPc (by unfold pC; simp only [hr]; rw [cI_t hc, hr2]) s3 (by have hx := hc.2; unfold isCmp at hx; unfold opv; grind))
      · refine hk_goto (tgt := 92) dX10_compared_68 (by decide) ?_
        refine hk_iconst (v := 1) dX10_compared_92 (by decide) ?_
        refine hk_goto (tgt := 97) dX10_compared_93 (by decide) ?_
        exact hk_ireturn dX10_compared_97 rfl rfl (by decide) (EPc (by unfold pC; simp only [hr]; rw [cI_t hc, hr2]) s3 (by have hx := hc.2; unfold isCmp at hx; unfold opv; grind))
set_option maxRecDepth 20000 in
set_option maxHeartbeats 2000000 in
theorem md_compared {k d : Nat} (hd : 1 ≤ d) (hF : MdX L MX10_sum d k (fun b n => pS b n (EO b n k))) (hk : k ≤ 12) (hPB : ∀ b n, PB n (pS b n (EO b n k))) : MdX L MX10_compared (d + 1) k (fun b n => pC b n (EO b n k)) := by
  intro m n p o base b hB he hn2 hp2 s0
  replace hPB := hPB b n
  refine hk_ofWP (by decide) (by simp [Value.category]) (Nat.le_of_ble_eq_true rfl) ?_
  show hk_WP _ _ _ _ _ _ _ [some (.ref 37), some (.int base), none, none, none] [] _ _
  refine hk_aload_n dX10_compared_0 rfl rfl ?_
  refine hk_iload_n dX10_compared_1 rfl rfl ?_
  refine ivX10_324 rfl (hF m n p o base b hB he hn2 hp2 s0) dX10_compared_2 (hk_lt (by decide)) rfl rfl rfl (Nat.le_refl _) ⟨by decide, by decide⟩ (Nat.le_of_ble_eq_true rfl) (fun r h1 hq => ?_)
  rcases hr : pS b n (EO b n k) p o with f1 | ⟨p1, c1, v1⟩
  · obtain ⟨m1, w1, rfl, rfl, s1⟩ := EPi s0.1 hq hr
    obtain ⟨q1, hq1, hq2⟩ := s1.2.2.2
    refine hk_istore_n dX10_compared_5 rfl (by decide) rfl ?_
    refine hk_aload_n dX10_compared_6 rfl rfl ?_
    refine hk_iload_n dX10_compared_7 rfl rfl ?_
    refine ivX10_314 rfl (md_byteAt (s1.1.b hB) (s1.1.e he) hn2 hq1 (by omega)) dX10_compared_8 (hk_lt (by decide)) rfl rfl rfl (by omega) ⟨by decide, by decide⟩ (Nat.le_of_ble_eq_true rfl) (hk_kd ?_)
    refine hk_istore_n dX10_compared_11 rfl (by decide) rfl ?_
    refine hk_aload_n dX10_compared_12 rfl rfl ?_
    refine gfX10_302 rfl dX10_compared_13 (hk_lt (by decide)) rfl rfl ?_
    refine hk_if_ge (tgt := 37) dX10_compared_16 (by decide) (fun _ => ?_) (fun c16 => absurd s1.ge c16)
    refine hk_iload_n dX10_compared_37 rfl rfl ?_
    exact hk_ireturn dX10_compared_38 rfl rfl (by decide) (EPf (by show pC _ _ _ _ _ = _; unfold pC; simp only [hr]) s1)
  · obtain ⟨m1, rfl, rfl, s1⟩ := EPj s0.1 hq hr
    have hB1 := hPB p o hp2
    rw [hr] at hB1
    simp only at hB1
    refine hk_istore_n dX10_compared_5 rfl (by decide) rfl ?_
    refine hk_aload_n dX10_compared_6 rfl rfl ?_
    refine hk_iload_n dX10_compared_7 rfl rfl ?_
    refine ivX10_314 rfl (md_byteAt (s1.1.b hB) (s1.1.e he) hn2 s1.2.1 (by omega)) dX10_compared_8 (hk_lt (by decide)) rfl rfl rfl (by omega) ⟨by decide, by decide⟩ (Nat.le_of_ble_eq_true rfl) (hk_kd ?_)
    refine hk_istore_n dX10_compared_11 rfl (by decide) rfl ?_
    refine hk_aload_n dX10_compared_12 rfl rfl ?_
    refine gfX10_302 rfl dX10_compared_13 (hk_lt (by decide)) rfl rfl ?_
    refine hk_if_ge (tgt := 37) dX10_compared_16 (by decide) (fun c16 => absurd c16 s1.lt) (fun _ => ?_)
    refine hk_iload_n dX10_compared_19 rfl rfl ?_
    refine hk_bipush (v := 60) dX10_compared_20 (by decide) ?_
    refine hk_icmp_eq (tgt := 39) dX10_compared_22 (by decide) (fun c22 => ?_) (fun c22 => ?_)
    · rw [s_at0 (by decide)] at c22
      have hc : p1 < n ∧ isCmp (b p1) := by first | exact ⟨c22.1, Or.inl c22.2⟩ | exact ⟨c28.1, Or.inr (Or.inl c28.2)⟩ | exact ⟨c34.1, Or.inr (Or.inr c34.2)⟩
      rw [cI_t hc.1]
      exact lq_compared hd hF hB he hn2 hr s1 hc _
    · rw [s_at0 (by decide)] at c22
      refine hk_iload_n dX10_compared_25 rfl rfl ?_
      refine hk_bipush (v := 61) dX10_compared_26 (by decide) ?_
      refine hk_icmp_eq (tgt := 39) dX10_compared_28 (by decide) (fun c28 => ?_) (fun c28 => ?_)
      · rw [s_at0 (by decide)] at c28
        have hc : p1 < n ∧ isCmp (b p1) := by first | exact ⟨c22.1, Or.inl c22.2⟩ | exact ⟨c28.1, Or.inr (Or.inl c28.2)⟩ | exact ⟨c34.1, Or.inr (Or.inr c34.2)⟩
        rw [cI_t hc.1]
        exact lq_compared hd hF hB he hn2 hr s1 hc _
      · rw [s_at0 (by decide)] at c28
        refine hk_iload_n dX10_compared_31 rfl rfl ?_
        refine hk_bipush (v := 62) dX10_compared_32 (by decide) ?_
        refine hk_icmp_eq (tgt := 39) dX10_compared_34 (by decide) (fun c34 => ?_) (fun c34 => ?_)
        · rw [s_at0 (by decide)] at c34
          have hc : p1 < n ∧ isCmp (b p1) := by first | exact ⟨c22.1, Or.inl c22.2⟩ | exact ⟨c28.1, Or.inr (Or.inl c28.2)⟩ | exact ⟨c34.1, Or.inr (Or.inr c34.2)⟩
          rw [cI_t hc.1]
          exact lq_compared hd hF hB he hn2 hr s1 hc _
        · rw [s_at0 (by decide)] at c34
          refine hk_iload_n dX10_compared_37 rfl rfl ?_
          exact hk_ireturn dX10_compared_38 rfl rfl (by decide) (EPc (by show pC _ _ _ _ _ = _; unfold pC; simp only [hr]; exact cI_f (fun z => z.2.elim (fun w => c22 ⟨z.1, w⟩) (fun w => w.elim (fun w => c28 ⟨z.1, w⟩) (fun w => c34 ⟨z.1, w⟩)))) s1 rfl)
set_option maxRecDepth 20000 in
set_option maxHeartbeats 2000000 in
theorem lx_sum {k d f : Nat} {base w : Int32} {l3 l4 : Option Value} (s1 : EX m k f m1) : hk_WP MX10_sum (d + 1) 0 0 0 0 6 [some (.ref 37), some (.int base), some (.int w), l3, l4] [] (hk_h L m1) (EP L m k (.inl f)) := by
  refine hk_aload_n dX10_sum_6 rfl rfl ?_
  refine gfX10_302 rfl dX10_sum_7 (hk_lt (by decide)) rfl rfl ?_
  refine hk_if_ge (tgt := 85) dX10_sum_10 (by decide) (fun _ => ?_) (fun c10 => absurd s1.ge c10)
  refine hk_iload_n dX10_sum_85 rfl rfl ?_
  exact hk_ireturn dX10_sum_86 rfl rfl (by decide) (EPf rfl s1)
set_option maxRecDepth 20000 in
set_option maxHeartbeats 2000000 in
theorem lq_sum {k d : Nat} (hd : 1 ≤ d) (hF : MdX L MX10_product d k (fun b n => pP b n (EO b n k))) {n p o : Nat} {base : Int32} {b : Nat → Int32} (hB : BS m base b) (he : m 37 45 = nI n) (hn2 : n ≤ 160) {f : Nat} {cs : List Int32} {v : (Nat → Int32) → Int32} {l3 l4 : Option Value} (ih : ∀ (m1 : Nat → Nat → Int32) (p : Nat) (cs : List Int32) (v : (Nat → Int32) → Int32) (l3 l4 : Option Value), ES m p k m1 → p ≤ n → n + 1 - p ≤ f → hk_WP MX10_sum (d + 1) 0 0 0 0 6 [some (.ref 37), some (.int base), some (.int (v (nmR m))), l3, l4] [] (hk_h L m1) (EP L m k (pL b n isAdd (pP b n (EO b n k)) o f p cs v))) (s1 : ES m p k m1) (hpn : p < n) (hf : n - p ≤ f) (hm : isAdd (b p)) (hPB : PB n (pP b n (EO b n k))) : hk_WP MX10_sum (d + 1) 0 0 0 0 33 [some (.ref 37), some (.int base), some (.int (v (nmR m))), l3, l4] [] (hk_h L m1) (EP L m k (pL b n isAdd (pP b n (EO b n k)) o (f + 1) p cs v)) := by
  have s2 := s1.pl (p + 1)
  refine hk_aload_n dX10_sum_33 rfl rfl ?_
  refine hk_iload_n dX10_sum_34 rfl rfl ?_
  refine ivX10_314 rfl (md_byteAt (s1.1.b hB) (s1.1.e he) hn2 s1.2.1 (by omega)) dX10_sum_35 (hk_lt (by decide)) rfl rfl rfl (by omega) ⟨by decide, by decide⟩ (Nat.le_of_ble_eq_true rfl) (hk_kd ?_)
  rw [cI_t hpn]
  refine hk_bipush (v := 43) dX10_sum_38 (by decide) ?_
  refine hk_icmp_ne (tgt := 47) dX10_sum_40 (by decide) (fun c40 => ?_) (fun c40 => ?_)
  · refine hk_iconst (v := 0) dX10_sum_47 (by decide) ?_
    refine hk_istore_n dX10_sum_48 rfl (by decide) rfl ?_
    refine hk_aload_n dX10_sum_49 rfl rfl ?_
    refine hk_dup dX10_sum_50 rfl ?_
    refine gfX10_296 rfl dX10_sum_51 (hk_lt (by decide)) rfl rfl ?_
    refine hk_iconst (v := 1) dX10_sum_54 (by decide) ?_
    refine hk_iadd dX10_sum_55 ?_
    refine pfX10_296 rfl dX10_sum_56 (hk_lt (by decide)) rfl (Nat.le_of_ble_eq_true rfl) (hk_st (j := 44) rfl ?_)
    rw [show m1 37 44 + 1 = nI (p + 1) by rw [s1.2.1, nI_1]]
    refine hk_aload_n dX10_sum_59 rfl rfl ?_
    refine hk_iload_n dX10_sum_60 rfl rfl ?_
    refine ivX10_327 rfl (hF _ n (p + 1) (o + cs.length) base b (s2.1.b hB) (s2.1.e he) hn2 hpn s2.self) dX10_sum_61 (hk_lt (by decide)) rfl rfl rfl (Nat.le_refl _) ⟨by decide, by decide⟩ (Nat.le_of_ble_eq_true rfl) (fun r h1 hq => ?_)
    rcases hr2 : pP b n (EO b n k) (p + 1) (o + cs.length) with f2 | ⟨p2, c2, v2⟩
    · obtain ⟨m2, w2, rfl, rfl, s3⟩ := EPi s2.1 hq hr2
      refine hk_istore dX10_sum_64 (by decide) rfl ?_
      refine hk_iload_n dX10_sum_66 rfl rfl ?_
      refine hk_if_eq (tgt := 77) dX10_sum_67 (by decide) (fun _ => ?_) (fun c67 => absurd (by decide) c67)
      refine hk_iload_n dX10_sum_77 rfl rfl ?_
      refine hk_iload dX10_sum_78 rfl ?_
      refine hk_isub dX10_sum_80 ?_
      refine hk_istore_n dX10_sum_81 rfl (by decide) rfl ?_
      refine hk_goto (tgt := 6) dX10_sum_82 (by decide) ?_
      show hk_WP _ _ _ _ _ _ _ _ _ _ (EP L m k (cI _ _ _))
      rw [cI_t ⟨hpn, hm⟩, hr2]
      exact lx_sum s3
    · obtain ⟨m2, rfl, rfl, s3⟩ := EPj s2.1 hq hr2
      have hB2 := hPB (p + 1) (o + cs.length) hpn
      rw [hr2] at hB2
      simp only at hB2
      refine hk_istore dX10_sum_64 (by decide) rfl ?_
      refine hk_iload_n dX10_sum_66 rfl rfl ?_
      refine hk_if_eq (tgt := 77) dX10_sum_67 (by decide) (fun _ => ?_) (fun c67 => absurd (by decide) c67)
      refine hk_iload_n dX10_sum_77 rfl rfl ?_
      refine hk_iload dX10_sum_78 rfl ?_
      refine hk_isub dX10_sum_80 ?_
      refine hk_istore_n dX10_sum_81 rfl (by decide) rfl ?_
      refine hk_goto (tgt := 6) dX10_sum_82 (by decide) ?_
      show hk_WP _ _ _ _ _ _ _ _ _ _ (EP L m k (cI _ _ _))
      rw [cI_t ⟨hpn, hm⟩, hr2]
      have hz : ∀ (x : Int32) (l3 l4 : Option Value), x = opv (b p) (v (nmR m)) (v2 (nmR m)) → hk_WP MX10_sum (d + 1) 0 0 0 0 6 [some (.ref 37), some (.int base), some (.int x), l3, l4] [] (hk_h L m2) (EP L m k (pL b n isAdd (pP b n (EO b n k)) o f p2 (cs ++ c2 ++ [b p]) (fun nm => opv (b p) (v nm) (v2 nm)))) := fun x l3 l4 hx => by subst hx; exact ih m2 p2 (cs ++ c2 ++ [b p]) (fun nm => opv (b p) (v nm) (v2 nm)) l3 l4 s3 hB2.2.1 (by omega)
      exact hz _ _ _ (by have hx := hm; unfold isAdd at hx; unfold opv; grind)
  · refine hk_iconst (v := 1) dX10_sum_43 (by decide) ?_
    refine hk_goto (tgt := 48) dX10_sum_44 (by decide) ?_
    refine hk_istore_n dX10_sum_48 rfl (by decide) rfl ?_
    refine hk_aload_n dX10_sum_49 rfl rfl ?_
    refine hk_dup dX10_sum_50 rfl ?_
    refine gfX10_296 rfl dX10_sum_51 (hk_lt (by decide)) rfl rfl ?_
    refine hk_iconst (v := 1) dX10_sum_54 (by decide) ?_
    refine hk_iadd dX10_sum_55 ?_
    refine pfX10_296 rfl dX10_sum_56 (hk_lt (by decide)) rfl (Nat.le_of_ble_eq_true rfl) (hk_st (j := 44) rfl ?_)
    rw [show m1 37 44 + 1 = nI (p + 1) by rw [s1.2.1, nI_1]]
    refine hk_aload_n dX10_sum_59 rfl rfl ?_
    refine hk_iload_n dX10_sum_60 rfl rfl ?_
    refine ivX10_327 rfl (hF _ n (p + 1) (o + cs.length) base b (s2.1.b hB) (s2.1.e he) hn2 hpn s2.self) dX10_sum_61 (hk_lt (by decide)) rfl rfl rfl (Nat.le_refl _) ⟨by decide, by decide⟩ (Nat.le_of_ble_eq_true rfl) (fun r h1 hq => ?_)
    rcases hr2 : pP b n (EO b n k) (p + 1) (o + cs.length) with f2 | ⟨p2, c2, v2⟩
    · obtain ⟨m2, w2, rfl, rfl, s3⟩ := EPi s2.1 hq hr2
      refine hk_istore dX10_sum_64 (by decide) rfl ?_
      refine hk_iload_n dX10_sum_66 rfl rfl ?_
      refine hk_if_eq (tgt := 77) dX10_sum_67 (by decide) (fun c67 => absurd c67 (by decide)) (fun _ => ?_)
      refine hk_iload_n dX10_sum_70 rfl rfl ?_
      refine hk_iload dX10_sum_71 rfl ?_
      refine hk_iadd dX10_sum_73 ?_
      refine hk_goto (tgt := 81) dX10_sum_74 (by decide) ?_
      refine hk_istore_n dX10_sum_81 rfl (by decide) rfl ?_
      refine hk_goto (tgt := 6) dX10_sum_82 (by decide) ?_
      show hk_WP _ _ _ _ _ _ _ _ _ _ (EP L m k (cI _ _ _))
      rw [cI_t ⟨hpn, hm⟩, hr2]
      exact lx_sum s3
    · obtain ⟨m2, rfl, rfl, s3⟩ := EPj s2.1 hq hr2
      have hB2 := hPB (p + 1) (o + cs.length) hpn
      rw [hr2] at hB2
      simp only at hB2
      refine hk_istore dX10_sum_64 (by decide) rfl ?_
      refine hk_iload_n dX10_sum_66 rfl rfl ?_
      refine hk_if_eq (tgt := 77) dX10_sum_67 (by decide) (fun c67 => absurd c67 (by decide)) (fun _ => ?_)
      refine hk_iload_n dX10_sum_70 rfl rfl ?_
      refine hk_iload dX10_sum_71 rfl ?_
      refine hk_iadd dX10_sum_73 ?_
      refine hk_goto (tgt := 81) dX10_sum_74 (by decide) ?_
      refine hk_istore_n dX10_sum_81 rfl (by decide) rfl ?_
      refine hk_goto (tgt := 6) dX10_sum_82 (by decide) ?_
      show hk_WP _ _ _ _ _ _ _ _ _ _ (EP L m k (cI _ _ _))
      rw [cI_t ⟨hpn, hm⟩, hr2]
      have hz : ∀ (x : Int32) (l3 l4 : Option Value), x = opv (b p) (v (nmR m)) (v2 (nmR m)) → hk_WP MX10_sum (d + 1) 0 0 0 0 6 [some (.ref 37), some (.int base), some (.int x), l3, l4] [] (hk_h L m2) (EP L m k (pL b n isAdd (pP b n (EO b n k)) o f p2 (cs ++ c2 ++ [b p]) (fun nm => opv (b p) (v nm) (v2 nm)))) := fun x l3 l4 hx => by subst hx; exact ih m2 p2 (cs ++ c2 ++ [b p]) (fun nm => opv (b p) (v nm) (v2 nm)) l3 l4 s3 hB2.2.1 (by omega)
      exact hz _ _ _ (by have hx := hm; unfold isAdd at hx; unfold opv; grind)
set_option maxRecDepth 20000 in
set_option maxHeartbeats 2000000 in
theorem lp_sum {k d : Nat} (hd : 1 ≤ d) (hF : MdX L MX10_product d k (fun b n => pP b n (EO b n k))) (hk : k ≤ 12) {n o : Nat} {base : Int32} {b : Nat → Int32} (hB : BS m base b) (he : m 37 45 = nI n) (hn2 : n ≤ 160) (hPB : PB n (pP b n (EO b n k))) (f : Nat) (m1 : Nat → Nat → Int32) (p : Nat) (cs : List Int32) (v : (Nat → Int32) → Int32) (l3 l4 : Option Value) (s1 : ES m p k m1) (hp2 : p ≤ n) (hf : n + 1 - p ≤ f) : hk_WP MX10_sum (d + 1) 0 0 0 0 6 [some (.ref 37), some (.int base), some (.int (v (nmR m))), l3, l4] [] (hk_h L m1) (EP L m k (pL b n isAdd (pP b n (EO b n k)) o f p cs v)) := by
  obtain ⟨g, rfl⟩ : ∃ g, f = g + 1 := ⟨f - 1, by omega⟩
  refine hk_aload_n dX10_sum_6 rfl rfl ?_
  refine gfX10_302 rfl dX10_sum_7 (hk_lt (by decide)) rfl rfl ?_
  refine hk_if_ge (tgt := 85) dX10_sum_10 (by decide) (fun c10 => absurd c10 s1.lt) (fun _ => ?_)
  refine hk_aload_n dX10_sum_13 rfl rfl ?_
  refine hk_iload_n dX10_sum_14 rfl rfl ?_
  refine ivX10_314 rfl (md_byteAt (s1.1.b hB) (s1.1.e he) hn2 s1.2.1 (by omega)) dX10_sum_15 (hk_lt (by decide)) rfl rfl rfl (by omega) ⟨by decide, by decide⟩ (Nat.le_of_ble_eq_true rfl) (hk_kd ?_)
  refine hk_bipush (v := 43) dX10_sum_18 (by decide) ?_
  refine hk_icmp_eq (tgt := 33) dX10_sum_20 (by decide) (fun c20 => ?_) (fun c20 => ?_)
  · rw [s_at0 (by decide)] at c20
    have hc : p < n ∧ isAdd (b p) := by unfold isAdd; unfold at_ at *; grind
    exact lq_sum hd hF hB he hn2 (fun m1 p cs v l3 l4 s h1 h2 => lp_sum hd hF hk hB he hn2 hPB g m1 p cs v l3 l4 s h1 h2) s1 hc.1 (by omega) hc.2 hPB
  · rw [s_at0 (by decide)] at c20
    refine hk_aload_n dX10_sum_23 rfl rfl ?_
    refine hk_iload_n dX10_sum_24 rfl rfl ?_
    refine ivX10_314 rfl (md_byteAt (s1.1.b hB) (s1.1.e he) hn2 s1.2.1 (by omega)) dX10_sum_25 (hk_lt (by decide)) rfl rfl rfl (by omega) ⟨by decide, by decide⟩ (Nat.le_of_ble_eq_true rfl) (hk_kd ?_)
    refine hk_bipush (v := 45) dX10_sum_28 (by decide) ?_
    refine hk_icmp_ne (tgt := 85) dX10_sum_30 (by decide) (fun c30 => ?_) (fun c30 => ?_)
    · rw [s_at0 (by decide)] at c30
      refine hk_iload_n dX10_sum_85 rfl rfl ?_
      exact hk_ireturn dX10_sum_86 rfl rfl (by decide) (EPc (by show cI _ _ _ = _; exact cI_f (fun z => by have z1 := z.1; have z2 := z.2; unfold isAdd at z2; unfold at_ at *; grind)) s1 rfl)
    · rw [s_at0 (by decide)] at c30
      have hc : p < n ∧ isAdd (b p) := by unfold isAdd; unfold at_ at *; grind
      exact lq_sum hd hF hB he hn2 (fun m1 p cs v l3 l4 s h1 h2 => lp_sum hd hF hk hB he hn2 hPB g m1 p cs v l3 l4 s h1 h2) s1 hc.1 (by omega) hc.2 hPB
termination_by f
decreasing_by all_goals omega
set_option maxRecDepth 20000 in
set_option maxHeartbeats 2000000 in
theorem md_sum {k d : Nat} (hd : 1 ≤ d) (hF : MdX L MX10_product d k (fun b n => pP b n (EO b n k))) (hk : k ≤ 12) (hPB : ∀ b n, PB n (pP b n (EO b n k))) : MdX L MX10_sum (d + 1) k (fun b n => pS b n (EO b n k)) := by
  intro m n p o base b hB he hn2 hp2 s0
  replace hPB := hPB b n
  refine hk_ofWP (by decide) (by simp [Value.category]) (Nat.le_of_ble_eq_true rfl) ?_
  show hk_WP _ _ _ _ _ _ _ [some (.ref 37), some (.int base), none, none, none] [] _ _
  refine hk_aload_n dX10_sum_0 rfl rfl ?_
  refine hk_iload_n dX10_sum_1 rfl rfl ?_
  refine ivX10_327 rfl (hF m n p o base b hB he hn2 hp2 s0) dX10_sum_2 (hk_lt (by decide)) rfl rfl rfl (Nat.le_refl _) ⟨by decide, by decide⟩ (Nat.le_of_ble_eq_true rfl) (fun r h1 hq => ?_)
  rcases hr : pP b n (EO b n k) p o with f1 | ⟨p1, c1, v1⟩
  · obtain ⟨m1, w1, rfl, rfl, s1⟩ := EPi s0.1 hq hr
    refine hk_istore_n dX10_sum_5 rfl (by decide) rfl ?_
    show hk_WP _ _ _ _ _ _ _ _ _ _ (EP L m k (pLoop b n isAdd (pP b n (EO b n k)) p o))
    rw [show pLoop b n isAdd (pP b n (EO b n k)) p o = .inl f1 from by unfold pLoop; rw [hr]]
    exact lx_sum s1
  · obtain ⟨m1, rfl, rfl, s1⟩ := EPj s0.1 hq hr
    have hB1 := hPB p o hp2
    rw [hr] at hB1
    simp only at hB1
    refine hk_istore_n dX10_sum_5 rfl (by decide) rfl ?_
    show hk_WP _ _ _ _ _ _ _ _ _ _ (EP L m k (pLoop b n isAdd (pP b n (EO b n k)) p o))
    rw [show pLoop b n isAdd (pP b n (EO b n k)) p o = pL b n isAdd (pP b n (EO b n k)) o (n + 1 - p1) p1 c1 v1 from by unfold pLoop; rw [hr]]
    exact lp_sum hd hF hk hB he hn2 hPB _ m1 p1 c1 v1 _ _ s1 hB1.2.1 (Nat.le_refl _)
set_option maxRecDepth 20000 in
set_option maxHeartbeats 2000000 in
theorem lx_product {k d f : Nat} {base w : Int32} {l3 l4 : Option Value} (s1 : EX m k f m1) : hk_WP MX10_product (d + 1) 0 0 0 0 6 [some (.ref 37), some (.int base), some (.int w), l3, l4] [] (hk_h L m1) (EP L m k (.inl f)) := by
  refine hk_aload_n dX10_product_6 rfl rfl ?_
  refine gfX10_302 rfl dX10_product_7 (hk_lt (by decide)) rfl rfl ?_
  refine hk_if_ge (tgt := 109) dX10_product_10 (by decide) (fun _ => ?_) (fun c10 => absurd s1.ge c10)
  refine hk_iload_n dX10_product_109 rfl rfl ?_
  exact hk_ireturn dX10_product_110 rfl rfl (by decide) (EPf rfl s1)
set_option maxRecDepth 20000 in
set_option maxHeartbeats 2000000 in
theorem lq_product {k d : Nat} (hd : 1 ≤ d) (hF : MdX L MX10_one d k (fun b n => pO b n (EO b n k))) {n p o : Nat} {base : Int32} {b : Nat → Int32} (hB : BS m base b) (he : m 37 45 = nI n) (hn2 : n ≤ 160) {f : Nat} {cs : List Int32} {v : (Nat → Int32) → Int32} {l3 l4 : Option Value} (ih : ∀ (m1 : Nat → Nat → Int32) (p : Nat) (cs : List Int32) (v : (Nat → Int32) → Int32) (l3 l4 : Option Value), ES m p k m1 → p ≤ n → n + 1 - p ≤ f → hk_WP MX10_product (d + 1) 0 0 0 0 6 [some (.ref 37), some (.int base), some (.int (v (nmR m))), l3, l4] [] (hk_h L m1) (EP L m k (pL b n isMul (pO b n (EO b n k)) o f p cs v))) (s1 : ES m p k m1) (hpn : p < n) (hf : n - p ≤ f) (hm : isMul (b p)) (hPB : PB n (pO b n (EO b n k))) : hk_WP MX10_product (d + 1) 0 0 0 0 43 [some (.ref 37), some (.int base), some (.int (v (nmR m))), l3, l4] [] (hk_h L m1) (EP L m k (pL b n isMul (pO b n (EO b n k)) o (f + 1) p cs v)) := by
  have s2 := s1.pl (p + 1)
  refine hk_aload_n dX10_product_43 rfl rfl ?_
  refine hk_iload_n dX10_product_44 rfl rfl ?_
  refine ivX10_314 rfl (md_byteAt (s1.1.b hB) (s1.1.e he) hn2 s1.2.1 (by omega)) dX10_product_45 (hk_lt (by decide)) rfl rfl rfl (by omega) ⟨by decide, by decide⟩ (Nat.le_of_ble_eq_true rfl) (hk_kd ?_)
  rw [cI_t hpn]
  refine hk_istore_n dX10_product_48 rfl (by decide) rfl ?_
  refine hk_aload_n dX10_product_49 rfl rfl ?_
  refine hk_dup dX10_product_50 rfl ?_
  refine gfX10_296 rfl dX10_product_51 (hk_lt (by decide)) rfl rfl ?_
  refine hk_iconst (v := 1) dX10_product_54 (by decide) ?_
  refine hk_iadd dX10_product_55 ?_
  refine pfX10_296 rfl dX10_product_56 (hk_lt (by decide)) rfl (Nat.le_of_ble_eq_true rfl) (hk_st (j := 44) rfl ?_)
  rw [show m1 37 44 + 1 = nI (p + 1) by rw [s1.2.1, nI_1]]
  refine hk_aload_n dX10_product_59 rfl rfl ?_
  refine hk_iload_n dX10_product_60 rfl rfl ?_
  refine ivX10_330 rfl (hF _ n (p + 1) (o + cs.length) base b (s2.1.b hB) (s2.1.e he) hn2 hpn s2.self) dX10_product_61 (hk_lt (by decide)) rfl rfl rfl (Nat.le_refl _) ⟨by decide, by decide⟩ (Nat.le_of_ble_eq_true rfl) (fun r h1 hq => ?_)
  rcases hr2 : pO b n (EO b n k) (p + 1) (o + cs.length) with f2 | ⟨p2, c2, v2⟩
  · obtain ⟨m2, w2, rfl, rfl, s3⟩ := EPi s2.1 hq hr2
    refine hk_istore dX10_product_64 (by decide) rfl ?_
    refine hk_iload_n dX10_product_66 rfl rfl ?_
    refine hk_bipush (v := 42) dX10_product_67 (by decide) ?_
    refine hk_icmp_ne (tgt := 79) dX10_product_69 (by decide) (fun c69 => ?_) (fun c69 => ?_)
    · refine hk_iload dX10_product_79 rfl ?_
      refine hk_if_ne (tgt := 88) dX10_product_81 (by decide) (fun c81 => ?_) (fun c81 => ?_)
      · refine hk_iload_n dX10_product_88 rfl rfl ?_
        refine hk_bipush (v := 47) dX10_product_89 (by decide) ?_
        refine hk_icmp_ne (tgt := 101) dX10_product_91 (by decide) (fun c91 => ?_) (fun c91 => ?_)
        · refine hk_iload_n dX10_product_101 rfl rfl ?_
          refine hk_iload dX10_product_102 rfl ?_
          refine hk_irem dX10_product_104 c81 ?_
          refine hk_istore_n dX10_product_105 rfl (by decide) rfl ?_
          refine hk_goto (tgt := 6) dX10_product_106 (by decide) ?_
          show hk_WP _ _ _ _ _ _ _ _ _ _ (EP L m k (cI _ _ _))
          rw [cI_t ⟨hpn, hm⟩, hr2]
          exact lx_product s3
        · refine hk_iload_n dX10_product_94 rfl rfl ?_
          refine hk_iload dX10_product_95 rfl ?_
          refine hk_idiv dX10_product_97 c81 ?_
          refine hk_goto (tgt := 105) dX10_product_98 (by decide) ?_
          refine hk_istore_n dX10_product_105 rfl (by decide) rfl ?_
          refine hk_goto (tgt := 6) dX10_product_106 (by decide) ?_
          show hk_WP _ _ _ _ _ _ _ _ _ _ (EP L m k (cI _ _ _))
          rw [cI_t ⟨hpn, hm⟩, hr2]
          exact lx_product s3
      · refine hk_iconst (v := 0) dX10_product_84 (by decide) ?_
        refine hk_goto (tgt := 105) dX10_product_85 (by decide) ?_
        refine hk_istore_n dX10_product_105 rfl (by decide) rfl ?_
        refine hk_goto (tgt := 6) dX10_product_106 (by decide) ?_
        show hk_WP _ _ _ _ _ _ _ _ _ _ (EP L m k (cI _ _ _))
        rw [cI_t ⟨hpn, hm⟩, hr2]
        exact lx_product s3
    · refine hk_iload_n dX10_product_72 rfl rfl ?_
      refine hk_iload dX10_product_73 rfl ?_
      refine hk_imul dX10_product_75 ?_
      refine hk_goto (tgt := 105) dX10_product_76 (by decide) ?_
      refine hk_istore_n dX10_product_105 rfl (by decide) rfl ?_
      refine hk_goto (tgt := 6) dX10_product_106 (by decide) ?_
      show hk_WP _ _ _ _ _ _ _ _ _ _ (EP L m k (cI _ _ _))
      rw [cI_t ⟨hpn, hm⟩, hr2]
      exact lx_product s3
  · obtain ⟨m2, rfl, rfl, s3⟩ := EPj s2.1 hq hr2
    have hB2 := hPB (p + 1) (o + cs.length) hpn
    rw [hr2] at hB2
    simp only at hB2
    refine hk_istore dX10_product_64 (by decide) rfl ?_
    refine hk_iload_n dX10_product_66 rfl rfl ?_
    refine hk_bipush (v := 42) dX10_product_67 (by decide) ?_
    refine hk_icmp_ne (tgt := 79) dX10_product_69 (by decide) (fun c69 => ?_) (fun c69 => ?_)
    · refine hk_iload dX10_product_79 rfl ?_
      refine hk_if_ne (tgt := 88) dX10_product_81 (by decide) (fun c81 => ?_) (fun c81 => ?_)
      · refine hk_iload_n dX10_product_88 rfl rfl ?_
        refine hk_bipush (v := 47) dX10_product_89 (by decide) ?_
        refine hk_icmp_ne (tgt := 101) dX10_product_91 (by decide) (fun c91 => ?_) (fun c91 => ?_)
        · refine hk_iload_n dX10_product_101 rfl rfl ?_
          refine hk_iload dX10_product_102 rfl ?_
          refine hk_irem dX10_product_104 c81 ?_
          refine hk_istore_n dX10_product_105 rfl (by decide) rfl ?_
          refine hk_goto (tgt := 6) dX10_product_106 (by decide) ?_
          show hk_WP _ _ _ _ _ _ _ _ _ _ (EP L m k (cI _ _ _))
          rw [cI_t ⟨hpn, hm⟩, hr2]
          have hz : ∀ (x : Int32) (l3 l4 : Option Value), x = opv (b p) (v (nmR m)) (v2 (nmR m)) → hk_WP MX10_product (d + 1) 0 0 0 0 6 [some (.ref 37), some (.int base), some (.int x), l3, l4] [] (hk_h L m2) (EP L m k (pL b n isMul (pO b n (EO b n k)) o f p2 (cs ++ c2 ++ [b p]) (fun nm => opv (b p) (v nm) (v2 nm)))) := fun x l3 l4 hx => by subst hx; exact ih m2 p2 (cs ++ c2 ++ [b p]) (fun nm => opv (b p) (v nm) (v2 nm)) l3 l4 s3 hB2.2.1 (by omega)
          exact hz _ _ _ (by have hx := hm; unfold isMul at hx; unfold opv; grind)
        · refine hk_iload_n dX10_product_94 rfl rfl ?_
          refine hk_iload dX10_product_95 rfl ?_
          refine hk_idiv dX10_product_97 c81 ?_
          refine hk_goto (tgt := 105) dX10_product_98 (by decide) ?_
          refine hk_istore_n dX10_product_105 rfl (by decide) rfl ?_
          refine hk_goto (tgt := 6) dX10_product_106 (by decide) ?_
          show hk_WP _ _ _ _ _ _ _ _ _ _ (EP L m k (cI _ _ _))
          rw [cI_t ⟨hpn, hm⟩, hr2]
          have hz : ∀ (x : Int32) (l3 l4 : Option Value), x = opv (b p) (v (nmR m)) (v2 (nmR m)) → hk_WP MX10_product (d + 1) 0 0 0 0 6 [some (.ref 37), some (.int base), some (.int x), l3, l4] [] (hk_h L m2) (EP L m k (pL b n isMul (pO b n (EO b n k)) o f p2 (cs ++ c2 ++ [b p]) (fun nm => opv (b p) (v nm) (v2 nm)))) := fun x l3 l4 hx => by subst hx; exact ih m2 p2 (cs ++ c2 ++ [b p]) (fun nm => opv (b p) (v nm) (v2 nm)) l3 l4 s3 hB2.2.1 (by omega)
          exact hz _ _ _ (by have hx := hm; unfold isMul at hx; unfold opv; grind)
      · refine hk_iconst (v := 0) dX10_product_84 (by decide) ?_
        refine hk_goto (tgt := 105) dX10_product_85 (by decide) ?_
        refine hk_istore_n dX10_product_105 rfl (by decide) rfl ?_
        refine hk_goto (tgt := 6) dX10_product_106 (by decide) ?_
        show hk_WP _ _ _ _ _ _ _ _ _ _ (EP L m k (cI _ _ _))
        rw [cI_t ⟨hpn, hm⟩, hr2]
        have hz : ∀ (x : Int32) (l3 l4 : Option Value), x = opv (b p) (v (nmR m)) (v2 (nmR m)) → hk_WP MX10_product (d + 1) 0 0 0 0 6 [some (.ref 37), some (.int base), some (.int x), l3, l4] [] (hk_h L m2) (EP L m k (pL b n isMul (pO b n (EO b n k)) o f p2 (cs ++ c2 ++ [b p]) (fun nm => opv (b p) (v nm) (v2 nm)))) := fun x l3 l4 hx => by subst hx; exact ih m2 p2 (cs ++ c2 ++ [b p]) (fun nm => opv (b p) (v nm) (v2 nm)) l3 l4 s3 hB2.2.1 (by omega)
        exact hz _ _ _ (by have hx := hm; unfold isMul at hx; unfold opv; grind)
    · refine hk_iload_n dX10_product_72 rfl rfl ?_
      refine hk_iload dX10_product_73 rfl ?_
      refine hk_imul dX10_product_75 ?_
      refine hk_goto (tgt := 105) dX10_product_76 (by decide) ?_
      refine hk_istore_n dX10_product_105 rfl (by decide) rfl ?_
      refine hk_goto (tgt := 6) dX10_product_106 (by decide) ?_
      show hk_WP _ _ _ _ _ _ _ _ _ _ (EP L m k (cI _ _ _))
      rw [cI_t ⟨hpn, hm⟩, hr2]
      have hz : ∀ (x : Int32) (l3 l4 : Option Value), x = opv (b p) (v (nmR m)) (v2 (nmR m)) → hk_WP MX10_product (d + 1) 0 0 0 0 6 [some (.ref 37), some (.int base), some (.int x), l3, l4] [] (hk_h L m2) (EP L m k (pL b n isMul (pO b n (EO b n k)) o f p2 (cs ++ c2 ++ [b p]) (fun nm => opv (b p) (v nm) (v2 nm)))) := fun x l3 l4 hx => by subst hx; exact ih m2 p2 (cs ++ c2 ++ [b p]) (fun nm => opv (b p) (v nm) (v2 nm)) l3 l4 s3 hB2.2.1 (by omega)
      exact hz _ _ _ (by have hx := hm; unfold isMul at hx; unfold opv; grind)
set_option maxRecDepth 20000 in
set_option maxHeartbeats 2000000 in
theorem lp_product {k d : Nat} (hd : 1 ≤ d) (hF : MdX L MX10_one d k (fun b n => pO b n (EO b n k))) (hk : k ≤ 12) {n o : Nat} {base : Int32} {b : Nat → Int32} (hB : BS m base b) (he : m 37 45 = nI n) (hn2 : n ≤ 160) (hPB : PB n (pO b n (EO b n k))) (f : Nat) (m1 : Nat → Nat → Int32) (p : Nat) (cs : List Int32) (v : (Nat → Int32) → Int32) (l3 l4 : Option Value) (s1 : ES m p k m1) (hp2 : p ≤ n) (hf : n + 1 - p ≤ f) : hk_WP MX10_product (d + 1) 0 0 0 0 6 [some (.ref 37), some (.int base), some (.int (v (nmR m))), l3, l4] [] (hk_h L m1) (EP L m k (pL b n isMul (pO b n (EO b n k)) o f p cs v)) := by
  obtain ⟨g, rfl⟩ : ∃ g, f = g + 1 := ⟨f - 1, by omega⟩
  refine hk_aload_n dX10_product_6 rfl rfl ?_
  refine gfX10_302 rfl dX10_product_7 (hk_lt (by decide)) rfl rfl ?_
  refine hk_if_ge (tgt := 109) dX10_product_10 (by decide) (fun c10 => absurd c10 s1.lt) (fun _ => ?_)
  refine hk_aload_n dX10_product_13 rfl rfl ?_
  refine hk_iload_n dX10_product_14 rfl rfl ?_
  refine ivX10_314 rfl (md_byteAt (s1.1.b hB) (s1.1.e he) hn2 s1.2.1 (by omega)) dX10_product_15 (hk_lt (by decide)) rfl rfl rfl (by omega) ⟨by decide, by decide⟩ (Nat.le_of_ble_eq_true rfl) (hk_kd ?_)
  refine hk_bipush (v := 42) dX10_product_18 (by decide) ?_
  refine hk_icmp_eq (tgt := 43) dX10_product_20 (by decide) (fun c20 => ?_) (fun c20 => ?_)
  · rw [s_at0 (by decide)] at c20
    have hc : p < n ∧ isMul (b p) := by unfold isMul; unfold at_ at *; grind
    exact lq_product hd hF hB he hn2 (fun m1 p cs v l3 l4 s h1 h2 => lp_product hd hF hk hB he hn2 hPB g m1 p cs v l3 l4 s h1 h2) s1 hc.1 (by omega) hc.2 hPB
  · rw [s_at0 (by decide)] at c20
    refine hk_aload_n dX10_product_23 rfl rfl ?_
    refine hk_iload_n dX10_product_24 rfl rfl ?_
    refine ivX10_314 rfl (md_byteAt (s1.1.b hB) (s1.1.e he) hn2 s1.2.1 (by omega)) dX10_product_25 (hk_lt (by decide)) rfl rfl rfl (by omega) ⟨by decide, by decide⟩ (Nat.le_of_ble_eq_true rfl) (hk_kd ?_)
    refine hk_bipush (v := 47) dX10_product_28 (by decide) ?_
    refine hk_icmp_eq (tgt := 43) dX10_product_30 (by decide) (fun c30 => ?_) (fun c30 => ?_)
    · rw [s_at0 (by decide)] at c30
      have hc : p < n ∧ isMul (b p) := by unfold isMul; unfold at_ at *; grind
      exact lq_product hd hF hB he hn2 (fun m1 p cs v l3 l4 s h1 h2 => lp_product hd hF hk hB he hn2 hPB g m1 p cs v l3 l4 s h1 h2) s1 hc.1 (by omega) hc.2 hPB
    · rw [s_at0 (by decide)] at c30
      refine hk_aload_n dX10_product_33 rfl rfl ?_
      refine hk_iload_n dX10_product_34 rfl rfl ?_
      refine ivX10_314 rfl (md_byteAt (s1.1.b hB) (s1.1.e he) hn2 s1.2.1 (by omega)) dX10_product_35 (hk_lt (by decide)) rfl rfl rfl (by omega) ⟨by decide, by decide⟩ (Nat.le_of_ble_eq_true rfl) (hk_kd ?_)
      refine hk_bipush (v := 37) dX10_product_38 (by decide) ?_
      refine hk_icmp_ne (tgt := 109) dX10_product_40 (by decide) (fun c40 => ?_) (fun c40 => ?_)
      · rw [s_at0 (by decide)] at c40
        refine hk_iload_n dX10_product_109 rfl rfl ?_
        exact hk_ireturn dX10_product_110 rfl rfl (by decide) (EPc (by show cI _ _ _ = _; exact cI_f (fun z => by have z1 := z.1; have z2 := z.2; unfold isMul at z2; unfold at_ at *; grind)) s1 rfl)
      · rw [s_at0 (by decide)] at c40
        have hc : p < n ∧ isMul (b p) := by unfold isMul; unfold at_ at *; grind
        exact lq_product hd hF hB he hn2 (fun m1 p cs v l3 l4 s h1 h2 => lp_product hd hF hk hB he hn2 hPB g m1 p cs v l3 l4 s h1 h2) s1 hc.1 (by omega) hc.2 hPB
termination_by f
decreasing_by all_goals omega
set_option maxRecDepth 20000 in
set_option maxHeartbeats 2000000 in
theorem md_product {k d : Nat} (hd : 1 ≤ d) (hF : MdX L MX10_one d k (fun b n => pO b n (EO b n k))) (hk : k ≤ 12) (hPB : ∀ b n, PB n (pO b n (EO b n k))) : MdX L MX10_product (d + 1) k (fun b n => pP b n (EO b n k)) := by
  intro m n p o base b hB he hn2 hp2 s0
  replace hPB := hPB b n
  refine hk_ofWP (by decide) (by simp [Value.category]) (Nat.le_of_ble_eq_true rfl) ?_
  show hk_WP _ _ _ _ _ _ _ [some (.ref 37), some (.int base), none, none, none] [] _ _
  refine hk_aload_n dX10_product_0 rfl rfl ?_
  refine hk_iload_n dX10_product_1 rfl rfl ?_
  refine ivX10_330 rfl (hF m n p o base b hB he hn2 hp2 s0) dX10_product_2 (hk_lt (by decide)) rfl rfl rfl (Nat.le_refl _) ⟨by decide, by decide⟩ (Nat.le_of_ble_eq_true rfl) (fun r h1 hq => ?_)
  rcases hr : pO b n (EO b n k) p o with f1 | ⟨p1, c1, v1⟩
  · obtain ⟨m1, w1, rfl, rfl, s1⟩ := EPi s0.1 hq hr
    refine hk_istore_n dX10_product_5 rfl (by decide) rfl ?_
    show hk_WP _ _ _ _ _ _ _ _ _ _ (EP L m k (pLoop b n isMul (pO b n (EO b n k)) p o))
    rw [show pLoop b n isMul (pO b n (EO b n k)) p o = .inl f1 from by unfold pLoop; rw [hr]]
    exact lx_product s1
  · obtain ⟨m1, rfl, rfl, s1⟩ := EPj s0.1 hq hr
    have hB1 := hPB p o hp2
    rw [hr] at hB1
    simp only at hB1
    refine hk_istore_n dX10_product_5 rfl (by decide) rfl ?_
    show hk_WP _ _ _ _ _ _ _ _ _ _ (EP L m k (pLoop b n isMul (pO b n (EO b n k)) p o))
    rw [show pLoop b n isMul (pO b n (EO b n k)) p o = pL b n isMul (pO b n (EO b n k)) o (n + 1 - p1) p1 c1 v1 from by unfold pLoop; rw [hr]]
    exact lp_product hd hF hk hB he hn2 hPB _ m1 p1 c1 v1 _ _ s1 hB1.2.1 (Nat.le_refl _)
theorem s_dg0 {b : Nat → Int32} {n p : Nat} : (¬ cI (p < n) (b p) 0 < 48 ∧ ¬ 57 < cI (p < n) (b p) 0) ↔ isDg b n p := by
  by_cases h : p < n
  · rw [cI_t h]; exact ⟨fun q => ⟨h, q.1, q.2⟩, fun q => q.2⟩
  · rw [cI_f h]; exact ⟨fun q => absurd (by decide) q.1, fun q => absurd q.1 h⟩
set_option maxRecDepth 20000 in
set_option maxHeartbeats 2000000 in
theorem lp_one {d k : Nat} (hd : 1 ≤ d) (hk : k ≤ 12) {n : Nat} {base : Int32} {b : Nat → Int32} (hB : BS m base b) (he : m 37 45 = nI n) (hn2 : n ≤ 160) (i : Nat) (hi : i ≤ 5) (m1 : Nat → Nat → Int32) (p : Nat) (v g2 : Int32) (s1 : ES m p k m1) (hp2 : p ≤ n) : hk_WP MX10_one (d + 1) 0 0 0 0 128 [some (.ref 37), some (.int base), some (.int g2), some (.int v), some (.int (nI i))] [] (hk_h L m1) (EP L m k (cI (isDg b n (pNum b n (5 - i) p v).1) (.inl (pNum b n (5 - i) p v).1) (.inr ((pNum b n (5 - i) p v).1, [48 + 256 * (pNum b n (5 - i) p v).2], fun _ => (pNum b n (5 - i) p v).2)) : LRes)) := by
  refine hk_aload_n dX10_one_128 rfl rfl ?_
  refine hk_iload_n dX10_one_129 rfl rfl ?_
  refine ivX10_314 rfl (md_byteAt (s1.1.b hB) (s1.1.e he) hn2 s1.2.1 (by omega)) dX10_one_130 (hk_lt (by decide)) rfl rfl rfl (by omega) ⟨by decide, by decide⟩ (Nat.le_of_ble_eq_true rfl) (hk_kd ?_)
  refine hk_bipush (v := 48) dX10_one_133 (by decide) ?_
  refine hk_icmp_lt (tgt := 189) dX10_one_135 (by decide) (fun c135 => ?_) (fun c135 => ?_)
  · have hnd : ¬ isDg b n p := by rw [← s_dg0]; grind
    have e5 : pNum b n (5 - i) p v = (p, v) := by
      by_cases hi5 : i = 5
      · rw [hi5]; rfl
      · rw [show 5 - i = (5 - (i + 1)) + 1 by omega]; show cI _ _ _ = _; rw [cI_f (by first | exact hnd | omega)]
    rw [e5]
    refine hk_iload_n dX10_one_189 rfl rfl ?_
    exact hk_ireturn dX10_one_190 rfl rfl (by decide) (EPc (cI_f hnd) s1 rfl)
  · refine hk_aload_n dX10_one_138 rfl rfl ?_
    refine hk_iload_n dX10_one_139 rfl rfl ?_
    refine ivX10_314 rfl (md_byteAt (s1.1.b hB) (s1.1.e he) hn2 s1.2.1 (by omega)) dX10_one_140 (hk_lt (by decide)) rfl rfl rfl (by omega) ⟨by decide, by decide⟩ (Nat.le_of_ble_eq_true rfl) (hk_kd ?_)
    refine hk_bipush (v := 57) dX10_one_143 (by decide) ?_
    refine hk_icmp_gt (tgt := 189) dX10_one_145 (by decide) (fun c145 => ?_) (fun c145 => ?_)
    · have hnd : ¬ isDg b n p := by rw [← s_dg0]; grind
      have e5 : pNum b n (5 - i) p v = (p, v) := by
        by_cases hi5 : i = 5
        · rw [hi5]; rfl
        · rw [show 5 - i = (5 - (i + 1)) + 1 by omega]; show cI _ _ _ = _; rw [cI_f (by first | exact hnd | omega)]
      rw [e5]
      refine hk_iload_n dX10_one_189 rfl rfl ?_
      exact hk_ireturn dX10_one_190 rfl rfl (by decide) (EPc (cI_f hnd) s1 rfl)
    · have hd2 : isDg b n p := s_dg0.mp ⟨c135, c145⟩
      refine hk_iload dX10_one_148 rfl ?_
      refine hk_iconst (v := 5) dX10_one_150 (by decide) ?_
      refine hk_icmp_ne (tgt := 159) dX10_one_151 (by decide) (fun c151 => ?_) (fun c151 => ?_)
      · rw [show (5 : Int32) = nI 5 from rfl, nI_eq (by omega) (by decide)] at c151
        refine hk_bipush (v := 10) dX10_one_159 (by decide) ?_
        refine hk_iload_n dX10_one_161 rfl rfl ?_
        refine hk_imul dX10_one_162 ?_
        refine hk_aload_n dX10_one_163 rfl rfl ?_
        refine hk_iload_n dX10_one_164 rfl rfl ?_
        refine ivX10_314 rfl (md_byteAt (s1.1.b hB) (s1.1.e he) hn2 s1.2.1 (by omega)) dX10_one_165 (hk_lt (by decide)) rfl rfl rfl (by omega) ⟨by decide, by decide⟩ (Nat.le_of_ble_eq_true rfl) (hk_kd ?_)
        refine hk_iadd dX10_one_168 ?_
        refine hk_bipush (v := 48) dX10_one_169 (by decide) ?_
        refine hk_isub dX10_one_171 ?_
        refine hk_istore_n dX10_one_172 rfl (by decide) rfl ?_
        refine hk_iinc (v := nI (i + 1)) dX10_one_173 rfl (nI_1 i) (by decide) rfl ?_
        refine hk_aload_n dX10_one_176 rfl rfl ?_
        refine hk_dup dX10_one_177 rfl ?_
        refine gfX10_296 rfl dX10_one_178 (hk_lt (by decide)) rfl rfl ?_
        refine hk_iconst (v := 1) dX10_one_181 (by decide) ?_
        refine hk_iadd dX10_one_182 ?_
        refine pfX10_296 rfl dX10_one_183 (hk_lt (by decide)) rfl (Nat.le_of_ble_eq_true rfl) (hk_st (j := 44) rfl ?_)
        rw [show m1 37 44 + 1 = nI (p + 1) by rw [s1.2.1, nI_1]]
        refine hk_goto (tgt := 128) dX10_one_186 (by decide) ?_
        have e : 5 - i = (5 - (i + 1)) + 1 := by omega
        have hs := lp_one hd hk hB he hn2 (i + 1) (by omega) (hk_w m1 37 44 (nI (p + 1))) (p + 1) (v * 10 + b p - 48) g2 (s1.pl (p + 1)) hd2.1
        have e2 : pNum b n (5 - i) p v = pNum b n (5 - (i + 1)) (p + 1) (v * 10 + b p - 48) := by rw [e]; show cI _ _ _ = _; rw [cI_t hd2]
        rw [e2, cI_t hd2.1, Int32.mul_comm 10 v]
        exact hs
      · rw [show (5 : Int32) = nI 5 from rfl, nI_eq (by omega) (by decide)] at c151
        refine hk_aload_n dX10_one_154 rfl rfl ?_
        refine ivX10_308 rfl (md_wrong s1.2.2.1) dX10_one_155 (hk_lt (by decide)) rfl rfl rfl (by omega) ⟨by decide, by decide⟩ (Nat.le_of_ble_eq_true rfl) (hk_kd ?_)
        exact hk_ireturn dX10_one_158 rfl rfl (by decide) (by subst c151; exact EPf (cI_t (show isDg b n (pNum b n 0 p v).1 from hd2)) (s1.wr (by omega) s1.2.1))
termination_by 5 - i
decreasing_by all_goals omega
set_option maxRecDepth 20000 in
set_option maxHeartbeats 2000000 in
theorem md_one0 {d : Nat} (hd : 1 ≤ d) : MdX L MX10_one (d + 1) 0 (fun b n => pO b n (EO b n 0)) := by
  intro m n p o base b hB he hn2 hp2 s0
  refine hk_ofWP (by decide) (by simp [Value.category]) (Nat.le_of_ble_eq_true rfl) ?_
  show hk_WP _ _ _ _ _ _ _ [some (.ref 37), some (.int base), none, none, none] [] _ _
  refine hk_aload_n dX10_one_0 rfl rfl ?_
  refine hk_iload_n dX10_one_1 rfl rfl ?_
  refine ivX10_314 rfl (md_byteAt (s0.1.b hB) (s0.1.e he) hn2 s0.2.1 (by omega)) dX10_one_2 (hk_lt (by decide)) rfl rfl rfl (by omega) ⟨by decide, by decide⟩ (Nat.le_of_ble_eq_true rfl) (hk_kd ?_)
  refine hk_istore_n dX10_one_5 rfl (by decide) rfl ?_
  refine hk_aload_n dX10_one_6 rfl rfl ?_
  refine gfX10_302 rfl dX10_one_7 (hk_lt (by decide)) rfl rfl ?_
  refine hk_if_lt (tgt := 15) dX10_one_10 (by decide) (fun _ => ?_) (fun c10 => absurd (by rw [s0.2.2.1]; decide) c10)
  refine hk_iload_n dX10_one_15 rfl rfl ?_
  refine hk_bipush (v := 40) dX10_one_16 (by decide) ?_
  refine hk_icmp_ne (tgt := 80) dX10_one_18 (by decide) (fun c18 => ?_) (fun c18 => ?_)
  · rw [s_at0 (by decide)] at c18
    refine hk_iload_n dX10_one_80 rfl rfl ?_
    refine hk_bipush (v := 48) dX10_one_81 (by decide) ?_
    refine hk_icmp_lt (tgt := 92) dX10_one_83 (by decide) (fun c83 => ?_) (fun c83 => ?_)
    · have hnd : ¬ isDg b n p := (fun z => by have z2 := s_dg0.mpr z; grind)
      refine hk_iload_n dX10_one_92 rfl rfl ?_
      refine ivX10_333 rfl (md_nameOf _) dX10_one_93 rfl rfl (by omega) ⟨by decide, by decide⟩ (Nat.le_of_ble_eq_true rfl) (hk_kd ?_)
      refine hk_istore_n dX10_one_96 rfl (by decide) rfl ?_
      refine hk_iload_n dX10_one_97 rfl rfl ?_
      refine hk_if_ge (tgt := 106) dX10_one_98 (by decide) (fun c98 => ?_) (fun c98 => ?_)
      · have hpn : p < n := Classical.byContradiction (fun z => by rw [cI_f z] at c98; revert c98; decide)
        have hnm : ¬ nmo (b p) < 0 := fun z => by rw [cI_t hpn] at c98; exact absurd (nmo2_n z) (Int32.not_lt.mpr c98)
        rw [cI_t hpn]
        refine hk_aload_n dX10_one_106 rfl rfl ?_
        refine hk_dup dX10_one_107 rfl ?_
        refine gfX10_296 rfl dX10_one_108 (hk_lt (by decide)) rfl rfl ?_
        refine hk_iconst (v := 1) dX10_one_111 (by decide) ?_
        refine hk_iadd dX10_one_112 ?_
        refine pfX10_296 rfl dX10_one_113 (hk_lt (by decide)) rfl (Nat.le_of_ble_eq_true rfl) (hk_st (j := 44) rfl ?_)
        rw [show m 37 44 + 1 = nI (p + 1) by rw [s0.2.1, nI_1]]
        refine hk_aload_n dX10_one_116 rfl rfl ?_
        refine gfX10_112 rfl dX10_one_117 (hk_lt (by decide)) rfl rfl ?_
        refine hk_iload_n dX10_one_120 rfl rfl ?_
        refine hk_ian (j := prm (nmo (b p)).toNatClampNeg) dX10_one_121 (by decide) (fun _ => rfl) (nmo2_y hnm).2.1 (nmo2_y hnm).2.2.1 (by decide) ?_
        exact hk_ireturn dX10_one_122 rfl rfl (by decide) (EPc (by show pO _ _ _ _ _ = _; unfold pO; rw [cI_f hnd, cI_f c18, cI_t ⟨hpn, hnm⟩]) (s0.pl (p + 1)) (by rw [hk_w_ne (by decide)]; exact (if_pos (nmo2_y hnm).1).symm))
      · refine hk_aload_n dX10_one_101 rfl rfl ?_
        refine ivX10_308 rfl (md_wrong s0.2.2.1) dX10_one_102 (hk_lt (by decide)) rfl rfl rfl (by omega) ⟨by decide, by decide⟩ (Nat.le_of_ble_eq_true rfl) (hk_kd ?_)
        exact hk_ireturn dX10_one_105 rfl rfl (by decide) (EPf (by show pO _ _ _ _ _ = _; unfold pO; rw [cI_f hnd, cI_f c18, cI_f (fun z => c98 (by rw [cI_t z.1, (nmo2_y z.2).2.1]; exact nI_pos' (by have := (nmo2_y z.2).2.2.1; omega)))]) (s0.wr (by omega) s0.2.1))
    · refine hk_iload_n dX10_one_86 rfl rfl ?_
      refine hk_bipush (v := 57) dX10_one_87 (by decide) ?_
      refine hk_icmp_le (tgt := 123) dX10_one_89 (by decide) (fun c89 => ?_) (fun c89 => ?_)
      · refine hk_iconst (v := 0) dX10_one_123 (by decide) ?_
        refine hk_istore_n dX10_one_124 rfl (by decide) rfl ?_
        refine hk_iconst (v := 0) dX10_one_125 (by decide) ?_
        refine hk_istore dX10_one_126 (by decide) rfl ?_
        have hd2 : isDg b n p := s_dg0.mp ⟨c83, Int32.not_lt.mpr c89⟩
        show hk_WP _ _ _ _ _ _ _ _ _ _ (EP L m 0 (pO b n (EO b n 0) p o))
        rw [show pO b n (EO b n 0) p o = (cI (isDg b n (pNum b n 5 p 0).1) (.inl (pNum b n 5 p 0).1) (.inr ((pNum b n 5 p 0).1, [48 + 256 * (pNum b n 5 p 0).2], fun _ => (pNum b n 5 p 0).2)) : LRes) from by unfold pO; rw [cI_t hd2]]
        exact lp_one hd (by omega) hB he hn2 0 (by omega) m p 0 _ s0 hp2
      · have hnd : ¬ isDg b n p := (fun z => by have z2 := s_dg0.mpr z; grind)
        refine hk_iload_n dX10_one_92 rfl rfl ?_
        refine ivX10_333 rfl (md_nameOf _) dX10_one_93 rfl rfl (by omega) ⟨by decide, by decide⟩ (Nat.le_of_ble_eq_true rfl) (hk_kd ?_)
        refine hk_istore_n dX10_one_96 rfl (by decide) rfl ?_
        refine hk_iload_n dX10_one_97 rfl rfl ?_
        refine hk_if_ge (tgt := 106) dX10_one_98 (by decide) (fun c98 => ?_) (fun c98 => ?_)
        · have hpn : p < n := Classical.byContradiction (fun z => by rw [cI_f z] at c98; revert c98; decide)
          have hnm : ¬ nmo (b p) < 0 := fun z => by rw [cI_t hpn] at c98; exact absurd (nmo2_n z) (Int32.not_lt.mpr c98)
          rw [cI_t hpn]
          refine hk_aload_n dX10_one_106 rfl rfl ?_
          refine hk_dup dX10_one_107 rfl ?_
          refine gfX10_296 rfl dX10_one_108 (hk_lt (by decide)) rfl rfl ?_
          refine hk_iconst (v := 1) dX10_one_111 (by decide) ?_
          refine hk_iadd dX10_one_112 ?_
          refine pfX10_296 rfl dX10_one_113 (hk_lt (by decide)) rfl (Nat.le_of_ble_eq_true rfl) (hk_st (j := 44) rfl ?_)
          rw [show m 37 44 + 1 = nI (p + 1) by rw [s0.2.1, nI_1]]
          refine hk_aload_n dX10_one_116 rfl rfl ?_
          refine gfX10_112 rfl dX10_one_117 (hk_lt (by decide)) rfl rfl ?_
          refine hk_iload_n dX10_one_120 rfl rfl ?_
          refine hk_ian (j := prm (nmo (b p)).toNatClampNeg) dX10_one_121 (by decide) (fun _ => rfl) (nmo2_y hnm).2.1 (nmo2_y hnm).2.2.1 (by decide) ?_
          exact hk_ireturn dX10_one_122 rfl rfl (by decide) (EPc (by show pO _ _ _ _ _ = _; unfold pO; rw [cI_f hnd, cI_f c18, cI_t ⟨hpn, hnm⟩]) (s0.pl (p + 1)) (by rw [hk_w_ne (by decide)]; exact (if_pos (nmo2_y hnm).1).symm))
        · refine hk_aload_n dX10_one_101 rfl rfl ?_
          refine ivX10_308 rfl (md_wrong s0.2.2.1) dX10_one_102 (hk_lt (by decide)) rfl rfl rfl (by omega) ⟨by decide, by decide⟩ (Nat.le_of_ble_eq_true rfl) (hk_kd ?_)
          exact hk_ireturn dX10_one_105 rfl rfl (by decide) (EPf (by show pO _ _ _ _ _ = _; unfold pO; rw [cI_f hnd, cI_f c18, cI_f (fun z => c98 (by rw [cI_t z.1, (nmo2_y z.2).2.1]; exact nI_pos' (by have := (nmo2_y z.2).2.2.1; omega)))]) (s0.wr (by omega) s0.2.1))
  · rw [s_at0 (by decide)] at c18
    refine hk_aload_n dX10_one_21 rfl rfl ?_
    refine ivX10_317 rfl (md_opens0 s0.2.2.1 s0.2.2.2) dX10_one_22 (hk_lt (by decide)) rfl rfl rfl (by omega) ⟨by decide, by decide⟩ (Nat.le_of_ble_eq_true rfl) (hk_kd ?_)
    · have s2 := s0.wr (by omega) s0.2.1
      refine hk_if_ne (tgt := 30) dX10_one_25 (by decide) (fun c25 => absurd (by decide) c25) (fun _ => ?_)
      refine hk_iconst (v := 0) dX10_one_28 (by decide) ?_
      exact hk_ireturn dX10_one_29 rfl rfl (by decide) (EPf (by show pO _ _ _ _ _ = _; unfold pO; rw [cI_f (fun z => by have z1 := z.2; have z2 := c18.2; rw [z2] at z1; revert z1; decide), cI_t c18]; rfl) s2)
set_option maxRecDepth 20000 in
set_option maxHeartbeats 2000000 in
theorem md_oneS {k d : Nat} (hk : k < 12) (hd : 1 ≤ d) (hE : MdX L MX10_chosen d k (fun b n => PE b n k)) : MdX L MX10_one (d + 1) (k + 1) (fun b n => pO b n (EO b n (k + 1))) := by
  intro m n p o base b hB he hn2 hp2 s0
  refine hk_ofWP (by decide) (by simp [Value.category]) (Nat.le_of_ble_eq_true rfl) ?_
  show hk_WP _ _ _ _ _ _ _ [some (.ref 37), some (.int base), none, none, none] [] _ _
  refine hk_aload_n dX10_one_0 rfl rfl ?_
  refine hk_iload_n dX10_one_1 rfl rfl ?_
  refine ivX10_314 rfl (md_byteAt (s0.1.b hB) (s0.1.e he) hn2 s0.2.1 (by omega)) dX10_one_2 (hk_lt (by decide)) rfl rfl rfl (by omega) ⟨by decide, by decide⟩ (Nat.le_of_ble_eq_true rfl) (hk_kd ?_)
  refine hk_istore_n dX10_one_5 rfl (by decide) rfl ?_
  refine hk_aload_n dX10_one_6 rfl rfl ?_
  refine gfX10_302 rfl dX10_one_7 (hk_lt (by decide)) rfl rfl ?_
  refine hk_if_lt (tgt := 15) dX10_one_10 (by decide) (fun _ => ?_) (fun c10 => absurd (by rw [s0.2.2.1]; decide) c10)
  refine hk_iload_n dX10_one_15 rfl rfl ?_
  refine hk_bipush (v := 40) dX10_one_16 (by decide) ?_
  refine hk_icmp_ne (tgt := 80) dX10_one_18 (by decide) (fun c18 => ?_) (fun c18 => ?_)
  · rw [s_at0 (by decide)] at c18
    refine hk_iload_n dX10_one_80 rfl rfl ?_
    refine hk_bipush (v := 48) dX10_one_81 (by decide) ?_
    refine hk_icmp_lt (tgt := 92) dX10_one_83 (by decide) (fun c83 => ?_) (fun c83 => ?_)
    · have hnd : ¬ isDg b n p := (fun z => by have z2 := s_dg0.mpr z; grind)
      refine hk_iload_n dX10_one_92 rfl rfl ?_
      refine ivX10_333 rfl (md_nameOf _) dX10_one_93 rfl rfl (by omega) ⟨by decide, by decide⟩ (Nat.le_of_ble_eq_true rfl) (hk_kd ?_)
      refine hk_istore_n dX10_one_96 rfl (by decide) rfl ?_
      refine hk_iload_n dX10_one_97 rfl rfl ?_
      refine hk_if_ge (tgt := 106) dX10_one_98 (by decide) (fun c98 => ?_) (fun c98 => ?_)
      · have hpn : p < n := Classical.byContradiction (fun z => by rw [cI_f z] at c98; revert c98; decide)
        have hnm : ¬ nmo (b p) < 0 := fun z => by rw [cI_t hpn] at c98; exact absurd (nmo2_n z) (Int32.not_lt.mpr c98)
        rw [cI_t hpn]
        refine hk_aload_n dX10_one_106 rfl rfl ?_
        refine hk_dup dX10_one_107 rfl ?_
        refine gfX10_296 rfl dX10_one_108 (hk_lt (by decide)) rfl rfl ?_
        refine hk_iconst (v := 1) dX10_one_111 (by decide) ?_
        refine hk_iadd dX10_one_112 ?_
        refine pfX10_296 rfl dX10_one_113 (hk_lt (by decide)) rfl (Nat.le_of_ble_eq_true rfl) (hk_st (j := 44) rfl ?_)
        rw [show m 37 44 + 1 = nI (p + 1) by rw [s0.2.1, nI_1]]
        refine hk_aload_n dX10_one_116 rfl rfl ?_
        refine gfX10_112 rfl dX10_one_117 (hk_lt (by decide)) rfl rfl ?_
        refine hk_iload_n dX10_one_120 rfl rfl ?_
        refine hk_ian (j := prm (nmo (b p)).toNatClampNeg) dX10_one_121 (by decide) (fun _ => rfl) (nmo2_y hnm).2.1 (nmo2_y hnm).2.2.1 (by decide) ?_
        exact hk_ireturn dX10_one_122 rfl rfl (by decide) (EPc (by show pO _ _ _ _ _ = _; unfold pO; rw [cI_f hnd, cI_f c18, cI_t ⟨hpn, hnm⟩]) (s0.pl (p + 1)) (by rw [hk_w_ne (by decide)]; exact (if_pos (nmo2_y hnm).1).symm))
      · refine hk_aload_n dX10_one_101 rfl rfl ?_
        refine ivX10_308 rfl (md_wrong s0.2.2.1) dX10_one_102 (hk_lt (by decide)) rfl rfl rfl (by omega) ⟨by decide, by decide⟩ (Nat.le_of_ble_eq_true rfl) (hk_kd ?_)
        exact hk_ireturn dX10_one_105 rfl rfl (by decide) (EPf (by show pO _ _ _ _ _ = _; unfold pO; rw [cI_f hnd, cI_f c18, cI_f (fun z => c98 (by rw [cI_t z.1, (nmo2_y z.2).2.1]; exact nI_pos' (by have := (nmo2_y z.2).2.2.1; omega)))]) (s0.wr (by omega) s0.2.1))
    · refine hk_iload_n dX10_one_86 rfl rfl ?_
      refine hk_bipush (v := 57) dX10_one_87 (by decide) ?_
      refine hk_icmp_le (tgt := 123) dX10_one_89 (by decide) (fun c89 => ?_) (fun c89 => ?_)
      · refine hk_iconst (v := 0) dX10_one_123 (by decide) ?_
        refine hk_istore_n dX10_one_124 rfl (by decide) rfl ?_
        refine hk_iconst (v := 0) dX10_one_125 (by decide) ?_
        refine hk_istore dX10_one_126 (by decide) rfl ?_
        have hd2 : isDg b n p := s_dg0.mp ⟨c83, Int32.not_lt.mpr c89⟩
        show hk_WP _ _ _ _ _ _ _ _ _ _ (EP L m (k + 1) (pO b n (EO b n (k + 1)) p o))
        rw [show pO b n (EO b n (k + 1)) p o = (cI (isDg b n (pNum b n 5 p 0).1) (.inl (pNum b n 5 p 0).1) (.inr ((pNum b n 5 p 0).1, [48 + 256 * (pNum b n 5 p 0).2], fun _ => (pNum b n 5 p 0).2)) : LRes) from by unfold pO; rw [cI_t hd2]]
        exact lp_one hd (by omega) hB he hn2 0 (by omega) m p 0 _ s0 hp2
      · have hnd : ¬ isDg b n p := (fun z => by have z2 := s_dg0.mpr z; grind)
        refine hk_iload_n dX10_one_92 rfl rfl ?_
        refine ivX10_333 rfl (md_nameOf _) dX10_one_93 rfl rfl (by omega) ⟨by decide, by decide⟩ (Nat.le_of_ble_eq_true rfl) (hk_kd ?_)
        refine hk_istore_n dX10_one_96 rfl (by decide) rfl ?_
        refine hk_iload_n dX10_one_97 rfl rfl ?_
        refine hk_if_ge (tgt := 106) dX10_one_98 (by decide) (fun c98 => ?_) (fun c98 => ?_)
        · have hpn : p < n := Classical.byContradiction (fun z => by rw [cI_f z] at c98; revert c98; decide)
          have hnm : ¬ nmo (b p) < 0 := fun z => by rw [cI_t hpn] at c98; exact absurd (nmo2_n z) (Int32.not_lt.mpr c98)
          rw [cI_t hpn]
          refine hk_aload_n dX10_one_106 rfl rfl ?_
          refine hk_dup dX10_one_107 rfl ?_
          refine gfX10_296 rfl dX10_one_108 (hk_lt (by decide)) rfl rfl ?_
          refine hk_iconst (v := 1) dX10_one_111 (by decide) ?_
          refine hk_iadd dX10_one_112 ?_
          refine pfX10_296 rfl dX10_one_113 (hk_lt (by decide)) rfl (Nat.le_of_ble_eq_true rfl) (hk_st (j := 44) rfl ?_)
          rw [show m 37 44 + 1 = nI (p + 1) by rw [s0.2.1, nI_1]]
          refine hk_aload_n dX10_one_116 rfl rfl ?_
          refine gfX10_112 rfl dX10_one_117 (hk_lt (by decide)) rfl rfl ?_
          refine hk_iload_n dX10_one_120 rfl rfl ?_
          refine hk_ian (j := prm (nmo (b p)).toNatClampNeg) dX10_one_121 (by decide) (fun _ => rfl) (nmo2_y hnm).2.1 (nmo2_y hnm).2.2.1 (by decide) ?_
          exact hk_ireturn dX10_one_122 rfl rfl (by decide) (EPc (by show pO _ _ _ _ _ = _; unfold pO; rw [cI_f hnd, cI_f c18, cI_t ⟨hpn, hnm⟩]) (s0.pl (p + 1)) (by rw [hk_w_ne (by decide)]; exact (if_pos (nmo2_y hnm).1).symm))
        · refine hk_aload_n dX10_one_101 rfl rfl ?_
          refine ivX10_308 rfl (md_wrong s0.2.2.1) dX10_one_102 (hk_lt (by decide)) rfl rfl rfl (by omega) ⟨by decide, by decide⟩ (Nat.le_of_ble_eq_true rfl) (hk_kd ?_)
          exact hk_ireturn dX10_one_105 rfl rfl (by decide) (EPf (by show pO _ _ _ _ _ = _; unfold pO; rw [cI_f hnd, cI_f c18, cI_f (fun z => c98 (by rw [cI_t z.1, (nmo2_y z.2).2.1]; exact nI_pos' (by have := (nmo2_y z.2).2.2.1; omega)))]) (s0.wr (by omega) s0.2.1))
  · rw [s_at0 (by decide)] at c18
    refine hk_aload_n dX10_one_21 rfl rfl ?_
    refine ivX10_317 rfl (md_opensS (by omega) s0.2.1 s0.2.2.2) dX10_one_22 (hk_lt (by decide)) rfl rfl rfl (by omega) ⟨by decide, by decide⟩ (Nat.le_of_ble_eq_true rfl) (hk_kd ?_)
    have s2 := (s0.op (k' := k) rfl).pl (p + 1)
    refine hk_if_ne (tgt := 30) dX10_one_25 (by decide) (fun _ => ?_) (fun c25 => absurd c25 (by decide))
    refine hk_aload_n dX10_one_30 rfl rfl ?_
    refine hk_iload_n dX10_one_31 rfl rfl ?_
    refine ivX10_321 rfl (hE _ n (p + 1) o base b (s2.1.b hB) (s2.1.e he) hn2 c18.1 s2.self) dX10_one_32 (hk_lt (by decide)) rfl rfl rfl (by omega) ⟨by decide, by decide⟩ (Nat.le_of_ble_eq_true rfl) (fun r h1 hq => ?_)
    rcases hr : PE b n k (p + 1) o with f1 | ⟨p1, c1, v1⟩
    · obtain ⟨m1, w1, rfl, rfl, s3⟩ := EPi s2.1 hq hr
      refine hk_istore_n dX10_one_35 rfl (by decide) rfl ?_
      refine hk_aload_n dX10_one_36 rfl rfl ?_
      refine gfX10_302 rfl dX10_one_37 (hk_lt (by decide)) rfl rfl ?_
      refine hk_if_ge (tgt := 58) dX10_one_40 (by decide) (fun _ => ?_) (fun c40 => absurd s3.ge c40)
      refine hk_aload_n dX10_one_58 rfl rfl ?_
      refine hk_dup dX10_one_59 rfl ?_
      refine gfX10_296 rfl dX10_one_60 (hk_lt (by decide)) rfl rfl ?_
      refine hk_iconst (v := 1) dX10_one_63 (by decide) ?_
      refine hk_iadd dX10_one_64 ?_
      refine pfX10_296 rfl dX10_one_65 (hk_lt (by decide)) rfl (Nat.le_of_ble_eq_true rfl) (hk_st (j := 44) rfl ?_)
      refine hk_aload_n dX10_one_68 rfl rfl ?_
      refine hk_dup dX10_one_69 rfl ?_
      refine gfX10_305 rfl dX10_one_70 (hk_lt (by decide)) rfl rfl ?_
      refine hk_iconst (v := 1) dX10_one_73 (by decide) ?_
      refine hk_isub dX10_one_74 ?_
      refine pfX10_305 rfl dX10_one_75 (hk_lt (by decide)) rfl (Nat.le_of_ble_eq_true rfl) (hk_st (j := 79) rfl ?_)
      refine hk_iload_n dX10_one_78 rfl rfl ?_
      exact hk_ireturn dX10_one_79 rfl rfl (by decide) (EPf (by show pO _ _ _ _ _ = _; unfold pO; rw [cI_f (fun z => by have z1 := z.2; have z2 := c18.2; rw [z2] at z1; revert z1; decide), cI_t c18]; show (match PE b n k (p + 1) o with | .inl f => .inl f | .inr (p1, c, v) => cI (at_ b n p1 41) (.inr (p1 + 1, c, v)) (.inl p1) : LRes) = _; rw [hr]) (s3.pl rfl).op)
    · obtain ⟨m1, rfl, rfl, s3⟩ := EPj s2.1 hq hr
      have hB1 := PB_PE b n k (p + 1) o c18.1
      rw [hr] at hB1
      simp only at hB1
      refine hk_istore_n dX10_one_35 rfl (by decide) rfl ?_
      refine hk_aload_n dX10_one_36 rfl rfl ?_
      refine gfX10_302 rfl dX10_one_37 (hk_lt (by decide)) rfl rfl ?_
      refine hk_if_ge (tgt := 58) dX10_one_40 (by decide) (fun c40 => absurd c40 s3.lt) (fun _ => ?_)
      refine hk_aload_n dX10_one_43 rfl rfl ?_
      refine hk_iload_n dX10_one_44 rfl rfl ?_
      refine ivX10_314 rfl (md_byteAt (s3.1.b hB) (s3.1.e he) hn2 s3.2.1 (by omega)) dX10_one_45 (hk_lt (by decide)) rfl rfl rfl (by omega) ⟨by decide, by decide⟩ (Nat.le_of_ble_eq_true rfl) (hk_kd ?_)
      refine hk_bipush (v := 41) dX10_one_48 (by decide) ?_
      refine hk_icmp_eq (tgt := 58) dX10_one_50 (by decide) (fun c50 => ?_) (fun c50 => ?_)
      · rw [s_at0 (by decide)] at c50
        refine hk_aload_n dX10_one_58 rfl rfl ?_
        refine hk_dup dX10_one_59 rfl ?_
        refine gfX10_296 rfl dX10_one_60 (hk_lt (by decide)) rfl rfl ?_
        refine hk_iconst (v := 1) dX10_one_63 (by decide) ?_
        refine hk_iadd dX10_one_64 ?_
        refine pfX10_296 rfl dX10_one_65 (hk_lt (by decide)) rfl (Nat.le_of_ble_eq_true rfl) (hk_st (j := 44) rfl ?_)
        rw [show m1 37 44 + 1 = nI (p1 + 1) by rw [s3.2.1, nI_1]]
        refine hk_aload_n dX10_one_68 rfl rfl ?_
        refine hk_dup dX10_one_69 rfl ?_
        refine gfX10_305 rfl dX10_one_70 (hk_lt (by decide)) rfl rfl ?_
        refine hk_iconst (v := 1) dX10_one_73 (by decide) ?_
        refine hk_isub dX10_one_74 ?_
        refine pfX10_305 rfl dX10_one_75 (hk_lt (by decide)) rfl (Nat.le_of_ble_eq_true rfl) (hk_st (j := 79) rfl ?_)
        refine hk_iload_n dX10_one_78 rfl rfl ?_
        exact hk_ireturn dX10_one_79 rfl rfl (by decide) (EPc (by show pO _ _ _ _ _ = _; unfold pO; rw [cI_f (fun z => by have z1 := z.2; have z2 := c18.2; rw [z2] at z1; revert z1; decide), cI_t c18]; show (match PE b n k (p + 1) o with | .inl f => .inl f | .inr (p1, c, v) => cI (at_ b n p1 41) (.inr (p1 + 1, c, v)) (.inl p1) : LRes) = _; rw [hr]; exact cI_t c50) ((s3.pl (p1 + 1)).op (k' := k + 1) (by rw [(s3.pl (p1 + 1)).2.2.2]; show nI (12 - k) - nI 1 = _; rw [nI_sub (by omega)]; congr 1)) rfl)
      · rw [s_at0 (by decide)] at c50
        refine hk_aload_n dX10_one_53 rfl rfl ?_
        refine ivX10_308 rfl (md_wrong s3.2.2.1) dX10_one_54 (hk_lt (by decide)) rfl rfl rfl (by omega) ⟨by decide, by decide⟩ (Nat.le_of_ble_eq_true rfl) (hk_kd ?_)
        exact hk_ireturn dX10_one_57 rfl rfl (by decide) (EPf (by show pO _ _ _ _ _ = _; unfold pO; rw [cI_f (fun z => by have z1 := z.2; have z2 := c18.2; rw [z2] at z1; revert z1; decide), cI_t c18]; show (match PE b n k (p + 1) o with | .inl f => .inl f | .inr (p1, c, v) => cI (at_ b n p1 41) (.inr (p1 + 1, c, v)) (.inl p1) : LRes) = _; rw [hr]; exact cI_f c50) ((s3.wr (by omega) s3.2.1).up (Nat.le_succ k)))
theorem md_up {k d : Nat} (hd : 1 ≤ d) (hk : k ≤ 12) (hO : MdX L MX10_one d k (fun b n => pO b n (EO b n k))) : MdX L MX10_compared (d + 3) k (fun b n => pC b n (EO b n k)) :=
  md_compared (by omega) (md_sum (by omega) (md_product hd hO hk (fun _ _ => PB_O EO_b)) hk (fun _ _ => PB_Loop (PB_O EO_b))) hk (fun _ _ => PB_S)
theorem md_E : ∀ k, k ≤ 12 → MdX L MX10_chosen (6 + 5 * k) k (fun b n => PE b n k)
  | 0, _ => md_chosen0 (by omega) (md_up (by omega) (by omega) (md_one0 (Nat.le_refl _))) (fun _ _ => PB_C EO_b)
  | k + 1, h => by
    have ih := md_E k (by omega)
    exact md_chosenS (d := 6 + 5 * k + 4) (by omega) (by omega) (by omega) ih (md_up (by omega) h (md_oneS (by omega) (by omega) ih)) (fun _ _ => PB_C EO_b)
end MDx
