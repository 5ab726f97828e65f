/-! THE CLASS works a law's commands out as the parse says -/
theorem ent_o (L i : Nat) (f : Nat → Int32) : hk_ent L (99 + 2 * i) f = .inr (3, [.int (f 0), .int (f 1), .int (f 2), .ref (99 + 2 * i + 1)]) := by
  unfold hk_ent
  rw [List.getElem?_eq_none (show hk_tab.length ≤ 99 + 2 * i from Nat.le_trans (by decide) (Nat.le_add_right 99 (2 * i)))]
  show hk_dyn _ _ = _
  unfold hk_dyn
  rw [if_pos (by unfold hk_C0; omega)]
theorem ent_a (L i : Nat) (f : Nat → Int32) : hk_ent L (99 + 2 * i + 1) f = .inl (0, (f 1000).toNatClampNeg, .inl f) := by
  unfold hk_ent
  rw [List.getElem?_eq_none (show hk_tab.length ≤ 99 + 2 * i + 1 from Nat.le_trans (by decide) (Nat.le_trans (Nat.le_add_right 99 (2 * i)) (Nat.le_succ _)))]
  show hk_dyn _ _ = _
  unfold hk_dyn
  rw [if_neg (by unfold hk_C0; omega)]
theorem ent_lt {L i : Nat} {m : Nat → Nat → Int32} (h : i < L) : 99 + 2 * i + 1 < (hk_h L m).1 := by show _ < hk_C0 + 2 * L; unfold hk_C0; omega
theorem nI_m1 (t : Nat) : nI (t + 1) + Int32.ofInt (-1) = nI t := by
  rw [show Int32.ofInt (-1) = -1 from rfl, ← Int32.sub_eq_add_neg]
  exact nI_pred t
section WCx
variable {L : Nat} {m m1 : Nat → Nat → Int32}
def isOp (c : Int32) : Prop := isMul c ∨ isAdd c ∨ isCmp c
theorem hk_out37_62 {x : Int32} (h37 : ¬ x = 37) (h38 : ¬ x = 38) (h39 : ¬ x = 39) (h40 : ¬ x = 40) (h41 : ¬ x = 41) (h42 : ¬ x = 42) (h43 : ¬ x = 43) (h44 : ¬ x = 44) (h45 : ¬ x = 45) (h46 : ¬ x = 46) (h47 : ¬ x = 47) (h48 : ¬ x = 48) (h49 : ¬ x = 49) (h50 : ¬ x = 50) (h51 : ¬ x = 51) (h52 : ¬ x = 52) (h53 : ¬ x = 53) (h54 : ¬ x = 54) (h55 : ¬ x = 55) (h56 : ¬ x = 56) (h57 : ¬ x = 57) (h58 : ¬ x = 58) (h59 : ¬ x = 59) (h60 : ¬ x = 60) (h61 : ¬ x = 61) (h62 : ¬ x = 62) : x.toInt < 37 ∨ 62 < x.toInt := by
  simp only [i32_eq, show (37 : Int32).toInt = 37 from rfl, show (38 : Int32).toInt = 38 from rfl, show (39 : Int32).toInt = 39 from rfl, show (40 : Int32).toInt = 40 from rfl, show (41 : Int32).toInt = 41 from rfl, show (42 : Int32).toInt = 42 from rfl, show (43 : Int32).toInt = 43 from rfl, show (44 : Int32).toInt = 44 from rfl, show (45 : Int32).toInt = 45 from rfl, show (46 : Int32).toInt = 46 from rfl, show (47 : Int32).toInt = 47 from rfl, show (48 : Int32).toInt = 48 from rfl, show (49 : Int32).toInt = 49 from rfl, show (50 : Int32).toInt = 50 from rfl, show (51 : Int32).toInt = 51 from rfl, show (52 : Int32).toInt = 52 from rfl, show (53 : Int32).toInt = 53 from rfl, show (54 : Int32).toInt = 54 from rfl, show (55 : Int32).toInt = 55 from rfl, show (56 : Int32).toInt = 56 from rfl, show (57 : Int32).toInt = 57 from rfl, show (58 : Int32).toInt = 58 from rfl, show (59 : Int32).toInt = 59 from rfl, show (60 : Int32).toInt = 60 from rfl, show (61 : Int32).toInt = 61 from rfl, show (62 : Int32).toInt = 62 from rfl] at h37 h38 h39 h40 h41 h42 h43 h44 h45 h46 h47 h48 h49 h50 h51 h52 h53 h54 h55 h56 h57 h58 h59 h60 h61 h62
  omega
set_option maxRecDepth 20000 in
set_option maxHeartbeats 2000000 in
theorem ct_reckoned (g x y : Int32) : hk_Cd MX3_reckoned 0 0 0 [.int g, .int x, .int y] (hk_h L m) (some (.int (opv g x y))) (hk_h L m) := by
  refine hk_ofWP (by decide) (by simp [Value.category]) (Nat.le_of_ble_eq_true rfl) ?_
  show hk_WP _ _ _ _ _ _ _ [some (.int g), some (.int x), some (.int y)] [] _ _
  refine hk_iload_n dX3_reckoned_0 rfl rfl ?_
  by_cases e37 : g = 37
  · subst e37
    refine hk_tableIn (tgt := 144) dX3_reckoned_1 (by decide) (by decide) rfl (by decide) ?_
    refine hk_iload_n dX3_reckoned_144 rfl rfl ?_
    refine hk_if_ne (tgt := 152) dX3_reckoned_145 (by decide) (fun c145 => ?_) (fun c145 => ?_)
    · refine hk_iload_n dX3_reckoned_152 rfl rfl ?_
      refine hk_iload_n dX3_reckoned_153 rfl rfl ?_
      refine hk_irem dX3_reckoned_154 c145 ?_
      exact hk_ireturn dX3_reckoned_155 rfl rfl (by decide) ⟨by first | rfl | (unfold opv; grind), rfl⟩
    · refine hk_iconst (v := 0) dX3_reckoned_148 (by decide) ?_
      refine hk_goto (tgt := 155) dX3_reckoned_149 (by decide) ?_
      exact hk_ireturn dX3_reckoned_155 rfl rfl (by decide) ⟨by first | rfl | (unfold opv; grind), rfl⟩
  by_cases e38 : g = 38
  · subst e38
    refine hk_tableIn (tgt := 189) dX3_reckoned_1 (by decide) (by decide) rfl (by decide) ?_
    refine hk_iconst (v := 0) dX3_reckoned_189 (by decide) ?_
    exact hk_ireturn dX3_reckoned_190 rfl rfl (by decide) ⟨by first | rfl | (unfold opv; grind), rfl⟩
  by_cases e39 : g = 39
  · subst e39
    refine hk_tableIn (tgt := 189) dX3_reckoned_1 (by decide) (by decide) rfl (by decide) ?_
    refine hk_iconst (v := 0) dX3_reckoned_189 (by decide) ?_
    exact hk_ireturn dX3_reckoned_190 rfl rfl (by decide) ⟨by first | rfl | (unfold opv; grind), rfl⟩
  by_cases e40 : g = 40
  · subst e40
    refine hk_tableIn (tgt := 189) dX3_reckoned_1 (by decide) (by decide) rfl (by decide) ?_
    refine hk_iconst (v := 0) dX3_reckoned_189 (by decide) ?_
    exact hk_ireturn dX3_reckoned_190 rfl rfl (by decide) ⟨by first | rfl | (unfold opv; grind), rfl⟩
  by_cases e41 : g = 41
  · subst e41
    refine hk_tableIn (tgt := 189) dX3_reckoned_1 (by decide) (by decide) rfl (by decide) ?_
    refine hk_iconst (v := 0) dX3_reckoned_189 (by decide) ?_
    exact hk_ireturn dX3_reckoned_190 rfl rfl (by decide) ⟨by first | rfl | (unfold opv; grind), rfl⟩
  by_cases e42 : g = 42
  · subst e42
    refine hk_tableIn (tgt := 128) dX3_reckoned_1 (by decide) (by decide) rfl (by decide) ?_
    refine hk_iload_n dX3_reckoned_128 rfl rfl ?_
    refine hk_iload_n dX3_reckoned_129 rfl rfl ?_
    refine hk_imul dX3_reckoned_130 ?_
    exact hk_ireturn dX3_reckoned_131 rfl rfl (by decide) ⟨by first | rfl | (unfold opv; grind), rfl⟩
  by_cases e43 : g = 43
  · subst e43
    refine hk_tableIn (tgt := 120) dX3_reckoned_1 (by decide) (by decide) rfl (by decide) ?_
    refine hk_iload_n dX3_reckoned_120 rfl rfl ?_
    refine hk_iload_n dX3_reckoned_121 rfl rfl ?_
    refine hk_iadd dX3_reckoned_122 ?_
    exact hk_ireturn dX3_reckoned_123 rfl rfl (by decide) ⟨by first | rfl | (unfold opv; grind), rfl⟩
  by_cases e44 : g = 44
  · subst e44
    refine hk_tableIn (tgt := 189) dX3_reckoned_1 (by decide) (by decide) rfl (by decide) ?_
    refine hk_iconst (v := 0) dX3_reckoned_189 (by decide) ?_
    exact hk_ireturn dX3_reckoned_190 rfl rfl (by decide) ⟨by first | rfl | (unfold opv; grind), rfl⟩
  by_cases e45 : g = 45
  · subst e45
    refine hk_tableIn (tgt := 124) dX3_reckoned_1 (by decide) (by decide) rfl (by decide) ?_
    refine hk_iload_n dX3_reckoned_124 rfl rfl ?_
    refine hk_iload_n dX3_reckoned_125 rfl rfl ?_
    refine hk_isub dX3_reckoned_126 ?_
    exact hk_ireturn dX3_reckoned_127 rfl rfl (by decide) ⟨by first | rfl | (unfold opv; grind), rfl⟩
  by_cases e46 : g = 46
  · subst e46
    refine hk_tableIn (tgt := 189) dX3_reckoned_1 (by decide) (by decide) rfl (by decide) ?_
    refine hk_iconst (v := 0) dX3_reckoned_189 (by decide) ?_
    exact hk_ireturn dX3_reckoned_190 rfl rfl (by decide) ⟨by first | rfl | (unfold opv; grind), rfl⟩
  by_cases e47 : g = 47
  · subst e47
    refine hk_tableIn (tgt := 132) dX3_reckoned_1 (by decide) (by decide) rfl (by decide) ?_
    refine hk_iload_n dX3_reckoned_132 rfl rfl ?_
    refine hk_if_ne (tgt := 140) dX3_reckoned_133 (by decide) (fun c133 => ?_) (fun c133 => ?_)
    · refine hk_iload_n dX3_reckoned_140 rfl rfl ?_
      refine hk_iload_n dX3_reckoned_141 rfl rfl ?_
      refine hk_idiv dX3_reckoned_142 c133 ?_
      exact hk_ireturn dX3_reckoned_143 rfl rfl (by decide) ⟨by first | rfl | (unfold opv; grind), rfl⟩
    · refine hk_iconst (v := 0) dX3_reckoned_136 (by decide) ?_
      refine hk_goto (tgt := 143) dX3_reckoned_137 (by decide) ?_
      exact hk_ireturn dX3_reckoned_143 rfl rfl (by decide) ⟨by first | rfl | (unfold opv; grind), rfl⟩
  by_cases e48 : g = 48
  · subst e48
    refine hk_tableIn (tgt := 189) dX3_reckoned_1 (by decide) (by decide) rfl (by decide) ?_
    refine hk_iconst (v := 0) dX3_reckoned_189 (by decide) ?_
    exact hk_ireturn dX3_reckoned_190 rfl rfl (by decide) ⟨by first | rfl | (unfold opv; grind), rfl⟩
  by_cases e49 : g = 49
  · subst e49
    refine hk_tableIn (tgt := 189) dX3_reckoned_1 (by decide) (by decide) rfl (by decide) ?_
    refine hk_iconst (v := 0) dX3_reckoned_189 (by decide) ?_
    exact hk_ireturn dX3_reckoned_190 rfl rfl (by decide) ⟨by first | rfl | (unfold opv; grind), rfl⟩
  by_cases e50 : g = 50
  · subst e50
    refine hk_tableIn (tgt := 189) dX3_reckoned_1 (by decide) (by decide) rfl (by decide) ?_
    refine hk_iconst (v := 0) dX3_reckoned_189 (by decide) ?_
    exact hk_ireturn dX3_reckoned_190 rfl rfl (by decide) ⟨by first | rfl | (unfold opv; grind), rfl⟩
  by_cases e51 : g = 51
  · subst e51
    refine hk_tableIn (tgt := 189) dX3_reckoned_1 (by decide) (by decide) rfl (by decide) ?_
    refine hk_iconst (v := 0) dX3_reckoned_189 (by decide) ?_
    exact hk_ireturn dX3_reckoned_190 rfl rfl (by decide) ⟨by first | rfl | (unfold opv; grind), rfl⟩
  by_cases e52 : g = 52
  · subst e52
    refine hk_tableIn (tgt := 189) dX3_reckoned_1 (by decide) (by decide) rfl (by decide) ?_
    refine hk_iconst (v := 0) dX3_reckoned_189 (by decide) ?_
    exact hk_ireturn dX3_reckoned_190 rfl rfl (by decide) ⟨by first | rfl | (unfold opv; grind), rfl⟩
  by_cases e53 : g = 53
  · subst e53
    refine hk_tableIn (tgt := 189) dX3_reckoned_1 (by decide) (by decide) rfl (by decide) ?_
    refine hk_iconst (v := 0) dX3_reckoned_189 (by decide) ?_
    exact hk_ireturn dX3_reckoned_190 rfl rfl (by decide) ⟨by first | rfl | (unfold opv; grind), rfl⟩
  by_cases e54 : g = 54
  · subst e54
    refine hk_tableIn (tgt := 189) dX3_reckoned_1 (by decide) (by decide) rfl (by decide) ?_
    refine hk_iconst (v := 0) dX3_reckoned_189 (by decide) ?_
    exact hk_ireturn dX3_reckoned_190 rfl rfl (by decide) ⟨by first | rfl | (unfold opv; grind), rfl⟩
  by_cases e55 : g = 55
  · subst e55
    refine hk_tableIn (tgt := 189) dX3_reckoned_1 (by decide) (by decide) rfl (by decide) ?_
    refine hk_iconst (v := 0) dX3_reckoned_189 (by decide) ?_
    exact hk_ireturn dX3_reckoned_190 rfl rfl (by decide) ⟨by first | rfl | (unfold opv; grind), rfl⟩
  by_cases e56 : g = 56
  · subst e56
    refine hk_tableIn (tgt := 189) dX3_reckoned_1 (by decide) (by decide) rfl (by decide) ?_
    refine hk_iconst (v := 0) dX3_reckoned_189 (by decide) ?_
    exact hk_ireturn dX3_reckoned_190 rfl rfl (by decide) ⟨by first | rfl | (unfold opv; grind), rfl⟩
  by_cases e57 : g = 57
  · subst e57
    refine hk_tableIn (tgt := 189) dX3_reckoned_1 (by decide) (by decide) rfl (by decide) ?_
    refine hk_iconst (v := 0) dX3_reckoned_189 (by decide) ?_
    exact hk_ireturn dX3_reckoned_190 rfl rfl (by decide) ⟨by first | rfl | (unfold opv; grind), rfl⟩
  by_cases e58 : g = 58
  · subst e58
    refine hk_tableIn (tgt := 189) dX3_reckoned_1 (by decide) (by decide) rfl (by decide) ?_
    refine hk_iconst (v := 0) dX3_reckoned_189 (by decide) ?_
    exact hk_ireturn dX3_reckoned_190 rfl rfl (by decide) ⟨by first | rfl | (unfold opv; grind), rfl⟩
  by_cases e59 : g = 59
  · subst e59
    refine hk_tableIn (tgt := 189) dX3_reckoned_1 (by decide) (by decide) rfl (by decide) ?_
    refine hk_iconst (v := 0) dX3_reckoned_189 (by decide) ?_
    exact hk_ireturn dX3_reckoned_190 rfl rfl (by decide) ⟨by first | rfl | (unfold opv; grind), rfl⟩
  by_cases e60 : g = 60
  · subst e60
    refine hk_tableIn (tgt := 156) dX3_reckoned_1 (by decide) (by decide) rfl (by decide) ?_
    refine hk_iload_n dX3_reckoned_156 rfl rfl ?_
    refine hk_iload_n dX3_reckoned_157 rfl rfl ?_
    refine hk_icmp_ge (tgt := 165) dX3_reckoned_158 (by decide) (fun c158 => ?_) (fun c158 => ?_)
    · refine hk_iconst (v := 0) dX3_reckoned_165 (by decide) ?_
      exact hk_ireturn dX3_reckoned_166 rfl rfl (by decide) ⟨by first | rfl | (unfold opv; grind), rfl⟩
    · refine hk_iconst (v := 1) dX3_reckoned_161 (by decide) ?_
      refine hk_goto (tgt := 166) dX3_reckoned_162 (by decide) ?_
      exact hk_ireturn dX3_reckoned_166 rfl rfl (by decide) ⟨by first | rfl | (unfold opv; grind), rfl⟩
  by_cases e61 : g = 61
  · subst e61
    refine hk_tableIn (tgt := 167) dX3_reckoned_1 (by decide) (by decide) rfl (by decide) ?_
    refine hk_iload_n dX3_reckoned_167 rfl rfl ?_
    refine hk_iload_n dX3_reckoned_168 rfl rfl ?_
    refine hk_icmp_ne (tgt := 176) dX3_reckoned_169 (by decide) (fun c169 => ?_) (fun c169 => ?_)
    · refine hk_iconst (v := 0) dX3_reckoned_176 (by decide) ?_
      exact hk_ireturn dX3_reckoned_177 rfl rfl (by decide) ⟨by first | rfl | (unfold opv; grind), rfl⟩
    · refine hk_iconst (v := 1) dX3_reckoned_172 (by decide) ?_
      refine hk_goto (tgt := 177) dX3_reckoned_173 (by decide) ?_
      exact hk_ireturn dX3_reckoned_177 rfl rfl (by decide) ⟨by first | rfl | (unfold opv; grind), rfl⟩
  by_cases e62 : g = 62
  · subst e62
    refine hk_tableIn (tgt := 178) dX3_reckoned_1 (by decide) (by decide) rfl (by decide) ?_
    refine hk_iload_n dX3_reckoned_178 rfl rfl ?_
    refine hk_iload_n dX3_reckoned_179 rfl rfl ?_
    refine hk_icmp_le (tgt := 187) dX3_reckoned_180 (by decide) (fun c180 => ?_) (fun c180 => ?_)
    · refine hk_iconst (v := 0) dX3_reckoned_187 (by decide) ?_
      exact hk_ireturn dX3_reckoned_188 rfl rfl (by decide) ⟨by first | rfl | (unfold opv; grind), rfl⟩
    · refine hk_iconst (v := 1) dX3_reckoned_183 (by decide) ?_
      refine hk_goto (tgt := 188) dX3_reckoned_184 (by decide) ?_
      exact hk_ireturn dX3_reckoned_188 rfl rfl (by decide) ⟨by first | rfl | (unfold opv; grind), rfl⟩
  refine hk_tableOut (tgt := 189) dX3_reckoned_1 (hk_out37_62 e37 e38 e39 e40 e41 e42 e43 e44 e45 e46 e47 e48 e49 e50 e51 e52 e53 e54 e55 e56 e57 e58 e59 e60 e61 e62) (by decide) ?_
  refine hk_iconst (v := 0) dX3_reckoned_189 (by decide) ?_
  exact hk_ireturn dX3_reckoned_190 rfl rfl (by decide) ⟨by first | rfl | (unfold opv; grind), rfl⟩
set_option maxRecDepth 20000 in
set_option maxHeartbeats 2000000 in
theorem ct_nameAt {k : Nat} (hk : k < 9) : hk_Cd MX3_nameAt 0 0 0 [.ref 20, .int (nI k)] (hk_h L m) (some (.int (m 20 k))) (hk_h L m) := by
  refine hk_ofWP (by decide) (by simp [Value.category]) (Nat.le_of_ble_eq_true rfl) ?_
  show hk_WP _ _ _ _ _ _ _ [some (.ref 20), some (.int (nI k))] [] _ _
  refine hk_iload_n dX3_nameAt_0 rfl rfl ?_
  refine hk_if_lt (tgt := 16) dX3_nameAt_1 (by decide) (fun c1 => absurd c1 (nI_pos (by omega))) (fun _ => ?_)
  refine hk_iload_n dX3_nameAt_4 rfl rfl ?_
  refine hk_aload_n dX3_nameAt_5 rfl rfl ?_
  refine hk_alen dX3_nameAt_6 (hk_lt (by decide)) rfl rfl ?_
  refine hk_icmp_ge (tgt := 16) dX3_nameAt_7 (by decide) (fun c7 => absurd c7 (nI_ge hk (by decide))) (fun _ => ?_)
  refine hk_aload_n dX3_nameAt_10 rfl rfl ?_
  refine hk_iload_n dX3_nameAt_11 rfl rfl ?_
  refine hk_ian dX3_nameAt_12 (by decide) (fun _ => rfl) rfl (by omega) (by decide) ?_
  refine hk_goto (tgt := 17) dX3_nameAt_13 (by decide) ?_
  exact hk_ireturn dX3_nameAt_17 rfl rfl (by decide) ⟨rfl, rfl⟩
/-- the class's names -/
def nmC (m : Nat → Nat → Int32) : Nat → Int32 := fun j => if j < 9 then m 20 j else 0
/-- the loop's head: place p of the commands of law i, t numbers on the stack, S -/
def HD (L : Nat) (m : Nat → Nat → Int32) (i : Nat) (Q : Option Value → hk_H → Prop) (p t : Nat) (S : Nat → Int32) : Prop := ∀ (m1 : Nat → Nat → Int32) (l5 l6 : Option Value), (∀ a, a ≠ 21 → m1 a = m a) → (∀ j, j < t → m1 21 j = S j) →
  hk_WP MX3_worth 1 0 0 0 0 5 [some (.ref (99 + 2 * i)), some (.ref 20), some (.ref 21), some (.int (nI t)), some (.int (nI p)), l5, l6] [] (hk_h L m1) Q
theorem HD.cg {i p t : Nat} {Q : Option Value → hk_H → Prop} {S S' : Nat → Int32} (h : HD L m i Q p t S) (e : ∀ j, j < t → S' j = S j) : HD L m i Q p t S' := fun m1 l5 l6 h1 h2 => h m1 l5 l6 h1 (fun j hj => (h2 j hj).trans (e j hj))
set_option maxRecDepth 20000 in
set_option maxHeartbeats 2000000 in
theorem hd_num {i N p w : Nat} (hi : i < L) (hN : m (99 + 2 * i + 1) 1000 = nI N) (hN2 : N ≤ 160) (hp : p < N) (h1 : m (99 + 2 * i + 1) p - m (99 + 2 * i + 1) p / 256 * 256 = 48) (h2 : m (99 + 2 * i + 1) p / 256 = nI w) {Q : Option Value → hk_H → Prop} {t : Nat} {S : Nat → Int32} (ht : t < 160) (hh : HD L m i Q (p + 1) (t + 1) (upd S t (nI w))) : HD L m i Q p t S := by
  intro m1 l5 l6 hf hS
  have eA : m1 (99 + 2 * i + 1) = m (99 + 2 * i + 1) := hf _ (by omega)
  have hlo : 99 + 2 * i < (hk_h L m1).1 := Nat.lt_of_succ_lt (ent_lt hi)
  have heo : (hk_h L m1).2 (99 + 2 * i) = .inr (3, [.int (m1 (99 + 2 * i) 0), .int (m1 (99 + 2 * i) 1), .int (m1 (99 + 2 * i) 2), .ref (99 + 2 * i + 1)]) := ent_o L i _
  have hla : 99 + 2 * i + 1 < (hk_h L m1).1 := ent_lt hi
  have hea : (hk_h L m1).2 (99 + 2 * i + 1) = .inl (0, N, .inl (m1 (99 + 2 * i + 1))) := by
    have h0 := ent_a L i (m (99 + 2 * i + 1))
    rw [hN, nI_clamp (by omega)] at h0
    show hk_ent L (99 + 2 * i + 1) (m1 (99 + 2 * i + 1)) = .inl (0, N, .inl (m1 (99 + 2 * i + 1)))
    rw [eA]; exact h0
  refine hk_iload dX3_worth_5 rfl ?_
  refine hk_aload_n dX3_worth_7 rfl rfl ?_
  refine gfX3_19 rfl dX3_worth_8 hlo heo rfl ?_
  refine hk_alen dX3_worth_11 hla hea rfl ?_
  refine hk_icmp_ge (tgt := 193) dX3_worth_12 (by decide) (fun c12 => absurd c12 (nI_ge hp (by omega))) (fun _ => ?_)
  refine hk_aload_n dX3_worth_15 rfl rfl ?_
  refine gfX3_19 rfl dX3_worth_16 hlo heo rfl ?_
  refine hk_iload dX3_worth_19 rfl ?_
  refine hk_iaload dX3_worth_21 hla hea (vp_in_nI hp (by omega)) ?_
  rw [nI_clamp (by omega), eA]
  refine hk_sipush (v := 256) dX3_worth_22 (by decide) ?_
  refine hk_irem dX3_worth_25 (by decide) ?_
  rw [h1]
  refine hk_istore dX3_worth_26 (by decide) rfl ?_
  refine hk_aload_n dX3_worth_28 rfl rfl ?_
  refine gfX3_19 rfl dX3_worth_29 hlo heo rfl ?_
  refine hk_iload dX3_worth_32 rfl ?_
  refine hk_iaload dX3_worth_34 hla hea (vp_in_nI hp (by omega)) ?_
  rw [nI_clamp (by omega), eA]
  refine hk_sipush (v := 256) dX3_worth_35 (by decide) ?_
  refine hk_idiv dX3_worth_38 (by decide) ?_
  rw [h2]
  refine hk_istore dX3_worth_39 (by decide) rfl ?_
  refine hk_iload dX3_worth_41 rfl ?_
  refine hk_bipush (v := 48) dX3_worth_43 (by decide) ?_
  refine hk_icmp_eq (tgt := 55) dX3_worth_45 (by decide) (fun _ => ?_) (fun c45 => absurd rfl c45)
  refine hk_iload_n dX3_worth_55 rfl rfl ?_
  refine hk_aload_n dX3_worth_56 rfl rfl ?_
  refine hk_alen dX3_worth_57 (hk_lt (by decide)) rfl rfl ?_
  refine hk_icmp_lt (tgt := 63) dX3_worth_58 (by decide) (fun _ => ?_) (fun c58 => absurd (nI_lt ht (by decide)) c58)
  refine hk_aload_n dX3_worth_63 rfl rfl ?_
  refine hk_iload_n dX3_worth_64 rfl rfl ?_
  refine hk_iload dX3_worth_65 rfl ?_
  refine hk_bipush (v := 48) dX3_worth_67 (by decide) ?_
  refine hk_icmp_ne (tgt := 77) dX3_worth_69 (by decide) (fun c69 => absurd rfl c69) (fun _ => ?_)
  refine hk_iload dX3_worth_72 rfl ?_
  refine hk_goto (tgt := 83) dX3_worth_74 (by decide) ?_
  refine hk_isn dX3_worth_83 (by decide) (fun _ => rfl) rfl (by omega) (by decide) ?_
  refine hk_iinc (v := nI (t + 1)) dX3_worth_84 rfl (nI_1 t) (by decide) rfl ?_
  refine hk_goto (tgt := 187) dX3_worth_87 (by decide) ?_
  refine hk_iinc (v := nI (p + 1)) dX3_worth_187 rfl (nI_1 p) (by decide) rfl ?_
  refine hk_goto (tgt := 5) dX3_worth_190 (by decide) ?_
  exact hh _ _ _ (fun a ha => by rw [hk_wo ha]; exact hf a ha) (fun j hj => by
    rw [hk_w_at]; unfold upd
    by_cases hjt : j = t
    · rw [if_pos hjt, if_pos hjt]
    · rw [if_neg hjt, if_neg hjt]; exact hS j (by omega))
set_option maxRecDepth 20000 in
set_option maxHeartbeats 2000000 in
theorem hd_name {i N p w : Nat} (hi : i < L) (hN : m (99 + 2 * i + 1) 1000 = nI N) (hN2 : N ≤ 160) (hp : p < N) (h1 : m (99 + 2 * i + 1) p - m (99 + 2 * i + 1) p / 256 * 256 = 97) (h2 : m (99 + 2 * i + 1) p / 256 = nI w) {Q : Option Value → hk_H → Prop} {t : Nat} {S : Nat → Int32} (ht : t < 160) (hw : w < 9) (hh : HD L m i Q (p + 1) (t + 1) (upd S t (nmC m w))) : HD L m i Q p t S := by
  intro m1 l5 l6 hf hS
  have eA : m1 (99 + 2 * i + 1) = m (99 + 2 * i + 1) := hf _ (by omega)
  have hlo : 99 + 2 * i < (hk_h L m1).1 := Nat.lt_of_succ_lt (ent_lt hi)
  have heo : (hk_h L m1).2 (99 + 2 * i) = .inr (3, [.int (m1 (99 + 2 * i) 0), .int (m1 (99 + 2 * i) 1), .int (m1 (99 + 2 * i) 2), .ref (99 + 2 * i + 1)]) := ent_o L i _
  have hla : 99 + 2 * i + 1 < (hk_h L m1).1 := ent_lt hi
  have hea : (hk_h L m1).2 (99 + 2 * i + 1) = .inl (0, N, .inl (m1 (99 + 2 * i + 1))) := by
    have h0 := ent_a L i (m (99 + 2 * i + 1))
    rw [hN, nI_clamp (by omega)] at h0
    show hk_ent L (99 + 2 * i + 1) (m1 (99 + 2 * i + 1)) = .inl (0, N, .inl (m1 (99 + 2 * i + 1)))
    rw [eA]; exact h0
  refine hk_iload dX3_worth_5 rfl ?_
  refine hk_aload_n dX3_worth_7 rfl rfl ?_
  refine gfX3_19 rfl dX3_worth_8 hlo heo rfl ?_
  refine hk_alen dX3_worth_11 hla hea rfl ?_
  refine hk_icmp_ge (tgt := 193) dX3_worth_12 (by decide) (fun c12 => absurd c12 (nI_ge hp (by omega))) (fun _ => ?_)
  refine hk_aload_n dX3_worth_15 rfl rfl ?_
  refine gfX3_19 rfl dX3_worth_16 hlo heo rfl ?_
  refine hk_iload dX3_worth_19 rfl ?_
  refine hk_iaload dX3_worth_21 hla hea (vp_in_nI hp (by omega)) ?_
  rw [nI_clamp (by omega), eA]
  refine hk_sipush (v := 256) dX3_worth_22 (by decide) ?_
  refine hk_irem dX3_worth_25 (by decide) ?_
  rw [h1]
  refine hk_istore dX3_worth_26 (by decide) rfl ?_
  refine hk_aload_n dX3_worth_28 rfl rfl ?_
  refine gfX3_19 rfl dX3_worth_29 hlo heo rfl ?_
  refine hk_iload dX3_worth_32 rfl ?_
  refine hk_iaload dX3_worth_34 hla hea (vp_in_nI hp (by omega)) ?_
  rw [nI_clamp (by omega), eA]
  refine hk_sipush (v := 256) dX3_worth_35 (by decide) ?_
  refine hk_idiv dX3_worth_38 (by decide) ?_
  rw [h2]
  refine hk_istore dX3_worth_39 (by decide) rfl ?_
  refine hk_iload dX3_worth_41 rfl ?_
  refine hk_bipush (v := 48) dX3_worth_43 (by decide) ?_
  refine hk_icmp_eq (tgt := 55) dX3_worth_45 (by decide) (fun c45 => absurd c45 (by decide)) (fun _ => ?_)
  refine hk_iload dX3_worth_48 rfl ?_
  refine hk_bipush (v := 97) dX3_worth_50 (by decide) ?_
  refine hk_icmp_ne (tgt := 90) dX3_worth_52 (by decide) (fun c52 => absurd rfl c52) (fun _ => ?_)
  refine hk_iload_n dX3_worth_55 rfl rfl ?_
  refine hk_aload_n dX3_worth_56 rfl rfl ?_
  refine hk_alen dX3_worth_57 (hk_lt (by decide)) rfl rfl ?_
  refine hk_icmp_lt (tgt := 63) dX3_worth_58 (by decide) (fun _ => ?_) (fun c58 => absurd (nI_lt ht (by decide)) c58)
  refine hk_aload_n dX3_worth_63 rfl rfl ?_
  refine hk_iload_n dX3_worth_64 rfl rfl ?_
  refine hk_iload dX3_worth_65 rfl ?_
  refine hk_bipush (v := 48) dX3_worth_67 (by decide) ?_
  refine hk_icmp_ne (tgt := 77) dX3_worth_69 (by decide) (fun _ => ?_) (fun c69 => absurd c69 (by decide))
  refine hk_aload_n dX3_worth_77 rfl rfl ?_
  refine hk_iload dX3_worth_78 rfl ?_
  refine ivX3_23 rfl (ct_nameAt hw) dX3_worth_80 rfl rfl (by decide) ⟨by decide, by decide⟩ (Nat.le_of_ble_eq_true rfl) (hk_kd ?_)
  rw [show m1 20 w = nmC m w by rw [hf 20 (by decide)]; exact (if_pos hw).symm]
  refine hk_isn dX3_worth_83 (by decide) (fun _ => rfl) rfl (by omega) (by decide) ?_
  refine hk_iinc (v := nI (t + 1)) dX3_worth_84 rfl (nI_1 t) (by decide) rfl ?_
  refine hk_goto (tgt := 187) dX3_worth_87 (by decide) ?_
  refine hk_iinc (v := nI (p + 1)) dX3_worth_187 rfl (nI_1 p) (by decide) rfl ?_
  refine hk_goto (tgt := 5) dX3_worth_190 (by decide) ?_
  exact hh _ _ _ (fun a ha => by rw [hk_wo ha]; exact hf a ha) (fun j hj => by
    rw [hk_w_at]; unfold upd
    by_cases hjt : j = t
    · rw [if_pos hjt, if_pos hjt]
    · rw [if_neg hjt, if_neg hjt]; exact hS j (by omega))
set_option maxRecDepth 20000 in
set_option maxHeartbeats 2000000 in
theorem hd_skip {i N p w : Nat} (hi : i < L) (hN : m (99 + 2 * i + 1) 1000 = nI N) (hN2 : N ≤ 160) (hp : p < N) (h1 : m (99 + 2 * i + 1) p - m (99 + 2 * i + 1) p / 256 * 256 = 58) (h2 : m (99 + 2 * i + 1) p / 256 = nI w) {Q : Option Value → hk_H → Prop} {t : Nat} {S : Nat → Int32} (hw : p < w ∧ w ≤ 160) (hh : HD L m i Q w t S) : HD L m i Q p t S := by
  intro m1 l5 l6 hf hS
  have eA : m1 (99 + 2 * i + 1) = m (99 + 2 * i + 1) := hf _ (by omega)
  have hlo : 99 + 2 * i < (hk_h L m1).1 := Nat.lt_of_succ_lt (ent_lt hi)
  have heo : (hk_h L m1).2 (99 + 2 * i) = .inr (3, [.int (m1 (99 + 2 * i) 0), .int (m1 (99 + 2 * i) 1), .int (m1 (99 + 2 * i) 2), .ref (99 + 2 * i + 1)]) := ent_o L i _
  have hla : 99 + 2 * i + 1 < (hk_h L m1).1 := ent_lt hi
  have hea : (hk_h L m1).2 (99 + 2 * i + 1) = .inl (0, N, .inl (m1 (99 + 2 * i + 1))) := by
    have h0 := ent_a L i (m (99 + 2 * i + 1))
    rw [hN, nI_clamp (by omega)] at h0
    show hk_ent L (99 + 2 * i + 1) (m1 (99 + 2 * i + 1)) = .inl (0, N, .inl (m1 (99 + 2 * i + 1)))
    rw [eA]; exact h0
  refine hk_iload dX3_worth_5 rfl ?_
  refine hk_aload_n dX3_worth_7 rfl rfl ?_
  refine gfX3_19 rfl dX3_worth_8 hlo heo rfl ?_
  refine hk_alen dX3_worth_11 hla hea rfl ?_
  refine hk_icmp_ge (tgt := 193) dX3_worth_12 (by decide) (fun c12 => absurd c12 (nI_ge hp (by omega))) (fun _ => ?_)
  refine hk_aload_n dX3_worth_15 rfl rfl ?_
  refine gfX3_19 rfl dX3_worth_16 hlo heo rfl ?_
  refine hk_iload dX3_worth_19 rfl ?_
  refine hk_iaload dX3_worth_21 hla hea (vp_in_nI hp (by omega)) ?_
  rw [nI_clamp (by omega), eA]
  refine hk_sipush (v := 256) dX3_worth_22 (by decide) ?_
  refine hk_irem dX3_worth_25 (by decide) ?_
  rw [h1]
  refine hk_istore dX3_worth_26 (by decide) rfl ?_
  refine hk_aload_n dX3_worth_28 rfl rfl ?_
  refine gfX3_19 rfl dX3_worth_29 hlo heo rfl ?_
  refine hk_iload dX3_worth_32 rfl ?_
  refine hk_iaload dX3_worth_34 hla hea (vp_in_nI hp (by omega)) ?_
  rw [nI_clamp (by omega), eA]
  refine hk_sipush (v := 256) dX3_worth_35 (by decide) ?_
  refine hk_idiv dX3_worth_38 (by decide) ?_
  rw [h2]
  refine hk_istore dX3_worth_39 (by decide) rfl ?_
  refine hk_iload dX3_worth_41 rfl ?_
  refine hk_bipush (v := 48) dX3_worth_43 (by decide) ?_
  refine hk_icmp_eq (tgt := 55) dX3_worth_45 (by decide) (fun c45 => absurd c45 (by decide)) (fun _ => ?_)
  refine hk_iload dX3_worth_48 rfl ?_
  refine hk_bipush (v := 97) dX3_worth_50 (by decide) ?_
  refine hk_icmp_ne (tgt := 90) dX3_worth_52 (by decide) (fun _ => ?_) (fun c52 => absurd c52 (by decide))
  refine hk_iload dX3_worth_90 rfl ?_
  refine hk_bipush (v := 58) dX3_worth_92 (by decide) ?_
  refine hk_icmp_ne (tgt := 111) dX3_worth_94 (by decide) (fun c94 => absurd rfl c94) (fun _ => ?_)
  refine hk_iload dX3_worth_97 rfl ?_
  refine hk_iload dX3_worth_99 rfl ?_
  refine hk_iconst (v := 1) dX3_worth_101 (by decide) ?_
  refine hk_isub dX3_worth_102 ?_
  refine hk_mmax ⟨hk_t 502 (by decide +kernel) rfl, hk_t 503 (by decide +kernel) rfl, hk_t 11 (by decide +kernel) rfl, hk_t 504 (by decide +kernel) rfl⟩ dX3_worth_103 (by decide) (Nat.le_of_ble_eq_true rfl) ⟨by decide, by decide⟩ ?_
  rw [show (if nI p < nI w - 1 then nI w - 1 else nI p) = nI (w - 1) by
    have e : nI w - 1 = nI (w - 1) := nI_sub (b := 1) (by omega)
    rw [e]
    by_cases hq : p < w - 1
    · rw [if_pos (nI_lt hq (by omega))]
    · rw [if_neg (by rw [nI_ltI (by omega) (by omega)]; omega)]; congr 1; omega]
  refine hk_istore dX3_worth_106 (by decide) rfl ?_
  refine hk_goto (tgt := 187) dX3_worth_108 (by decide) ?_
  refine hk_iinc (v := nI w) dX3_worth_187 rfl (by rw [show (Int32.ofInt 1) = 1 from rfl, nI_1]; congr 1; omega) (by decide) rfl ?_
  refine hk_goto (tgt := 5) dX3_worth_190 (by decide) ?_
  exact hh _ _ _ hf hS
set_option maxRecDepth 20000 in
set_option maxHeartbeats 2000000 in
theorem hd_if {i N p w : Nat} (hi : i < L) (hN : m (99 + 2 * i + 1) 1000 = nI N) (hN2 : N ≤ 160) (hp : p < N) (h1 : m (99 + 2 * i + 1) p - m (99 + 2 * i + 1) p / 256 * 256 = 63) (h2 : m (99 + 2 * i + 1) p / 256 = nI w) {Q : Option Value → hk_H → Prop} {t : Nat} {S : Nat → Int32} (hw : p < w ∧ w ≤ 160) (ht : t < 160) (hy : S t = 0 → HD L m i Q w t S) (hn : ¬ S t = 0 → HD L m i Q (p + 1) t S) : HD L m i Q p (t + 1) S := by
  intro m1 l5 l6 hf hS
  have eA : m1 (99 + 2 * i + 1) = m (99 + 2 * i + 1) := hf _ (by omega)
  have hlo : 99 + 2 * i < (hk_h L m1).1 := Nat.lt_of_succ_lt (ent_lt hi)
  have heo : (hk_h L m1).2 (99 + 2 * i) = .inr (3, [.int (m1 (99 + 2 * i) 0), .int (m1 (99 + 2 * i) 1), .int (m1 (99 + 2 * i) 2), .ref (99 + 2 * i + 1)]) := ent_o L i _
  have hla : 99 + 2 * i + 1 < (hk_h L m1).1 := ent_lt hi
  have hea : (hk_h L m1).2 (99 + 2 * i + 1) = .inl (0, N, .inl (m1 (99 + 2 * i + 1))) := by
    have h0 := ent_a L i (m (99 + 2 * i + 1))
    rw [hN, nI_clamp (by omega)] at h0
    show hk_ent L (99 + 2 * i + 1) (m1 (99 + 2 * i + 1)) = .inl (0, N, .inl (m1 (99 + 2 * i + 1)))
    rw [eA]; exact h0
  refine hk_iload dX3_worth_5 rfl ?_
  refine hk_aload_n dX3_worth_7 rfl rfl ?_
  refine gfX3_19 rfl dX3_worth_8 hlo heo rfl ?_
  refine hk_alen dX3_worth_11 hla hea rfl ?_
  refine hk_icmp_ge (tgt := 193) dX3_worth_12 (by decide) (fun c12 => absurd c12 (nI_ge hp (by omega))) (fun _ => ?_)
  refine hk_aload_n dX3_worth_15 rfl rfl ?_
  refine gfX3_19 rfl dX3_worth_16 hlo heo rfl ?_
  refine hk_iload dX3_worth_19 rfl ?_
  refine hk_iaload dX3_worth_21 hla hea (vp_in_nI hp (by omega)) ?_
  rw [nI_clamp (by omega), eA]
  refine hk_sipush (v := 256) dX3_worth_22 (by decide) ?_
  refine hk_irem dX3_worth_25 (by decide) ?_
  rw [h1]
  refine hk_istore dX3_worth_26 (by decide) rfl ?_
  refine hk_aload_n dX3_worth_28 rfl rfl ?_
  refine gfX3_19 rfl dX3_worth_29 hlo heo rfl ?_
  refine hk_iload dX3_worth_32 rfl ?_
  refine hk_iaload dX3_worth_34 hla hea (vp_in_nI hp (by omega)) ?_
  rw [nI_clamp (by omega), eA]
  refine hk_sipush (v := 256) dX3_worth_35 (by decide) ?_
  refine hk_idiv dX3_worth_38 (by decide) ?_
  rw [h2]
  refine hk_istore dX3_worth_39 (by decide) rfl ?_
  refine hk_iload dX3_worth_41 rfl ?_
  refine hk_bipush (v := 48) dX3_worth_43 (by decide) ?_
  refine hk_icmp_eq (tgt := 55) dX3_worth_45 (by decide) (fun c45 => absurd c45 (by decide)) (fun _ => ?_)
  refine hk_iload dX3_worth_48 rfl ?_
  refine hk_bipush (v := 97) dX3_worth_50 (by decide) ?_
  refine hk_icmp_ne (tgt := 90) dX3_worth_52 (by decide) (fun _ => ?_) (fun c52 => absurd c52 (by decide))
  refine hk_iload dX3_worth_90 rfl ?_
  refine hk_bipush (v := 58) dX3_worth_92 (by decide) ?_
  refine hk_icmp_ne (tgt := 111) dX3_worth_94 (by decide) (fun _ => ?_) (fun c94 => absurd c94 (by decide))
  refine hk_iload_n dX3_worth_111 rfl rfl ?_
  refine hk_iconst (v := 1) dX3_worth_112 (by decide) ?_
  refine hk_icmp_lt (tgt := 122) dX3_worth_113 (by decide) (fun c113 => absurd c113 (by rw [show (1 : Int32) = nI 1 from rfl, nI_ltI (by omega) (by decide)]; omega)) (fun _ => ?_)
  refine hk_iload_n dX3_worth_116 rfl rfl ?_
  refine hk_aload_n dX3_worth_117 rfl rfl ?_
  refine hk_alen dX3_worth_118 (hk_lt (by decide)) rfl rfl ?_
  refine hk_icmp_le (tgt := 124) dX3_worth_119 (by decide) (fun _ => ?_) (fun c119 => absurd (by show _ ≤ nI 160; rw [nI_leI (by omega) (by decide)]; omega) c119)
  refine hk_iload dX3_worth_124 rfl ?_
  refine hk_bipush (v := 63) dX3_worth_126 (by decide) ?_
  refine hk_icmp_ne (tgt := 159) dX3_worth_128 (by decide) (fun c128 => absurd rfl c128) (fun _ => ?_)
  refine hk_iinc (v := nI t) dX3_worth_131 rfl (nI_m1 t) (by decide) rfl ?_
  refine hk_aload_n dX3_worth_134 rfl rfl ?_
  refine hk_iload_n dX3_worth_135 rfl rfl ?_
  refine hk_ian dX3_worth_136 (by decide) (fun _ => rfl) rfl (by omega) (by decide) ?_
  rw [hS t (Nat.lt_succ_self t)]
  refine hk_if_ne (tgt := 152) dX3_worth_137 (by decide) (fun c137 => ?_) (fun c137 => ?_)
  · refine hk_iload dX3_worth_152 rfl ?_
    refine hk_istore dX3_worth_154 (by decide) rfl ?_
    refine hk_goto (tgt := 187) dX3_worth_156 (by decide) ?_
    refine hk_iinc (v := _) dX3_worth_187 rfl rfl (by decide) rfl ?_
    refine hk_goto (tgt := 5) dX3_worth_190 (by decide) ?_
    first
    | (rw [show nI p + Int32.ofInt 1 = nI (p + 1) from nI_1 p]; exact hn c137 _ _ _ hf (fun j hj => hS j (by omega)))
    | (rw [show nI (w - 1) + Int32.ofInt 1 = nI w by rw [show (Int32.ofInt 1) = 1 from rfl, nI_1]; congr 1; omega]; exact hy c137 _ _ _ hf (fun j hj => hS j (by omega)))
  · refine hk_iload dX3_worth_140 rfl ?_
    refine hk_iload dX3_worth_142 rfl ?_
    refine hk_iconst (v := 1) dX3_worth_144 (by decide) ?_
    refine hk_isub dX3_worth_145 ?_
    refine hk_mmax ⟨hk_t 502 (by decide +kernel) rfl, hk_t 503 (by decide +kernel) rfl, hk_t 11 (by decide +kernel) rfl, hk_t 504 (by decide +kernel) rfl⟩ dX3_worth_146 (by decide) (Nat.le_of_ble_eq_true rfl) ⟨by decide, by decide⟩ ?_
    rw [show (if nI p < nI w - 1 then nI w - 1 else nI p) = nI (w - 1) by
      have e : nI w - 1 = nI (w - 1) := nI_sub (b := 1) (by omega)
      rw [e]
      by_cases hq : p < w - 1
      · rw [if_pos (nI_lt hq (by omega))]
      · rw [if_neg (by rw [nI_ltI (by omega) (by omega)]; omega)]; congr 1; omega]
    refine hk_goto (tgt := 154) dX3_worth_149 (by decide) ?_
    refine hk_istore dX3_worth_154 (by decide) rfl ?_
    refine hk_goto (tgt := 187) dX3_worth_156 (by decide) ?_
    refine hk_iinc (v := _) dX3_worth_187 rfl rfl (by decide) rfl ?_
    refine hk_goto (tgt := 5) dX3_worth_190 (by decide) ?_
    first
    | (rw [show nI p + Int32.ofInt 1 = nI (p + 1) from nI_1 p]; exact hn c137 _ _ _ hf (fun j hj => hS j (by omega)))
    | (rw [show nI (w - 1) + Int32.ofInt 1 = nI w by rw [show (Int32.ofInt 1) = 1 from rfl, nI_1]; congr 1; omega]; exact hy c137 _ _ _ hf (fun j hj => hS j (by omega)))
set_option maxRecDepth 20000 in
set_option maxHeartbeats 2000000 in
theorem hd_op {i N p w : Nat} (hi : i < L) (hN : m (99 + 2 * i + 1) 1000 = nI N) (hN2 : N ≤ 160) (hp : p < N) {g : Int32} (hg : isOp g) (h1 : m (99 + 2 * i + 1) p - m (99 + 2 * i + 1) p / 256 * 256 = g) (h2 : m (99 + 2 * i + 1) p / 256 = nI w) {Q : Option Value → hk_H → Prop} {t : Nat} {S : Nat → Int32} (ht : t + 2 ≤ 160) (hh : HD L m i Q (p + 1) (t + 1) (upd S t (opv g (S t) (S (t + 1))))) : HD L m i Q p (t + 2) S := by
  intro m1 l5 l6 hf hS
  have eA : m1 (99 + 2 * i + 1) = m (99 + 2 * i + 1) := hf _ (by omega)
  have hlo : 99 + 2 * i < (hk_h L m1).1 := Nat.lt_of_succ_lt (ent_lt hi)
  have heo : (hk_h L m1).2 (99 + 2 * i) = .inr (3, [.int (m1 (99 + 2 * i) 0), .int (m1 (99 + 2 * i) 1), .int (m1 (99 + 2 * i) 2), .ref (99 + 2 * i + 1)]) := ent_o L i _
  have hla : 99 + 2 * i + 1 < (hk_h L m1).1 := ent_lt hi
  have hea : (hk_h L m1).2 (99 + 2 * i + 1) = .inl (0, N, .inl (m1 (99 + 2 * i + 1))) := by
    have h0 := ent_a L i (m (99 + 2 * i + 1))
    rw [hN, nI_clamp (by omega)] at h0
    show hk_ent L (99 + 2 * i + 1) (m1 (99 + 2 * i + 1)) = .inl (0, N, .inl (m1 (99 + 2 * i + 1)))
    rw [eA]; exact h0
  refine hk_iload dX3_worth_5 rfl ?_
  refine hk_aload_n dX3_worth_7 rfl rfl ?_
  refine gfX3_19 rfl dX3_worth_8 hlo heo rfl ?_
  refine hk_alen dX3_worth_11 hla hea rfl ?_
  refine hk_icmp_ge (tgt := 193) dX3_worth_12 (by decide) (fun c12 => absurd c12 (nI_ge hp (by omega))) (fun _ => ?_)
  refine hk_aload_n dX3_worth_15 rfl rfl ?_
  refine gfX3_19 rfl dX3_worth_16 hlo heo rfl ?_
  refine hk_iload dX3_worth_19 rfl ?_
  refine hk_iaload dX3_worth_21 hla hea (vp_in_nI hp (by omega)) ?_
  rw [nI_clamp (by omega), eA]
  refine hk_sipush (v := 256) dX3_worth_22 (by decide) ?_
  refine hk_irem dX3_worth_25 (by decide) ?_
  rw [h1]
  refine hk_istore dX3_worth_26 (by decide) rfl ?_
  refine hk_aload_n dX3_worth_28 rfl rfl ?_
  refine gfX3_19 rfl dX3_worth_29 hlo heo rfl ?_
  refine hk_iload dX3_worth_32 rfl ?_
  refine hk_iaload dX3_worth_34 hla hea (vp_in_nI hp (by omega)) ?_
  rw [nI_clamp (by omega), eA]
  refine hk_sipush (v := 256) dX3_worth_35 (by decide) ?_
  refine hk_idiv dX3_worth_38 (by decide) ?_
  rw [h2]
  refine hk_istore dX3_worth_39 (by decide) rfl ?_
  refine hk_iload dX3_worth_41 rfl ?_
  refine hk_bipush (v := 48) dX3_worth_43 (by decide) ?_
  refine hk_icmp_eq (tgt := 55) dX3_worth_45 (by decide) (fun c45 => absurd c45 (fun z => by rw [z] at hg; revert hg; unfold isOp isMul isAdd isCmp; decide)) (fun _ => ?_)
  refine hk_iload dX3_worth_48 rfl ?_
  refine hk_bipush (v := 97) dX3_worth_50 (by decide) ?_
  refine hk_icmp_ne (tgt := 90) dX3_worth_52 (by decide) (fun _ => ?_) (fun c52 => absurd c52 (fun z => by rw [z] at hg; revert hg; unfold isOp isMul isAdd isCmp; decide))
  refine hk_iload dX3_worth_90 rfl ?_
  refine hk_bipush (v := 58) dX3_worth_92 (by decide) ?_
  refine hk_icmp_ne (tgt := 111) dX3_worth_94 (by decide) (fun _ => ?_) (fun c94 => absurd c94 (fun z => by rw [z] at hg; revert hg; unfold isOp isMul isAdd isCmp; decide))
  refine hk_iload_n dX3_worth_111 rfl rfl ?_
  refine hk_iconst (v := 1) dX3_worth_112 (by decide) ?_
  refine hk_icmp_lt (tgt := 122) dX3_worth_113 (by decide) (fun c113 => absurd c113 (by rw [show (1 : Int32) = nI 1 from rfl, nI_ltI (by omega) (by decide)]; omega)) (fun _ => ?_)
  refine hk_iload_n dX3_worth_116 rfl rfl ?_
  refine hk_aload_n dX3_worth_117 rfl rfl ?_
  refine hk_alen dX3_worth_118 (hk_lt (by decide)) rfl rfl ?_
  refine hk_icmp_le (tgt := 124) dX3_worth_119 (by decide) (fun _ => ?_) (fun c119 => absurd (by show _ ≤ nI 160; rw [nI_leI (by omega) (by decide)]; omega) c119)
  refine hk_iload dX3_worth_124 rfl ?_
  refine hk_bipush (v := 63) dX3_worth_126 (by decide) ?_
  refine hk_icmp_ne (tgt := 159) dX3_worth_128 (by decide) (fun _ => ?_) (fun c128 => absurd c128 (fun z => by rw [z] at hg; revert hg; unfold isOp isMul isAdd isCmp; decide))
  refine hk_iload_n dX3_worth_159 rfl rfl ?_
  refine hk_iconst (v := 2) dX3_worth_160 (by decide) ?_
  refine hk_icmp_ge (tgt := 166) dX3_worth_161 (by decide) (fun _ => ?_) (fun c161 => absurd (by rw [show (2 : Int32) = nI 2 from rfl, nI_leI (by decide) (by omega)]; omega) c161)
  refine hk_iinc (v := nI (t + 1)) dX3_worth_166 rfl (nI_m1 (t + 1)) (by decide) rfl ?_
  refine hk_aload_n dX3_worth_169 rfl rfl ?_
  refine hk_iload_n dX3_worth_170 rfl rfl ?_
  refine hk_iconst (v := 1) dX3_worth_171 (by decide) ?_
  refine hk_isub dX3_worth_172 ?_
  refine hk_iload dX3_worth_173 rfl ?_
  refine hk_aload_n dX3_worth_175 rfl rfl ?_
  refine hk_iload_n dX3_worth_176 rfl rfl ?_
  refine hk_iconst (v := 1) dX3_worth_177 (by decide) ?_
  refine hk_isub dX3_worth_178 ?_
  refine hk_ian (j := t) dX3_worth_179 (by decide) (fun _ => rfl) (nI_pred t) (by omega) (by decide) ?_
  rw [hS t (by omega)]
  refine hk_aload_n dX3_worth_180 rfl rfl ?_
  refine hk_iload_n dX3_worth_181 rfl rfl ?_
  refine hk_ian dX3_worth_182 (by decide) (fun _ => rfl) rfl (by omega) (by decide) ?_
  rw [hS (t + 1) (by omega)]
  refine ivX3_33 rfl (ct_reckoned _ _ _) dX3_worth_183 rfl rfl (by decide) ⟨by decide, by decide⟩ (Nat.le_of_ble_eq_true rfl) (hk_kd ?_)
  refine hk_isn (j := t) dX3_worth_186 (by decide) (fun _ => rfl) (nI_pred t) (by omega) (by decide) ?_
  refine hk_iinc (v := nI (p + 1)) dX3_worth_187 rfl (nI_1 p) (by decide) rfl ?_
  refine hk_goto (tgt := 5) dX3_worth_190 (by decide) ?_
  exact hh _ _ _ (fun a ha => by rw [hk_wo ha]; exact hf a ha) (fun j hj => by
    rw [hk_w_at]; unfold upd
    by_cases hjt : j = t
    · rw [if_pos hjt, if_pos hjt]
    · rw [if_neg hjt, if_neg hjt]; exact hS j (by omega))
set_option maxRecDepth 20000 in
set_option maxHeartbeats 2000000 in
theorem hd_end {i N : Nat} (hi : i < L) (hN : m (99 + 2 * i + 1) 1000 = nI N) (hN2 : N ≤ 160) {S : Nat → Int32} : HD L m i (fun r h => ∃ m1, r = some (.int (S 0)) ∧ h = hk_h L m1 ∧ ∀ a, a ≠ 21 → m1 a = m a) N 1 S := by
  intro m1 l5 l6 hf hS
  have eA : m1 (99 + 2 * i + 1) = m (99 + 2 * i + 1) := hf _ (by omega)
  have hlo : 99 + 2 * i < (hk_h L m1).1 := Nat.lt_of_succ_lt (ent_lt hi)
  have heo : (hk_h L m1).2 (99 + 2 * i) = .inr (3, [.int (m1 (99 + 2 * i) 0), .int (m1 (99 + 2 * i) 1), .int (m1 (99 + 2 * i) 2), .ref (99 + 2 * i + 1)]) := ent_o L i _
  have hla : 99 + 2 * i + 1 < (hk_h L m1).1 := ent_lt hi
  have hea : (hk_h L m1).2 (99 + 2 * i + 1) = .inl (0, N, .inl (m1 (99 + 2 * i + 1))) := by
    have h0 := ent_a L i (m (99 + 2 * i + 1))
    rw [hN, nI_clamp (by omega)] at h0
    show hk_ent L (99 + 2 * i + 1) (m1 (99 + 2 * i + 1)) = .inl (0, N, .inl (m1 (99 + 2 * i + 1)))
    rw [eA]; exact h0
  refine hk_iload dX3_worth_5 rfl ?_
  refine hk_aload_n dX3_worth_7 rfl rfl ?_
  refine gfX3_19 rfl dX3_worth_8 hlo heo rfl ?_
  refine hk_alen dX3_worth_11 hla hea rfl ?_
  refine hk_icmp_ge (tgt := 193) dX3_worth_12 (by decide) (fun _ => ?_) (fun c12 => absurd (by show nI N ≤ nI N; rw [nI_leI (by omega) (by omega)]; omega) c12)
  refine hk_iload_n dX3_worth_193 rfl rfl ?_
  refine hk_if_le (tgt := 205) dX3_worth_194 (by decide) (fun c194 => absurd c194 (by decide)) (fun _ => ?_)
  refine hk_aload_n dX3_worth_197 rfl rfl ?_
  refine hk_iload_n dX3_worth_198 rfl rfl ?_
  refine hk_iconst (v := 1) dX3_worth_199 (by decide) ?_
  refine hk_isub dX3_worth_200 ?_
  refine hk_ian (j := 0) dX3_worth_201 (by decide) (fun _ => rfl) (nI_pred 0) (by omega) (by decide) ?_
  refine hk_goto (tgt := 206) dX3_worth_202 (by decide) ?_
  exact hk_ireturn dX3_worth_206 rfl rfl (by decide) ⟨m1, by rw [hS 0 (by decide)], rfl, hf⟩
end WCx
