/-! call: the reference's; why a coach does not come, of a state half gone -/
section CJy
variable {L nC nS nK nD : Nat} {m m0 m1 m2 ms : Nat → Nat → Int32} {z : Nat → Nat}
/-- what the reference's whyNot asks of a state -/
def WH (L : Nat) (z : Nat → Nat) (m : Nat → Nat → Int32) (c : Nat) : Prop := m 37 0 = nI (z 8) ∧ z 8 < 720000 ∧ m 37 30 = nI (z 12) ∧ z 12 ≤ 200 ∧ m 10 (c * 8 + 2) = m 53 c ∧ m 10 (c * 8 + 5) = m 54 c ∧ GLic (z 12) (m 12) (m 59) (m 60) (m 61) ∧ GSun (m 4) (m 5) (m 38) (m 39) ∧ L ≤ 40 ∧ m 37 43 = nI L ∧ AL m L ∧ c < 30
/-- as m, but for scratch and what a call of the class's changes -/
def CR (m m1 : Nat → Nat → Int32) : Prop := (∀ a, a ∉ [3, 6, 10, 14, 16, 18, 20, 21, 23, 24, 26, 27, 28, 37, 47, 48, 49, 72, 86, 87, 88, 89] → m1 a = m a) ∧ (∀ j, j % 13 ≠ 3 → m1 3 j = m 3 j) ∧ m1 16 2 = m 16 2 ∧ (∀ c, m1 10 (c * 8 + 2) = m 10 (c * 8 + 2) ∧ m1 10 (c * 8 + 5) = m 10 (c * 8 + 5)) ∧ ∀ j, j ∉ [15, 44, 45, 65, 78, 79, 80] → m1 37 j = m 37 j
/-- as m, but for what the reference's asking changes -/
def RW (m m1 : Nat → Nat → Int32) : Prop := (∀ a, a ∉ [37, 72, 86, 87, 88, 89] → m1 a = m a) ∧ ∀ j, j ∉ [15, 44, 45, 65, 78, 79, 80] → m1 37 j = m 37 j
theorem RW.refl : RW m m := ⟨fun _ _ => rfl, fun _ _ => rfl⟩
theorem RW.t (s : RW m m1) (u : RW m1 m2) : RW m m2 := ⟨fun a h => (u.1 a h).trans (s.1 a h), fun j h => (u.2 j h).trans (s.2 j h)⟩
theorem ni_l {a : Nat} {l l2 : List Nat} (h : a ∉ l) (hs : ∀ x, x ∈ l2 → x ∈ l) : a ∉ l2 := fun k => h (hs a k)
theorem ni_e {a x : Nat} {l : List Nat} (h : a ∉ l) (hx : x ∈ l) : a ≠ x := fun e => h (e ▸ hx)
theorem CR.rw (s : CR m m1) (u : RW m1 m2) : CR m m2 := by
  obtain ⟨s1, s2, s3, s4, s5⟩ := s
  refine ⟨fun a h => (u.1 a (ni_l h (by decide))).trans (s1 a h), fun j h => by rw [u.1 3 (by decide)]; exact s2 j h, by rw [u.1 16 (by decide)]; exact s3, fun c => by rw [u.1 10 (by decide)]; exact s4 c, fun j h => (u.2 j h).trans (s5 j h)⟩
theorem SF.rw (s : SF m m1) : RW m m1 := ⟨fun a h => s.1 a (ni_e h (by decide)) (ni_e h (by decide)), fun j h => s.2 j (ni_e h (by decide)) (ni_e h (by decide)) (ni_e h (by decide)) (ni_e h (by decide)) (ni_e h (by decide))⟩
theorem CR.fx {u : Int32} {t : Nat} (s : CR m m1) (k : FX m1 nC nS u t m2) : CR m m2 := by
  obtain ⟨s1, s2, s3, s4, s5⟩ := s
  refine ⟨fun a h => (k.1 a (ni_e h (by decide)) (ni_e h (by decide))).trans (s1 a h), fun j h => by rw [k.1 3 (by decide) (by decide)]; exact s2 j h, by rw [k.1 16 (by decide) (by decide)]; exact s3, fun c => by rw [k.1 10 (by decide) (by decide)]; exact s4 c, fun j h => by rw [k.1 37 (by decide) (by decide)]; exact s5 j h⟩
theorem NF.rw (s : NF m m1) : RW m m1 := ⟨fun a h => s.1 a (ni_e h (by decide)) (ni_e h (by decide)) (ni_e h (by decide)) (ni_e h (by decide)) (ni_e h (by decide)), fun j h => s.2 j (ni_e h (by decide))⟩
theorem WH_of (hI : Inv L z m) (s : CR m m1) {c : Nat} (hc : c < z 2) : WH L z m1 c := by
  obtain ⟨p1, p2, p3, p4, p5⟩ := Inv_gl hI
  obtain ⟨g0, ⟨⟨a0, a1, a2, a3, a4, a5, a6, a7, a8, a9, a10, a11, a12, a13⟩, ⟨b0, b1, b2, b3, b4, b5, b6, b7, b8, b9, b10, b11, b12⟩, ⟨c0, c1, c2, c3, c4, c5, c6, c7, c8, c9, c10, c11, c12⟩⟩, g2, g3, g4, g5, g6, g7, g8, g9, g10, g11, g12, g13, g14⟩ := id hI
  obtain ⟨e1, e2, e3, e4, e5, e6, _⟩ := g5.1 c hc
  obtain ⟨s1, s2, s3, s4, s5⟩ := s
  unfold WH AL TL LV
  rw [s5 0 (by decide), s5 30 (by decide), s5 43 (by decide), (s4 c).1, (s4 c).2, s1 53 (by decide), s1 54 (by decide), s1 12 (by decide), s1 59 (by decide), s1 60 (by decide), s1 61 (by decide), s1 4 (by decide), s1 5 (by decide), s1 38 (by decide), s1 39 (by decide), s1 67 (by decide), s1 68 (by decide)]
  exact ⟨b8, c8, b12, c12, e3, e4, g6, g3, p3, p4, p5, by omega⟩
theorem WV_c (s : CR m m1) {N c n : Nat} {ah yd bad wt pe ni : Int32} : WV m1 L N c n ah yd bad wt pe ni = WV m L N c n ah yd bad wt pe ni := by
  obtain ⟨s1, s2, s3, s4, s5⟩ := s
  have e12 : m1 12 = m 12 := s1 12 (by decide)
  have elq : ∀ k d x, LQ m1 k d x L = LQ m k d x L := fun k d x => by unfold LQ; rw [s1 69 (by decide), s1 70 (by decide), s1 71 (by decide)]
  have elv : LV m1 = LV m := by funext i; unfold LV; rw [s1 67 (by decide), s1 68 (by decide)]
  unfold WV hol wq
  rw [(s4 c).1, (s4 c).2, e12, elq, elv]
set_option maxRecDepth 20000 in
set_option maxHeartbeats 2000000 in
theorem md_whyNot2 {c : Nat} {w ah yd bad x y : Int32} (hW : WH L z m c) : hk_Ct MX10_whyNot 69 0 0 [.ref 37, .int (nI c), .int x, .int y, .int w, .int ah, .int yd, .int bad] (hk_h L m) (fun r h => ∃ m2, r = some (.int (WV m L (z 12) c (z 8) ah yd bad (rm w 1000) (w / 1000) (bI (ngt (m 4) (m 5) (z 8))))) ∧ h = hk_h L m2 ∧ SF m m2) := by
  obtain ⟨b8, c8, b12, c12, e3, e4, g6, g3, p3, p4, p5, hc3⟩ := hW
  have engt : ngt (m 38) (m 39) (z 8) ↔ ngt (m 4) (m 5) (z 8) := by rw [ngt_c g3]
  refine hk_ofWP (by decide) (by simp [Value.category]) (Nat.le_of_ble_eq_true rfl) ?_
  show hk_WP _ _ _ _ _ _ _ [some (.ref 37), some (.int (nI c)), some (.int x), some (.int y), some (.int w), some (.int ah), some (.int yd), some (.int bad), none] [] _ _
  refine hk_aload_n dX10_whyNot_0 rfl rfl ?_
  refine hk_iload_n dX10_whyNot_1 rfl rfl ?_
  refine hk_aload_n dX10_whyNot_2 rfl rfl ?_
  refine ivX10_262 rfl md_today dX10_whyNot_3 (hk_lt (by decide)) rfl rfl rfl (by decide) ⟨by decide, by decide⟩ (Nat.le_of_ble_eq_true rfl) (hk_kd ?_)
  rw [b8]
  refine hk_sipush (v := 360) dX10_whyNot_6 (by decide) ?_
  refine hk_idiv dX10_whyNot_9 (by decide) ?_
  refine ivX10_258 rfl (md_holder b12 c12 _ _) dX10_whyNot_10 (hk_lt (by decide)) rfl rfl rfl (by decide) ⟨by decide, by decide⟩ (Nat.le_of_ble_eq_true rfl) (hk_kd ?_)
  rw [← hol_c g6]
  refine hk_if_ge (tgt := 18) dX10_whyNot_13 (by decide) (fun c13 => ?_) (fun c13 => ?_)
  · refine hk_aload_n dX10_whyNot_18 rfl rfl ?_
    refine gfX10_58 rfl dX10_whyNot_19 (hk_lt (by decide)) rfl rfl ?_
    refine hk_iload_n dX10_whyNot_22 rfl rfl ?_
    refine hk_ian dX10_whyNot_23 (by decide) (fun _ => rfl) rfl (by omega) (by decide) ?_
    rw [← e4]
    refine hk_aload_n dX10_whyNot_24 rfl rfl ?_
    refine ivX10_262 rfl md_today dX10_whyNot_25 (hk_lt (by decide)) rfl rfl rfl (by decide) ⟨by decide, by decide⟩ (Nat.le_of_ble_eq_true rfl) (hk_kd ?_)
    rw [b8]
    refine hk_icmp_ge (tgt := 33) dX10_whyNot_28 (by decide) (fun c28 => ?_) (fun c28 => ?_)
    · refine hk_aload_n dX10_whyNot_33 rfl rfl ?_
      refine gfX10_55 rfl dX10_whyNot_34 (hk_lt (by decide)) rfl rfl ?_
      refine hk_iload_n dX10_whyNot_37 rfl rfl ?_
      refine hk_ian dX10_whyNot_38 (by decide) (fun _ => rfl) rfl (by omega) (by decide) ?_
      rw [← e3]
      refine hk_iconst (v := 3) dX10_whyNot_39 (by decide) ?_
      refine hk_iload dX10_whyNot_40 rfl ?_
      refine hk_iload dX10_whyNot_42 rfl ?_
      refine ivX10_277 rfl (md_minutesOf _) dX10_whyNot_44 rfl rfl (by decide) ⟨by decide, by decide⟩ (Nat.le_of_ble_eq_true rfl) (hk_kd ?_)
      refine hk_iadd dX10_whyNot_47 ?_
      refine hk_iload dX10_whyNot_48 rfl ?_
      refine hk_sipush (v := 1000) dX10_whyNot_50 (by decide) ?_
      refine hk_irem dX10_whyNot_53 (by decide) ?_
      refine hk_iadd dX10_whyNot_54 ?_
      refine hk_imul dX10_whyNot_55 ?_
      refine hk_bipush (v := 20) dX10_whyNot_56 (by decide) ?_
      refine hk_iadd dX10_whyNot_58 ?_
      refine hk_icmp_ge (tgt := 64) dX10_whyNot_59 (by decide) (fun c59 => ?_) (fun c59 => ?_)
      · refine hk_aload_n dX10_whyNot_64 rfl rfl ?_
        refine hk_iconst (v := 2) dX10_whyNot_65 (by decide) ?_
        refine hk_aload_n dX10_whyNot_66 rfl rfl ?_
        refine ivX10_262 rfl md_today dX10_whyNot_67 (hk_lt (by decide)) rfl rfl rfl (by decide) ⟨by decide, by decide⟩ (Nat.le_of_ble_eq_true rfl) (hk_kd ?_)
        rw [b8]
        refine hk_aload_n dX10_whyNot_70 rfl rfl ?_
        refine ivX10_262 rfl md_today dX10_whyNot_71 (hk_lt (by decide)) rfl rfl rfl (by decide) ⟨by decide, by decide⟩ (Nat.le_of_ble_eq_true rfl) (hk_kd ?_)
        rw [b8]
        refine ivX10_345 rfl (md_force p4 p3 _ _ _) dX10_whyNot_74 (hk_lt (by decide)) rfl rfl rfl (by decide) ⟨by decide, by decide⟩ (Nat.le_of_ble_eq_true rfl) (hk_kd ?_)
        cases hlq : LQ m 2 (nI (z 8) / 1440) (nI (z 8) / 1440) L with
        | none =>
          rw [show fo (-9) (none : Option Nat) = -9 from rfl]
          refine hk_istore dX10_whyNot_77 (by decide) rfl ?_
          refine hk_iload dX10_whyNot_79 rfl ?_
          refine hk_if_ge (tgt := 86) dX10_whyNot_81 (by decide) (fun c81 => absurd c81 (by decide)) (fun _ => ?_)
          refine hk_iconst (v := 0) dX10_whyNot_84 (by decide) ?_
          exact hk_ireturn dX10_whyNot_85 rfl rfl (by decide) ⟨m, by unfold WV; rw [cI_f (Int32.not_lt.mpr c13), cI_f (Int32.not_lt.mpr c28), cI_f (Int32.not_lt.mpr c59)]; unfold wq; rw [hlq, cI_t rfl], rfl, SF.refl⟩
        | some i =>
          have hi : i < L := (LQ_lt hlq).1
          rw [show fo (-9) (some i) = nI i from rfl]
          refine hk_istore dX10_whyNot_77 (by decide) rfl ?_
          refine hk_iload dX10_whyNot_79 rfl ?_
          refine hk_if_ge (tgt := 86) dX10_whyNot_81 (by decide) (fun _ => ?_) (fun c81 => absurd (Int32.not_lt.mp (nI_pos (by omega))) c81)
          refine hk_aload_n dX10_whyNot_86 rfl rfl ?_
          refine hk_iload dX10_whyNot_87 rfl ?_
          refine hk_iload dX10_whyNot_89 rfl ?_
          refine hk_sipush (v := 1000) dX10_whyNot_91 (by decide) ?_
          refine hk_irem dX10_whyNot_94 (by decide) ?_
          refine hk_aload_n dX10_whyNot_95 rfl rfl ?_
          refine hk_aload_n dX10_whyNot_96 rfl rfl ?_
          refine gfX10_194 rfl dX10_whyNot_97 (hk_lt (by decide)) rfl rfl ?_
          rw [b8]
          refine ivX10_223 rfl (md_isNight c8) dX10_whyNot_100 (hk_lt (by decide)) rfl rfl rfl (by decide) ⟨by decide, by decide⟩ (Nat.le_of_ble_eq_true rfl) (hk_kd ?_)
          rw [bI_c engt]
          refine hk_if_eq (tgt := 110) dX10_whyNot_103 (by decide) (fun c103 => ?_) (fun c103 => ?_)
          · rw [bI_0] at c103
            refine hk_iconst (v := 0) dX10_whyNot_110 (by decide) ?_
            refine hk_iload dX10_whyNot_111 rfl ?_
            refine hk_sipush (v := 1000) dX10_whyNot_113 (by decide) ?_
            refine hk_idiv dX10_whyNot_116 (by decide) ?_
            refine hk_iload dX10_whyNot_117 rfl ?_
            refine hk_aload_n dX10_whyNot_119 rfl rfl ?_
            refine ivX10_262 rfl md_today dX10_whyNot_120 (hk_lt (by decide)) rfl rfl rfl (by decide) ⟨by decide, by decide⟩ (Nat.le_of_ble_eq_true rfl) (hk_kd ?_)
            rw [b8]
            refine hk_bipush (v := 7) dX10_whyNot_123 (by decide) ?_
            refine hk_irem dX10_whyNot_125 (by decide) ?_
            refine hk_aload_n dX10_whyNot_126 rfl rfl ?_
            refine gfX10_194 rfl dX10_whyNot_127 (hk_lt (by decide)) rfl rfl ?_
            rw [b8]
            refine hk_sipush (v := 1440) dX10_whyNot_130 (by decide) ?_
            refine hk_irem dX10_whyNot_133 (by decide) ?_
            refine hk_bipush (v := 60) dX10_whyNot_134 (by decide) ?_
            refine hk_idiv dX10_whyNot_136 (by decide) ?_
            refine hk_aload_n dX10_whyNot_137 rfl rfl ?_
            refine gfX10_55 rfl dX10_whyNot_138 (hk_lt (by decide)) rfl rfl ?_
            refine hk_iload_n dX10_whyNot_141 rfl rfl ?_
            refine hk_ian dX10_whyNot_142 (by decide) (fun _ => rfl) rfl (by omega) (by decide) ?_
            rw [← e3]
            refine ivX10_350 rfl (md_name _ _ _ _ _ _ _ _) dX10_whyNot_143 (hk_lt (by decide)) rfl rfl rfl (by decide) ⟨by decide, by decide⟩ (Nat.le_of_ble_eq_true rfl) (fun r h1 hq => ?_)
            obtain ⟨m3, rfl, rfl, q1, q2⟩ := hq
            have s3 := SF.of72 q1
            obtain ⟨nn, cc, ht1, ht2, ht3⟩ := ((p5 i hi).k s3).pt
            refine hk_aload_n dX10_whyNot_146 rfl rfl ?_
            refine hk_sipush (v := 160) dX10_whyNot_147 (by decide) ?_
            refine hk_iload dX10_whyNot_150 rfl ?_
            refine hk_imul dX10_whyNot_152 ?_
            rw [show (160 : Int32) * nI i = nI (160 * i) from nI_mul 160 i]
            refine hk_aload_n dX10_whyNot_153 rfl rfl ?_
            refine gfX10_100 rfl dX10_whyNot_154 (hk_lt (by decide)) rfl rfl ?_
            refine hk_iload dX10_whyNot_157 rfl ?_
            refine hk_ian dX10_whyNot_159 (by decide) (fun _ => rfl) rfl (by omega) (by decide) ?_
            rw [ht1]
            refine ivX10_342 rfl (md_workOut (Or.inr ⟨i, by omega, rfl, rfl⟩) ht2) dX10_whyNot_160 (hk_lt (by decide)) rfl rfl rfl (by decide) ⟨by decide, by decide⟩ (Nat.le_of_ble_eq_true rfl) (fun r h1 hq => ?_)
            obtain ⟨m4, rfl, rfl, s4, s5⟩ := WOj hq ht3
            rw [q2]
            refine hk_if_eq (tgt := 170) dX10_whyNot_163 (by decide) (fun c163 => ?_) (fun c163 => ?_)
            · refine hk_iconst (v := 0) dX10_whyNot_170 (by decide) ?_
              exact hk_ireturn dX10_whyNot_171 rfl rfl (by decide) ⟨m4, by unfold WV; rw [cI_f (Int32.not_lt.mpr c13), cI_f (Int32.not_lt.mpr c28), cI_f (Int32.not_lt.mpr c59)]; unfold wq; rw [hlq]; (first | rw [bI_t (Classical.not_not.mp c103)] | rw [bI_f c103]); (first | exact congrArg (fun v => some (Value.int v)) (cI_t c163).symm | exact congrArg (fun v => some (Value.int v)) (cI_f c163).symm), rfl, s3.t s4.g.f⟩
            · refine hk_iconst (v := 4) dX10_whyNot_166 (by decide) ?_
              refine hk_goto (tgt := 171) dX10_whyNot_167 (by decide) ?_
              exact hk_ireturn dX10_whyNot_171 rfl rfl (by decide) ⟨m4, by unfold WV; rw [cI_f (Int32.not_lt.mpr c13), cI_f (Int32.not_lt.mpr c28), cI_f (Int32.not_lt.mpr c59)]; unfold wq; rw [hlq]; (first | rw [bI_t (Classical.not_not.mp c103)] | rw [bI_f c103]); (first | exact congrArg (fun v => some (Value.int v)) (cI_t c163).symm | exact congrArg (fun v => some (Value.int v)) (cI_f c163).symm), rfl, s3.t s4.g.f⟩
          · rw [bI_0] at c103
            refine hk_iconst (v := 1) dX10_whyNot_106 (by decide) ?_
            refine hk_goto (tgt := 111) dX10_whyNot_107 (by decide) ?_
            refine hk_iload dX10_whyNot_111 rfl ?_
            refine hk_sipush (v := 1000) dX10_whyNot_113 (by decide) ?_
            refine hk_idiv dX10_whyNot_116 (by decide) ?_
            refine hk_iload dX10_whyNot_117 rfl ?_
            refine hk_aload_n dX10_whyNot_119 rfl rfl ?_
            refine ivX10_262 rfl md_today dX10_whyNot_120 (hk_lt (by decide)) rfl rfl rfl (by decide) ⟨by decide, by decide⟩ (Nat.le_of_ble_eq_true rfl) (hk_kd ?_)
            rw [b8]
            refine hk_bipush (v := 7) dX10_whyNot_123 (by decide) ?_
            refine hk_irem dX10_whyNot_125 (by decide) ?_
            refine hk_aload_n dX10_whyNot_126 rfl rfl ?_
            refine gfX10_194 rfl dX10_whyNot_127 (hk_lt (by decide)) rfl rfl ?_
            rw [b8]
            refine hk_sipush (v := 1440) dX10_whyNot_130 (by decide) ?_
            refine hk_irem dX10_whyNot_133 (by decide) ?_
            refine hk_bipush (v := 60) dX10_whyNot_134 (by decide) ?_
            refine hk_idiv dX10_whyNot_136 (by decide) ?_
            refine hk_aload_n dX10_whyNot_137 rfl rfl ?_
            refine gfX10_55 rfl dX10_whyNot_138 (hk_lt (by decide)) rfl rfl ?_
            refine hk_iload_n dX10_whyNot_141 rfl rfl ?_
            refine hk_ian dX10_whyNot_142 (by decide) (fun _ => rfl) rfl (by omega) (by decide) ?_
            rw [← e3]
            refine ivX10_350 rfl (md_name _ _ _ _ _ _ _ _) dX10_whyNot_143 (hk_lt (by decide)) rfl rfl rfl (by decide) ⟨by decide, by decide⟩ (Nat.le_of_ble_eq_true rfl) (fun r h1 hq => ?_)
            obtain ⟨m3, rfl, rfl, q1, q2⟩ := hq
            have s3 := SF.of72 q1
            obtain ⟨nn, cc, ht1, ht2, ht3⟩ := ((p5 i hi).k s3).pt
            refine hk_aload_n dX10_whyNot_146 rfl rfl ?_
            refine hk_sipush (v := 160) dX10_whyNot_147 (by decide) ?_
            refine hk_iload dX10_whyNot_150 rfl ?_
            refine hk_imul dX10_whyNot_152 ?_
            rw [show (160 : Int32) * nI i = nI (160 * i) from nI_mul 160 i]
            refine hk_aload_n dX10_whyNot_153 rfl rfl ?_
            refine gfX10_100 rfl dX10_whyNot_154 (hk_lt (by decide)) rfl rfl ?_
            refine hk_iload dX10_whyNot_157 rfl ?_
            refine hk_ian dX10_whyNot_159 (by decide) (fun _ => rfl) rfl (by omega) (by decide) ?_
            rw [ht1]
            refine ivX10_342 rfl (md_workOut (Or.inr ⟨i, by omega, rfl, rfl⟩) ht2) dX10_whyNot_160 (hk_lt (by decide)) rfl rfl rfl (by decide) ⟨by decide, by decide⟩ (Nat.le_of_ble_eq_true rfl) (fun r h1 hq => ?_)
            obtain ⟨m4, rfl, rfl, s4, s5⟩ := WOj hq ht3
            rw [q2]
            refine hk_if_eq (tgt := 170) dX10_whyNot_163 (by decide) (fun c163 => ?_) (fun c163 => ?_)
            · refine hk_iconst (v := 0) dX10_whyNot_170 (by decide) ?_
              exact hk_ireturn dX10_whyNot_171 rfl rfl (by decide) ⟨m4, by unfold WV; rw [cI_f (Int32.not_lt.mpr c13), cI_f (Int32.not_lt.mpr c28), cI_f (Int32.not_lt.mpr c59)]; unfold wq; rw [hlq]; (first | rw [bI_t (Classical.not_not.mp c103)] | rw [bI_f c103]); (first | exact congrArg (fun v => some (Value.int v)) (cI_t c163).symm | exact congrArg (fun v => some (Value.int v)) (cI_f c163).symm), rfl, s3.t s4.g.f⟩
            · refine hk_iconst (v := 4) dX10_whyNot_166 (by decide) ?_
              refine hk_goto (tgt := 171) dX10_whyNot_167 (by decide) ?_
              exact hk_ireturn dX10_whyNot_171 rfl rfl (by decide) ⟨m4, by unfold WV; rw [cI_f (Int32.not_lt.mpr c13), cI_f (Int32.not_lt.mpr c28), cI_f (Int32.not_lt.mpr c59)]; unfold wq; rw [hlq]; (first | rw [bI_t (Classical.not_not.mp c103)] | rw [bI_f c103]); (first | exact congrArg (fun v => some (Value.int v)) (cI_t c163).symm | exact congrArg (fun v => some (Value.int v)) (cI_f c163).symm), rfl, s3.t s4.g.f⟩
      · refine hk_iconst (v := 3) dX10_whyNot_62 (by decide) ?_
        exact hk_ireturn dX10_whyNot_63 rfl rfl (by decide) ⟨m, by unfold WV; rw [cI_f (Int32.not_lt.mpr c13), cI_f (Int32.not_lt.mpr c28), cI_t (Int32.not_le.mp c59)], rfl, SF.refl⟩
    · refine hk_iconst (v := 2) dX10_whyNot_31 (by decide) ?_
      exact hk_ireturn dX10_whyNot_32 rfl rfl (by decide) ⟨m, by unfold WV; rw [cI_f (Int32.not_lt.mpr c13), cI_t (Int32.not_le.mp c28)], rfl, SF.refl⟩
  · refine hk_iconst (v := 1) dX10_whyNot_16 (by decide) ?_
    exact hk_ireturn dX10_whyNot_17 rfl rfl (by decide) ⟨m, by unfold WV; rw [cI_t (Int32.not_le.mp c13)], rfl, SF.refl⟩
theorem md_whyNotC (hI : Inv L z m) (s : CR m m1) {c : Nat} {w ah yd bad x y : Int32} (hc : c < z 2) : hk_Ct MX10_whyNot 69 0 0 [.ref 37, .int (nI c), .int x, .int y, .int w, .int ah, .int yd, .int bad] (hk_h L m1) (fun r h => ∃ m2, r = some (.int (WV m L (z 12) c (z 8) ah yd bad (rm w 1000) (w / 1000) (bI (ngt (m 4) (m 5) (z 8))))) ∧ h = hk_h L m2 ∧ SF m1 m2) := by
  have h := md_whyNot2 (w := w) (ah := ah) (yd := yd) (bad := bad) (x := x) (y := y) (WH_of hI s hc)
  rw [WV_c s, s.1 4 (by decide), s.1 5 (by decide)] at h
  exact h
theorem RFr.k {r0 n f t : Nat} {rl : List Nat} (h : RFr m r0 n f t rl m1) (s : SF m1 m2) : RFr m r0 n f t rl m2 := by
  unfold RFr
  rw [s.2 65 (by decide) (by decide) (by decide) (by decide) (by decide), s.1 86 (by decide) (by decide), s.1 87 (by decide) (by decide), s.1 88 (by decide) (by decide), s.1 89 (by decide) (by decide)]
  exact h
end CJy
