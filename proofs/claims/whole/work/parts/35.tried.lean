/-! laws tried; about -/
section OGx
variable {L nT nK nD : Nat} {m m0 m1 m2 : Nat → Nat → Int32} {z : Nat → Nat}
theorem fz_le {x y : Option Int32} (hx : ∀ a, x = some a → a.toNatClampNeg ≤ 1000000) (hy : ∀ a, y = some a → a.toNatClampNeg ≤ 1000000) : (fv x y).toNatClampNeg ≤ 1000000 := by
  cases x with
  | none =>
    cases y with
    | none => exact Nat.zero_le _
    | some b => exact hy b rfl
  | some a =>
    cases y with
    | none => exact hx a rfl
    | some b =>
      show (if b < a then b else a).toNatClampNeg ≤ 1000000
      by_cases h : b < a
      · rw [if_pos h]; exact hy b rfl
      · rw [if_neg h]; exact hx a rfl
theorem clp_le (x : Int32) : (clp x).toNatClampNeg ≤ 1000000 := by
  unfold clp
  by_cases h1 : x < 0
  · rw [if_pos h1]; decide
  · rw [if_neg h1]
    by_cases h2 : 1000000 < x
    · rw [if_pos h2]; decide
    · rw [if_neg h2]
      rw [i32_lt, show (1000000 : Int32).toInt = 1000000 from rfl] at h2
      show x.toInt.toNat ≤ 1000000
      omega
theorem sN_le {f : Nat → Nat} {b : Nat} (h : ∀ t, f t ≤ b) : ∀ n, sN f n ≤ n * b
  | 0 => Nat.zero_le _
  | n + 1 => by
    show sN f n + f n ≤ (n + 1) * b
    rw [Nat.succ_mul]
    exact Nat.add_le_add (sN_le h n) (h n)
/-- a law that tried is told: none, or law i -/
def OX (L : Nat) (x : Int32) (o : Option Nat) : Prop := match o with
  | none => x = -1
  | some i => x = nI i ∧ i < L
noncomputable def ox (o : Option Nat) (m : Nat → Nat → Int32) (nm : Nat → Int32) : Option Int32 := o.map (fun l => clp (LV m l nm))
end OGx

section OGy
variable {L nT nK nD : Nat} {m m0 m1 m2 : Nat → Nat → Int32} {z : Nat → Nat}
theorem ox_le {o : Option Nat} {nm : Nat → Int32} : ∀ a, ox o m nm = some a → a.toNatClampNeg ≤ 1000000 := by
  intro a h
  cases o with
  | none => cases h
  | some l => cases h; exact clp_le _
theorem ox_0 {o : Option Nat} {nm : Nat → Int32} : ∀ a, ox o m nm = some a → ¬ a < 0 := by
  intro a h
  cases o with
  | none => cases h
  | some l => cases h; exact clp_0
/-- what trip t costs by the laws told -/
noncomputable def tz (m : Nat → Nat → Int32) (oa ob : Option Nat) (t : Nat) : Nat := (fv (ox oa m (NTR m t)) (ox ob m (NTR m t))).toNatClampNeg
noncomputable def tF (m : Nat → Nat → Int32) (oa ob : Option Nat) (d1 d2 : Int32) : Nat → Nat := fun t => cI (¬ m 76 t / 1440 < d1 ∧ ¬ d2 < m 76 t / 1440) (tz m oa ob t) 0
theorem tF_le {oa ob : Option Nat} {d1 d2 : Int32} (t : Nat) : tF m oa ob d1 d2 t ≤ 1000000 := by
  unfold tF
  by_cases h : ¬ m 76 t / 1440 < d1 ∧ ¬ d2 < m 76 t / 1440
  · rw [cI_t h]; exact fz_le ox_le ox_le
  · rw [cI_f h]; exact Nat.zero_le _
theorem tF_s {oa ob : Option Nat} {d1 d2 : Int32} {n : Nat} (hn : n ≤ 300) : sN (tF m oa ob d1 d2) n ≤ 300000000 := by
  have := sN_le (f := tF m oa ob d1 d2) (b := 1000000) tF_le n
  have h2 : n * 1000000 ≤ 300 * 1000000 := Nat.mul_le_mul_right _ hn
  omega
theorem tF_y {oa ob : Option Nat} {d1 d2 : Int32} {i : Nat} (h : ¬ m 76 i / 1440 < d1 ∧ ¬ d2 < m 76 i / 1440) : sN (tF m oa ob d1 d2) (i + 1) = sN (tF m oa ob d1 d2) i + tz m oa ob i := by
  show _ + tF m oa ob d1 d2 i = _
  rw [show tF m oa ob d1 d2 i = tz m oa ob i from cI_t h]
theorem tF_n {oa ob : Option Nat} {d1 d2 : Int32} {i : Nat} (h : ¬ (¬ m 76 i / 1440 < d1 ∧ ¬ d2 < m 76 i / 1440)) : sN (tF m oa ob d1 d2) (i + 1) = sN (tF m oa ob d1 d2) i := by
  show _ + tF m oa ob d1 d2 i = _
  rw [show tF m oa ob d1 d2 i = 0 from cI_f h]; rfl
theorem ct_fareByX (hi : LI m L nT) {x : Int32} {o : Option Nat} (hx : OX L x o) : hk_Ct MX4_fareBy 2 0 0 [.ref 15, .int x] (hk_h L m) (fun r h => ∃ m1, r = some (.int ((ox o m (nmC m)).getD (-1))) ∧ h = hk_h L m1 ∧ ∀ a, a ≠ 21 → m1 a = m a) := by
  obtain ⟨h1, h2, h3, _⟩ := hi
  cases o with
  | none =>
    have e : x = -1 := hx
    subst e
    exact hk_imp (fun r h q => ⟨m, q.1, q.2, fun _ _ => rfl⟩) (ct_fareBy_no (L := L) (m := m) h1 h2 (x := -1) (fun z => z.1 (by decide)))
  | some i => obtain ⟨rfl, hl⟩ := hx; exact ct_fareBy h1 h2 h3 hl
theorem mm0 {x y : Option Int32} (hx : ∀ a, x = some a → ¬ a < 0) (hy : ∀ a, y = some a → ¬ a < 0) : (if 0 < lf (x.getD (-1)) (y.getD (-1)) then lf (x.getD (-1)) (y.getD (-1)) else 0) = nI (fv x y).toNatClampNeg := by
  rw [lf_fvc hx hy, nnI2]
  by_cases h : fvc x y < 0
  · obtain ⟨rfl, rfl⟩ := fvc_0 hx hy h
    rfl
  · rw [(kd_eq hx hy h).2]
theorem i2l_n {n : Nat} (h : n < 2 ^ 31) : (nI n).toInt64 = Int64.ofNat n := by
  apply Int64.toInt_inj.mp
  rw [Int32.toInt_toInt64, nI_toInt h, Int64.toInt_ofNat_of_lt (by omega)]
theorem CF.ntr (s : CF m m1) {t : Nat} : NTR m1 t = NTR m t := by
  unfold NTR
  rw [s 76 (by decide) (by decide), s 79 (by decide) (by decide), s 80 (by decide) (by decide), s 81 (by decide) (by decide), s 82 (by decide) (by decide), s 83 (by decide) (by decide), s 84 (by decide) (by decide)]
theorem CF.oxk (s : CF m m1) {o : Option Nat} {nm : Nat → Int32} : ox o m1 nm = ox o m nm := by unfold ox; rw [s.lv]
theorem SF.ntr (s : SF m m1) {t : Nat} : NTR m1 t = NTR m t := by
  unfold NTR
  rw [s.1 76 (by decide) (by decide), s.1 79 (by decide) (by decide), s.1 80 (by decide) (by decide), s.1 81 (by decide) (by decide), s.1 82 (by decide) (by decide), s.1 83 (by decide) (by decide), s.1 84 (by decide) (by decide)]
theorem SF.oxk (s : SF m m1) {o : Option Nat} {nm : Nat → Int32} : ox o m1 nm = ox o m nm := by unfold ox; rw [LV_k s]
set_option maxRecDepth 20000 in
set_option maxHeartbeats 2000000 in
theorem lp_tried (hi : LI m L nT) {a b d d1 d2 : Int32} {oa ob : Option Nat} (ha : OX L a oa) (hb : OX L b ob) (i : Nat) (hi2 : i ≤ nT) (m1 : Nat → Nat → Int32) (s : CF m m1) (l9 : Option Value) : hk_WP MX9_tried 4 0 0 0 0 69 [some (.ref 0), some (.int a), some (.int b), some (.int d), some (.int d1), some (.int d2), some (.long (Int64.ofNat (sN (tF m oa ob d1 d2) i))), none, some (.int (nI i)), l9] [] (hk_h L m1) (fun r h => ∃ m2, r = some (.int (nI (sN (tF m oa ob d1 d2) nT))) ∧ h = hk_h L m2 ∧ CF m m2) := by
  have hl := hi.k s
  obtain ⟨h1, h2, h3, h4, h5, h6⟩ := id hl
  refine hk_iload dX9_tried_69 rfl ?_
  refine hk_aload_n dX9_tried_71 rfl rfl ?_
  refine gfX9_37 rfl dX9_tried_72 (hk_lt (by decide)) rfl rfl ?_
  refine gfX9_215 rfl dX9_tried_75 (hk_lt (by decide)) rfl rfl ?_
  refine gfX9_136 rfl dX9_tried_78 (hk_lt (by decide)) rfl rfl ?_
  refine hk_icmp_ge (tgt := 154) dX9_tried_81 (by decide) (fun c81 => ?_) (fun c81 => ?_)
  · rw [h4, nI_leI (by omega) (by omega)] at c81
    refine hk_lload dX9_tried_154 rfl ?_
    refine hk_ldc2 dX9_tried_156 hk_k9_320 ?_
    refine hk_mminL ⟨hk_t 893 (by decide +kernel) rfl, hk_t 894 (by decide +kernel) rfl, hk_t 11 (by decide +kernel) rfl, hk_t 895 (by decide +kernel) rfl⟩ dX9_tried_159 (by decide) (Nat.le_of_ble_eq_true rfl) ⟨by decide, by decide⟩ ?_
    refine hk_l2i dX9_tried_162 rfl ?_
    exact hk_ireturn dX9_tried_163 rfl rfl (by decide) ⟨m1, by
      have e : i = nT := by omega
      subst e
      have hle := tF_s (m := m) (oa := oa) (ob := ob) (d1 := d1) (d2 := d2) h5
      rw [if_neg (fun q => by rw [Int64.lt_iff_toInt_lt, Int64.toInt_ofNat_of_lt (by omega), show (2000000000 : Int64).toInt = 2000000000 from rfl] at q; omega)]
      exact congrArg (fun x => some (Value.int x)) Int64.toInt32_ofNat', rfl, s⟩
  · rw [h4, nI_leI (by omega) (by omega)] at c81
    have hlt : i < nT := by omega
    obtain ⟨n1, n2⟩ := NTC_R h6 hlt
    have n3 : m1 76 i = m 76 i := by rw [s 76 (by decide) (by decide)]
    refine hk_aload_n dX9_tried_84 rfl rfl ?_
    refine hk_iload dX9_tried_85 rfl ?_
    refine ivX9_302 rfl (ct_dayOf h4 h5 (show i < nT by omega)) dX9_tried_87 (hk_lt (by decide)) rfl rfl rfl (by decide) ⟨by decide, by decide⟩ (Nat.le_of_ble_eq_true rfl) (hk_kd ?_)
    rw [n2, n3]
    refine hk_istore dX9_tried_90 (by decide) rfl ?_
    refine hk_iload dX9_tried_92 rfl ?_
    refine hk_iload dX9_tried_94 rfl ?_
    refine hk_icmp_lt (tgt := 148) dX9_tried_96 (by decide) (fun c96 => ?_) (fun c96 => ?_)
    · refine hk_iinc (v := nI (i + 1)) dX9_tried_148 rfl (nI_1 i) (by decide) rfl ?_
      refine hk_goto (tgt := 69) dX9_tried_151 (by decide) ?_
      first
      | (have hs := lp_tried hi ha hb (d := d) (d1 := d1) (d2 := d2) (i + 1) (by omega) _ s5 (some (.int (m 76 i / 1440))); rw [tF_y ⟨c96, Int32.not_lt.mpr (Int32.not_lt.mp c103)⟩] at hs; exact hs)
      | (have hs := lp_tried hi ha hb (d := d) (d1 := d1) (d2 := d2) (i + 1) (by omega) _ s (some (.int (m 76 i / 1440))); rw [tF_n (fun q => q.1 c96)] at hs; exact hs)
      | (have hs := lp_tried hi ha hb (d := d) (d1 := d1) (d2 := d2) (i + 1) (by omega) _ s (some (.int (m 76 i / 1440))); rw [tF_n (fun q => q.2 c103)] at hs; exact hs)
    · refine hk_iload dX9_tried_99 rfl ?_
      refine hk_iload dX9_tried_101 rfl ?_
      refine hk_icmp_gt (tgt := 148) dX9_tried_103 (by decide) (fun c103 => ?_) (fun c103 => ?_)
      · refine hk_iinc (v := nI (i + 1)) dX9_tried_148 rfl (nI_1 i) (by decide) rfl ?_
        refine hk_goto (tgt := 69) dX9_tried_151 (by decide) ?_
        first
        | (have hs := lp_tried hi ha hb (d := d) (d1 := d1) (d2 := d2) (i + 1) (by omega) _ s5 (some (.int (m 76 i / 1440))); rw [tF_y ⟨c96, Int32.not_lt.mpr (Int32.not_lt.mp c103)⟩] at hs; exact hs)
        | (have hs := lp_tried hi ha hb (d := d) (d1 := d1) (d2 := d2) (i + 1) (by omega) _ s (some (.int (m 76 i / 1440))); rw [tF_n (fun q => q.1 c96)] at hs; exact hs)
        | (have hs := lp_tried hi ha hb (d := d) (d1 := d1) (d2 := d2) (i + 1) (by omega) _ s (some (.int (m 76 i / 1440))); rw [tF_n (fun q => q.2 c103)] at hs; exact hs)
      · refine hk_aload_n dX9_tried_106 rfl rfl ?_
        refine hk_aload_n dX9_tried_107 rfl rfl ?_
        refine gfX9_37 rfl dX9_tried_108 (hk_lt (by decide)) rfl rfl ?_
        refine gfX9_215 rfl dX9_tried_111 (hk_lt (by decide)) rfl rfl ?_
        refine hk_iload dX9_tried_114 rfl ?_
        refine ivX9_305 rfl (ct_tellTripK h4 h5 hlt) dX9_tried_116 (hk_lt (by decide)) rfl rfl rfl (by decide) ⟨by decide, by decide⟩ (Nat.le_of_ble_eq_true rfl) (fun r h1 hq => ?_)
        obtain ⟨m3, rfl, rfl, q1, q2⟩ := hq
        have s3 : CF m1 m3 := fun a h _ => q1 a h
        rw [n1, s.ntr] at q2
        refine hk_lload dX9_tried_119 rfl ?_
        refine hk_iconst (v := 0) dX9_tried_121 (by decide) ?_
        refine hk_aload_n dX9_tried_122 rfl rfl ?_
        refine gfX9_30 rfl dX9_tried_123 (hk_lt (by decide)) rfl rfl ?_
        refine hk_iload_n dX9_tried_126 rfl rfl ?_
        refine ivX9_309 rfl (ct_fareByX (hl.k s3) ha) dX9_tried_127 (hk_lt (by decide)) rfl rfl rfl (by decide) ⟨by decide, by decide⟩ (Nat.le_of_ble_eq_true rfl) (fun r h1 hq => ?_)
        obtain ⟨m4, rfl, rfl, q3⟩ := hq
        have s4 := s3.t (CF.s q3)
        have q4 : nmC m4 = nmC m3 := by unfold nmC; rw [q3 20 (by decide)]
        refine hk_aload_n dX9_tried_130 rfl rfl ?_
        refine gfX9_30 rfl dX9_tried_131 (hk_lt (by decide)) rfl rfl ?_
        refine hk_iload_n dX9_tried_134 rfl rfl ?_
        refine ivX9_309 rfl (ct_fareByX (hl.k s4) hb) dX9_tried_135 (hk_lt (by decide)) rfl rfl rfl (by decide) ⟨by decide, by decide⟩ (Nat.le_of_ble_eq_true rfl) (fun r h1 hq => ?_)
        obtain ⟨m5, rfl, rfl, q5⟩ := hq
        have s5 := s.t (s4.t (CF.s q5))
        rw [q4, q2, (s.t s3).oxk, (s.t s4).oxk]
        refine ivX9_312 rfl (ct_lesserFare _ _) dX9_tried_138 rfl rfl (by decide) ⟨by decide, by decide⟩ (Nat.le_of_ble_eq_true rfl) (hk_kd ?_)
        refine hk_mmax ⟨hk_t 515 (by decide +kernel) rfl, hk_t 503 (by decide +kernel) rfl, hk_t 11 (by decide +kernel) rfl, hk_t 504 (by decide +kernel) rfl⟩ dX9_tried_141 (by decide) (Nat.le_of_ble_eq_true rfl) ⟨by decide, by decide⟩ ?_
        rw [mm0 ox_0 ox_0]
        refine hk_i2l dX9_tried_144 rfl ?_
        rw [i2l_n (Nat.lt_of_le_of_lt (fz_le ox_le ox_le) (by decide))]
        refine hk_ladd dX9_tried_145 ?_
        rw [← Int64.ofNat_add]
        refine hk_lstore dX9_tried_146 (by decide) rfl ?_
        refine hk_iinc (v := nI (i + 1)) dX9_tried_148 rfl (nI_1 i) (by decide) rfl ?_
        refine hk_goto (tgt := 69) dX9_tried_151 (by decide) ?_
        first
        | (have hs := lp_tried hi ha hb (d := d) (d1 := d1) (d2 := d2) (i + 1) (by omega) _ s5 (some (.int (m 76 i / 1440))); rw [tF_y ⟨c96, Int32.not_lt.mpr (Int32.not_lt.mp c103)⟩] at hs; exact hs)
        | (have hs := lp_tried hi ha hb (d := d) (d1 := d1) (d2 := d2) (i + 1) (by omega) _ s (some (.int (m 76 i / 1440))); rw [tF_n (fun q => q.1 c96)] at hs; exact hs)
        | (have hs := lp_tried hi ha hb (d := d) (d1 := d1) (d2 := d2) (i + 1) (by omega) _ s (some (.int (m 76 i / 1440))); rw [tF_n (fun q => q.2 c103)] at hs; exact hs)
termination_by nT - i
decreasing_by all_goals omega
abbrev okLaw (m : Nat → Nat → Int32) (L : Nat) (x k : Int32) : Prop := x = -1 ∨ (inR x L ∧ m 69 x.toNatClampNeg = k)
theorem okLaw_o {x k : Int32} (hL : L ≤ 40) (h : okLaw m L x k) : ∃ o, OX L x o := by
  rcases h with h | ⟨h, _⟩
  · exact ⟨none, h⟩
  · obtain ⟨i, hi, rfl⟩ := inR_of h (by omega)
    exact ⟨some i, rfl, hi⟩
theorem ct_isOfKindG (hi : LI m L nT) (x k : Int32) : hk_Cd MX4_isOfKind 1 0 0 [.ref 15, .int x, .int k] (hk_h L m) (some (.int (bI (inR x L ∧ m 69 x.toNatClampNeg = k)))) (hk_h L m) := by
  obtain ⟨h1, h2, h3, _⟩ := hi
  by_cases hx : inR x L
  · obtain ⟨i, hl, rfl⟩ := inR_of hx (by omega)
    have := ct_isOfKind (m := m) h1 h2 hl k
    rwa [(h3.kd hl).1, show bI (m 69 i = k) = bI (inR (nI i) L ∧ m 69 (nI i).toNatClampNeg = k) from bI_c (by rw [nI_clamp (by omega)]; exact ⟨fun q => ⟨hx, q⟩, fun q => q.2⟩)] at this
  · have := ct_isOfKind_no (m := m) h1 h2 hx k
    rwa [show (0 : Int32) = bI (inR x L ∧ m 69 x.toNatClampNeg = k) from (bI_f (fun q => hx q.1)).symm] at this
abbrev okTry (m : Nat → Nat → Int32) (L : Nat) (a b d : Int32) : Prop := okLaw m L a 0 ∧ okLaw m L b 1 ∧ ¬ d < 0 ∧ ¬ rm d 10000 < d / 10000
set_option maxRecDepth 20000 in
set_option maxHeartbeats 2000000 in
theorem ct_tried_no (hi : LI m L nT) (a b d : Int32) (h : ¬ okTry m L a b d) : hk_Cd MX9_tried 4 0 0 [.ref 0, .int a, .int b, .int d] (hk_h L m) (some (.int (-1))) (hk_h L m) := by
  refine hk_ofWP (by decide) (by simp [Value.category]) (Nat.le_of_ble_eq_true rfl) ?_
  show hk_WP _ _ _ _ _ _ _ [some (.ref 0), some (.int a), some (.int b), some (.int d), none, none, none, none, none, none] [] _ _
  refine hk_iload_n dX9_tried_0 rfl rfl ?_
  refine hk_sipush (v := 10000) dX9_tried_1 (by decide) ?_
  refine hk_idiv dX9_tried_4 (by decide) ?_
  refine hk_istore dX9_tried_5 (by decide) rfl ?_
  refine hk_iload_n dX9_tried_7 rfl rfl ?_
  refine hk_sipush (v := 10000) dX9_tried_8 (by decide) ?_
  refine hk_irem dX9_tried_11 (by decide) ?_
  refine hk_istore dX9_tried_12 (by decide) rfl ?_
  refine hk_iload_n dX9_tried_14 rfl rfl ?_
  refine hk_iconst (v := (-1)) dX9_tried_15 (by decide) ?_
  refine hk_icmp_eq (tgt := 31) dX9_tried_16 (by decide) (fun c16 => ?_) (fun c16 => ?_)
  · refine hk_iload_n dX9_tried_31 rfl rfl ?_
    refine hk_iconst (v := (-1)) dX9_tried_32 (by decide) ?_
    refine hk_icmp_eq (tgt := 50) dX9_tried_33 (by decide) (fun c33 => ?_) (fun c33 => ?_)
    · refine hk_iload_n dX9_tried_50 rfl rfl ?_
      refine hk_if_lt (tgt := 61) dX9_tried_51 (by decide) (fun c51 => ?_) (fun c51 => ?_)
      · refine hk_iconst (v := (-1)) dX9_tried_61 (by decide) ?_
        exact hk_ireturn dX9_tried_62 rfl rfl (by decide) ⟨rfl, rfl⟩
      · refine hk_iload dX9_tried_54 rfl ?_
        refine hk_iload dX9_tried_56 rfl ?_
        refine hk_icmp_le (tgt := 63) dX9_tried_58 (by decide) (fun c58 => ?_) (fun c58 => ?_)
        · exact absurd ⟨by first | exact Or.inl c16 | exact Or.inr (Classical.not_not.mp c28), by first | exact Or.inl c33 | exact Or.inr (Classical.not_not.mp c45), c51, Int32.not_lt.mpr c58⟩ h
        · refine hk_iconst (v := (-1)) dX9_tried_61 (by decide) ?_
          exact hk_ireturn dX9_tried_62 rfl rfl (by decide) ⟨rfl, rfl⟩
    · refine hk_aload_n dX9_tried_36 rfl rfl ?_
      refine gfX9_30 rfl dX9_tried_37 (hk_lt (by decide)) rfl rfl ?_
      refine hk_iload_n dX9_tried_40 rfl rfl ?_
      refine hk_iconst (v := 1) dX9_tried_41 (by decide) ?_
      refine ivX9_299 rfl (ct_isOfKindG hi b 1) dX9_tried_42 (hk_lt (by decide)) rfl rfl rfl (by decide) ⟨by decide, by decide⟩ (Nat.le_of_ble_eq_true rfl) (hk_kd ?_)
      refine hk_if_ne (tgt := 50) dX9_tried_45 (by decide) (fun c45 => ?_) (fun c45 => ?_)
      · rw [bI_0] at c45
        refine hk_iload_n dX9_tried_50 rfl rfl ?_
        refine hk_if_lt (tgt := 61) dX9_tried_51 (by decide) (fun c51 => ?_) (fun c51 => ?_)
        · refine hk_iconst (v := (-1)) dX9_tried_61 (by decide) ?_
          exact hk_ireturn dX9_tried_62 rfl rfl (by decide) ⟨rfl, rfl⟩
        · refine hk_iload dX9_tried_54 rfl ?_
          refine hk_iload dX9_tried_56 rfl ?_
          refine hk_icmp_le (tgt := 63) dX9_tried_58 (by decide) (fun c58 => ?_) (fun c58 => ?_)
          · exact absurd ⟨by first | exact Or.inl c16 | exact Or.inr (Classical.not_not.mp c28), by first | exact Or.inl c33 | exact Or.inr (Classical.not_not.mp c45), c51, Int32.not_lt.mpr c58⟩ h
          · refine hk_iconst (v := (-1)) dX9_tried_61 (by decide) ?_
            exact hk_ireturn dX9_tried_62 rfl rfl (by decide) ⟨rfl, rfl⟩
      · rw [bI_0] at c45
        refine hk_iconst (v := (-1)) dX9_tried_48 (by decide) ?_
        exact hk_ireturn dX9_tried_49 rfl rfl (by decide) ⟨rfl, rfl⟩
  · refine hk_aload_n dX9_tried_19 rfl rfl ?_
    refine gfX9_30 rfl dX9_tried_20 (hk_lt (by decide)) rfl rfl ?_
    refine hk_iload_n dX9_tried_23 rfl rfl ?_
    refine hk_iconst (v := 0) dX9_tried_24 (by decide) ?_
    refine ivX9_299 rfl (ct_isOfKindG hi a 0) dX9_tried_25 (hk_lt (by decide)) rfl rfl rfl (by decide) ⟨by decide, by decide⟩ (Nat.le_of_ble_eq_true rfl) (hk_kd ?_)
    refine hk_if_eq (tgt := 48) dX9_tried_28 (by decide) (fun c28 => ?_) (fun c28 => ?_)
    · rw [bI_0] at c28
      refine hk_iconst (v := (-1)) dX9_tried_48 (by decide) ?_
      exact hk_ireturn dX9_tried_49 rfl rfl (by decide) ⟨rfl, rfl⟩
    · rw [bI_0] at c28
      refine hk_iload_n dX9_tried_31 rfl rfl ?_
      refine hk_iconst (v := (-1)) dX9_tried_32 (by decide) ?_
      refine hk_icmp_eq (tgt := 50) dX9_tried_33 (by decide) (fun c33 => ?_) (fun c33 => ?_)
      · refine hk_iload_n dX9_tried_50 rfl rfl ?_
        refine hk_if_lt (tgt := 61) dX9_tried_51 (by decide) (fun c51 => ?_) (fun c51 => ?_)
        · refine hk_iconst (v := (-1)) dX9_tried_61 (by decide) ?_
          exact hk_ireturn dX9_tried_62 rfl rfl (by decide) ⟨rfl, rfl⟩
        · refine hk_iload dX9_tried_54 rfl ?_
          refine hk_iload dX9_tried_56 rfl ?_
          refine hk_icmp_le (tgt := 63) dX9_tried_58 (by decide) (fun c58 => ?_) (fun c58 => ?_)
          · exact absurd ⟨by first | exact Or.inl c16 | exact Or.inr (Classical.not_not.mp c28), by first | exact Or.inl c33 | exact Or.inr (Classical.not_not.mp c45), c51, Int32.not_lt.mpr c58⟩ h
          · refine hk_iconst (v := (-1)) dX9_tried_61 (by decide) ?_
            exact hk_ireturn dX9_tried_62 rfl rfl (by decide) ⟨rfl, rfl⟩
      · refine hk_aload_n dX9_tried_36 rfl rfl ?_
        refine gfX9_30 rfl dX9_tried_37 (hk_lt (by decide)) rfl rfl ?_
        refine hk_iload_n dX9_tried_40 rfl rfl ?_
        refine hk_iconst (v := 1) dX9_tried_41 (by decide) ?_
        refine ivX9_299 rfl (ct_isOfKindG hi b 1) dX9_tried_42 (hk_lt (by decide)) rfl rfl rfl (by decide) ⟨by decide, by decide⟩ (Nat.le_of_ble_eq_true rfl) (hk_kd ?_)
        refine hk_if_ne (tgt := 50) dX9_tried_45 (by decide) (fun c45 => ?_) (fun c45 => ?_)
        · rw [bI_0] at c45
          refine hk_iload_n dX9_tried_50 rfl rfl ?_
          refine hk_if_lt (tgt := 61) dX9_tried_51 (by decide) (fun c51 => ?_) (fun c51 => ?_)
          · refine hk_iconst (v := (-1)) dX9_tried_61 (by decide) ?_
            exact hk_ireturn dX9_tried_62 rfl rfl (by decide) ⟨rfl, rfl⟩
          · refine hk_iload dX9_tried_54 rfl ?_
            refine hk_iload dX9_tried_56 rfl ?_
            refine hk_icmp_le (tgt := 63) dX9_tried_58 (by decide) (fun c58 => ?_) (fun c58 => ?_)
            · exact absurd ⟨by first | exact Or.inl c16 | exact Or.inr (Classical.not_not.mp c28), by first | exact Or.inl c33 | exact Or.inr (Classical.not_not.mp c45), c51, Int32.not_lt.mpr c58⟩ h
            · refine hk_iconst (v := (-1)) dX9_tried_61 (by decide) ?_
              exact hk_ireturn dX9_tried_62 rfl rfl (by decide) ⟨rfl, rfl⟩
        · rw [bI_0] at c45
          refine hk_iconst (v := (-1)) dX9_tried_48 (by decide) ?_
          exact hk_ireturn dX9_tried_49 rfl rfl (by decide) ⟨rfl, rfl⟩
set_option maxRecDepth 20000 in
set_option maxHeartbeats 2000000 in
theorem ct_tried (hi : LI m L nT) (a b d : Int32) {oa ob : Option Nat} (ha : OX L a oa) (hb : OX L b ob) (h : okTry m L a b d) : hk_Ct MX9_tried 4 0 0 [.ref 0, .int a, .int b, .int d] (hk_h L m) (fun r h => ∃ m2, r = some (.int (nI (sN (tF m oa ob (d / 10000) (rm d 10000)) nT))) ∧ h = hk_h L m2 ∧ CF m m2) := by
  refine hk_ofWP (by decide) (by simp [Value.category]) (Nat.le_of_ble_eq_true rfl) ?_
  show hk_WP _ _ _ _ _ _ _ [some (.ref 0), some (.int a), some (.int b), some (.int d), none, none, none, none, none, none] [] _ _
  refine hk_iload_n dX9_tried_0 rfl rfl ?_
  refine hk_sipush (v := 10000) dX9_tried_1 (by decide) ?_
  refine hk_idiv dX9_tried_4 (by decide) ?_
  refine hk_istore dX9_tried_5 (by decide) rfl ?_
  refine hk_iload_n dX9_tried_7 rfl rfl ?_
  refine hk_sipush (v := 10000) dX9_tried_8 (by decide) ?_
  refine hk_irem dX9_tried_11 (by decide) ?_
  refine hk_istore dX9_tried_12 (by decide) rfl ?_
  refine hk_iload_n dX9_tried_14 rfl rfl ?_
  refine hk_iconst (v := (-1)) dX9_tried_15 (by decide) ?_
  refine hk_icmp_eq (tgt := 31) dX9_tried_16 (by decide) (fun c16 => ?_) (fun c16 => ?_)
  · refine hk_iload_n dX9_tried_31 rfl rfl ?_
    refine hk_iconst (v := (-1)) dX9_tried_32 (by decide) ?_
    refine hk_icmp_eq (tgt := 50) dX9_tried_33 (by decide) (fun c33 => ?_) (fun c33 => ?_)
    · refine hk_iload_n dX9_tried_50 rfl rfl ?_
      refine hk_if_lt (tgt := 61) dX9_tried_51 (by decide) (fun c51 => absurd c51 h.2.2.1) (fun _ => ?_)
      refine hk_iload dX9_tried_54 rfl ?_
      refine hk_iload dX9_tried_56 rfl ?_
      refine hk_icmp_le (tgt := 63) dX9_tried_58 (by decide) (fun _ => ?_) (fun c58 => absurd (Int32.not_lt.mp h.2.2.2) c58)
      refine hk_lconst (v := 0) dX9_tried_63 (by decide) ?_
      refine hk_lstore dX9_tried_64 (by decide) rfl ?_
      refine hk_iconst (v := 0) dX9_tried_66 (by decide) ?_
      refine hk_istore dX9_tried_67 (by decide) rfl ?_
      exact lp_tried hi ha hb 0 (Nat.zero_le _) m CF.refl _
    · refine hk_aload_n dX9_tried_36 rfl rfl ?_
      refine gfX9_30 rfl dX9_tried_37 (hk_lt (by decide)) rfl rfl ?_
      refine hk_iload_n dX9_tried_40 rfl rfl ?_
      refine hk_iconst (v := 1) dX9_tried_41 (by decide) ?_
      refine ivX9_299 rfl (ct_isOfKindG hi b 1) dX9_tried_42 (hk_lt (by decide)) rfl rfl rfl (by decide) ⟨by decide, by decide⟩ (Nat.le_of_ble_eq_true rfl) (hk_kd ?_)
      refine hk_if_ne (tgt := 50) dX9_tried_45 (by decide) (fun c45 => ?_) (fun c45 => ?_)
      · rw [bI_0] at c45
        refine hk_iload_n dX9_tried_50 rfl rfl ?_
        refine hk_if_lt (tgt := 61) dX9_tried_51 (by decide) (fun c51 => absurd c51 h.2.2.1) (fun _ => ?_)
        refine hk_iload dX9_tried_54 rfl ?_
        refine hk_iload dX9_tried_56 rfl ?_
        refine hk_icmp_le (tgt := 63) dX9_tried_58 (by decide) (fun _ => ?_) (fun c58 => absurd (Int32.not_lt.mp h.2.2.2) c58)
        refine hk_lconst (v := 0) dX9_tried_63 (by decide) ?_
        refine hk_lstore dX9_tried_64 (by decide) rfl ?_
        refine hk_iconst (v := 0) dX9_tried_66 (by decide) ?_
        refine hk_istore dX9_tried_67 (by decide) rfl ?_
        exact lp_tried hi ha hb 0 (Nat.zero_le _) m CF.refl _
      · rw [bI_0] at c45
        first | exact absurd (h.1.resolve_left c16) c28 | exact absurd (h.2.1.resolve_left c33) c45
  · refine hk_aload_n dX9_tried_19 rfl rfl ?_
    refine gfX9_30 rfl dX9_tried_20 (hk_lt (by decide)) rfl rfl ?_
    refine hk_iload_n dX9_tried_23 rfl rfl ?_
    refine hk_iconst (v := 0) dX9_tried_24 (by decide) ?_
    refine ivX9_299 rfl (ct_isOfKindG hi a 0) dX9_tried_25 (hk_lt (by decide)) rfl rfl rfl (by decide) ⟨by decide, by decide⟩ (Nat.le_of_ble_eq_true rfl) (hk_kd ?_)
    refine hk_if_eq (tgt := 48) dX9_tried_28 (by decide) (fun c28 => ?_) (fun c28 => ?_)
    · rw [bI_0] at c28
      first | exact absurd (h.1.resolve_left c16) c28 | exact absurd (h.2.1.resolve_left c33) c45
    · rw [bI_0] at c28
      refine hk_iload_n dX9_tried_31 rfl rfl ?_
      refine hk_iconst (v := (-1)) dX9_tried_32 (by decide) ?_
      refine hk_icmp_eq (tgt := 50) dX9_tried_33 (by decide) (fun c33 => ?_) (fun c33 => ?_)
      · refine hk_iload_n dX9_tried_50 rfl rfl ?_
        refine hk_if_lt (tgt := 61) dX9_tried_51 (by decide) (fun c51 => absurd c51 h.2.2.1) (fun _ => ?_)
        refine hk_iload dX9_tried_54 rfl ?_
        refine hk_iload dX9_tried_56 rfl ?_
        refine hk_icmp_le (tgt := 63) dX9_tried_58 (by decide) (fun _ => ?_) (fun c58 => absurd (Int32.not_lt.mp h.2.2.2) c58)
        refine hk_lconst (v := 0) dX9_tried_63 (by decide) ?_
        refine hk_lstore dX9_tried_64 (by decide) rfl ?_
        refine hk_iconst (v := 0) dX9_tried_66 (by decide) ?_
        refine hk_istore dX9_tried_67 (by decide) rfl ?_
        exact lp_tried hi ha hb 0 (Nat.zero_le _) m CF.refl _
      · refine hk_aload_n dX9_tried_36 rfl rfl ?_
        refine gfX9_30 rfl dX9_tried_37 (hk_lt (by decide)) rfl rfl ?_
        refine hk_iload_n dX9_tried_40 rfl rfl ?_
        refine hk_iconst (v := 1) dX9_tried_41 (by decide) ?_
        refine ivX9_299 rfl (ct_isOfKindG hi b 1) dX9_tried_42 (hk_lt (by decide)) rfl rfl rfl (by decide) ⟨by decide, by decide⟩ (Nat.le_of_ble_eq_true rfl) (hk_kd ?_)
        refine hk_if_ne (tgt := 50) dX9_tried_45 (by decide) (fun c45 => ?_) (fun c45 => ?_)
        · rw [bI_0] at c45
          refine hk_iload_n dX9_tried_50 rfl rfl ?_
          refine hk_if_lt (tgt := 61) dX9_tried_51 (by decide) (fun c51 => absurd c51 h.2.2.1) (fun _ => ?_)
          refine hk_iload dX9_tried_54 rfl ?_
          refine hk_iload dX9_tried_56 rfl ?_
          refine hk_icmp_le (tgt := 63) dX9_tried_58 (by decide) (fun _ => ?_) (fun c58 => absurd (Int32.not_lt.mp h.2.2.2) c58)
          refine hk_lconst (v := 0) dX9_tried_63 (by decide) ?_
          refine hk_lstore dX9_tried_64 (by decide) rfl ?_
          refine hk_iconst (v := 0) dX9_tried_66 (by decide) ?_
          refine hk_istore dX9_tried_67 (by decide) rfl ?_
          exact lp_tried hi ha hb 0 (Nat.zero_le _) m CF.refl _
        · rw [bI_0] at c45
          first | exact absurd (h.1.resolve_left c16) c28 | exact absurd (h.2.1.resolve_left c33) c45
set_option maxRecDepth 20000 in
set_option maxHeartbeats 2000000 in
theorem md_isFareLaw (hL : m 37 43 = nI L) (hL4 : L ≤ 40) (x k : Int32) : hk_Cd MX10_isFareLaw 0 0 0 [.ref 37, .int x, .int k] (hk_h L m) (some (.int (bI (okLaw m L x k)))) (hk_h L m) := by
  refine hk_ofWP (by decide) (by simp [Value.category]) (Nat.le_of_ble_eq_true rfl) ?_
  show hk_WP _ _ _ _ _ _ _ [some (.ref 37), some (.int x), some (.int k)] [] _ _
  refine hk_iload_n dX10_isFareLaw_0 rfl rfl ?_
  refine hk_iconst (v := (-1)) dX10_isFareLaw_1 (by decide) ?_
  refine hk_icmp_eq (tgt := 27) dX10_isFareLaw_2 (by decide) (fun c2 => ?_) (fun c2 => ?_)
  · refine hk_iconst (v := 1) dX10_isFareLaw_27 (by decide) ?_
    refine hk_goto (tgt := 32) dX10_isFareLaw_28 (by decide) ?_
    exact hk_ireturn dX10_isFareLaw_32 rfl rfl (by decide) ⟨by first | exact bI_r1 (Or.inl c2) | exact bI_r1 (Or.inr ⟨⟨c6, c14⟩, by rw [e, nI_clamp (by omega)]; exact c24⟩) | exact bI_r0 (fun q => q.elim c2 (fun q => q.1.1 c6)) | exact bI_r0 (fun q => q.elim c2 (fun q => q.1.2 c14)) | exact bI_r0 (fun q => q.elim c2 (fun q => c24 (by rw [← q.2, e, nI_clamp (by omega)]))), rfl⟩
  · refine hk_iload_n dX10_isFareLaw_5 rfl rfl ?_
    refine hk_if_lt (tgt := 31) dX10_isFareLaw_6 (by decide) (fun c6 => ?_) (fun c6 => ?_)
    · refine hk_iconst (v := 0) dX10_isFareLaw_31 (by decide) ?_
      exact hk_ireturn dX10_isFareLaw_32 rfl rfl (by decide) ⟨by first | exact bI_r1 (Or.inl c2) | exact bI_r1 (Or.inr ⟨⟨c6, c14⟩, by rw [e, nI_clamp (by omega)]; exact c24⟩) | exact bI_r0 (fun q => q.elim c2 (fun q => q.1.1 c6)) | exact bI_r0 (fun q => q.elim c2 (fun q => q.1.2 c14)) | exact bI_r0 (fun q => q.elim c2 (fun q => c24 (by rw [← q.2, e, nI_clamp (by omega)]))), rfl⟩
    · refine hk_iload_n dX10_isFareLaw_9 rfl rfl ?_
      refine hk_aload_n dX10_isFareLaw_10 rfl rfl ?_
      refine gfX10_339 rfl dX10_isFareLaw_11 (hk_lt (by decide)) rfl rfl ?_
      refine hk_icmp_ge (tgt := 31) dX10_isFareLaw_14 (by decide) (fun c14 => ?_) (fun c14 => ?_)
      · rw [hL] at c14
        refine hk_iconst (v := 0) dX10_isFareLaw_31 (by decide) ?_
        exact hk_ireturn dX10_isFareLaw_32 rfl rfl (by decide) ⟨by first | exact bI_r1 (Or.inl c2) | exact bI_r1 (Or.inr ⟨⟨c6, c14⟩, by rw [e, nI_clamp (by omega)]; exact c24⟩) | exact bI_r0 (fun q => q.elim c2 (fun q => q.1.1 c6)) | exact bI_r0 (fun q => q.elim c2 (fun q => q.1.2 c14)) | exact bI_r0 (fun q => q.elim c2 (fun q => c24 (by rw [← q.2, e, nI_clamp (by omega)]))), rfl⟩
      · rw [hL] at c14
        obtain ⟨i, hl, e⟩ := inR_of (⟨c6, c14⟩ : inR x L) (by omega)
        refine hk_aload_n dX10_isFareLaw_17 rfl rfl ?_
        refine gfX10_103 rfl dX10_isFareLaw_18 (hk_lt (by decide)) rfl rfl ?_
        refine hk_iload_n dX10_isFareLaw_21 rfl rfl ?_
        refine hk_ian dX10_isFareLaw_22 (by decide) (fun _ => rfl) e (by omega) (by decide) ?_
        refine hk_iload_n dX10_isFareLaw_23 rfl rfl ?_
        refine hk_icmp_ne (tgt := 31) dX10_isFareLaw_24 (by decide) (fun c24 => ?_) (fun c24 => ?_)
        · refine hk_iconst (v := 0) dX10_isFareLaw_31 (by decide) ?_
          exact hk_ireturn dX10_isFareLaw_32 rfl rfl (by decide) ⟨by first | exact bI_r1 (Or.inl c2) | exact bI_r1 (Or.inr ⟨⟨c6, c14⟩, by rw [e, nI_clamp (by omega)]; exact c24⟩) | exact bI_r0 (fun q => q.elim c2 (fun q => q.1.1 c6)) | exact bI_r0 (fun q => q.elim c2 (fun q => q.1.2 c14)) | exact bI_r0 (fun q => q.elim c2 (fun q => c24 (by rw [← q.2, e, nI_clamp (by omega)]))), rfl⟩
        · refine hk_iconst (v := 1) dX10_isFareLaw_27 (by decide) ?_
          refine hk_goto (tgt := 32) dX10_isFareLaw_28 (by decide) ?_
          exact hk_ireturn dX10_isFareLaw_32 rfl rfl (by decide) ⟨by first | exact bI_r1 (Or.inl c2) | exact bI_r1 (Or.inr ⟨⟨c6, c14⟩, by rw [e, nI_clamp (by omega)]; exact c24⟩) | exact bI_r0 (fun q => q.elim c2 (fun q => q.1.1 c6)) | exact bI_r0 (fun q => q.elim c2 (fun q => q.1.2 c14)) | exact bI_r0 (fun q => q.elim c2 (fun q => c24 (by rw [← q.2, e, nI_clamp (by omega)]))), rfl⟩
theorem OX.oa (hi : LM m L nT) {x : Int32} {o : Option Nat} (h : OX L x o) : OA m x (o.map (LV m)) := by
  cases o with
  | none => have e : x = -1 := h; subst e; exact (by decide : (-1 : Int32) < 0)
  | some i => exact ⟨i, h.1, hi.2.2.1 i h.2⟩
set_option maxRecDepth 20000 in
set_option maxHeartbeats 2000000 in
theorem lp_mtried (hi : LM m L nT) {a b d : Int32} {oa ob : Option Nat} (ha : OX L a oa) (hb : OX L b ob) (i : Nat) (hi2 : i ≤ nT) (m1 : Nat → Nat → Int32) (s : SF m m1) (l6 : Option Value) : hk_WP MX10_tried 71 0 0 0 0 54 [some (.ref 37), some (.int a), some (.int b), some (.int d), some (.int (nI (sN (tF m oa ob (d / 10000) (rm d 10000)) i))), some (.int (nI i)), l6] [] (hk_h L m1) (fun r h => ∃ m2, r = some (.int (nI (sN (tF m oa ob (d / 10000) (rm d 10000)) nT))) ∧ h = hk_h L m2 ∧ SF m m2) := by
  have hl := hi.k s
  obtain ⟨h1, h2, h3, h4, h5, h6⟩ := id hl
  refine hk_iload dX10_tried_54 rfl ?_
  refine hk_aload_n dX10_tried_56 rfl rfl ?_
  refine gfX10_287 rfl dX10_tried_57 (hk_lt (by decide)) rfl rfl ?_
  refine hk_icmp_ge (tgt := 126) dX10_tried_60 (by decide) (fun c60 => ?_) (fun c60 => ?_)
  · rw [h4, nI_leI (by omega) (by omega)] at c60
    refine hk_iload dX10_tried_126 rfl ?_
    exact hk_ireturn dX10_tried_128 rfl rfl (by decide) ⟨m1, by rw [show i = nT by omega], rfl, s⟩
  · rw [h4, nI_leI (by omega) (by omega)] at c60
    have hlt : i < nT := by omega
    have n3 : m1 76 i = m 76 i := by rw [s.1 76 (by decide) (by decide)]
    refine hk_aload_n dX10_tried_63 rfl rfl ?_
    refine gfX10_124 rfl dX10_tried_64 (hk_lt (by decide)) rfl rfl ?_
    refine hk_iload dX10_tried_67 rfl ?_
    refine hk_ian dX10_tried_69 (by decide) (fun _ => rfl) rfl (by omega) (by decide) ?_
    rw [n3]
    refine hk_sipush (v := 1440) dX10_tried_70 (by decide) ?_
    refine hk_idiv dX10_tried_73 (by decide) ?_
    refine hk_iload_n dX10_tried_74 rfl rfl ?_
    refine hk_sipush (v := 10000) dX10_tried_75 (by decide) ?_
    refine hk_idiv dX10_tried_78 (by decide) ?_
    refine hk_iload_n dX10_tried_79 rfl rfl ?_
    refine hk_sipush (v := 10000) dX10_tried_80 (by decide) ?_
    refine hk_irem dX10_tried_83 (by decide) ?_
    refine ivX10_208 rfl (ct_within _ _ _) dX10_tried_84 rfl rfl (by decide) ⟨by decide, by decide⟩ (Nat.le_of_ble_eq_true rfl) (hk_kd ?_)
    refine hk_if_eq (tgt := 120) dX10_tried_87 (by decide) (fun c87 => ?_) (fun c87 => ?_)
    · rw [bI_0] at c87
      refine hk_iinc (v := nI (i + 1)) dX10_tried_120 rfl (nI_1 i) (by decide) rfl ?_
      refine hk_goto (tgt := 54) dX10_tried_123 (by decide) ?_
      first
      | (have hs := lp_mtried hi ha hb (d := d) (i + 1) (by omega) _ s4 (some (.int (fv (ox oa m (NTR m i)) (ox ob m (NTR m i))))); rw [tF_y (Classical.not_not.mp c87), ← nI_add] at hs; rw [if_neg (Int32.not_lt.mpr c108)] at ez; unfold tz at hs; rw [ez] at hs; exact hs)
      | (have hs := lp_mtried hi ha hb (d := d) (i + 1) (by omega) _ s4 (some (.int (fv (ox oa m (NTR m i)) (ox ob m (NTR m i))))); rw [tF_y (Classical.not_not.mp c87), ← nI_add] at hs; rw [if_pos (Int32.not_le.mp c108)] at ez; unfold tz at hs; rw [ez] at hs; exact hs)
      | (have hs := lp_mtried hi ha hb (d := d) (i + 1) (by omega) _ s l6; rw [tF_n c87] at hs; exact hs)
    · rw [bI_0] at c87
      refine hk_aload_n dX10_tried_90 rfl rfl ?_
      refine hk_iload dX10_tried_91 rfl ?_
      refine ivX10_361 rfl (md_nameTrip (show i < 300 by omega) (h6 i hlt)) dX10_tried_93 (hk_lt (by decide)) rfl rfl rfl (by decide) ⟨by decide, by decide⟩ (Nat.le_of_ble_eq_true rfl) (fun r h1 hq => ?_)
      obtain ⟨m3, rfl, rfl, q1, q2⟩ := hq
      have s3 := s.t (SF.of72 q1)
      rw [s.ntr] at q2
      refine hk_aload_n dX10_tried_96 rfl rfl ?_
      refine hk_iload_n dX10_tried_97 rfl rfl ?_
      refine hk_iload_n dX10_tried_98 rfl rfl ?_
      refine ivX10_364 rfl (md_fare (OX.oa (hi.k s3) ha) (OX.oa (hi.k s3) hb)) dX10_tried_99 (hk_lt (by decide)) rfl rfl rfl (by decide) ⟨by decide, by decide⟩ (Nat.le_of_ble_eq_true rfl) (fun r h1 hq => ?_)
      obtain ⟨m4, rfl, rfl, q3, q4⟩ := hq
      rw [Option.map_map, Option.map_map, q2]
      have s4 := s3.t q3.f
      rw [LV_k s3]
      show hk_WP _ _ _ _ _ _ _ _ (Value.int (fv (ox oa m (NTR m i)) (ox ob m (NTR m i))) :: _) _ _
      have ez := nnI (fv (ox oa m (NTR m i)) (ox ob m (NTR m i)))
      refine hk_istore dX10_tried_102 (by decide) rfl ?_
      refine hk_iload dX10_tried_104 rfl ?_
      refine hk_iload dX10_tried_106 rfl ?_
      refine hk_if_ge (tgt := 115) dX10_tried_108 (by decide) (fun c108 => ?_) (fun c108 => ?_)
      · refine hk_iload dX10_tried_115 rfl ?_
        refine hk_iadd dX10_tried_117 ?_
        refine hk_istore dX10_tried_118 (by decide) rfl ?_
        refine hk_iinc (v := nI (i + 1)) dX10_tried_120 rfl (nI_1 i) (by decide) rfl ?_
        refine hk_goto (tgt := 54) dX10_tried_123 (by decide) ?_
        first
        | (have hs := lp_mtried hi ha hb (d := d) (i + 1) (by omega) _ s4 (some (.int (fv (ox oa m (NTR m i)) (ox ob m (NTR m i))))); rw [tF_y (Classical.not_not.mp c87), ← nI_add] at hs; rw [if_neg (Int32.not_lt.mpr c108)] at ez; unfold tz at hs; rw [ez] at hs; exact hs)
        | (have hs := lp_mtried hi ha hb (d := d) (i + 1) (by omega) _ s4 (some (.int (fv (ox oa m (NTR m i)) (ox ob m (NTR m i))))); rw [tF_y (Classical.not_not.mp c87), ← nI_add] at hs; rw [if_pos (Int32.not_le.mp c108)] at ez; unfold tz at hs; rw [ez] at hs; exact hs)
        | (have hs := lp_mtried hi ha hb (d := d) (i + 1) (by omega) _ s l6; rw [tF_n c87] at hs; exact hs)
      · refine hk_iconst (v := 0) dX10_tried_111 (by decide) ?_
        refine hk_goto (tgt := 117) dX10_tried_112 (by decide) ?_
        refine hk_iadd dX10_tried_117 ?_
        refine hk_istore dX10_tried_118 (by decide) rfl ?_
        refine hk_iinc (v := nI (i + 1)) dX10_tried_120 rfl (nI_1 i) (by decide) rfl ?_
        refine hk_goto (tgt := 54) dX10_tried_123 (by decide) ?_
        first
        | (have hs := lp_mtried hi ha hb (d := d) (i + 1) (by omega) _ s4 (some (.int (fv (ox oa m (NTR m i)) (ox ob m (NTR m i))))); rw [tF_y (Classical.not_not.mp c87), ← nI_add] at hs; rw [if_neg (Int32.not_lt.mpr c108)] at ez; unfold tz at hs; rw [ez] at hs; exact hs)
        | (have hs := lp_mtried hi ha hb (d := d) (i + 1) (by omega) _ s4 (some (.int (fv (ox oa m (NTR m i)) (ox ob m (NTR m i))))); rw [tF_y (Classical.not_not.mp c87), ← nI_add] at hs; rw [if_pos (Int32.not_le.mp c108)] at ez; unfold tz at hs; rw [ez] at hs; exact hs)
        | (have hs := lp_mtried hi ha hb (d := d) (i + 1) (by omega) _ s l6; rw [tF_n c87] at hs; exact hs)
termination_by nT - i
decreasing_by all_goals omega
abbrev okTryM (m : Nat → Nat → Int32) (L : Nat) (a b d : Int32) : Prop := okLaw m L a 0 ∧ okLaw m L b 1 ∧ ¬ d < 0 ∧ inR (d / 10000) 10000 ∧ ¬ rm d 10000 < d / 10000
theorem okTry_iff {a b d : Int32} : okTry m L a b d ↔ okTryM m L a b d := by
  constructor
  · rintro ⟨h1, h2, h3, h4⟩
    obtain ⟨j, hj, rfl⟩ : ∃ j : Nat, j < 2 ^ 31 ∧ d = nI j := by
      refine ⟨d.toInt.toNat, ?_, ?_⟩
      · have := Int32.toInt_lt d; omega
      · apply Int32.toInt_inj.mp
        have := Int32.toInt_lt d
        rw [i32_lt, i32_0] at h3
        rw [nI_toInt (by omega)]; omega
    have e1 : nI j / 10000 = nI (j / 10000) := nI_div hj (by decide)
    have e2 : rm (nI j) 10000 = nI (j % 10000) := rm_nI hj (by decide)
    refine ⟨h1, h2, h3, ?_, h4⟩
    rw [e1, e2, nI_ltI (by omega) (by omega)] at h4
    rw [e1]
    exact inR_nI (by omega) (by decide)
  · rintro ⟨h1, h2, h3, _, h4⟩
    exact ⟨h1, h2, h3, h4⟩
set_option maxRecDepth 20000 in
set_option maxHeartbeats 2000000 in
theorem md_tried_no (hi : LM m L nT) (a b d : Int32) (h : ¬ okTryM m L a b d) : hk_Cd MX10_tried 71 0 0 [.ref 37, .int a, .int b, .int d] (hk_h L m) (some (.int (-1))) (hk_h L m) := by
  refine hk_ofWP (by decide) (by simp [Value.category]) (Nat.le_of_ble_eq_true rfl) ?_
  show hk_WP _ _ _ _ _ _ _ [some (.ref 37), some (.int a), some (.int b), some (.int d), none, none, none] [] _ _
  refine hk_aload_n dX10_tried_0 rfl rfl ?_
  refine hk_iload_n dX10_tried_1 rfl rfl ?_
  refine hk_iconst (v := 0) dX10_tried_2 (by decide) ?_
  refine ivX10_416 rfl (md_isFareLaw hi.1 hi.2.1 a 0) dX10_tried_3 (hk_lt (by decide)) rfl rfl rfl (by decide) ⟨by decide, by decide⟩ (Nat.le_of_ble_eq_true rfl) (hk_kd ?_)
  refine hk_if_eq (tgt := 46) dX10_tried_6 (by decide) (fun c6 => ?_) (fun c6 => ?_)
  · rw [bI_0] at c6
    refine hk_iconst (v := (-1)) dX10_tried_46 (by decide) ?_
    exact hk_ireturn dX10_tried_47 rfl rfl (by decide) ⟨rfl, rfl⟩
  · rw [bI_0] at c6
    refine hk_aload_n dX10_tried_9 rfl rfl ?_
    refine hk_iload_n dX10_tried_10 rfl rfl ?_
    refine hk_iconst (v := 1) dX10_tried_11 (by decide) ?_
    refine ivX10_416 rfl (md_isFareLaw hi.1 hi.2.1 b 1) dX10_tried_12 (hk_lt (by decide)) rfl rfl rfl (by decide) ⟨by decide, by decide⟩ (Nat.le_of_ble_eq_true rfl) (hk_kd ?_)
    refine hk_if_eq (tgt := 46) dX10_tried_15 (by decide) (fun c15 => ?_) (fun c15 => ?_)
    · rw [bI_0] at c15
      refine hk_iconst (v := (-1)) dX10_tried_46 (by decide) ?_
      exact hk_ireturn dX10_tried_47 rfl rfl (by decide) ⟨rfl, rfl⟩
    · rw [bI_0] at c15
      refine hk_iload_n dX10_tried_18 rfl rfl ?_
      refine hk_if_lt (tgt := 46) dX10_tried_19 (by decide) (fun c19 => ?_) (fun c19 => ?_)
      · refine hk_iconst (v := (-1)) dX10_tried_46 (by decide) ?_
        exact hk_ireturn dX10_tried_47 rfl rfl (by decide) ⟨rfl, rfl⟩
      · refine hk_iload_n dX10_tried_22 rfl rfl ?_
        refine hk_sipush (v := 10000) dX10_tried_23 (by decide) ?_
        refine hk_idiv dX10_tried_26 (by decide) ?_
        refine ivX10_336 rfl (md_isDay _) dX10_tried_27 rfl rfl (by decide) ⟨by decide, by decide⟩ (Nat.le_of_ble_eq_true rfl) (hk_kd ?_)
        refine hk_if_eq (tgt := 46) dX10_tried_30 (by decide) (fun c30 => ?_) (fun c30 => ?_)
        · rw [bI_0] at c30
          refine hk_iconst (v := (-1)) dX10_tried_46 (by decide) ?_
          exact hk_ireturn dX10_tried_47 rfl rfl (by decide) ⟨rfl, rfl⟩
        · rw [bI_0] at c30
          refine hk_iload_n dX10_tried_33 rfl rfl ?_
          refine hk_sipush (v := 10000) dX10_tried_34 (by decide) ?_
          refine hk_idiv dX10_tried_37 (by decide) ?_
          refine hk_iload_n dX10_tried_38 rfl rfl ?_
          refine hk_sipush (v := 10000) dX10_tried_39 (by decide) ?_
          refine hk_irem dX10_tried_42 (by decide) ?_
          refine hk_icmp_le (tgt := 48) dX10_tried_43 (by decide) (fun c43 => ?_) (fun c43 => ?_)
          · exact absurd ⟨Classical.not_not.mp c6, Classical.not_not.mp c15, c19, Classical.not_not.mp c30, Int32.not_lt.mpr c43⟩ h
          · refine hk_iconst (v := (-1)) dX10_tried_46 (by decide) ?_
            exact hk_ireturn dX10_tried_47 rfl rfl (by decide) ⟨rfl, rfl⟩
set_option maxRecDepth 20000 in
set_option maxHeartbeats 2000000 in
theorem md_tried (hi : LM m L nT) (a b d : Int32) {oa ob : Option Nat} (ha : OX L a oa) (hb : OX L b ob) (h : okTryM m L a b d) : hk_Ct MX10_tried 71 0 0 [.ref 37, .int a, .int b, .int d] (hk_h L m) (fun r h => ∃ m2, r = some (.int (nI (sN (tF m oa ob (d / 10000) (rm d 10000)) nT))) ∧ h = hk_h L m2 ∧ SF m m2) := by
  refine hk_ofWP (by decide) (by simp [Value.category]) (Nat.le_of_ble_eq_true rfl) ?_
  show hk_WP _ _ _ _ _ _ _ [some (.ref 37), some (.int a), some (.int b), some (.int d), none, none, none] [] _ _
  refine hk_aload_n dX10_tried_0 rfl rfl ?_
  refine hk_iload_n dX10_tried_1 rfl rfl ?_
  refine hk_iconst (v := 0) dX10_tried_2 (by decide) ?_
  refine ivX10_416 rfl (md_isFareLaw hi.1 hi.2.1 a 0) dX10_tried_3 (hk_lt (by decide)) rfl rfl rfl (by decide) ⟨by decide, by decide⟩ (Nat.le_of_ble_eq_true rfl) (hk_kd ?_)
  refine hk_if_eq (tgt := 46) dX10_tried_6 (by decide) (fun c6 => absurd c6 (fun e => bI_0.mp e h.1)) (fun _ => ?_)
  refine hk_aload_n dX10_tried_9 rfl rfl ?_
  refine hk_iload_n dX10_tried_10 rfl rfl ?_
  refine hk_iconst (v := 1) dX10_tried_11 (by decide) ?_
  refine ivX10_416 rfl (md_isFareLaw hi.1 hi.2.1 b 1) dX10_tried_12 (hk_lt (by decide)) rfl rfl rfl (by decide) ⟨by decide, by decide⟩ (Nat.le_of_ble_eq_true rfl) (hk_kd ?_)
  refine hk_if_eq (tgt := 46) dX10_tried_15 (by decide) (fun c15 => absurd c15 (fun e => bI_0.mp e h.2.1)) (fun _ => ?_)
  refine hk_iload_n dX10_tried_18 rfl rfl ?_
  refine hk_if_lt (tgt := 46) dX10_tried_19 (by decide) (fun c19 => absurd c19 h.2.2.1) (fun _ => ?_)
  refine hk_iload_n dX10_tried_22 rfl rfl ?_
  refine hk_sipush (v := 10000) dX10_tried_23 (by decide) ?_
  refine hk_idiv dX10_tried_26 (by decide) ?_
  refine ivX10_336 rfl (md_isDay _) dX10_tried_27 rfl rfl (by decide) ⟨by decide, by decide⟩ (Nat.le_of_ble_eq_true rfl) (hk_kd ?_)
  refine hk_if_eq (tgt := 46) dX10_tried_30 (by decide) (fun c30 => absurd c30 (fun e => bI_0.mp e h.2.2.2.1)) (fun _ => ?_)
  refine hk_iload_n dX10_tried_33 rfl rfl ?_
  refine hk_sipush (v := 10000) dX10_tried_34 (by decide) ?_
  refine hk_idiv dX10_tried_37 (by decide) ?_
  refine hk_iload_n dX10_tried_38 rfl rfl ?_
  refine hk_sipush (v := 10000) dX10_tried_39 (by decide) ?_
  refine hk_irem dX10_tried_42 (by decide) ?_
  refine hk_icmp_le (tgt := 48) dX10_tried_43 (by decide) (fun _ => ?_) (fun c43 => absurd (Int32.not_lt.mp h.2.2.2.2) c43)
  refine hk_iconst (v := 0) dX10_tried_48 (by decide) ?_
  refine hk_istore dX10_tried_49 (by decide) rfl ?_
  refine hk_iconst (v := 0) dX10_tried_51 (by decide) ?_
  refine hk_istore dX10_tried_52 (by decide) rfl ?_
  exact lp_mtried hi ha hb 0 (Nat.zero_le _) m SF.refl _
theorem SCR.tfk (s : SCR m m1) {oa ob : Option Nat} {d1 d2 : Int32} : tF m1 oa ob d1 d2 = tF m oa ob d1 d2 := by
  unfold tF tz ox LV NTR
  rw [s.a (a := 67) (by decide), s.a (a := 68) (by decide), s.a (a := 76) (by decide), s.a (a := 79) (by decide), s.a (a := 80) (by decide), s.a (a := 81) (by decide), s.a (a := 82) (by decide), s.a (a := 83) (by decide), s.a (a := 84) (by decide)]
theorem op_tried (hI : Inv L z m) (a b d : Int32) : OpE L m MX9_tried MX10_tried [.int a, .int b, .int d] := by
  have h1 := Inv_li hI
  have h2 := Inv_lm hI
  by_cases ho : okTry m L a b d
  · obtain ⟨oa, ha⟩ := okLaw_o h1.2.1 ho.1
    obtain ⟨ob, hb⟩ := okLaw_o h1.2.1 ho.2.1
    refine OpE.of (d1 := 4) (d2 := 71) (v := nI (sN (tF m oa ob (d / 10000) (rm d 10000)) (z 5))) hI (by decide) (by decide) (hk_imp ?_ (ct_tried h1 a b d ha hb ho)) (fun m1 hI1 s1 => ?_)
    · rintro r h ⟨m1, q1, q2, q3⟩; exact ⟨m1, q1, q2, q3.scr⟩
    · have ho1 : okTryM m1 L a b d := by
        have := okTry_iff.mp ho
        unfold okTryM okLaw at this ⊢
        rw [s1.a (a := 69) (by decide)]; exact this
      refine hk_imp ?_ (md_tried (Inv_lm hI1) a b d ha hb ho1)
      rintro r h ⟨m2, q1, q2, q3⟩
      rw [s1.tfk] at q1
      exact ⟨m2, q1, q2, q3.scr⟩
  · exact OpOK.e ⟨4, 0, 0, 71, -1, L, m, m, z, by decide, by decide, by decide, by decide, ct_tried_no h1 a b d ho, md_tried_no h2 a b d (fun q => ho (okTry_iff.mpr q)), hI⟩
end OGy
