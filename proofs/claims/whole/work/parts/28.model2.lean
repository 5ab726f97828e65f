/-! THE REFERENCE: laws worked out for trips -/
section MEx
variable {L : Nat} {m m0 m1 m2 : Nat → Nat → Int32}
def SE (m m1 : Nat → Nat → Int32) : Prop := (∀ a, a ≠ 37 → m1 a = m a) ∧ ∀ j, j ≠ 44 → j ≠ 45 → j ≠ 78 → j ≠ 79 → m1 37 j = m 37 j
def SG (m m1 : Nat → Nat → Int32) : Prop := (∀ a, a ≠ 37 → m1 a = m a) ∧ ∀ j, j ≠ 44 → j ≠ 45 → j ≠ 78 → j ≠ 79 → j ≠ 80 → m1 37 j = m 37 j
/-- the reference's numbers for its own work alone are changed -/
def SF (m m1 : Nat → Nat → Int32) : Prop := (∀ a, a ≠ 37 → a ≠ 72 → m1 a = m a) ∧ ∀ j, j ≠ 44 → j ≠ 45 → j ≠ 78 → j ≠ 79 → j ≠ 80 → m1 37 j = m 37 j
theorem SE.g (s : SE m m1) : SG m m1 := ⟨s.1, fun j h1 h2 h3 h4 _ => s.2 j h1 h2 h3 h4⟩
theorem SG.f (s : SG m m1) : SF m m1 := ⟨fun a h _ => s.1 a h, s.2⟩
theorem SG.refl : SG m m := ⟨fun _ _ => rfl, fun _ _ _ _ _ _ => rfl⟩
theorem SF.refl : SF m m := ⟨fun _ _ _ => rfl, fun _ _ _ _ _ _ => rfl⟩
theorem SE.t (s : SE m m1) (u : SE m1 m2) : SE m m2 := ⟨fun a h => (u.1 a h).trans (s.1 a h), fun j h1 h2 h3 h4 => (u.2 j h1 h2 h3 h4).trans (s.2 j h1 h2 h3 h4)⟩
theorem SG.t (s : SG m m1) (u : SG m1 m2) : SG m m2 := ⟨fun a h => (u.1 a h).trans (s.1 a h), fun j h1 h2 h3 h4 h5 => (u.2 j h1 h2 h3 h4 h5).trans (s.2 j h1 h2 h3 h4 h5)⟩
theorem SF.t (s : SF m m1) (u : SF m1 m2) : SF m m2 := ⟨fun a h h0 => (u.1 a h h0).trans (s.1 a h h0), fun j h1 h2 h3 h4 h5 => (u.2 j h1 h2 h3 h4 h5).trans (s.2 j h1 h2 h3 h4 h5)⟩
theorem SG.w {x : Int32} (s : SG m m1) : SG m (hk_w m1 37 80 x) := by
  refine ⟨fun a ha => ?_, fun i h1 h2 h3 h4 h5 => ?_⟩
  · rw [hk_wo ha]; exact s.1 a ha
  · rw [hk_w_off (by omega)]; exact s.2 i h1 h2 h3 h4 h5
theorem SF.of72 (h : ∀ a, a ≠ 72 → m1 a = m a) : SF m m1 := ⟨fun a _ h2 => h a h2, fun j _ _ _ _ _ => by rw [h 37 (by decide)]⟩
theorem SG.n (s : SG m m1) : nmR m1 = nmR m := by unfold nmR; rw [s.1 72 (by decide)]
noncomputable def PT (b : Nat → Int32) (n : Nat) : LRes := match PE b n 12 0 0 with
  | .inl f => .inl f
  | .inr (p, c, v) => cI (p < n) (.inl p) (.inr (p, c, v))
def WO (L : Nat) (m : Nat → Nat → Int32) (res : LRes) (r : Option Value) (h : hk_H) : Prop := ∃ m1, h = hk_h L m1 ∧ SE m m1 ∧ match res with
  | .inl f => (∃ w, r = some (.int w)) ∧ m1 37 78 = nI f ∧ f ≤ 160
  | .inr (_, _, v) => r = some (.int (v (nmR m))) ∧ m1 37 78 = -1
theorem WOf {res : LRes} {f : Nat} {w : Int32} (e : res = .inl f) (s : SE m m1) (h1 : m1 37 78 = nI f) (h2 : f ≤ 160) : WO L m res (some (.int w)) (hk_h L m1) := ⟨m1, rfl, s, by rw [e]; exact ⟨⟨w, rfl⟩, h1, h2⟩⟩
theorem WOc {res : LRes} {p : Nat} {c : List Int32} {v : (Nat → Int32) → Int32} (e : res = .inr (p, c, v)) (s : SE m m1) (h1 : m1 37 78 = -1) : WO L m res (some (.int (v (nmR m)))) (hk_h L m1) := ⟨m1, rfl, s, by rw [e]; exact ⟨rfl, h1⟩⟩
theorem WOi {res : LRes} {f : Nat} {r : Option Value} {h : hk_H} (q : WO L m res r h) (e : res = .inl f) : ∃ m1 w, r = some (.int w) ∧ h = hk_h L m1 ∧ SE m m1 ∧ m1 37 78 = nI f ∧ f ≤ 160 := by
  obtain ⟨m1, q1, q2, q3⟩ := q
  rw [e] at q3
  obtain ⟨⟨w, q3⟩, q4, q5⟩ := q3
  exact ⟨m1, w, q3, q1, q2, q4, q5⟩
theorem WOj {res : LRes} {p : Nat} {c : List Int32} {v : (Nat → Int32) → Int32} {r : Option Value} {h : hk_H} (q : WO L m res r h) (e : res = .inr (p, c, v)) : ∃ m1, r = some (.int (v (nmR m))) ∧ h = hk_h L m1 ∧ SE m m1 ∧ m1 37 78 = -1 := by
  obtain ⟨m1, q1, q2, q3⟩ := q
  rw [e] at q3
  exact ⟨m1, q3.1, q1, q2, q3.2⟩
theorem wo_init {base : Int32} {b : Nat → Int32} {n : Nat} (hB : BS m base b) : ∃ m2, hk_w (hk_w (hk_w (hk_w m 37 44 0) 37 45 (nI n)) 37 79 0) 37 78 (-1) = m2 ∧ SE m m2 ∧ BS m2 base b ∧ m2 37 45 = nI n ∧ ES m2 0 12 m2 ∧ nmR m2 = nmR m := by
  refine ⟨_, rfl, ⟨fun a ha => ?_, fun i h1 h2 h3 h4 => ?_⟩, ?_, ?_, ⟨EF.refl, ?_, ?_, ?_⟩, ?_⟩
  · rw [hk_wo ha, hk_wo ha, hk_wo ha, hk_wo ha]
  · rw [hk_w_off h3, hk_w_off h4, hk_w_off h2, hk_w_off h1]
  · unfold BS at hB ⊢
    simpa [hk_wo] using hB
  · simp [hk_w_at]
  · simp [hk_w_at]; rfl
  · simp [hk_w_at]
  · simp [hk_w_at]; rfl
  · unfold nmR; simp [hk_wo]
theorem EF.se (s : EF m m1) : SE m m1 := ⟨s.1, fun j h1 _ h3 h4 => s.2 j h1 h3 h4⟩
set_option maxRecDepth 20000 in
set_option maxHeartbeats 2000000 in
theorem md_workOut {n : Nat} {base : Int32} {b : Nat → Int32} (hB : BS m base b) (hn2 : n ≤ 160) : hk_Ct MX10_workOut 67 0 0 [.ref 37, .int base, .int (nI n)] (hk_h L m) (WO L m (PT b n)) := by
  refine hk_ofWP (by decide) (by simp [Value.category]) (Nat.le_of_ble_eq_true rfl) ?_
  show hk_WP _ _ _ _ _ _ _ [some (.ref 37), some (.int base), some (.int (nI n)), none] [] _ _
  refine hk_aload_n dX10_workOut_0 rfl rfl ?_
  refine hk_iconst (v := 0) dX10_workOut_1 (by decide) ?_
  refine pfX10_296 rfl dX10_workOut_2 (hk_lt (by decide)) rfl (Nat.le_of_ble_eq_true rfl) (hk_st (j := 44) rfl ?_)
  refine hk_aload_n dX10_workOut_5 rfl rfl ?_
  refine hk_iload_n dX10_workOut_6 rfl rfl ?_
  refine pfX10_299 rfl dX10_workOut_7 (hk_lt (by decide)) rfl (Nat.le_of_ble_eq_true rfl) (hk_st (j := 45) rfl ?_)
  refine hk_aload_n dX10_workOut_10 rfl rfl ?_
  refine hk_iconst (v := 0) dX10_workOut_11 (by decide) ?_
  refine pfX10_305 rfl dX10_workOut_12 (hk_lt (by decide)) rfl (Nat.le_of_ble_eq_true rfl) (hk_st (j := 79) rfl ?_)
  refine hk_aload_n dX10_workOut_15 rfl rfl ?_
  refine hk_iconst (v := (-1)) dX10_workOut_16 (by decide) ?_
  refine pfX10_302 rfl dX10_workOut_17 (hk_lt (by decide)) rfl (Nat.le_of_ble_eq_true rfl) (hk_st (j := 78) rfl ?_)
  obtain ⟨m2, e2, q0, q1, q2, q3, q4⟩ := wo_init (n := n) hB
  show hk_WP _ _ _ _ _ _ _ _ _ (hk_h L (hk_w (hk_w (hk_w (hk_w m 37 44 0) 37 45 (nI n)) 37 79 0) 37 78 (-1))) _
  rw [e2]
  refine hk_aload_n dX10_workOut_20 rfl rfl ?_
  refine hk_iload_n dX10_workOut_21 rfl rfl ?_
  refine ivX10_321 rfl (md_E 12 (Nat.le_refl _) m2 n 0 0 base b q1 q2 hn2 (Nat.zero_le _) q3) dX10_workOut_22 (hk_lt (by decide)) rfl rfl rfl (by decide) ⟨by decide, by decide⟩ (Nat.le_of_ble_eq_true rfl) (fun r h1 hq => ?_)
  rcases hr : PE b n 12 0 0 with f | ⟨p, c, v⟩
  · obtain ⟨m3, w, rfl, rfl, s3⟩ := EPi q3.1 hq hr
    refine hk_istore_n dX10_workOut_25 rfl (by decide) rfl ?_
    refine hk_aload_n dX10_workOut_26 rfl rfl ?_
    refine gfX10_302 rfl dX10_workOut_27 (hk_lt (by decide)) rfl rfl ?_
    refine hk_if_ge (tgt := 49) dX10_workOut_30 (by decide) (fun _ => ?_) (fun c30 => absurd s3.ge c30)
    refine hk_iload_n dX10_workOut_49 rfl rfl ?_
    exact hk_ireturn dX10_workOut_50 rfl rfl (by decide) (WOf (by unfold PT; rw [hr]) (q0.t s3.1.se) s3.2.1 s3.2.2.1)
  · obtain ⟨m3, rfl, rfl, s3⟩ := EPj q3.1 hq hr
    have hB3 := PB_PE b n 12 0 0 (Nat.zero_le _)
    rw [hr] at hB3
    simp only at hB3
    rw [q4]
    refine hk_istore_n dX10_workOut_25 rfl (by decide) rfl ?_
    refine hk_aload_n dX10_workOut_26 rfl rfl ?_
    refine gfX10_302 rfl dX10_workOut_27 (hk_lt (by decide)) rfl rfl ?_
    refine hk_if_ge (tgt := 49) dX10_workOut_30 (by decide) (fun c30 => absurd c30 s3.lt) (fun _ => ?_)
    refine hk_aload_n dX10_workOut_33 rfl rfl ?_
    refine gfX10_296 rfl dX10_workOut_34 (hk_lt (by decide)) rfl rfl ?_
    refine hk_aload_n dX10_workOut_37 rfl rfl ?_
    refine gfX10_299 rfl dX10_workOut_38 (hk_lt (by decide)) rfl rfl ?_
    refine hk_icmp_ge (tgt := 49) dX10_workOut_41 (by decide) (fun c41 => ?_) (fun c41 => ?_)
    · rw [s3.2.1, s3.1.e q2, nI_leI (by omega) (by omega)] at c41
      refine hk_iload_n dX10_workOut_49 rfl rfl ?_
      exact hk_ireturn dX10_workOut_50 rfl rfl (by decide) (WOc (by unfold PT; rw [hr]; exact cI_f (by omega)) (q0.t s3.1.se) s3.2.2.1)
    · rw [s3.2.1, s3.1.e q2, nI_leI (by omega) (by omega)] at c41
      refine hk_aload_n dX10_workOut_44 rfl rfl ?_
      refine ivX10_308 rfl (md_wrong s3.2.2.1) dX10_workOut_45 (hk_lt (by decide)) rfl rfl rfl (by omega) ⟨by decide, by decide⟩ (Nat.le_of_ble_eq_true rfl) (hk_kd ?_)
      exact hk_ireturn dX10_workOut_48 rfl rfl (by decide) (WOf (by unfold PT; rw [hr]; exact cI_t (by omega)) (q0.t (s3.1.w (by decide)).se) (by rw [hk_w_eq, s3.2.1]) (by omega))
def clp (x : Int32) : Int32 := if x < 0 then 0 else if 1000000 < x then 1000000 else x
/-- law l of the reference: its text is one, and gives v -/
def TL (m : Nat → Nat → Int32) (l : Nat) (v : (Nat → Int32) → Int32) : Prop := l < 40 ∧ ∃ n c, m 68 l = nI n ∧ n ≤ 160 ∧ PE (fun j => m 67 (160 * l + j)) n 12 0 0 = .inr (n, c, v)
noncomputable def LV (m : Nat → Nat → Int32) (l : Nat) : (Nat → Int32) → Int32 := match PE (fun j => m 67 (160 * l + j)) (m 68 l).toNatClampNeg 12 0 0 with
  | .inr (_, _, v) => v
  | .inl _ => fun _ => 0
theorem TL.lv {l : Nat} {v : (Nat → Int32) → Int32} (h : TL m l v) : LV m l = v := by
  obtain ⟨_, n, c, h1, h2, h3⟩ := h
  unfold LV
  rw [h1, nI_clamp (by omega), h3]
theorem TL.k {l : Nat} {v : (Nat → Int32) → Int32} (h : TL m l v) (s : SF m m1) : TL m1 l v := by
  unfold TL
  rw [s.1 67 (by decide) (by decide), s.1 68 (by decide) (by decide)]
  exact h
theorem LV_k (s : SF m m1) : LV m1 = LV m := by
  unfold LV
  rw [s.1 67 (by decide) (by decide), s.1 68 (by decide) (by decide)]
def AL (m : Nat → Nat → Int32) (nL : Nat) : Prop := ∀ l, l < nL → TL m l (LV m l)
theorem AL.k {nL : Nat} (h : AL m nL) (s : SF m m1) : AL m1 nL := fun l hl => by rw [LV_k s]; exact (h l hl).k s
theorem TL.pt {l : Nat} {v : (Nat → Int32) → Int32} (h : TL m l v) : ∃ n c, m 68 l = nI n ∧ n ≤ 160 ∧ PT (fun j => m 67 (160 * l + j)) n = .inr (n, c, v) := by
  obtain ⟨_, n, c, h1, h2, h3⟩ := h
  exact ⟨n, c, h1, h2, by unfold PT; rw [h3]; exact cI_f (Nat.lt_irrefl n)⟩
set_option maxRecDepth 20000 in
set_option maxHeartbeats 2000000 in
theorem md_fareBy {l : Nat} {v : (Nat → Int32) → Int32} (hT : TL m l v) : hk_Ct MX10_fareBy 68 0 0 [.ref 37, .int (nI l)] (hk_h L m) (fun r h => ∃ m1, r = some (.int (clp (v (nmR m)))) ∧ h = hk_h L m1 ∧ SE m m1) := by
  obtain ⟨n, c, ht1, ht2, ht3⟩ := hT.pt
  have hl := hT.1
  refine hk_ofWP (by decide) (by simp [Value.category]) (Nat.le_of_ble_eq_true rfl) ?_
  show hk_WP _ _ _ _ _ _ _ [some (.ref 37), some (.int (nI l)), none] [] _ _
  refine hk_aload_n dX10_fareBy_0 rfl rfl ?_
  refine hk_sipush (v := 160) dX10_fareBy_1 (by decide) ?_
  refine hk_iload_n dX10_fareBy_4 rfl rfl ?_
  refine hk_imul dX10_fareBy_5 ?_
  rw [show (160 : Int32) * nI l = nI (160 * l) from nI_mul 160 l]
  refine hk_aload_n dX10_fareBy_6 rfl rfl ?_
  refine gfX10_100 rfl dX10_fareBy_7 (hk_lt (by decide)) rfl rfl ?_
  refine hk_iload_n dX10_fareBy_10 rfl rfl ?_
  refine hk_ian dX10_fareBy_11 (by decide) (fun _ => rfl) rfl (by omega) (by decide) ?_
  rw [ht1]
  refine ivX10_342 rfl (md_workOut (Or.inr ⟨l, hl, rfl, rfl⟩) ht2) dX10_fareBy_12 (hk_lt (by decide)) rfl rfl rfl (by decide) ⟨by decide, by decide⟩ (Nat.le_of_ble_eq_true rfl) (fun r h1 hq => ?_)
  obtain ⟨m3, rfl, rfl, s3, s4⟩ := WOj hq ht3
  refine hk_istore_n dX10_fareBy_15 rfl (by decide) rfl ?_
  refine hk_iload_n dX10_fareBy_16 rfl rfl ?_
  refine hk_if_ge (tgt := 24) dX10_fareBy_17 (by decide) (fun c17 => ?_) (fun c17 => ?_)
  · refine hk_iload_n dX10_fareBy_24 rfl rfl ?_
    refine hk_ldcw dX10_fareBy_25 hk_k10_354 ?_
    refine hk_icmp_le (tgt := 37) dX10_fareBy_28 (by decide) (fun c28 => ?_) (fun c28 => ?_)
    · refine hk_iload_n dX10_fareBy_37 rfl rfl ?_
      exact hk_ireturn dX10_fareBy_38 rfl rfl (by decide) ⟨m3, by unfold clp; first | rw [if_pos (Int32.not_le.mp c17)] | rw [if_neg (Int32.not_lt.mpr c17), if_neg (Int32.not_lt.mpr c28)] | rw [if_neg (Int32.not_lt.mpr c17), if_pos (Int32.not_le.mp c28)], rfl, s3⟩
    · refine hk_ldcw dX10_fareBy_31 hk_k10_354 ?_
      refine hk_goto (tgt := 38) dX10_fareBy_34 (by decide) ?_
      exact hk_ireturn dX10_fareBy_38 rfl rfl (by decide) ⟨m3, by unfold clp; first | rw [if_pos (Int32.not_le.mp c17)] | rw [if_neg (Int32.not_lt.mpr c17), if_neg (Int32.not_lt.mpr c28)] | rw [if_neg (Int32.not_lt.mpr c17), if_pos (Int32.not_le.mp c28)], rfl, s3⟩
  · refine hk_iconst (v := 0) dX10_fareBy_20 (by decide) ?_
    refine hk_goto (tgt := 38) dX10_fareBy_21 (by decide) ?_
    exact hk_ireturn dX10_fareBy_38 rfl rfl (by decide) ⟨m3, by unfold clp; first | rw [if_pos (Int32.not_le.mp c17)] | rw [if_neg (Int32.not_lt.mpr c17), if_neg (Int32.not_lt.mpr c28)] | rw [if_neg (Int32.not_lt.mpr c17), if_pos (Int32.not_le.mp c28)], rfl, s3⟩
def OA (m : Nat → Nat → Int32) (x : Int32) (o : Option ((Nat → Int32) → Int32)) : Prop := match o with
  | none => x < 0
  | some v => ∃ l, x = nI l ∧ TL m l v
def fv (x y : Option Int32) : Int32 := match x, y with
  | some a, some b => if b < a then b else a
  | some a, none => a
  | none, some b => b
  | none, none => -9
def fk (x y : Option Int32) : Int32 := match x, y with
  | some a, some b => if b < a then 1 else 0
  | some _, none => 0
  | none, some _ => 1
  | none, none => -9
theorem clp_0 {x : Int32} : ¬ clp x < 0 := by
  unfold clp
  by_cases h1 : x < 0
  · rw [if_pos h1]; decide
  · rw [if_neg h1]
    by_cases h2 : 1000000 < x
    · rw [if_pos h2]; decide
    · rw [if_neg h2]; exact h1
/-- what fare leaves -/
def FR (L : Nat) (m : Nat → Nat → Int32) (x y : Option Int32) (r : Option Value) (h : hk_H) : Prop := ∃ m1, r = some (.int (fv x y)) ∧ h = hk_h L m1 ∧ SG m m1 ∧ m1 37 80 = fk x y
theorem FRi {x y : Option Int32} {w : Int32} (hw : w = fv x y) (s : SG m m1) (hk : m1 37 80 = fk x y) : FR L m x y (some (.int w)) (hk_h L m1) := ⟨m1, by rw [hw], rfl, s, hk⟩
set_option maxRecDepth 20000 in
set_option maxHeartbeats 2000000 in
theorem md_fare00 {x : Int32} (ha : x < 0) {y : Int32} (hb : y < 0) : hk_Ct MX10_fare 69 0 0 [.ref 37, .int x, .int y] (hk_h L m) (FR L m none none) := by
  have s0 : SG m (hk_w m 37 80 (-9)) := SG.refl.w
  have n0 := s0.n
  refine hk_ofWP (by decide) (by simp [Value.category]) (Nat.le_of_ble_eq_true rfl) ?_
  show hk_WP _ _ _ _ _ _ _ [some (.ref 37), some (.int x), some (.int y), none, none] [] _ _
  refine hk_aload_n dX10_fare_0 rfl rfl ?_
  refine hk_bipush (v := (-9)) dX10_fare_1 (by decide) ?_
  refine pfX10_355 rfl dX10_fare_3 (hk_lt (by decide)) rfl (Nat.le_of_ble_eq_true rfl) (hk_st (j := 80) rfl ?_)
  refine hk_bipush (v := (-9)) dX10_fare_6 (by decide) ?_
  refine hk_istore_n dX10_fare_8 rfl (by decide) rfl ?_
  refine hk_iload_n dX10_fare_9 rfl rfl ?_
  refine hk_if_lt (tgt := 24) dX10_fare_10 (by decide) (fun _ => ?_) (fun c10 => absurd ha c10)
  refine hk_iload_n dX10_fare_24 rfl rfl ?_
  refine hk_if_lt (tgt := 53) dX10_fare_25 (by decide) (fun _ => ?_) (fun c25 => absurd hb c25)
  refine hk_iload_n dX10_fare_53 rfl rfl ?_
  exact hk_ireturn dX10_fare_54 rfl rfl (by decide) ⟨_, rfl, rfl, s0, hk_w_eq⟩
set_option maxRecDepth 20000 in
set_option maxHeartbeats 2000000 in
theorem md_fare01 {x : Int32} (ha : x < 0) {u : (Nat → Int32) → Int32} {k : Nat} (hb : TL m k u) : hk_Ct MX10_fare 69 0 0 [.ref 37, .int x, .int (nI k)] (hk_h L m) (FR L m none (some (clp (u (nmR m))))) := by
  have s0 : SG m (hk_w m 37 80 (-9)) := SG.refl.w
  have n0 := s0.n
  refine hk_ofWP (by decide) (by simp [Value.category]) (Nat.le_of_ble_eq_true rfl) ?_
  show hk_WP _ _ _ _ _ _ _ [some (.ref 37), some (.int x), some (.int (nI k)), none, none] [] _ _
  refine hk_aload_n dX10_fare_0 rfl rfl ?_
  refine hk_bipush (v := (-9)) dX10_fare_1 (by decide) ?_
  refine pfX10_355 rfl dX10_fare_3 (hk_lt (by decide)) rfl (Nat.le_of_ble_eq_true rfl) (hk_st (j := 80) rfl ?_)
  refine hk_bipush (v := (-9)) dX10_fare_6 (by decide) ?_
  refine hk_istore_n dX10_fare_8 rfl (by decide) rfl ?_
  refine hk_iload_n dX10_fare_9 rfl rfl ?_
  refine hk_if_lt (tgt := 24) dX10_fare_10 (by decide) (fun _ => ?_) (fun c10 => absurd ha c10)
  refine hk_iload_n dX10_fare_24 rfl rfl ?_
  refine hk_if_lt (tgt := 53) dX10_fare_25 (by decide) (fun c25 => absurd c25 (nI_pos (by have := hb.1; omega))) (fun _ => ?_)
  refine hk_aload_n dX10_fare_28 rfl rfl ?_
  refine hk_iload_n dX10_fare_29 rfl rfl ?_
  refine ivX10_358 rfl (md_fareBy (hb.k s0.f)) dX10_fare_30 (hk_lt (by decide)) rfl rfl rfl (by decide) ⟨by decide, by decide⟩ (Nat.le_of_ble_eq_true rfl) (fun r h1 hq => ?_)
  obtain ⟨m5, rfl, rfl, s5⟩ := hq
  rw [n0]
  have s6 := s0.t s5.g
  have k6 := s5.2 80 (by decide) (by decide) (by decide) (by decide)
  refine hk_istore dX10_fare_33 (by decide) rfl ?_
  refine hk_iload_n dX10_fare_35 rfl rfl ?_
  refine hk_if_lt (tgt := 45) dX10_fare_36 (by decide) (fun _ => ?_) (fun c36 => absurd (by decide) c36)
  refine hk_iload dX10_fare_45 rfl ?_
  refine hk_istore_n dX10_fare_47 rfl (by decide) rfl ?_
  refine hk_aload_n dX10_fare_48 rfl rfl ?_
  refine hk_iconst (v := 1) dX10_fare_49 (by decide) ?_
  refine pfX10_355 rfl dX10_fare_50 (hk_lt (by decide)) rfl (Nat.le_of_ble_eq_true rfl) (hk_st (j := 80) rfl ?_)
  refine hk_iload_n dX10_fare_53 rfl rfl ?_
  exact hk_ireturn dX10_fare_54 rfl rfl (by decide) ⟨_, rfl, rfl, s6.w, hk_w_eq⟩
set_option maxRecDepth 20000 in
set_option maxHeartbeats 2000000 in
theorem md_fare10 {v : (Nat → Int32) → Int32} {l : Nat} (ha : TL m l v) {y : Int32} (hb : y < 0) : hk_Ct MX10_fare 69 0 0 [.ref 37, .int (nI l), .int y] (hk_h L m) (FR L m (some (clp (v (nmR m)))) none) := by
  have s0 : SG m (hk_w m 37 80 (-9)) := SG.refl.w
  have n0 := s0.n
  refine hk_ofWP (by decide) (by simp [Value.category]) (Nat.le_of_ble_eq_true rfl) ?_
  show hk_WP _ _ _ _ _ _ _ [some (.ref 37), some (.int (nI l)), some (.int y), none, none] [] _ _
  refine hk_aload_n dX10_fare_0 rfl rfl ?_
  refine hk_bipush (v := (-9)) dX10_fare_1 (by decide) ?_
  refine pfX10_355 rfl dX10_fare_3 (hk_lt (by decide)) rfl (Nat.le_of_ble_eq_true rfl) (hk_st (j := 80) rfl ?_)
  refine hk_bipush (v := (-9)) dX10_fare_6 (by decide) ?_
  refine hk_istore_n dX10_fare_8 rfl (by decide) rfl ?_
  refine hk_iload_n dX10_fare_9 rfl rfl ?_
  refine hk_if_lt (tgt := 24) dX10_fare_10 (by decide) (fun c10 => absurd c10 (nI_pos (by have := ha.1; omega))) (fun _ => ?_)
  refine hk_aload_n dX10_fare_13 rfl rfl ?_
  refine hk_iload_n dX10_fare_14 rfl rfl ?_
  refine ivX10_358 rfl (md_fareBy (ha.k s0.f)) dX10_fare_15 (hk_lt (by decide)) rfl rfl rfl (by decide) ⟨by decide, by decide⟩ (Nat.le_of_ble_eq_true rfl) (fun r h1 hq => ?_)
  obtain ⟨m3, rfl, rfl, s3⟩ := hq
  rw [n0]
  have s4 := (s0.t s3.g).w (x := 0)
  have n4 := s4.n
  refine hk_istore_n dX10_fare_18 rfl (by decide) rfl ?_
  refine hk_aload_n dX10_fare_19 rfl rfl ?_
  refine hk_iconst (v := 0) dX10_fare_20 (by decide) ?_
  refine pfX10_355 rfl dX10_fare_21 (hk_lt (by decide)) rfl (Nat.le_of_ble_eq_true rfl) (hk_st (j := 80) rfl ?_)
  refine hk_iload_n dX10_fare_24 rfl rfl ?_
  refine hk_if_lt (tgt := 53) dX10_fare_25 (by decide) (fun _ => ?_) (fun c25 => absurd hb c25)
  refine hk_iload_n dX10_fare_53 rfl rfl ?_
  exact hk_ireturn dX10_fare_54 rfl rfl (by decide) ⟨_, rfl, rfl, s4, hk_w_eq⟩
set_option maxRecDepth 20000 in
set_option maxHeartbeats 2000000 in
theorem md_fare11 {v : (Nat → Int32) → Int32} {l : Nat} (ha : TL m l v) {u : (Nat → Int32) → Int32} {k : Nat} (hb : TL m k u) : hk_Ct MX10_fare 69 0 0 [.ref 37, .int (nI l), .int (nI k)] (hk_h L m) (FR L m (some (clp (v (nmR m)))) (some (clp (u (nmR m))))) := by
  have s0 : SG m (hk_w m 37 80 (-9)) := SG.refl.w
  have n0 := s0.n
  refine hk_ofWP (by decide) (by simp [Value.category]) (Nat.le_of_ble_eq_true rfl) ?_
  show hk_WP _ _ _ _ _ _ _ [some (.ref 37), some (.int (nI l)), some (.int (nI k)), none, none] [] _ _
  refine hk_aload_n dX10_fare_0 rfl rfl ?_
  refine hk_bipush (v := (-9)) dX10_fare_1 (by decide) ?_
  refine pfX10_355 rfl dX10_fare_3 (hk_lt (by decide)) rfl (Nat.le_of_ble_eq_true rfl) (hk_st (j := 80) rfl ?_)
  refine hk_bipush (v := (-9)) dX10_fare_6 (by decide) ?_
  refine hk_istore_n dX10_fare_8 rfl (by decide) rfl ?_
  refine hk_iload_n dX10_fare_9 rfl rfl ?_
  refine hk_if_lt (tgt := 24) dX10_fare_10 (by decide) (fun c10 => absurd c10 (nI_pos (by have := ha.1; omega))) (fun _ => ?_)
  refine hk_aload_n dX10_fare_13 rfl rfl ?_
  refine hk_iload_n dX10_fare_14 rfl rfl ?_
  refine ivX10_358 rfl (md_fareBy (ha.k s0.f)) dX10_fare_15 (hk_lt (by decide)) rfl rfl rfl (by decide) ⟨by decide, by decide⟩ (Nat.le_of_ble_eq_true rfl) (fun r h1 hq => ?_)
  obtain ⟨m3, rfl, rfl, s3⟩ := hq
  rw [n0]
  have s4 := (s0.t s3.g).w (x := 0)
  have n4 := s4.n
  refine hk_istore_n dX10_fare_18 rfl (by decide) rfl ?_
  refine hk_aload_n dX10_fare_19 rfl rfl ?_
  refine hk_iconst (v := 0) dX10_fare_20 (by decide) ?_
  refine pfX10_355 rfl dX10_fare_21 (hk_lt (by decide)) rfl (Nat.le_of_ble_eq_true rfl) (hk_st (j := 80) rfl ?_)
  refine hk_iload_n dX10_fare_24 rfl rfl ?_
  refine hk_if_lt (tgt := 53) dX10_fare_25 (by decide) (fun c25 => absurd c25 (nI_pos (by have := hb.1; omega))) (fun _ => ?_)
  refine hk_aload_n dX10_fare_28 rfl rfl ?_
  refine hk_iload_n dX10_fare_29 rfl rfl ?_
  refine ivX10_358 rfl (md_fareBy (hb.k s4.f)) dX10_fare_30 (hk_lt (by decide)) rfl rfl rfl (by decide) ⟨by decide, by decide⟩ (Nat.le_of_ble_eq_true rfl) (fun r h1 hq => ?_)
  obtain ⟨m5, rfl, rfl, s5⟩ := hq
  rw [n4]
  have s6 := s4.t s5.g
  have k6 := s5.2 80 (by decide) (by decide) (by decide) (by decide)
  refine hk_istore dX10_fare_33 (by decide) rfl ?_
  refine hk_iload_n dX10_fare_35 rfl rfl ?_
  refine hk_if_lt (tgt := 45) dX10_fare_36 (by decide) (fun c36 => absurd c36 clp_0) (fun _ => ?_)
  refine hk_iload dX10_fare_39 rfl ?_
  refine hk_iload_n dX10_fare_41 rfl rfl ?_
  refine hk_icmp_ge (tgt := 53) dX10_fare_42 (by decide) (fun c42 => ?_) (fun c42 => ?_)
  · refine hk_iload_n dX10_fare_53 rfl rfl ?_
    exact hk_ireturn dX10_fare_54 rfl rfl (by decide) ⟨_, by first | exact congrArg (fun z => some (Value.int z)) (if_pos (Int32.not_le.mp c42)).symm | exact congrArg (fun z => some (Value.int z)) (if_neg (Int32.not_lt.mpr c42)).symm, rfl, by first | exact s6.w | exact s6, by first | (rw [hk_w_eq]; exact (if_pos (Int32.not_le.mp c42)).symm) | (rw [k6, hk_w_eq]; exact (if_neg (Int32.not_lt.mpr c42)).symm)⟩
  · refine hk_iload dX10_fare_45 rfl ?_
    refine hk_istore_n dX10_fare_47 rfl (by decide) rfl ?_
    refine hk_aload_n dX10_fare_48 rfl rfl ?_
    refine hk_iconst (v := 1) dX10_fare_49 (by decide) ?_
    refine pfX10_355 rfl dX10_fare_50 (hk_lt (by decide)) rfl (Nat.le_of_ble_eq_true rfl) (hk_st (j := 80) rfl ?_)
    refine hk_iload_n dX10_fare_53 rfl rfl ?_
    exact hk_ireturn dX10_fare_54 rfl rfl (by decide) ⟨_, by first | exact congrArg (fun z => some (Value.int z)) (if_pos (Int32.not_le.mp c42)).symm | exact congrArg (fun z => some (Value.int z)) (if_neg (Int32.not_lt.mpr c42)).symm, rfl, by first | exact s6.w | exact s6, by first | (rw [hk_w_eq]; exact (if_pos (Int32.not_le.mp c42)).symm) | (rw [k6, hk_w_eq]; exact (if_neg (Int32.not_lt.mpr c42)).symm)⟩
theorem md_fare {x y : Int32} {oa ob : Option ((Nat → Int32) → Int32)} (ha : OA m x oa) (hb : OA m y ob) : hk_Ct MX10_fare 69 0 0 [.ref 37, .int x, .int y] (hk_h L m) (FR L m (oa.map (fun v => clp (v (nmR m)))) (ob.map (fun v => clp (v (nmR m))))) := by
  cases oa with
  | none =>
    cases ob with
    | none => exact md_fare00 ha hb
    | some u => obtain ⟨k, rfl, h2⟩ := hb; exact md_fare01 ha h2
  | some v =>
    obtain ⟨l, rfl, h1⟩ := ha
    cases ob with
    | none => exact md_fare10 h1 hb
    | some u => obtain ⟨k, rfl, h2⟩ := hb; exact md_fare11 h1 h2
/-- a trip's names -/
def NM (a0 a1 a2 a3 a4 a5 a6 a7 a8 : Int32) : Nat → Int32 := fun j => if j = 0 then a0 else if j = 1 then a1 else if j = 2 then a2 else if j = 3 then a3 else if j = 4 then a4 else if j = 5 then a5 else if j = 6 then a6 else if j = 7 then a7 else if j = 8 then a8 else 0
theorem NM_of {f g : Nat → Int32} {a0 a1 a2 a3 a4 a5 a6 a7 a8 : Int32} (hg : g = fun j => if j < 9 then f j else 0) (h : f 0 = a0 ∧ f 1 = a1 ∧ f 2 = a2 ∧ f 3 = a3 ∧ f 4 = a4 ∧ f 5 = a5 ∧ f 6 = a6 ∧ f 7 = a7 ∧ f 8 = a8) : g = NM a0 a1 a2 a3 a4 a5 a6 a7 a8 := by
  obtain ⟨rfl, rfl, rfl, rfl, rfl, rfl, rfl, rfl, rfl⟩ := h
  subst hg
  funext j
  unfold NM
  by_cases h9 : j < 9
  · have : j = 0 ∨ j = 1 ∨ j = 2 ∨ j = 3 ∨ j = 4 ∨ j = 5 ∨ j = 6 ∨ j = 7 ∨ j = 8 := by omega
    rcases this with rfl | rfl | rfl | rfl | rfl | rfl | rfl | rfl | rfl <;> rfl
  · rw [if_neg h9, if_neg (by omega), if_neg (by omega), if_neg (by omega), if_neg (by omega), if_neg (by omega), if_neg (by omega), if_neg (by omega), if_neg (by omega), if_neg (by omega)]
set_option maxRecDepth 20000 in
set_option maxHeartbeats 2000000 in
theorem md_name (y w g p b d u s : Int32) : hk_Ct MX10_name 1 0 0 [.ref 37, .int y, .int w, .int g, .int p, .int b, .int d, .int u, .int s] (hk_h L m) (fun r h => ∃ m1, r = none ∧ h = hk_h L m1 ∧ (∀ a, a ≠ 72 → m1 a = m a) ∧ nmR m1 = NM y ((y + 109) / 110 + w) w g d u p b s) := by
  refine hk_ofWP (by decide) (by simp [Value.category]) (Nat.le_of_ble_eq_true rfl) ?_
  show hk_WP _ _ _ _ _ _ _ [some (.ref 37), some (.int y), some (.int w), some (.int g), some (.int p), some (.int b), some (.int d), some (.int u), some (.int s)] [] _ _
  refine hk_aload_n dX10_name_0 rfl rfl ?_
  refine gfX10_112 rfl dX10_name_1 (hk_lt (by decide)) rfl rfl ?_
  refine hk_iconst (v := 0) dX10_name_4 (by decide) ?_
  refine hk_iload_n dX10_name_5 rfl rfl ?_
  refine hk_isn (j := 0) dX10_name_6 (by decide) (fun _ => rfl) rfl (by decide) (by decide) ?_
  refine hk_aload_n dX10_name_7 rfl rfl ?_
  refine gfX10_112 rfl dX10_name_8 (hk_lt (by decide)) rfl rfl ?_
  refine hk_iconst (v := 1) dX10_name_11 (by decide) ?_
  refine hk_iload_n dX10_name_12 rfl rfl ?_
  refine ivX10_277 rfl (md_minutesOf y) dX10_name_13 rfl rfl (by decide) ⟨by decide, by decide⟩ (Nat.le_of_ble_eq_true rfl) (hk_kd ?_)
  refine hk_iload_n dX10_name_16 rfl rfl ?_
  refine hk_iadd dX10_name_17 ?_
  refine hk_isn (j := 1) dX10_name_18 (by decide) (fun _ => rfl) rfl (by decide) (by decide) ?_
  refine hk_aload_n dX10_name_19 rfl rfl ?_
  refine gfX10_112 rfl dX10_name_20 (hk_lt (by decide)) rfl rfl ?_
  refine hk_iconst (v := 2) dX10_name_23 (by decide) ?_
  refine hk_iload_n dX10_name_24 rfl rfl ?_
  refine hk_isn (j := 2) dX10_name_25 (by decide) (fun _ => rfl) rfl (by decide) (by decide) ?_
  refine hk_aload_n dX10_name_26 rfl rfl ?_
  refine gfX10_112 rfl dX10_name_27 (hk_lt (by decide)) rfl rfl ?_
  refine hk_iconst (v := 3) dX10_name_30 (by decide) ?_
  refine hk_iload_n dX10_name_31 rfl rfl ?_
  refine hk_isn (j := 3) dX10_name_32 (by decide) (fun _ => rfl) rfl (by decide) (by decide) ?_
  refine hk_aload_n dX10_name_33 rfl rfl ?_
  refine gfX10_112 rfl dX10_name_34 (hk_lt (by decide)) rfl rfl ?_
  refine hk_iconst (v := 4) dX10_name_37 (by decide) ?_
  refine hk_iload dX10_name_38 rfl ?_
  refine hk_isn (j := 4) dX10_name_40 (by decide) (fun _ => rfl) rfl (by decide) (by decide) ?_
  refine hk_aload_n dX10_name_41 rfl rfl ?_
  refine gfX10_112 rfl dX10_name_42 (hk_lt (by decide)) rfl rfl ?_
  refine hk_iconst (v := 5) dX10_name_45 (by decide) ?_
  refine hk_iload dX10_name_46 rfl ?_
  refine hk_isn (j := 5) dX10_name_48 (by decide) (fun _ => rfl) rfl (by decide) (by decide) ?_
  refine hk_aload_n dX10_name_49 rfl rfl ?_
  refine gfX10_112 rfl dX10_name_50 (hk_lt (by decide)) rfl rfl ?_
  refine hk_bipush (v := 6) dX10_name_53 (by decide) ?_
  refine hk_iload dX10_name_55 rfl ?_
  refine hk_isn (j := 6) dX10_name_57 (by decide) (fun _ => rfl) rfl (by decide) (by decide) ?_
  refine hk_aload_n dX10_name_58 rfl rfl ?_
  refine gfX10_112 rfl dX10_name_59 (hk_lt (by decide)) rfl rfl ?_
  refine hk_bipush (v := 7) dX10_name_62 (by decide) ?_
  refine hk_iload dX10_name_64 rfl ?_
  refine hk_isn (j := 7) dX10_name_66 (by decide) (fun _ => rfl) rfl (by decide) (by decide) ?_
  refine hk_aload_n dX10_name_67 rfl rfl ?_
  refine gfX10_112 rfl dX10_name_68 (hk_lt (by decide)) rfl rfl ?_
  refine hk_bipush (v := 8) dX10_name_71 (by decide) ?_
  refine hk_iload dX10_name_73 rfl ?_
  refine hk_isn (j := 8) dX10_name_75 (by decide) (fun _ => rfl) rfl (by decide) (by decide) ?_
  exact hk_return dX10_name_76 rfl (by decide) ⟨_, rfl, rfl, fun a ha => by simp only [hk_wo ha], NM_of (f := fun j => _) rfl (by simp [hk_w_at, prm])⟩
/-- the names of trip t -/
def NTR (m : Nat → Nat → Int32) (t : Nat) : Nat → Int32 := NM (m 79 t) ((m 79 t + 109) / 110 + m 82 t) (m 82 t) (m 84 t) (rm (m 76 t / 1440) 7) (rm (m 76 t) 1440 / 60) (m 81 t) (m 80 t) (m 83 t)
set_option maxRecDepth 20000 in
set_option maxHeartbeats 2000000 in
theorem md_nameTrip {t : Nat} (ht : t < 300) (hn : m 84 t = 0 ∨ m 84 t = 1) : hk_Ct MX10_nameTrip 2 0 0 [.ref 37, .int (nI t)] (hk_h L m) (fun r h => ∃ m1, r = none ∧ h = hk_h L m1 ∧ (∀ a, a ≠ 72 → m1 a = m a) ∧ nmR m1 = NTR m t) := by
  refine hk_ofWP (by decide) (by simp [Value.category]) (Nat.le_of_ble_eq_true rfl) ?_
  show hk_WP _ _ _ _ _ _ _ [some (.ref 37), some (.int (nI t))] [] _ _
  refine hk_aload_n dX10_nameTrip_0 rfl rfl ?_
  refine hk_aload_n dX10_nameTrip_1 rfl rfl ?_
  refine gfX10_133 rfl dX10_nameTrip_2 (hk_lt (by decide)) rfl rfl ?_
  refine hk_iload_n dX10_nameTrip_5 rfl rfl ?_
  refine hk_ian dX10_nameTrip_6 (by decide) (fun _ => rfl) rfl (by omega) (by decide) ?_
  refine hk_aload_n dX10_nameTrip_7 rfl rfl ?_
  refine gfX10_142 rfl dX10_nameTrip_8 (hk_lt (by decide)) rfl rfl ?_
  refine hk_iload_n dX10_nameTrip_11 rfl rfl ?_
  refine hk_ian dX10_nameTrip_12 (by decide) (fun _ => rfl) rfl (by omega) (by decide) ?_
  refine hk_aload_n dX10_nameTrip_13 rfl rfl ?_
  refine gfX10_148 rfl dX10_nameTrip_14 (hk_lt (by decide)) rfl rfl ?_
  refine hk_iload_n dX10_nameTrip_17 rfl rfl ?_
  refine hk_zan dX10_nameTrip_18 (by decide) (fun _ => rfl) rfl (by omega) (by decide) ?_
  refine hk_if_eq (tgt := 26) dX10_nameTrip_19 (by decide) (fun c19 => ?_) (fun c19 => ?_)
  · refine hk_iconst (v := 0) dX10_nameTrip_26 (by decide) ?_
    refine hk_aload_n dX10_nameTrip_27 rfl rfl ?_
    refine gfX10_139 rfl dX10_nameTrip_28 (hk_lt (by decide)) rfl rfl ?_
    refine hk_iload_n dX10_nameTrip_31 rfl rfl ?_
    refine hk_ian dX10_nameTrip_32 (by decide) (fun _ => rfl) rfl (by omega) (by decide) ?_
    refine hk_aload_n dX10_nameTrip_33 rfl rfl ?_
    refine gfX10_136 rfl dX10_nameTrip_34 (hk_lt (by decide)) rfl rfl ?_
    refine hk_iload_n dX10_nameTrip_37 rfl rfl ?_
    refine hk_ian dX10_nameTrip_38 (by decide) (fun _ => rfl) rfl (by omega) (by decide) ?_
    refine hk_aload_n dX10_nameTrip_39 rfl rfl ?_
    refine gfX10_124 rfl dX10_nameTrip_40 (hk_lt (by decide)) rfl rfl ?_
    refine hk_iload_n dX10_nameTrip_43 rfl rfl ?_
    refine hk_ian dX10_nameTrip_44 (by decide) (fun _ => rfl) rfl (by omega) (by decide) ?_
    refine hk_sipush (v := 1440) dX10_nameTrip_45 (by decide) ?_
    refine hk_idiv dX10_nameTrip_48 (by decide) ?_
    refine hk_bipush (v := 7) dX10_nameTrip_49 (by decide) ?_
    refine hk_irem dX10_nameTrip_51 (by decide) ?_
    refine hk_aload_n dX10_nameTrip_52 rfl rfl ?_
    refine gfX10_124 rfl dX10_nameTrip_53 (hk_lt (by decide)) rfl rfl ?_
    refine hk_iload_n dX10_nameTrip_56 rfl rfl ?_
    refine hk_ian dX10_nameTrip_57 (by decide) (fun _ => rfl) rfl (by omega) (by decide) ?_
    refine hk_sipush (v := 1440) dX10_nameTrip_58 (by decide) ?_
    refine hk_irem dX10_nameTrip_61 (by decide) ?_
    refine hk_bipush (v := 60) dX10_nameTrip_62 (by decide) ?_
    refine hk_idiv dX10_nameTrip_64 (by decide) ?_
    refine hk_aload_n dX10_nameTrip_65 rfl rfl ?_
    refine gfX10_145 rfl dX10_nameTrip_66 (hk_lt (by decide)) rfl rfl ?_
    refine hk_iload_n dX10_nameTrip_69 rfl rfl ?_
    refine hk_ian dX10_nameTrip_70 (by decide) (fun _ => rfl) rfl (by omega) (by decide) ?_
    refine ivX10_350 rfl (md_name _ _ _ _ _ _ _ _) dX10_nameTrip_71 (hk_lt (by decide)) rfl rfl rfl (by decide) ⟨by decide, by decide⟩ (Nat.le_of_ble_eq_true rfl) (fun r h1 hq => ?_)
    obtain ⟨m3, rfl, rfl, q1, q2⟩ := hq
    exact hk_return dX10_nameTrip_74 rfl (by decide) ⟨m3, rfl, rfl, q1, by rw [q2]; unfold NTR; first | rw [c19] | rw [hn.resolve_left c19]⟩
  · refine hk_iconst (v := 1) dX10_nameTrip_22 (by decide) ?_
    refine hk_goto (tgt := 27) dX10_nameTrip_23 (by decide) ?_
    refine hk_aload_n dX10_nameTrip_27 rfl rfl ?_
    refine gfX10_139 rfl dX10_nameTrip_28 (hk_lt (by decide)) rfl rfl ?_
    refine hk_iload_n dX10_nameTrip_31 rfl rfl ?_
    refine hk_ian dX10_nameTrip_32 (by decide) (fun _ => rfl) rfl (by omega) (by decide) ?_
    refine hk_aload_n dX10_nameTrip_33 rfl rfl ?_
    refine gfX10_136 rfl dX10_nameTrip_34 (hk_lt (by decide)) rfl rfl ?_
    refine hk_iload_n dX10_nameTrip_37 rfl rfl ?_
    refine hk_ian dX10_nameTrip_38 (by decide) (fun _ => rfl) rfl (by omega) (by decide) ?_
    refine hk_aload_n dX10_nameTrip_39 rfl rfl ?_
    refine gfX10_124 rfl dX10_nameTrip_40 (hk_lt (by decide)) rfl rfl ?_
    refine hk_iload_n dX10_nameTrip_43 rfl rfl ?_
    refine hk_ian dX10_nameTrip_44 (by decide) (fun _ => rfl) rfl (by omega) (by decide) ?_
    refine hk_sipush (v := 1440) dX10_nameTrip_45 (by decide) ?_
    refine hk_idiv dX10_nameTrip_48 (by decide) ?_
    refine hk_bipush (v := 7) dX10_nameTrip_49 (by decide) ?_
    refine hk_irem dX10_nameTrip_51 (by decide) ?_
    refine hk_aload_n dX10_nameTrip_52 rfl rfl ?_
    refine gfX10_124 rfl dX10_nameTrip_53 (hk_lt (by decide)) rfl rfl ?_
    refine hk_iload_n dX10_nameTrip_56 rfl rfl ?_
    refine hk_ian dX10_nameTrip_57 (by decide) (fun _ => rfl) rfl (by omega) (by decide) ?_
    refine hk_sipush (v := 1440) dX10_nameTrip_58 (by decide) ?_
    refine hk_irem dX10_nameTrip_61 (by decide) ?_
    refine hk_bipush (v := 60) dX10_nameTrip_62 (by decide) ?_
    refine hk_idiv dX10_nameTrip_64 (by decide) ?_
    refine hk_aload_n dX10_nameTrip_65 rfl rfl ?_
    refine gfX10_145 rfl dX10_nameTrip_66 (hk_lt (by decide)) rfl rfl ?_
    refine hk_iload_n dX10_nameTrip_69 rfl rfl ?_
    refine hk_ian dX10_nameTrip_70 (by decide) (fun _ => rfl) rfl (by omega) (by decide) ?_
    refine ivX10_350 rfl (md_name _ _ _ _ _ _ _ _) dX10_nameTrip_71 (hk_lt (by decide)) rfl rfl rfl (by decide) ⟨by decide, by decide⟩ (Nat.le_of_ble_eq_true rfl) (fun r h1 hq => ?_)
    obtain ⟨m3, rfl, rfl, q1, q2⟩ := hq
    exact hk_return dX10_nameTrip_74 rfl (by decide) ⟨m3, rfl, rfl, q1, by rw [q2]; unfold NTR; first | rw [c19] | rw [hn.resolve_left c19]⟩
def fo (e : Int32) (o : Option Nat) : Int32 := match o with | none => e | some i => nI i
noncomputable def LQ (m : Nat → Nat → Int32) (k d w : Int32) (nL : Nat) : Option Nat := la (fun i => m 69 i = k ∧ m 71 i ≤ w ∧ m 70 i ≤ d) nL
theorem fo_y {k d w : Int32} {i : Nat} (h : m 69 i = k ∧ m 71 i ≤ w ∧ m 70 i ≤ d) : fo (-9) (LQ m k d w (i + 1)) = nI i := by unfold LQ; rw [la_y h]; rfl
theorem fo_n {k d w : Int32} {i : Nat} (h : ¬ (m 69 i = k ∧ m 71 i ≤ w ∧ m 70 i ≤ d)) : fo (-9) (LQ m k d w (i + 1)) = fo (-9) (LQ m k d w i) := by unfold LQ; rw [la_n h]
set_option maxRecDepth 20000 in
set_option maxHeartbeats 2000000 in
theorem lp_force {nL : Nat} (hL : m 37 43 = nI nL) (hL4 : nL ≤ 40) (k d w : Int32) (i : Nat) (hi : i ≤ nL) : hk_WP MX10_force 0 0 0 0 0 7 [some (.ref 37), some (.int k), some (.int d), some (.int w), some (.int (fo (-9) (LQ m k d w i))), some (.int (nI i))] [] (hk_h L m) (fun r h' => r = some (.int (fo (-9) (LQ m k d w nL))) ∧ h' = hk_h L m) := by
  refine hk_iload dX10_force_7 rfl ?_
  refine hk_aload_n dX10_force_9 rfl rfl ?_
  refine gfX10_339 rfl dX10_force_10 (hk_lt (by decide)) rfl rfl ?_
  refine hk_icmp_ge (tgt := 64) dX10_force_13 (by decide) (fun c13 => ?_) (fun c13 => ?_)
  · rw [hL, nI_leI (by omega) (by omega)] at c13
    refine hk_iload dX10_force_64 rfl ?_
    exact hk_ireturn dX10_force_66 rfl rfl (by decide) ⟨by rw [show i = nL by omega], rfl⟩
  · rw [hL, nI_leI (by omega) (by omega)] at c13
    refine hk_aload_n dX10_force_16 rfl rfl ?_
    refine gfX10_103 rfl dX10_force_17 (hk_lt (by decide)) rfl rfl ?_
    refine hk_iload dX10_force_20 rfl ?_
    refine hk_ian dX10_force_22 (by decide) (fun _ => rfl) rfl (by omega) (by decide) ?_
    refine hk_iload_n dX10_force_23 rfl rfl ?_
    refine hk_icmp_ne (tgt := 54) dX10_force_24 (by decide) (fun c24 => ?_) (fun c24 => ?_)
    · refine hk_iload dX10_force_54 rfl ?_
      refine hk_istore dX10_force_56 (by decide) rfl ?_
      refine hk_iinc (v := nI (i + 1)) dX10_force_58 rfl (nI_1 i) (by decide) rfl ?_
      refine hk_goto (tgt := 7) dX10_force_61 (by decide) ?_
      have hlt : i < nL := by omega
      have hs := lp_force hL hL4 k d w (i + 1) (by omega)
      first
      | (rw [fo_y ⟨c24, Int32.not_lt.mp c35, Int32.not_lt.mp c46⟩] at hs; exact hs)
      | (rw [fo_n (fun z => c24 z.1)] at hs; exact hs)
      | (rw [fo_n (fun z => absurd c35 (Int32.not_lt.mpr z.2.1))] at hs; exact hs)
      | (rw [fo_n (fun z => absurd c46 (Int32.not_lt.mpr z.2.2))] at hs; exact hs)
    · refine hk_aload_n dX10_force_27 rfl rfl ?_
      refine gfX10_109 rfl dX10_force_28 (hk_lt (by decide)) rfl rfl ?_
      refine hk_iload dX10_force_31 rfl ?_
      refine hk_ian dX10_force_33 (by decide) (fun _ => rfl) rfl (by omega) (by decide) ?_
      refine hk_iload_n dX10_force_34 rfl rfl ?_
      refine hk_icmp_gt (tgt := 54) dX10_force_35 (by decide) (fun c35 => ?_) (fun c35 => ?_)
      · refine hk_iload dX10_force_54 rfl ?_
        refine hk_istore dX10_force_56 (by decide) rfl ?_
        refine hk_iinc (v := nI (i + 1)) dX10_force_58 rfl (nI_1 i) (by decide) rfl ?_
        refine hk_goto (tgt := 7) dX10_force_61 (by decide) ?_
        have hlt : i < nL := by omega
        have hs := lp_force hL hL4 k d w (i + 1) (by omega)
        first
        | (rw [fo_y ⟨c24, Int32.not_lt.mp c35, Int32.not_lt.mp c46⟩] at hs; exact hs)
        | (rw [fo_n (fun z => c24 z.1)] at hs; exact hs)
        | (rw [fo_n (fun z => absurd c35 (Int32.not_lt.mpr z.2.1))] at hs; exact hs)
        | (rw [fo_n (fun z => absurd c46 (Int32.not_lt.mpr z.2.2))] at hs; exact hs)
      · refine hk_aload_n dX10_force_38 rfl rfl ?_
        refine gfX10_106 rfl dX10_force_39 (hk_lt (by decide)) rfl rfl ?_
        refine hk_iload dX10_force_42 rfl ?_
        refine hk_ian dX10_force_44 (by decide) (fun _ => rfl) rfl (by omega) (by decide) ?_
        refine hk_iload_n dX10_force_45 rfl rfl ?_
        refine hk_icmp_gt (tgt := 54) dX10_force_46 (by decide) (fun c46 => ?_) (fun c46 => ?_)
        · refine hk_iload dX10_force_54 rfl ?_
          refine hk_istore dX10_force_56 (by decide) rfl ?_
          refine hk_iinc (v := nI (i + 1)) dX10_force_58 rfl (nI_1 i) (by decide) rfl ?_
          refine hk_goto (tgt := 7) dX10_force_61 (by decide) ?_
          have hlt : i < nL := by omega
          have hs := lp_force hL hL4 k d w (i + 1) (by omega)
          first
          | (rw [fo_y ⟨c24, Int32.not_lt.mp c35, Int32.not_lt.mp c46⟩] at hs; exact hs)
          | (rw [fo_n (fun z => c24 z.1)] at hs; exact hs)
          | (rw [fo_n (fun z => absurd c35 (Int32.not_lt.mpr z.2.1))] at hs; exact hs)
          | (rw [fo_n (fun z => absurd c46 (Int32.not_lt.mpr z.2.2))] at hs; exact hs)
        · refine hk_iload dX10_force_49 rfl ?_
          refine hk_goto (tgt := 56) dX10_force_51 (by decide) ?_
          refine hk_istore dX10_force_56 (by decide) rfl ?_
          refine hk_iinc (v := nI (i + 1)) dX10_force_58 rfl (nI_1 i) (by decide) rfl ?_
          refine hk_goto (tgt := 7) dX10_force_61 (by decide) ?_
          have hlt : i < nL := by omega
          have hs := lp_force hL hL4 k d w (i + 1) (by omega)
          first
          | (rw [fo_y ⟨c24, Int32.not_lt.mp c35, Int32.not_lt.mp c46⟩] at hs; exact hs)
          | (rw [fo_n (fun z => c24 z.1)] at hs; exact hs)
          | (rw [fo_n (fun z => absurd c35 (Int32.not_lt.mpr z.2.1))] at hs; exact hs)
          | (rw [fo_n (fun z => absurd c46 (Int32.not_lt.mpr z.2.2))] at hs; exact hs)
termination_by nL - i
decreasing_by all_goals omega
set_option maxRecDepth 20000 in
set_option maxHeartbeats 2000000 in
theorem md_force {nL : Nat} (hL : m 37 43 = nI nL) (hL4 : nL ≤ 40) (k d w : Int32) : hk_Cd MX10_force 0 0 0 [.ref 37, .int k, .int d, .int w] (hk_h L m) (some (.int (fo (-9) (LQ m k d w nL)))) (hk_h L m) := by
  refine hk_ofWP (by decide) (by simp [Value.category]) (Nat.le_of_ble_eq_true rfl) ?_
  show hk_WP _ _ _ _ _ _ _ [some (.ref 37), some (.int k), some (.int d), some (.int w), none, none] [] _ _
  refine hk_bipush (v := (-9)) dX10_force_0 (by decide) ?_
  refine hk_istore dX10_force_2 (by decide) rfl ?_
  refine hk_iconst (v := 0) dX10_force_4 (by decide) ?_
  refine hk_istore dX10_force_5 (by decide) rfl ?_
  exact lp_force hL hL4 k d w 0 (Nat.zero_le _)
theorem LQ_lt {k d w : Int32} {nL i : Nat} (h : LQ m k d w nL = some i) : i < nL ∧ m 69 i = k ∧ m 71 i ≤ w ∧ m 70 i ≤ d := la_lt h
theorem OA_LQ {k d w : Int32} {nL : Nat} (h : AL m nL) : OA m (fo (-9) (LQ m k d w nL)) ((LQ m k d w nL).map (LV m)) := by
  cases e : LQ m k d w nL with
  | none => exact (by decide : (-9 : Int32) < 0)
  | some i => exact ⟨i, rfl, h i (LQ_lt e).1⟩
theorem LQ_k {k d w : Int32} {nL : Nat} (s : SF m m1) : LQ m1 k d w nL = LQ m k d w nL := by
  unfold LQ
  rw [s.1 69 (by decide) (by decide), s.1 70 (by decide) (by decide), s.1 71 (by decide) (by decide)]
/-- by the law of a kind in force on a day as known on another, for names -/
noncomputable def fo1 (m : Nat → Nat → Int32) (nm : Nat → Int32) (k d w : Int32) (nL : Nat) : Option Int32 := (LQ m k d w nL).map (fun l => clp (LV m l nm))
theorem fo1_k {nm : Nat → Int32} {k d w : Int32} {nL : Nat} (s : SF m m1) : fo1 m1 nm k d w nL = fo1 m nm k d w nL := by
  unfold fo1
  rw [LQ_k s, LV_k s]
set_option maxRecDepth 20000 in
set_option maxHeartbeats 2000000 in
theorem md_dueOf {nL : Nat} (hL : m 37 43 = nI nL) (hL4 : nL ≤ 40) (hA : AL m nL) {t : Nat} (ht : t < 300) (hn : m 84 t = 0 ∨ m 84 t = 1) (w : Int32) : hk_Ct MX10_dueOf 70 0 0 [.ref 37, .int (nI t), .int w] (hk_h L m) (fun r h => ∃ m1, r = some (.int (fv (fo1 m (NTR m t) 0 (m 76 t / 1440) w nL) (fo1 m (NTR m t) 1 (m 76 t / 1440) w nL))) ∧ h = hk_h L m1 ∧ SF m m1 ∧ m1 37 80 = fk (fo1 m (NTR m t) 0 (m 76 t / 1440) w nL) (fo1 m (NTR m t) 1 (m 76 t / 1440) w nL)) := by
  refine hk_ofWP (by decide) (by simp [Value.category]) (Nat.le_of_ble_eq_true rfl) ?_
  show hk_WP _ _ _ _ _ _ _ [some (.ref 37), some (.int (nI t)), some (.int w), none] [] _ _
  refine hk_aload_n dX10_dueOf_0 rfl rfl ?_
  refine gfX10_124 rfl dX10_dueOf_1 (hk_lt (by decide)) rfl rfl ?_
  refine hk_iload_n dX10_dueOf_4 rfl rfl ?_
  refine hk_ian dX10_dueOf_5 (by decide) (fun _ => rfl) rfl (by omega) (by decide) ?_
  refine hk_sipush (v := 1440) dX10_dueOf_6 (by decide) ?_
  refine hk_idiv dX10_dueOf_9 (by decide) ?_
  refine hk_istore_n dX10_dueOf_10 rfl (by decide) rfl ?_
  refine hk_aload_n dX10_dueOf_11 rfl rfl ?_
  refine hk_iload_n dX10_dueOf_12 rfl rfl ?_
  refine ivX10_361 rfl (md_nameTrip ht hn) dX10_dueOf_13 (hk_lt (by decide)) rfl rfl rfl (by decide) ⟨by decide, by decide⟩ (Nat.le_of_ble_eq_true rfl) (fun r h1 hq => ?_)
  obtain ⟨m3, rfl, rfl, q1, q2⟩ := hq
  have s3 := SF.of72 q1
  have hL3 : m3 37 43 = nI nL := by rw [q1 37 (by decide)]; exact hL
  refine hk_aload_n dX10_dueOf_16 rfl rfl ?_
  refine hk_aload_n dX10_dueOf_17 rfl rfl ?_
  refine hk_iconst (v := 0) dX10_dueOf_18 (by decide) ?_
  refine hk_iload_n dX10_dueOf_19 rfl rfl ?_
  refine hk_iload_n dX10_dueOf_20 rfl rfl ?_
  refine ivX10_345 rfl (md_force hL3 hL4 _ _ _) dX10_dueOf_21 (hk_lt (by decide)) rfl rfl rfl (by decide) ⟨by decide, by decide⟩ (Nat.le_of_ble_eq_true rfl) (hk_kd ?_)
  refine hk_aload_n dX10_dueOf_24 rfl rfl ?_
  refine hk_iconst (v := 1) dX10_dueOf_25 (by decide) ?_
  refine hk_iload_n dX10_dueOf_26 rfl rfl ?_
  refine hk_iload_n dX10_dueOf_27 rfl rfl ?_
  refine ivX10_345 rfl (md_force hL3 hL4 _ _ _) dX10_dueOf_28 (hk_lt (by decide)) rfl rfl rfl (by decide) ⟨by decide, by decide⟩ (Nat.le_of_ble_eq_true rfl) (hk_kd ?_)
  refine ivX10_364 rfl (md_fare (OA_LQ (hA.k s3)) (OA_LQ (hA.k s3))) dX10_dueOf_31 (hk_lt (by decide)) rfl rfl rfl (by decide) ⟨by decide, by decide⟩ (Nat.le_of_ble_eq_true rfl) (fun r h1 hq => ?_)
  obtain ⟨m4, rfl, rfl, q3, q4⟩ := hq
  simp only [Option.map_map] at q4 ⊢
  exact hk_ireturn dX10_dueOf_34 rfl rfl (by decide) ⟨m4, by rw [q2, LQ_k s3, LQ_k s3, LV_k s3]; rfl, rfl, s3.t q3.f, by rw [q4, q2, LQ_k s3, LQ_k s3, LV_k s3]; rfl⟩
end MEx
