/-! THE CLASS makes a law -/
section MLx
variable {L : Nat} {m m0 m1 m2 m3 : Nat → Nat → Int32} {z : Nat → Nat}
theorem RS0 {n : Nat} (hn : m 16 2 = nI n) : RS m 0 [] n 0 (hk_w (hk_w m 16 3 0) 16 4 0) := by
  refine ⟨⟨fun a h1 h2 => by rw [hk_wo h1, hk_wo h1], ?_, ?_⟩, ?_, fun j hj => absurd hj (Nat.not_lt_zero _), fun j hj => absurd hj (Nat.not_lt_zero _)⟩
  · rw [hk_w_off (by decide), hk_w_off (by decide)]; exact hn
  · rw [hk_w_off (by decide), hk_w_eq]; rfl
  · rw [hk_w_eq]; rfl
set_option maxRecDepth 20000 in
set_option maxHeartbeats 2000000 in
theorem ct_isLaw (hN : NameOf L) {n : Nat} (hn : m 16 2 = nI n) (hn2 : n ≤ 160) : hk_Ct MX5_isLaw 85 0 0 [.ref 16] (hk_h L m) (RP L m 0 n (PT (m 17) n)) := by
  have s0 := RS0 hn
  have e0 := s0.1.1 17 (by decide) (by decide)
  refine hk_ofWP (by decide) (by simp [Value.category]) (Nat.le_of_ble_eq_true rfl) ?_
  show hk_WP _ _ _ _ _ _ _ [some (.ref 16)] [] _ _
  refine hk_aload_n dX5_isLaw_0 rfl rfl ?_
  refine hk_iconst (v := 0) dX5_isLaw_1 (by decide) ?_
  refine pfX5_22 rfl dX5_isLaw_2 (hk_lt (by decide)) rfl (Nat.le_of_ble_eq_true rfl) (hk_st (j := 3) rfl ?_)
  refine hk_aload_n dX5_isLaw_5 rfl rfl ?_
  refine hk_iconst (v := 0) dX5_isLaw_6 (by decide) ?_
  refine pfX5_25 rfl dX5_isLaw_7 (hk_lt (by decide)) rfl (Nat.le_of_ble_eq_true rfl) (hk_st (j := 4) rfl ?_)
  refine hk_aload_n dX5_isLaw_10 rfl rfl ?_
  refine hk_iconst (v := 0) dX5_isLaw_11 (by decide) ?_
  refine ivX5_28 rfl (rd_E hN 12 (Nat.le_refl _) _ n 0 0 s0.1.2.1 hn2 s0.1.2.2 (Nat.zero_le _) s0.2.1 (Nat.le_refl _)) dX5_isLaw_12 (hk_lt (by decide)) rfl rfl rfl (by decide) ⟨by decide, by decide⟩ (Nat.le_of_ble_eq_true rfl) (fun r h1 hq => ?_)
  rw [e0] at hq
  rcases hr : PE (m 17) n 12 0 0 with f | ⟨p1, c1, v1⟩
  · obtain ⟨m1, rfl, rfl, s1⟩ := RPi s0 hq hr
    refine hk_if_eq (tgt := 33) dX5_isLaw_15 (by decide) (fun _ => ?_) (fun c15 => absurd (by decide) c15)
    refine hk_iconst (v := 0) dX5_isLaw_33 (by decide) ?_
    exact hk_ireturn dX5_isLaw_34 rfl rfl (by decide) (RPf (by unfold PT; rw [hr]) s1)
  · obtain ⟨m1, rfl, rfl, s1⟩ := RPj s0 rfl hq hr
    have hB := PB_PE (m 17) n 12 0 0 (Nat.zero_le _)
    rw [hr] at hB
    simp only at hB
    refine hk_if_eq (tgt := 33) dX5_isLaw_15 (by decide) (fun c15 => absurd c15 (by decide)) (fun _ => ?_)
    refine hk_aload_n dX5_isLaw_18 rfl rfl ?_
    refine gfX5_22 rfl dX5_isLaw_19 (hk_lt (by decide)) rfl rfl ?_
    refine hk_aload_n dX5_isLaw_22 rfl rfl ?_
    refine gfX5_18 rfl dX5_isLaw_23 (hk_lt (by decide)) rfl rfl ?_
    refine hk_icmp_ne (tgt := 33) dX5_isLaw_26 (by decide) (fun c26 => ?_) (fun c26 => ?_)
    · rw [s1.1.2.2, s1.1.2.1, nI_eq (by omega) (by omega)] at c26
      refine hk_iconst (v := 0) dX5_isLaw_33 (by decide) ?_
      exact hk_ireturn dX5_isLaw_34 rfl rfl (by decide) (by first | exact RPc (by unfold PT; rw [hr]; exact cI_f (by omega)) s1 | exact RPf (by unfold PT; rw [hr]; exact cI_t (by omega)) s1.1)
    · rw [s1.1.2.2, s1.1.2.1, nI_eq (by omega) (by omega)] at c26
      refine hk_iconst (v := 1) dX5_isLaw_29 (by decide) ?_
      refine hk_goto (tgt := 34) dX5_isLaw_30 (by decide) ?_
      exact hk_ireturn dX5_isLaw_34 rfl rfl (by decide) (by first | exact RPc (by unfold PT; rw [hr]; exact cI_f (by omega)) s1 | exact RPf (by unfold PT; rw [hr]; exact cI_t (by omega)) s1.1)
theorem hk_up_at {h : hk_H} {a : Nat} {x : hk_E} : (hk_up h a x).2 a = x := if_pos rfl
theorem hk_up_ne {h : hk_H} {a b : Nat} {x : hk_E} (e : ¬ b = a) : (hk_up h a x).2 b = h.2 b := if_neg e
theorem hk_ent_dyn {L L' q : Nat} (h : 99 ≤ q) {f : Nat → Int32} : hk_ent L q f = hk_ent L' q f := by
  unfold hk_ent
  rw [List.getElem?_eq_none (show hk_tab.length ≤ q from Nat.le_trans (by decide) h)]
theorem hk_ent_L {L L' : Nat} : ∀ (q : Nat), q ≠ 19 → ∀ f : Nat → Int32, hk_ent L q f = hk_ent L' q f
  | 0, _, _ => rfl
  | 1, _, _ => rfl
  | 2, _, _ => rfl
  | 3, _, _ => rfl
  | 4, _, _ => rfl
  | 5, _, _ => rfl
  | 6, _, _ => rfl
  | 7, _, _ => rfl
  | 8, _, _ => rfl
  | 9, _, _ => rfl
  | 10, _, _ => rfl
  | 11, _, _ => rfl
  | 12, _, _ => rfl
  | 13, _, _ => rfl
  | 14, _, _ => rfl
  | 15, _, _ => rfl
  | 16, _, _ => rfl
  | 17, _, _ => rfl
  | 18, _, _ => rfl
  | 19, h, _ => absurd rfl h
  | 20, _, _ => rfl
  | 21, _, _ => rfl
  | 22, _, _ => rfl
  | 23, _, _ => rfl
  | 24, _, _ => rfl
  | 25, _, _ => rfl
  | 26, _, _ => rfl
  | 27, _, _ => rfl
  | 28, _, _ => rfl
  | 29, _, _ => rfl
  | 30, _, _ => rfl
  | 31, _, _ => rfl
  | 32, _, _ => rfl
  | 33, _, _ => rfl
  | 34, _, _ => rfl
  | 35, _, _ => rfl
  | 36, _, _ => rfl
  | 37, _, _ => rfl
  | 38, _, _ => rfl
  | 39, _, _ => rfl
  | 40, _, _ => rfl
  | 41, _, _ => rfl
  | 42, _, _ => rfl
  | 43, _, _ => rfl
  | 44, _, _ => rfl
  | 45, _, _ => rfl
  | 46, _, _ => rfl
  | 47, _, _ => rfl
  | 48, _, _ => rfl
  | 49, _, _ => rfl
  | 50, _, _ => rfl
  | 51, _, _ => rfl
  | 52, _, _ => rfl
  | 53, _, _ => rfl
  | 54, _, _ => rfl
  | 55, _, _ => rfl
  | 56, _, _ => rfl
  | 57, _, _ => rfl
  | 58, _, _ => rfl
  | 59, _, _ => rfl
  | 60, _, _ => rfl
  | 61, _, _ => rfl
  | 62, _, _ => rfl
  | 63, _, _ => rfl
  | 64, _, _ => rfl
  | 65, _, _ => rfl
  | 66, _, _ => rfl
  | 67, _, _ => rfl
  | 68, _, _ => rfl
  | 69, _, _ => rfl
  | 70, _, _ => rfl
  | 71, _, _ => rfl
  | 72, _, _ => rfl
  | 73, _, _ => rfl
  | 74, _, _ => rfl
  | 75, _, _ => rfl
  | 76, _, _ => rfl
  | 77, _, _ => rfl
  | 78, _, _ => rfl
  | 79, _, _ => rfl
  | 80, _, _ => rfl
  | 81, _, _ => rfl
  | 82, _, _ => rfl
  | 83, _, _ => rfl
  | 84, _, _ => rfl
  | 85, _, _ => rfl
  | 86, _, _ => rfl
  | 87, _, _ => rfl
  | 88, _, _ => rfl
  | 89, _, _ => rfl
  | 90, _, _ => rfl
  | 91, _, _ => rfl
  | 92, _, _ => rfl
  | 93, _, _ => rfl
  | 94, _, _ => rfl
  | 95, _, _ => rfl
  | 96, _, _ => rfl
  | 97, _, _ => rfl
  | 98, _, _ => rfl
  | q + 99, _, _ => hk_ent_dyn (Nat.le_add_left 99 q)
/-- the heap behind a new law -/
def mL (m3 : Nat → Nat → Int32) (L N : Nat) (g : Nat → Int32) (k f d : Int32) : Nat → Nat → Int32 := fun q =>
  if q = 99 + 2 * L + 1 then upd g 1000 (nI N) else if q = 99 + 2 * L then (fun j => if j = 0 then k else if j = 1 then f else if j = 2 then d else 0) else hk_w m3 15 2 (nI (L + 1)) q
theorem mL_a {N : Nat} {g : Nat → Int32} {k f d : Int32} : mL m3 L N g k f d (99 + 2 * L + 1) = upd g 1000 (nI N) := if_pos rfl
theorem mL_o {N : Nat} {g : Nat → Int32} {k f d : Int32} : mL m3 L N g k f d (99 + 2 * L) = fun j => if j = 0 then k else if j = 1 then f else if j = 2 then d else 0 := by
  unfold mL
  rw [if_neg (by omega), if_pos rfl]
theorem mL_n {N q : Nat} {g : Nat → Int32} {k f d : Int32} (h1 : ¬ q = 99 + 2 * L + 1) (h2 : ¬ q = 99 + 2 * L) : mL m3 L N g k f d q = hk_w m3 15 2 (nI (L + 1)) q := by
  unfold mL
  rw [if_neg h1, if_neg h2]
theorem law_heap {N : Nat} {g : Nat → Int32} {k f d : Int32} (hN : N < 160) :
    hk_up (hk_up (hk_up (hk_up (hk_push (hk_push (hk_h L m3) (.inr (3, [.int 0, .int 0, .int 0, .null]))) (.inl (0, N, .inl g))) (99 + 2 * L) (.inr (3, [.int k, .int f, .int d, .ref (99 + 2 * L + 1)]))) 19 (.inl (2, 40, .inr (va_up (fun j => if j < L then some (99 + 2 * j) else none) L (some (99 + 2 * L)))))) 15 (.inr (4, [.ref 16, .ref 19, .int (nI (L + 1)), .ref 20, .ref 21]))) (99 + 2 * L + 1) (.inl (0, N, .inl (upd g 1000 (nI N)))) = hk_h (L + 1) (mL m3 L N g k f d) := by
  refine Prod.ext ?_ ?_
  · show hk_C0 + 2 * L + 1 + 1 = hk_C0 + 2 * (L + 1); omega
  funext q
  show (if q = 99 + 2 * L + 1 then _ else if q = 15 then _ else if q = 19 then _ else if q = 99 + 2 * L then _ else if q = hk_C0 + 2 * L + 1 then _ else if q = hk_C0 + 2 * L then _ else hk_ent L q (m3 q)) = hk_ent (L + 1) q (mL m3 L N g k f d q)
  by_cases h1 : q = 99 + 2 * L + 1
  · subst h1
    rw [if_pos rfl, mL_a, ent_a, upd_e, nI_clamp (by omega)]
  · rw [if_neg h1]
    by_cases h2 : q = 99 + 2 * L
    · subst h2
      rw [if_neg (by omega), if_neg (by omega), if_pos rfl, mL_o, ent_o]
      rfl
    · rw [mL_n h1 h2]
      by_cases h3 : q = 15
      · subst h3
        rw [if_pos rfl, hk_wt]
        rfl
      · rw [if_neg h3]
        by_cases h4 : q = 19
        · subst h4
          rw [if_pos rfl]
          show _ = (.inl (2, 40, .inr (fun j => if j < L + 1 then some (99 + 2 * j) else none)) : hk_E)
          congr 3
          congr 1
          funext j
          by_cases h5 : j = L
          · subst h5; rw [va_up_self, if_pos (Nat.lt_succ_self j)]
          · rw [va_up_ne _ _ h5]
            by_cases h6 : j < L
            · show (if j < L then some (99 + 2 * j) else none) = _
              rw [if_pos h6, if_pos (by omega)]
            · show (if j < L then some (99 + 2 * j) else none) = _
              rw [if_neg h6, if_neg (by omega)]
        · rw [if_neg h4, if_neg h2, if_neg (show ¬ q = hk_C0 + 2 * L + 1 from h1), if_neg (show ¬ q = hk_C0 + 2 * L from h2), hk_wo h3]
          exact hk_ent_L q h4 _
/-- what makeLaw leaves and answers -/
def ML (L : Nat) (m : Nat → Nat → Int32) (k f d : Int32) (T : LRes) (r : Option Value) (h : hk_H) : Prop := match T with
  | .inl q => ∃ m4, r = some (.int (-100 - nI q)) ∧ h = hk_h L m4 ∧ (∀ a, a ≠ 16 → a ≠ 18 → m4 a = m a) ∧ m4 16 2 = nI 0
  | .inr (_, c, _) => ∃ m4, r = some (.int (nI L)) ∧ h = hk_h (L + 1) m4 ∧ (∀ a, a ≠ 15 → a ≠ 16 → a ≠ 18 → a ≠ 99 + 2 * L → a ≠ 99 + 2 * L + 1 → m4 a = m a) ∧ m4 15 2 = nI (L + 1) ∧ m4 16 2 = nI 0 ∧ m4 (99 + 2 * L) 0 = k ∧ m4 (99 + 2 * L) 1 = f ∧ m4 (99 + 2 * L) 2 = d ∧ m4 (99 + 2 * L + 1) 1000 = nI c.length ∧ ∀ j, j < c.length → m4 (99 + 2 * L + 1) j = c.getD j 0
set_option maxRecDepth 20000 in
set_option maxHeartbeats 2000000 in
theorem ct_makeLaw0 (hN : NameOf L) (hL : m 15 2 = nI L) (hL4 : L < 40) {n : Nat} (hn : m 16 2 = nI n) (hn2 : n ≤ 160) (x f d : Int32) : hk_Ct MX4_makeLaw 86 2 164 [.ref 15, .int x, .int f, .int d] (hk_h L m) (fun r h => ∃ h', ML L m x f d (PT (m 17) n) r h' ∧ hk_eqv h h') := by
  refine hk_ofWP (by decide) (by simp [Value.category]) (Nat.le_of_ble_eq_true rfl) ?_
  show hk_WP _ _ _ _ _ _ _ [some (.ref 15), some (.int x), some (.int f), some (.int d), none] [] _ _
  refine hk_aload_n dX4_makeLaw_0 rfl rfl ?_
  refine gfX4_43 rfl dX4_makeLaw_1 (hk_lt (by decide)) rfl rfl ?_
  refine hk_bipush (v := 40) dX4_makeLaw_4 (by decide) ?_
  refine hk_icmp_lt (tgt := 12) dX4_makeLaw_6 (by decide) (fun _ => ?_) (fun c6 => absurd (by rw [hL, show (40 : Int32) = nI 40 from rfl]; exact nI_lt hL4 (by decide)) c6)
  refine hk_aload_n dX4_makeLaw_12 rfl rfl ?_
  refine gfX4_12 rfl dX4_makeLaw_13 (hk_lt (by decide)) rfl rfl ?_
  refine ivX4_47 rfl (ct_isLaw hN hn hn2) dX4_makeLaw_16 (hk_lt (by decide)) rfl rfl rfl (by decide) ⟨by decide, by decide⟩ (Nat.le_of_ble_eq_true rfl) (fun r h1 hq => ?_)
  rcases hr : PT (m 17) n with q | ⟨p, c, v⟩
  · rw [hr] at hq
    obtain ⟨m3, rfl, rfl, s3⟩ := hq
    refine hk_istore dX4_makeLaw_19 (by decide) rfl ?_
    refine hk_aload_n dX4_makeLaw_21 rfl rfl ?_
    refine gfX4_12 rfl dX4_makeLaw_22 (hk_lt (by decide)) rfl rfl ?_
    refine hk_iconst (v := 0) dX4_makeLaw_25 (by decide) ?_
    refine pfX4_51 rfl dX4_makeLaw_26 (hk_lt (by decide)) rfl (Nat.le_of_ble_eq_true rfl) (hk_st (j := 2) rfl ?_)
    refine hk_iload dX4_makeLaw_29 rfl ?_
    refine hk_if_ne (tgt := 45) dX4_makeLaw_31 (by decide) (fun c31 => absurd (by decide) c31) (fun _ => ?_)
    refine hk_bipush (v := (-100)) dX4_makeLaw_34 (by decide) ?_
    refine hk_aload_n dX4_makeLaw_36 rfl rfl ?_
    refine gfX4_12 rfl dX4_makeLaw_37 (hk_lt (by decide)) rfl rfl ?_
    refine gfX4_53 rfl dX4_makeLaw_40 (hk_lt (by decide)) rfl rfl ?_
    refine hk_isub dX4_makeLaw_43 ?_
    exact hk_ireturn dX4_makeLaw_44 rfl rfl (by decide) ⟨_, ⟨_, by rw [hk_w_off (by decide), s3.2.2], rfl, fun a h1 h2 => by rw [hk_wo h1]; exact s3.1 a h1 h2, by rw [hk_w_eq]; rfl⟩, fun _ _ _ h => h⟩
  · have hq2 := hq
    rw [hr] at hq2
    obtain ⟨m3, rfl, rfl, s3⟩ := hq2
    have hB := PB_PE (m 17) n 12 0 0 (Nat.zero_le _)
    have hod : c.length % 2 = 1 ∧ c.length ≤ 160 := by
      unfold PT at hr
      cases hp : PE (m 17) n 12 0 0 with
      | inl q => rw [hp] at hr; cases hr
      | inr t =>
        obtain ⟨p1, c1, v1⟩ := t
        rw [hp] at hr hB
        simp only at hr hB
        by_cases h : p1 < n
        · rw [cI_t h] at hr; cases hr
        · rw [cI_f h] at hr
          cases hr
          exact ⟨od_PE 12 _ _ _ _ _ hp, by omega⟩
    have e15 : m3 15 2 = nI L := by rw [s3.1.1 15 (by decide) (by decide)]; exact hL
    have e16 : m3 16 4 = nI c.length := by rw [s3.2.1, Nat.zero_add]
    refine hk_istore dX4_makeLaw_19 (by decide) rfl ?_
    refine hk_aload_n dX4_makeLaw_21 rfl rfl ?_
    refine gfX4_12 rfl dX4_makeLaw_22 (hk_lt (by decide)) rfl rfl ?_
    refine hk_iconst (v := 0) dX4_makeLaw_25 (by decide) ?_
    refine pfX4_51 rfl dX4_makeLaw_26 (hk_lt (by decide)) rfl (Nat.le_of_ble_eq_true rfl) (hk_st (j := 2) rfl ?_)
    refine hk_iload dX4_makeLaw_29 rfl ?_
    refine hk_if_ne (tgt := 45) dX4_makeLaw_31 (by decide) (fun _ => ?_) (fun c31 => absurd c31 (by decide))
    refine hk_aload_n dX4_makeLaw_45 rfl rfl ?_
    refine gfX4_20 rfl dX4_makeLaw_46 (hk_lt (by decide)) rfl rfl ?_
    refine hk_aload_n dX4_makeLaw_49 rfl rfl ?_
    refine gfX4_43 rfl dX4_makeLaw_50 (hk_lt (by decide)) rfl rfl ?_
    rw [show hk_w m3 16 2 0 15 2 = nI L by rw [hk_w_ne (by decide)]; exact e15]
    refine hk_new (ci := 3) tyX3 tyX3_ok (fs := [.int 0, .int 0, .int 0, .null]) rfl hk_in3 ⟨hk_t 140 (by decide +kernel) rfl, hk_t 497 (by decide +kernel) rfl, hk_t 12 (by decide +kernel) rfl⟩ (fun b j hj => by rcases (show j = 0 ∨ j = 1 ∨ j = 2 ∨ j = 3 by omega) with rfl | rfl | rfl | rfl <;> rfl) ⟨by decide, by decide⟩ dX4_makeLaw_53 ?_
    have k1 : ∀ a, a < 99 → a < (hk_push (hk_h L (hk_w m3 16 2 0)) (.inr (3, [.int 0, .int 0, .int 0, .null]))).1 := fun a ha => Nat.lt_succ_of_lt (hk_lt ha)
    have k2 : ∀ a, a < 99 → (hk_push (hk_h L (hk_w m3 16 2 0)) (.inr (3, [.int 0, .int 0, .int 0, .null]))).2 a = hk_ent L a (hk_w m3 16 2 0 a) := fun a ha => if_neg (show ¬ a = hk_C0 + 2 * L by unfold hk_C0; omega)
    refine hk_dup dX4_makeLaw_56 rfl ?_
    refine hk_iload_n dX4_makeLaw_57 rfl rfl ?_
    refine hk_iload_n dX4_makeLaw_58 rfl rfl ?_
    refine hk_iload_n dX4_makeLaw_59 rfl rfl ?_
    refine hk_aload_n dX4_makeLaw_60 rfl rfl ?_
    refine gfX4_12 rfl dX4_makeLaw_61 (k1 15 (by decide)) (k2 15 (by decide)) rfl ?_
    refine gfX4_56 rfl dX4_makeLaw_64 (k1 16 (by decide)) (k2 16 (by decide)) rfl ?_
    refine hk_aload_n dX4_makeLaw_67 rfl rfl ?_
    refine gfX4_12 rfl dX4_makeLaw_68 (k1 15 (by decide)) (k2 15 (by decide)) rfl ?_
    refine gfX4_59 rfl dX4_makeLaw_71 (k1 16 (by decide)) (k2 16 (by decide)) rfl ?_
    rw [show hk_w m3 16 2 0 16 4 = nI c.length by rw [hk_w_off (by decide)]; exact e16]
    refine hk_invS (ct_copyOf (h := hk_push (hk_h L (hk_w m3 16 2 0)) (.inr (3, [.int 0, .int 0, .int 0, .null]))) (N := c.length) (k1 18 (by decide)) (k2 18 (by decide)) (by omega)) hk_wJ7_copyOf ⟨hk_t 636 (by decide +kernel) rfl, hk_t 637 (by decide +kernel) rfl⟩ dX4_makeLaw_74 rfl rfl (by decide) ⟨by decide, by decide⟩ (Nat.le_of_ble_eq_true rfl) (fun r h1 hq => ?_)
    obtain ⟨rfl, g, rfl, hg⟩ := hq
    have k4 : (hk_push (hk_push (hk_h L (hk_w m3 16 2 0)) (.inr (3, [.int 0, .int 0, .int 0, .null]))) (.inl (0, c.length, .inl g))).2 (99 + 2 * L) = .inr (3, [.int 0, .int 0, .int 0, .null]) := by
      show (if 99 + 2 * L = 99 + 2 * L + 1 then _ else if 99 + 2 * L = 99 + 2 * L then _ else _) = _
      rw [if_neg (by omega), if_pos rfl]
    refine ivX4_68 rfl (ct_LawInit (h := hk_push (hk_push (hk_h L (hk_w m3 16 2 0)) (.inr (3, [.int 0, .int 0, .int 0, .null]))) (.inl (0, c.length, .inl g))) (a := 99 + 2 * L) (c := 99 + 2 * L + 1) (Nat.lt_succ_of_lt (Nat.lt_succ_self _)) k4 x f d) dX4_makeLaw_77 rfl rfl (by decide) ⟨by decide, by decide⟩ (Nat.le_of_ble_eq_true rfl) (hk_kv ?_)
    have k5 : ∀ a, a < 99 → a < (hk_up (hk_push (hk_push (hk_h L (hk_w m3 16 2 0)) (.inr (3, [.int 0, .int 0, .int 0, .null]))) (.inl (0, c.length, .inl g))) (99 + 2 * L) (.inr (3, [.int x, .int f, .int d, .ref (99 + 2 * L + 1)]))).1 := fun a ha => Nat.lt_succ_of_lt (Nat.lt_succ_of_lt (hk_lt ha))
    have k55 : ∀ a, a < 99 → (hk_up (hk_push (hk_push (hk_h L (hk_w m3 16 2 0)) (.inr (3, [.int 0, .int 0, .int 0, .null]))) (.inl (0, c.length, .inl g))) (99 + 2 * L) (.inr (3, [.int x, .int f, .int d, .ref (99 + 2 * L + 1)]))).2 a = hk_ent L a (hk_w m3 16 2 0 a) := fun a ha => by
      show (if a = 99 + 2 * L then _ else if a = hk_C0 + 2 * L + 1 then _ else if a = hk_C0 + 2 * L then _ else _) = _
      rw [if_neg (by omega), if_neg (by unfold hk_C0; omega), if_neg (by unfold hk_C0; omega)]
      rfl
    have k6 : (hk_up (hk_push (hk_push (hk_h L (hk_w m3 16 2 0)) (.inr (3, [.int 0, .int 0, .int 0, .null]))) (.inl (0, c.length, .inl g))) (99 + 2 * L) (.inr (3, [.int x, .int f, .int d, .ref (99 + 2 * L + 1)]))).2 19 = .inl (2, 40, .inr (fun j => if j < L then some (99 + 2 * j) else none)) := k55 19 (by decide)
    have k7 : 99 + 2 * L < (hk_up (hk_push (hk_push (hk_h L (hk_w m3 16 2 0)) (.inr (3, [.int 0, .int 0, .int 0, .null]))) (.inl (0, c.length, .inl g))) (99 + 2 * L) (.inr (3, [.int x, .int f, .int d, .ref (99 + 2 * L + 1)]))).1 := Nat.lt_succ_of_lt (Nat.lt_succ_self _)
    have k8 : (hk_up (hk_push (hk_push (hk_h L (hk_w m3 16 2 0)) (.inr (3, [.int 0, .int 0, .int 0, .null]))) (.inl (0, c.length, .inl g))) (99 + 2 * L) (.inr (3, [.int x, .int f, .int d, .ref (99 + 2 * L + 1)]))).2 (99 + 2 * L) = .inr (3, [.int x, .int f, .int d, .ref (99 + 2 * L + 1)]) := if_pos rfl
    refine hk_aastore (N := 40) (f := fun j => if j < L then some (99 + 2 * j) else none) (ci := 3) rfl dX4_makeLaw_80 (k5 19 (by decide)) k6 (vp_in_nI (by omega) (by decide)) k7 k8 ?_
    have k9 : (hk_up (hk_up (hk_push (hk_push (hk_h L (hk_w m3 16 2 0)) (.inr (3, [.int 0, .int 0, .int 0, .null]))) (.inl (0, c.length, .inl g))) (99 + 2 * L) (.inr (3, [.int x, .int f, .int d, .ref (99 + 2 * L + 1)]))) 19 (.inl (2, 40, .inr (va_up (fun j => if j < L then some (99 + 2 * j) else none) (nI L).toNatClampNeg (some (99 + 2 * L)))))).2 15 = .inr (4, [.ref 16, .ref 19, .int (nI L), .ref 20, .ref 21]) := by
      rw [hk_up_ne (show ¬ 15 = 19 by decide)]
      refine (k55 15 (by decide)).trans ?_
      show (Sum.inr (4, [Value.ref 16, Value.ref 19, Value.int (hk_w m3 16 2 0 15 2), Value.ref 20, Value.ref 21]) : hk_E) = _
      rw [show hk_w m3 16 2 0 15 2 = nI L by rw [hk_w_ne (by decide)]; exact e15]
    refine hk_aload_n dX4_makeLaw_81 rfl rfl ?_
    refine hk_dup dX4_makeLaw_82 rfl ?_
    refine gfX4_43 rfl dX4_makeLaw_83 (show 15 < _ from k5 15 (by decide)) k9 rfl ?_
    refine hk_iconst (v := 1) dX4_makeLaw_86 (by decide) ?_
    refine hk_iadd dX4_makeLaw_87 ?_
    refine pfX4_43 rfl dX4_makeLaw_88 (show 15 < _ from k5 15 (by decide)) k9 (Nat.le_of_ble_eq_true rfl) ?_
    refine hk_aload_n dX4_makeLaw_91 rfl rfl ?_
    refine gfX4_43 rfl dX4_makeLaw_92 (show 15 < _ from k5 15 (by decide)) (show (hk_up _ 15 (.inr (4, [Value.ref 16, .ref 19, .int (nI L + 1), .ref 20, .ref 21]))).2 15 = .inr (4, [Value.ref 16, .ref 19, .int (nI L + 1), .ref 20, .ref 21]) from hk_up_at) rfl ?_
    refine hk_iconst (v := 1) dX4_makeLaw_95 (by decide) ?_
    refine hk_isub dX4_makeLaw_96 ?_
    exact hk_ireturn dX4_makeLaw_97 rfl rfl (by decide) (by
      rw [show nI L + 1 - 1 = nI L from Int32.add_sub_cancel _ _]
      have hj1 : ∀ j, j < c.length → upd g 1000 (nI c.length) j = c.getD j 0 := fun j hj => by
        rw [upd_n (by omega), hg j hj]
        show hk_w m3 16 2 0 18 j = _
        rw [hk_w_ne (by decide)]
        have := s3.2.2.2 j hj
        rw [Nat.zero_add] at this
        exact this
      refine ⟨hk_h (L + 1) (mL (hk_w m3 16 2 0) L c.length g x f d), ⟨_, rfl, rfl, fun a h1 h2 h3 h4 h5 => ?_, ?_, ?_, ?_, ?_, ?_, ?_, fun j hj => ?_⟩, ?_⟩
      · unfold mL
        rw [if_neg h5, if_neg h4, hk_wo h1, hk_wo h2]
        exact s3.1.1 a h2 h3
      · unfold mL
        rw [if_neg (by omega), if_neg (by omega)]; exact hk_w_eq
      · unfold mL
        rw [if_neg (by omega), if_neg (by omega), hk_w_ne (by decide)]; exact hk_w_eq
      · unfold mL
        rw [if_neg (by omega), if_pos rfl]; rfl
      · unfold mL
        rw [if_neg (by omega), if_pos rfl]; rfl
      · unfold mL
        rw [if_neg (by omega), if_pos rfl]; rfl
      · unfold mL
        rw [if_pos rfl]; exact upd_e
      · unfold mL
        rw [if_pos rfl]; exact hj1 j hj
      · rw [← law_heap (by omega), nI_clamp (by omega), nI_1]
        exact hk_eqv_arr (show (if 99 + 2 * L + 1 = 15 then _ else if 99 + 2 * L + 1 = 19 then _ else if 99 + 2 * L + 1 = 99 + 2 * L then _ else if 99 + 2 * L + 1 = hk_C0 + 2 * L + 1 then _ else _) = _ by rw [if_neg (by omega), if_neg (by omega), if_neg (by omega), if_pos rfl]) (fun j hj => (upd_n (by omega)).symm))
theorem ct_makeLaw (hN : NameOf L) (hL : m 15 2 = nI L) (hL4 : L < 40) {n : Nat} (hn : m 16 2 = nI n) (hn2 : n ≤ 160) (x f d : Int32) : hk_Ct MX4_makeLaw 86 2 164 [.ref 15, .int x, .int f, .int d] (hk_h L m) (ML L m x f d (PT (m 17) n)) :=
  hk_impS (fun _ _ h => h) (ct_makeLaw0 hN hL hL4 hn hn2 x f d)
set_option maxRecDepth 20000 in
set_option maxHeartbeats 2000000 in
theorem ct_makeLaw_full (hL : m 15 2 = nI 40) (x f d : Int32) : hk_Cd MX4_makeLaw 86 0 0 [.ref 15, .int x, .int f, .int d] (hk_h L m) (some (.int (-2))) (hk_h L m) := by
  refine hk_ofWP (by decide) (by simp [Value.category]) (Nat.le_of_ble_eq_true rfl) ?_
  show hk_WP _ _ _ _ _ _ _ [some (.ref 15), some (.int x), some (.int f), some (.int d), none] [] _ _
  refine hk_aload_n dX4_makeLaw_0 rfl rfl ?_
  refine gfX4_43 rfl dX4_makeLaw_1 (hk_lt (by decide)) rfl rfl ?_
  refine hk_bipush (v := 40) dX4_makeLaw_4 (by decide) ?_
  refine hk_icmp_lt (tgt := 12) dX4_makeLaw_6 (by decide) (fun c6 => absurd c6 (by rw [hL]; decide)) (fun _ => ?_)
  refine hk_bipush (v := (-2)) dX4_makeLaw_9 (by decide) ?_
  exact hk_ireturn dX4_makeLaw_11 rfl rfl (by decide) ⟨rfl, rfl⟩
end MLx
