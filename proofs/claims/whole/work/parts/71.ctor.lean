/-! THE CONSTRUCTORS -/
section CRy
variable {L nC nS nK nD : Nat} {m m0 m1 m2 ms : Nat → Nat → Int32} {z : Nat → Nat} {h : hk_H}
/-- a heap told by its list -/
def hl (es : List hk_E) : hk_H := (es.length, fun k => es.getD k (.inr (0, [])))
theorem hl_push {es : List hk_E} {x : hk_E} : hk_push (hl es) x = hl (es ++ [x]) := by
  refine Prod.ext (by show es.length + 1 = (es ++ [x]).length; rw [List.length_append]; rfl) ?_
  funext q
  show (if q = es.length then x else es.getD q _) = (es ++ [x]).getD q _
  by_cases e : q = es.length
  · subst e
    rw [if_pos rfl]
    simp [List.getD_eq_getElem?_getD]
  · rw [if_neg e]
    by_cases e2 : q < es.length
    · simp [List.getD_eq_getElem?_getD, List.getElem?_append_left e2]
    · have h1 : es.length ≤ q := by omega
      have h2 : (es ++ [x]).length ≤ q := by rw [List.length_append, List.length_singleton]; omega
      simp [List.getD_eq_getElem?_getD, List.getElem?_eq_none h1, List.getElem?_eq_none h2]
theorem hl_up {es : List hk_E} {a : Nat} {x : hk_E} (ha : a < es.length) : hk_up (hl es) a x = hl (es.set a x) := by
  refine Prod.ext (by show es.length = (es.set a x).length; rw [List.length_set]) ?_
  funext q
  show (if q = a then x else es.getD q _) = (es.set a x).getD q _
  by_cases e : q = a
  · subst e
    rw [if_pos rfl]
    simp [List.getD_eq_getElem?_getD, List.getElem?_set, ha]
  · rw [if_neg e]
    simp [List.getD_eq_getElem?_getD, List.getElem?_set, Ne.symm e]
theorem hk_up_push_up {h : hk_H} {a : Nat} {x y e : hk_E} : hk_up (hk_push (hk_up h a x) e) a y = hk_up (hk_push h e) a y := by
  refine Prod.ext rfl ?_
  funext q
  show (if q = a then y else if q = h.1 then e else if q = a then x else h.2 q) = (if q = a then y else if q = h.1 then e else h.2 q)
  by_cases k : q = a
  · rw [if_pos k, if_pos k]
  · rw [if_neg k, if_neg k, if_neg k]
def zi (n : Nat) : hk_E := .inl (0, n, .inl (fun _ => 0))
theorem hk_f0 : ∀ (b j : Nat), j < 7 → defaultValue (tyX0 j) = vp_V (([.int 0, .null, .null, .null, .null, .null, .int 0] : List Value).map (hk_v b)) j := by
  intro b
  show ∀ j, j < 7 → defaultValue (tyX0 j) = vp_V ([.int 0, .null, .null, .null, .null, .null, .int 0] : List Value) j
  decide +kernel
theorem hk_f1 : ∀ (b j : Nat), j < 1 → defaultValue (tyX1 j) = vp_V (([.null] : List Value).map (hk_v b)) j := by
  intro b
  show ∀ j, j < 1 → defaultValue (tyX1 j) = vp_V ([.null] : List Value) j
  decide +kernel
theorem hk_f2 : ∀ (b j : Nat), j < 3 → defaultValue (tyX2 j) = vp_V (([.null, .null, .null] : List Value).map (hk_v b)) j := by
  intro b
  show ∀ j, j < 3 → defaultValue (tyX2 j) = vp_V ([.null, .null, .null] : List Value) j
  decide +kernel
theorem hk_f4 : ∀ (b j : Nat), j < 5 → defaultValue (tyX4 j) = vp_V (([.null, .null, .int 0, .null, .null] : List Value).map (hk_v b)) j := by
  intro b
  show ∀ j, j < 5 → defaultValue (tyX4 j) = vp_V ([.null, .null, .int 0, .null, .null] : List Value) j
  decide +kernel
theorem hk_f5 : ∀ (b j : Nat), j < 5 → defaultValue (tyX5 j) = vp_V (([.null, .null, .int 0, .int 0, .int 0] : List Value).map (hk_v b)) j := by
  intro b
  show ∀ j, j < 5 → defaultValue (tyX5 j) = vp_V ([.null, .null, .int 0, .int 0, .int 0] : List Value) j
  decide +kernel
theorem hk_f6 : ∀ (b j : Nat), j < 4 → defaultValue (tyX6 j) = vp_V (([.int 0, .int 0, .null, .int 0] : List Value).map (hk_v b)) j := by
  intro b
  show ∀ j, j < 4 → defaultValue (tyX6 j) = vp_V ([.int 0, .int 0, .null, .int 0] : List Value) j
  decide +kernel
theorem hk_f7 : ∀ (b j : Nat), j < 2 → defaultValue (tyX7 j) = vp_V (([.null, .null] : List Value).map (hk_v b)) j := by
  intro b
  show ∀ j, j < 2 → defaultValue (tyX7 j) = vp_V ([.null, .null] : List Value) j
  decide +kernel
theorem hk_f8 : ∀ (b j : Nat), j < 3 → defaultValue (tyX8 j) = vp_V (([.null, .null, .null] : List Value).map (hk_v b)) j := by
  intro b
  show ∀ j, j < 3 → defaultValue (tyX8 j) = vp_V ([.null, .null, .null] : List Value) j
  decide +kernel
theorem hk_f9 : ∀ (b j : Nat), j < 7 → defaultValue (tyX9 j) = vp_V (([.int 0, .null, .null, .null, .null, .null, .null] : List Value).map (hk_v b)) j := by
  intro b
  show ∀ j, j < 7 → defaultValue (tyX9 j) = vp_V ([.int 0, .null, .null, .null, .null, .null, .null] : List Value) j
  decide +kernel
theorem hk_f10 : ∀ (b j : Nat), j < 81 → defaultValue (tyX10 j) = vp_V (([.int 0, .null, .null, .int 0, .null, .null, .null, .null, .null, .null, .null, .int 0, .null, .null, .null, .int 0, .null, .int 0, .null, .null, .null, .null, .null, .null, .null, .null, .int 0, .null, .null, .null, .int 0, .null, .null, .null, .null, .int 0, .null, .int 0, .null, .null, .null, .null, .null, .int 0, .int 0, .int 0, .null, .null, .null, .null, .null, .null, .null, .null, .null, .null, .null, .null, .null, .null, .int 0, .null, .null, .null, .null, .int 0, .null, .null, .int 0, .null, .null, .null, .null, .int 0, .null, .null, .null, .int 0, .int 0, .int 0, .int 0] : List Value).map (hk_v b)) j := by
  intro b
  show ∀ j, j < 81 → defaultValue (tyX10 j) = vp_V ([.int 0, .null, .null, .int 0, .null, .null, .null, .null, .null, .null, .null, .int 0, .null, .null, .null, .int 0, .null, .int 0, .null, .null, .null, .null, .null, .null, .null, .null, .int 0, .null, .null, .null, .int 0, .null, .null, .null, .null, .int 0, .null, .int 0, .null, .null, .null, .null, .null, .int 0, .int 0, .int 0, .null, .null, .null, .null, .null, .null, .null, .null, .null, .null, .null, .null, .null, .null, .int 0, .null, .null, .null, .null, .int 0, .null, .null, .int 0, .null, .null, .null, .null, .int 0, .null, .null, .null, .int 0, .int 0, .int 0, .int 0] : List Value) j
  decide +kernel
set_option maxRecDepth 20000 in
set_option maxHeartbeats 2000000 in
theorem ct_tinit {h : hk_H} {a c N : Nat} (ha : a < h.1) (hc : h.1 = c) (he : h.2 a = .inr (6, [.int 0, .int 0, .null, .int 0])) {x w : Int32} (hv : ¬ x * w < 0) (hN : (x * w).toNatClampNeg = N) (hb : N * 4 ≤ 536870912) : hk_Cd MX6_init 1 1 N [.ref a, .int x, .int w] h none (hk_up (hk_push h (zi N)) a (.inr (6, [.int x, .int w, .ref c, .int 0]))) := by
  refine hk_ofWP (by decide) (by simp [Value.category]) (Nat.le_of_ble_eq_true rfl) ?_
  show hk_WP _ _ _ _ _ _ _ [some (.ref a), some (.int x), some (.int w)] [] _ _
  refine hk_aload_n dX6_init_0 rfl rfl ?_
  refine hk_objInit ⟨hk_t 38 (by decide +kernel) rfl, hk_t 25 (by decide +kernel) rfl, hk_t 26 (by decide +kernel) rfl⟩ dX6_init_1 (by decide) (Nat.le_of_ble_eq_true rfl) ?_
  refine hk_aload_n dX6_init_4 rfl rfl ?_
  refine hk_iload_n dX6_init_5 rfl rfl ?_
  refine pfX6_9 rfl dX6_init_6 ha he (Nat.le_of_ble_eq_true rfl) rfl ?_
  refine hk_aload_n dX6_init_9 rfl rfl ?_
  refine hk_iload_n dX6_init_10 rfl rfl ?_
  refine pfX6_15 rfl dX6_init_11 (show a < h.1 from ha) (if_pos rfl) (Nat.le_of_ble_eq_true rfl) rfl ?_
  refine hk_aload_n dX6_init_14 rfl rfl ?_
  refine hk_iload_n dX6_init_15 rfl rfl ?_
  refine hk_iload_n dX6_init_16 rfl rfl ?_
  refine hk_imul dX6_init_17 ?_
  refine hk_newa (t := 0) (ty := .int) (N := N) rfl (Or.inl ⟨rfl, rfl⟩) (hk_t 57 (by decide +kernel) rfl) hv hN (by show N * 4 ≤ 536870912; exact hb) ⟨by decide, Nat.le_of_eq (Nat.zero_add N)⟩ dX6_init_18 ?_
  refine pfX6_18 rfl dX6_init_20 (Nat.lt_succ_of_lt ha) (by show (if a = h.1 then _ else _) = _; rw [if_neg (Nat.ne_of_lt ha)]; exact if_pos rfl) (Nat.le_of_ble_eq_true rfl) rfl ?_
  exact hk_return dX6_init_23 rfl ⟨Nat.le_refl _, Nat.le_of_eq (Nat.zero_add N)⟩ ⟨rfl, by rw [hk_up_up, hk_up_push_up]; subst hc; rfl⟩
set_option maxRecDepth 20000 in
set_option maxHeartbeats 2000000 in
theorem ct_tfull {h : hk_H} {a c : Nat} (ha : a < h.1) (he : h.2 a = .inr (6, [.int 1, .int 13, .ref c, .int 0])) : hk_Cd MX6_isFull 0 0 0 [.ref a] h (some (.int 0)) h := by
  refine hk_ofWP (by decide) (by simp [Value.category]) (Nat.le_of_ble_eq_true rfl) ?_
  show hk_WP _ _ _ _ _ _ _ [some (.ref a)] [] _ _
  refine hk_aload_n dX6_isFull_0 rfl rfl ?_
  refine gfX6_22 rfl dX6_isFull_1 ha he rfl ?_
  refine hk_aload_n dX6_isFull_4 rfl rfl ?_
  refine gfX6_9 rfl dX6_isFull_5 ha he rfl ?_
  refine hk_icmp_lt (tgt := 15) dX6_isFull_8 (by decide) (fun _ => ?_) (fun c8 => absurd (by decide) c8)
  refine hk_iconst (v := 0) dX6_isFull_15 (by decide) ?_
  exact hk_ireturn dX6_isFull_16 rfl rfl (by decide) ⟨rfl, rfl⟩
set_option maxRecDepth 20000 in
set_option maxHeartbeats 2000000 in
theorem ct_tadd {h : hk_H} {a c : Nat} (ha : a < h.1) (he : h.2 a = .inr (6, [.int 1, .int 13, .ref c, .int 0])) : hk_Cd MX6_add 1 0 0 [.ref a] h (some (.int 0)) (hk_up h a (.inr (6, [.int 1, .int 13, .ref c, .int 1]))) := by
  refine hk_ofWP (by decide) (by simp [Value.category]) (Nat.le_of_ble_eq_true rfl) ?_
  show hk_WP _ _ _ _ _ _ _ [some (.ref a)] [] _ _
  refine hk_aload_n dX6_add_0 rfl rfl ?_
  refine ivX6_29 rfl (ct_tfull ha he) dX6_add_1 ha he rfl rfl (by decide) ⟨by decide, by decide⟩ (Nat.le_of_ble_eq_true rfl) (hk_kd ?_)
  refine hk_if_eq (tgt := 10) dX6_add_4 (by decide) (fun _ => ?_) (fun c4 => absurd rfl c4)
  refine hk_aload_n dX6_add_10 rfl rfl ?_
  refine hk_dup dX6_add_11 rfl ?_
  refine gfX6_22 rfl dX6_add_12 ha he rfl ?_
  refine hk_iconst (v := 1) dX6_add_15 (by decide) ?_
  refine hk_iadd dX6_add_16 ?_
  refine pfX6_22 rfl dX6_add_17 ha he (Nat.le_of_ble_eq_true rfl) ?_
  refine hk_aload_n dX6_add_20 rfl rfl ?_
  refine gfX6_22 rfl dX6_add_21 (show a < h.1 from ha) (if_pos rfl) rfl ?_
  refine hk_iconst (v := 1) dX6_add_24 (by decide) ?_
  refine hk_isub dX6_add_25 ?_
  exact hk_ireturn dX6_add_26 rfl rfl (by decide) ⟨rfl, rfl⟩
def sf (n : Nat) (v : Int32) : Nat → Int32 := fun j => if j < n then v else 0
theorem sf_0 {v : Int32} : (fun _ => 0) = sf 0 v := by funext j; exact (if_neg (Nat.not_lt_zero _)).symm
theorem sf_s {n : Nat} {v : Int32} : upd (sf n v) n v = sf (n + 1) v := by
  funext j
  unfold upd sf
  by_cases e : j = n
  · rw [if_pos e, if_pos (by omega)]
  · rw [if_neg e]
    by_cases e2 : j < n
    · rw [if_pos e2, if_pos (by omega)]
    · rw [if_neg e2, if_neg (by omega)]
set_option maxRecDepth 20000 in
set_option maxHeartbeats 2000000 in
theorem ct_tellSun0 {e0 : hk_E} {i : Nat} (hi : i < 12) : hk_Cd MX0_tellSun 0 0 0 [.ref 1, .int (nI i), .int 360, .int 1080] (hl [e0, .inr (0, [.int 0, .ref 2, .ref 4, .ref 5, .ref 6, .ref 7, .int 0]), .inr (6, [.int 60, .int 13, .ref 3, .int 0]), zi 780, .inl (0, 12, .inl (sf i 360)), .inl (0, 12, .inl (sf i 1080)), zi 24, zi 24]) none (hl [e0, .inr (0, [.int 0, .ref 2, .ref 4, .ref 5, .ref 6, .ref 7, .int 0]), .inr (6, [.int 60, .int 13, .ref 3, .int 0]), zi 780, .inl (0, 12, .inl (sf (i + 1) 360)), .inl (0, 12, .inl (sf (i + 1) 1080)), zi 24, zi 24]) := by
  refine hk_ofWP (by decide) (by simp [Value.category]) (Nat.le_of_ble_eq_true rfl) ?_
  show hk_WP _ _ _ _ _ _ _ [some (.ref 1), some (.int (nI i)), some (.int 360), some (.int 1080)] [] _ _
  refine hk_iload_n dX0_tellSun_0 rfl rfl ?_
  refine hk_if_lt (tgt := 24) dX0_tellSun_1 (by decide) (fun c1 => absurd c1 (nI_pos (by omega))) (fun _ => ?_)
  refine hk_iload_n dX0_tellSun_4 rfl rfl ?_
  refine hk_bipush (v := 12) dX0_tellSun_5 (by decide) ?_
  refine hk_icmp_ge (tgt := 24) dX0_tellSun_7 (by decide) (fun c7 => absurd c7 (nI_ge hi (by decide))) (fun _ => ?_)
  refine hk_aload_n dX0_tellSun_10 rfl rfl ?_
  refine gfX0_20 rfl dX0_tellSun_11 (Nat.le_of_ble_eq_true rfl) rfl rfl ?_
  refine hk_iload_n dX0_tellSun_14 rfl rfl ?_
  refine hk_iload_n dX0_tellSun_15 rfl rfl ?_
  refine hk_iastore dX0_tellSun_16 (Nat.le_of_ble_eq_true rfl) rfl (vp_in_nI hi (by decide)) ?_
  rw [hl_up (Nat.le_of_ble_eq_true rfl)]
  simp only [List.set_cons_succ, List.set_cons_zero]
  refine hk_aload_n dX0_tellSun_17 rfl rfl ?_
  refine gfX0_24 rfl dX0_tellSun_18 (Nat.le_of_ble_eq_true rfl) rfl rfl ?_
  refine hk_iload_n dX0_tellSun_21 rfl rfl ?_
  refine hk_iload_n dX0_tellSun_22 rfl rfl ?_
  refine hk_iastore dX0_tellSun_23 (Nat.le_of_ble_eq_true rfl) rfl (vp_in_nI hi (by decide)) ?_
  rw [hl_up (Nat.le_of_ble_eq_true rfl)]
  simp only [List.set_cons_succ, List.set_cons_zero]
  exact hk_return dX0_tellSun_24 rfl (by decide) ⟨rfl, by rw [nI_clamp (by omega), ← sf_s, ← sf_s]⟩
set_option maxRecDepth 20000 in
set_option maxHeartbeats 2000000 in
theorem lp_city {e0 : hk_E} (i : Nat) (hi : i ≤ 12) : hk_WP MX0_init 2 6 856 6 856 53 [some (.ref 1), some (.int (nI i))] [] (hl [e0, .inr (0, [.int 0, .ref 2, .ref 4, .ref 5, .ref 6, .ref 7, .int 0]), .inr (6, [.int 60, .int 13, .ref 3, .int 0]), zi 780, .inl (0, 12, .inl (sf i 360)), .inl (0, 12, .inl (sf i 1080)), zi 24, zi 24]) (fun r h => r = none ∧ h = (hl [e0, .inr (0, [.int 0, .ref 2, .ref 4, .ref 5, .ref 6, .ref 7, .int 0]), .inr (6, [.int 60, .int 13, .ref 3, .int 0]), zi 780, .inl (0, 12, .inl (sf 12 360)), .inl (0, 12, .inl (sf 12 1080)), zi 24, zi 24])) := by
  refine hk_iload_n dX0_init_53 rfl rfl ?_
  refine hk_bipush (v := 12) dX0_init_54 (by decide) ?_
  refine hk_icmp_ge (tgt := 76) dX0_init_56 (by decide) (fun c56 => ?_) (fun c56 => ?_)
  · rw [show (12 : Int32) = nI 12 from rfl, nI_leI (by omega) (by omega)] at c56
    exact hk_return dX0_init_76 rfl (by decide) ⟨rfl, by rw [show i = 12 by omega]⟩
  · rw [show (12 : Int32) = nI 12 from rfl, nI_leI (by omega) (by omega)] at c56
    refine hk_aload_n dX0_init_59 rfl rfl ?_
    refine hk_iload_n dX0_init_60 rfl rfl ?_
    refine hk_sipush (v := 360) dX0_init_61 (by decide) ?_
    refine hk_sipush (v := 1080) dX0_init_64 (by decide) ?_
    refine ivX0_33 rfl (ct_tellSun0 (show i < 12 by omega)) dX0_init_67 (Nat.le_of_ble_eq_true rfl) rfl rfl rfl (by decide) ⟨by decide, by decide⟩ (Nat.le_of_ble_eq_true rfl) (hk_kv ?_)
    refine hk_iinc (v := nI (i + 1)) dX0_init_70 rfl (nI_1 i) (by decide) rfl ?_
    refine hk_goto (tgt := 53) dX0_init_73 (by decide) ?_
    have hlt : i < 12 := by omega
    exact lp_city (i + 1) hlt
termination_by 12 - i
decreasing_by all_goals omega
set_option maxRecDepth 20000 in
set_option maxHeartbeats 2000000 in
theorem ct_X0_init {e0 : hk_E} : hk_Cd MX0_init 2 6 856 [.ref 1] (hl [e0, .inr (0, [.int 0, .null, .null, .null, .null, .null, .int 0])]) none (hl [e0, .inr (0, [.int 0, .ref 2, .ref 4, .ref 5, .ref 6, .ref 7, .int 0]), .inr (6, [.int 60, .int 13, .ref 3, .int 0]), zi 780, .inl (0, 12, .inl (sf 12 360)), .inl (0, 12, .inl (sf 12 1080)), zi 24, zi 24]) := by
  refine hk_ofWP (by decide) (by simp [Value.category]) (Nat.le_of_ble_eq_true rfl) ?_
  show hk_WP _ _ _ _ _ _ _ [some (.ref 1), none] [] _ _
  refine hk_aload_n dX0_init_0 rfl rfl ?_
  refine hk_objInit ⟨hk_t 32 (by decide +kernel) rfl, hk_t 25 (by decide +kernel) rfl, hk_t 26 (by decide +kernel) rfl⟩ dX0_init_1 (by decide) (Nat.le_of_ble_eq_true rfl) ?_
  refine hk_aload_n dX0_init_4 rfl rfl ?_
  refine hk_new (ci := 6) tyX6 tyX6_ok (fs := [.int 0, .int 0, .null, .int 0]) rfl hk_in6 ⟨hk_t 33 (by decide +kernel) rfl, hk_t 34 (by decide +kernel) rfl, hk_t 3 (by decide +kernel) rfl⟩ hk_f6 ⟨by decide, by decide⟩ dX0_init_5 ?_
  rw [hl_push]
  simp only [List.cons_append, List.nil_append]
  show hk_WP _ _ _ _ _ _ _ _ (.ref 2 :: _) _ _
  refine hk_dup dX0_init_8 rfl ?_
  refine hk_bipush (v := 60) dX0_init_9 (by decide) ?_
  refine hk_bipush (v := 13) dX0_init_11 (by decide) ?_
  refine ivX0_13 rfl (ct_tinit (a := 2) (c := 3) (N := 780) (x := 60) (w := 13) (Nat.le_of_ble_eq_true rfl) rfl rfl (by decide) (by decide) (Nat.le_of_ble_eq_true rfl)) dX0_init_13 rfl rfl (by decide) ⟨by decide, by decide⟩ (Nat.le_of_ble_eq_true rfl) (hk_kv ?_)
  rw [hl_push, hl_up (Nat.le_of_ble_eq_true rfl)]
  simp only [List.cons_append, List.nil_append, List.set_cons_succ, List.set_cons_zero]
  refine pfX0_16 rfl dX0_init_16 (Nat.le_of_ble_eq_true rfl) rfl (Nat.le_of_ble_eq_true rfl) rfl ?_
  rw [hl_up (Nat.le_of_ble_eq_true rfl)]
  simp only [List.set_cons_succ, List.set_cons_zero]
  refine hk_aload_n dX0_init_19 rfl rfl ?_
  refine hk_bipush (v := 12) dX0_init_20 (by decide) ?_
  refine hk_newa (t := 0) (ty := .int) (N := 12) rfl (Or.inl ⟨rfl, rfl⟩) (hk_t 57 (by decide +kernel) rfl) (by decide) (by decide) (Nat.le_of_ble_eq_true rfl) ⟨by decide, by decide⟩ dX0_init_22 ?_
  rw [show (.inl (0, 12, .inl (fun _ => 0)) : hk_E) = zi 12 from rfl]
  rw [hl_push]
  simp only [List.cons_append, List.nil_append]
  show hk_WP _ _ _ _ _ _ _ _ (.ref 4 :: _) _ _
  refine pfX0_20 rfl dX0_init_24 (Nat.le_of_ble_eq_true rfl) rfl (Nat.le_of_ble_eq_true rfl) rfl ?_
  rw [hl_up (Nat.le_of_ble_eq_true rfl)]
  simp only [List.set_cons_succ, List.set_cons_zero]
  refine hk_aload_n dX0_init_27 rfl rfl ?_
  refine hk_bipush (v := 12) dX0_init_28 (by decide) ?_
  refine hk_newa (t := 0) (ty := .int) (N := 12) rfl (Or.inl ⟨rfl, rfl⟩) (hk_t 57 (by decide +kernel) rfl) (by decide) (by decide) (Nat.le_of_ble_eq_true rfl) ⟨by decide, by decide⟩ dX0_init_30 ?_
  rw [show (.inl (0, 12, .inl (fun _ => 0)) : hk_E) = zi 12 from rfl]
  rw [hl_push]
  simp only [List.cons_append, List.nil_append]
  show hk_WP _ _ _ _ _ _ _ _ (.ref 5 :: _) _ _
  refine pfX0_24 rfl dX0_init_32 (Nat.le_of_ble_eq_true rfl) rfl (Nat.le_of_ble_eq_true rfl) rfl ?_
  rw [hl_up (Nat.le_of_ble_eq_true rfl)]
  simp only [List.set_cons_succ, List.set_cons_zero]
  refine hk_aload_n dX0_init_35 rfl rfl ?_
  refine hk_bipush (v := 24) dX0_init_36 (by decide) ?_
  refine hk_newa (t := 0) (ty := .int) (N := 24) rfl (Or.inl ⟨rfl, rfl⟩) (hk_t 57 (by decide +kernel) rfl) (by decide) (by decide) (Nat.le_of_ble_eq_true rfl) ⟨by decide, by decide⟩ dX0_init_38 ?_
  rw [show (.inl (0, 24, .inl (fun _ => 0)) : hk_E) = zi 24 from rfl]
  rw [hl_push]
  simp only [List.cons_append, List.nil_append]
  show hk_WP _ _ _ _ _ _ _ _ (.ref 6 :: _) _ _
  refine pfX0_27 rfl dX0_init_40 (Nat.le_of_ble_eq_true rfl) rfl (Nat.le_of_ble_eq_true rfl) rfl ?_
  rw [hl_up (Nat.le_of_ble_eq_true rfl)]
  simp only [List.set_cons_succ, List.set_cons_zero]
  refine hk_aload_n dX0_init_43 rfl rfl ?_
  refine hk_bipush (v := 24) dX0_init_44 (by decide) ?_
  refine hk_newa (t := 0) (ty := .int) (N := 24) rfl (Or.inl ⟨rfl, rfl⟩) (hk_t 57 (by decide +kernel) rfl) (by decide) (by decide) (Nat.le_of_ble_eq_true rfl) ⟨by decide, by decide⟩ dX0_init_46 ?_
  rw [show (.inl (0, 24, .inl (fun _ => 0)) : hk_E) = zi 24 from rfl]
  rw [hl_push]
  simp only [List.cons_append, List.nil_append]
  show hk_WP _ _ _ _ _ _ _ _ (.ref 7 :: _) _ _
  refine pfX0_30 rfl dX0_init_48 (Nat.le_of_ble_eq_true rfl) rfl (Nat.le_of_ble_eq_true rfl) rfl ?_
  rw [hl_up (Nat.le_of_ble_eq_true rfl)]
  simp only [List.set_cons_succ, List.set_cons_zero]
  refine hk_iconst (v := 0) dX0_init_51 (by decide) ?_
  refine hk_istore_n dX0_init_52 rfl (by decide) rfl ?_
  have hx := lp_city (e0 := e0) 0 (by decide)
  rw [← sf_0, ← sf_0] at hx
  exact hx
set_option maxRecDepth 20000 in
set_option maxHeartbeats 2000000 in
theorem ct_X2_init {e0 e1 e2 e3 e4 e5 e6 e7 : hk_E} : hk_Cd MX2_init 2 6 1008 [.ref 8] (hl [e0, e1, e2, e3, e4, e5, e6, e7, .inr (2, [.null, .null, .null])]) none (hl [e0, e1, e2, e3, e4, e5, e6, e7, .inr (2, [.ref 9, .ref 11, .ref 13]), .inr (6, [.int 30, .int 8, .ref 10, .int 0]), zi 240, .inr (6, [.int 200, .int 3, .ref 12, .int 0]), zi 600, .inr (6, [.int 12, .int 13, .ref 14, .int 0]), zi 156]) := by
  refine hk_ofWP (by decide) (by simp [Value.category]) (Nat.le_of_ble_eq_true rfl) ?_
  show hk_WP _ _ _ _ _ _ _ [some (.ref 8)] [] _ _
  refine hk_aload_n dX2_init_0 rfl rfl ?_
  refine hk_objInit ⟨hk_t 91 (by decide +kernel) rfl, hk_t 25 (by decide +kernel) rfl, hk_t 26 (by decide +kernel) rfl⟩ dX2_init_1 (by decide) (Nat.le_of_ble_eq_true rfl) ?_
  refine hk_aload_n dX2_init_4 rfl rfl ?_
  refine hk_new (ci := 6) tyX6 tyX6_ok (fs := [.int 0, .int 0, .null, .int 0]) rfl hk_in6 ⟨hk_t 92 (by decide +kernel) rfl, hk_t 34 (by decide +kernel) rfl, hk_t 3 (by decide +kernel) rfl⟩ hk_f6 ⟨by decide, by decide⟩ dX2_init_5 ?_
  rw [hl_push]
  simp only [List.cons_append, List.nil_append]
  show hk_WP _ _ _ _ _ _ _ _ (.ref 9 :: _) _ _
  refine hk_dup dX2_init_8 rfl ?_
  refine hk_bipush (v := 30) dX2_init_9 (by decide) ?_
  refine hk_bipush (v := 8) dX2_init_11 (by decide) ?_
  refine ivX2_13 rfl (ct_tinit (a := 9) (c := 10) (N := 240) (x := 30) (w := 8) (Nat.le_of_ble_eq_true rfl) rfl rfl (by decide) (by decide) (Nat.le_of_ble_eq_true rfl)) dX2_init_13 rfl rfl (by decide) ⟨by decide, by decide⟩ (Nat.le_of_ble_eq_true rfl) (hk_kv ?_)
  rw [hl_push, hl_up (Nat.le_of_ble_eq_true rfl)]
  simp only [List.cons_append, List.nil_append, List.set_cons_succ, List.set_cons_zero]
  refine pfX2_16 rfl dX2_init_16 (Nat.le_of_ble_eq_true rfl) rfl (Nat.le_of_ble_eq_true rfl) rfl ?_
  rw [hl_up (Nat.le_of_ble_eq_true rfl)]
  simp only [List.set_cons_succ, List.set_cons_zero]
  refine hk_aload_n dX2_init_19 rfl rfl ?_
  refine hk_new (ci := 6) tyX6 tyX6_ok (fs := [.int 0, .int 0, .null, .int 0]) rfl hk_in6 ⟨hk_t 92 (by decide +kernel) rfl, hk_t 34 (by decide +kernel) rfl, hk_t 3 (by decide +kernel) rfl⟩ hk_f6 ⟨by decide, by decide⟩ dX2_init_20 ?_
  rw [hl_push]
  simp only [List.cons_append, List.nil_append]
  show hk_WP _ _ _ _ _ _ _ _ (.ref 11 :: _) _ _
  refine hk_dup dX2_init_23 rfl ?_
  refine hk_sipush (v := 200) dX2_init_24 (by decide) ?_
  refine hk_iconst (v := 3) dX2_init_27 (by decide) ?_
  refine ivX2_13 rfl (ct_tinit (a := 11) (c := 12) (N := 600) (x := 200) (w := 3) (Nat.le_of_ble_eq_true rfl) rfl rfl (by decide) (by decide) (Nat.le_of_ble_eq_true rfl)) dX2_init_28 rfl rfl (by decide) ⟨by decide, by decide⟩ (Nat.le_of_ble_eq_true rfl) (hk_kv ?_)
  rw [hl_push, hl_up (Nat.le_of_ble_eq_true rfl)]
  simp only [List.cons_append, List.nil_append, List.set_cons_succ, List.set_cons_zero]
  refine pfX2_20 rfl dX2_init_31 (Nat.le_of_ble_eq_true rfl) rfl (Nat.le_of_ble_eq_true rfl) rfl ?_
  rw [hl_up (Nat.le_of_ble_eq_true rfl)]
  simp only [List.set_cons_succ, List.set_cons_zero]
  refine hk_aload_n dX2_init_34 rfl rfl ?_
  refine hk_new (ci := 6) tyX6 tyX6_ok (fs := [.int 0, .int 0, .null, .int 0]) rfl hk_in6 ⟨hk_t 92 (by decide +kernel) rfl, hk_t 34 (by decide +kernel) rfl, hk_t 3 (by decide +kernel) rfl⟩ hk_f6 ⟨by decide, by decide⟩ dX2_init_35 ?_
  rw [hl_push]
  simp only [List.cons_append, List.nil_append]
  show hk_WP _ _ _ _ _ _ _ _ (.ref 13 :: _) _ _
  refine hk_dup dX2_init_38 rfl ?_
  refine hk_bipush (v := 12) dX2_init_39 (by decide) ?_
  refine hk_bipush (v := 13) dX2_init_41 (by decide) ?_
  refine ivX2_13 rfl (ct_tinit (a := 13) (c := 14) (N := 156) (x := 12) (w := 13) (Nat.le_of_ble_eq_true rfl) rfl rfl (by decide) (by decide) (Nat.le_of_ble_eq_true rfl)) dX2_init_43 rfl rfl (by decide) ⟨by decide, by decide⟩ (Nat.le_of_ble_eq_true rfl) (hk_kv ?_)
  rw [hl_push, hl_up (Nat.le_of_ble_eq_true rfl)]
  simp only [List.cons_append, List.nil_append, List.set_cons_succ, List.set_cons_zero]
  refine pfX2_23 rfl dX2_init_46 (Nat.le_of_ble_eq_true rfl) rfl (Nat.le_of_ble_eq_true rfl) rfl ?_
  rw [hl_up (Nat.le_of_ble_eq_true rfl)]
  simp only [List.set_cons_succ, List.set_cons_zero]
  exact hk_return dX2_init_49 rfl (by decide) ⟨rfl, rfl⟩
set_option maxRecDepth 20000 in
set_option maxHeartbeats 2000000 in
theorem ct_X5_init {e0 e1 e2 e3 e4 e5 e6 e7 e8 e9 e10 e11 e12 e13 e14 e15 : hk_E} : hk_Cd MX5_init 1 2 320 [.ref 16] (hl [e0, e1, e2, e3, e4, e5, e6, e7, e8, e9, e10, e11, e12, e13, e14, e15, .inr (5, [.null, .null, .int 0, .int 0, .int 0])]) none (hl [e0, e1, e2, e3, e4, e5, e6, e7, e8, e9, e10, e11, e12, e13, e14, e15, .inr (5, [.ref 17, .ref 18, .int 0, .int 0, .int 0]), zi 160, zi 160]) := by
  refine hk_ofWP (by decide) (by simp [Value.category]) (Nat.le_of_ble_eq_true rfl) ?_
  show hk_WP _ _ _ _ _ _ _ [some (.ref 16)] [] _ _
  refine hk_aload_n dX5_init_0 rfl rfl ?_
  refine hk_objInit ⟨hk_t 118 (by decide +kernel) rfl, hk_t 25 (by decide +kernel) rfl, hk_t 26 (by decide +kernel) rfl⟩ dX5_init_1 (by decide) (Nat.le_of_ble_eq_true rfl) ?_
  refine hk_aload_n dX5_init_4 rfl rfl ?_
  refine hk_sipush (v := 160) dX5_init_5 (by decide) ?_
  refine hk_newa (t := 0) (ty := .int) (N := 160) rfl (Or.inl ⟨rfl, rfl⟩) (hk_t 57 (by decide +kernel) rfl) (by decide) (by decide) (Nat.le_of_ble_eq_true rfl) ⟨by decide, by decide⟩ dX5_init_8 ?_
  rw [show (.inl (0, 160, .inl (fun _ => 0)) : hk_E) = zi 160 from rfl]
  rw [hl_push]
  simp only [List.cons_append, List.nil_append]
  show hk_WP _ _ _ _ _ _ _ _ (.ref 17 :: _) _ _
  refine pfX5_11 rfl dX5_init_10 (Nat.le_of_ble_eq_true rfl) rfl (Nat.le_of_ble_eq_true rfl) rfl ?_
  rw [hl_up (Nat.le_of_ble_eq_true rfl)]
  simp only [List.set_cons_succ, List.set_cons_zero]
  refine hk_aload_n dX5_init_13 rfl rfl ?_
  refine hk_sipush (v := 160) dX5_init_14 (by decide) ?_
  refine hk_newa (t := 0) (ty := .int) (N := 160) rfl (Or.inl ⟨rfl, rfl⟩) (hk_t 57 (by decide +kernel) rfl) (by decide) (by decide) (Nat.le_of_ble_eq_true rfl) ⟨by decide, by decide⟩ dX5_init_17 ?_
  rw [show (.inl (0, 160, .inl (fun _ => 0)) : hk_E) = zi 160 from rfl]
  rw [hl_push]
  simp only [List.cons_append, List.nil_append]
  show hk_WP _ _ _ _ _ _ _ _ (.ref 18 :: _) _ _
  refine pfX5_15 rfl dX5_init_19 (Nat.le_of_ble_eq_true rfl) rfl (Nat.le_of_ble_eq_true rfl) rfl ?_
  rw [hl_up (Nat.le_of_ble_eq_true rfl)]
  simp only [List.set_cons_succ, List.set_cons_zero]
  exact hk_return dX5_init_22 rfl (by decide) ⟨rfl, rfl⟩
set_option maxRecDepth 20000 in
set_option maxHeartbeats 2000000 in
theorem ct_X4_init {e0 e1 e2 e3 e4 e5 e6 e7 e8 e9 e10 e11 e12 e13 e14 : hk_E} : hk_Cd MX4_init 2 6 534 [.ref 15] (hl [e0, e1, e2, e3, e4, e5, e6, e7, e8, e9, e10, e11, e12, e13, e14, .inr (4, [.null, .null, .int 0, .null, .null])]) none (hl [e0, e1, e2, e3, e4, e5, e6, e7, e8, e9, e10, e11, e12, e13, e14, .inr (4, [.ref 16, .ref 19, .int 0, .ref 20, .ref 21]), .inr (5, [.ref 17, .ref 18, .int 0, .int 0, .int 0]), zi 160, zi 160, .inl (2, 40, .inr (fun _ => none)), zi 9, zi 160]) := by
  refine hk_ofWP (by decide) (by simp [Value.category]) (Nat.le_of_ble_eq_true rfl) ?_
  show hk_WP _ _ _ _ _ _ _ [some (.ref 15)] [] _ _
  refine hk_aload_n dX4_init_0 rfl rfl ?_
  refine hk_objInit ⟨hk_t 112 (by decide +kernel) rfl, hk_t 25 (by decide +kernel) rfl, hk_t 26 (by decide +kernel) rfl⟩ dX4_init_1 (by decide) (Nat.le_of_ble_eq_true rfl) ?_
  refine hk_aload_n dX4_init_4 rfl rfl ?_
  refine hk_new (ci := 5) tyX5 tyX5_ok (fs := [.null, .null, .int 0, .int 0, .int 0]) rfl hk_in5 ⟨hk_t 113 (by decide +kernel) rfl, hk_t 114 (by decide +kernel) rfl, hk_t 6 (by decide +kernel) rfl⟩ hk_f5 ⟨by decide, by decide⟩ dX4_init_5 ?_
  rw [hl_push]
  simp only [List.cons_append, List.nil_append]
  show hk_WP _ _ _ _ _ _ _ _ (.ref 16 :: _) _ _
  refine hk_dup dX4_init_8 rfl ?_
  refine ivX4_11 rfl ct_X5_init dX4_init_9 rfl rfl (by decide) ⟨by decide, by decide⟩ (Nat.le_of_ble_eq_true rfl) (hk_kv ?_)
  refine pfX4_12 rfl dX4_init_12 (Nat.le_of_ble_eq_true rfl) rfl (Nat.le_of_ble_eq_true rfl) rfl ?_
  rw [hl_up (Nat.le_of_ble_eq_true rfl)]
  simp only [List.set_cons_succ, List.set_cons_zero]
  refine hk_aload_n dX4_init_15 rfl rfl ?_
  refine hk_bipush (v := 40) dX4_init_16 (by decide) ?_
  refine hk_newq (N := 40) (hk_t 140 (by decide +kernel) rfl) (by decide) (by decide) (Nat.le_of_ble_eq_true rfl) ⟨by decide, by decide⟩ dX4_init_18 ?_
  rw [hl_push]
  simp only [List.cons_append, List.nil_append]
  show hk_WP _ _ _ _ _ _ _ _ (.ref 19 :: _) _ _
  refine pfX4_20 rfl dX4_init_21 (Nat.le_of_ble_eq_true rfl) rfl (Nat.le_of_ble_eq_true rfl) rfl ?_
  rw [hl_up (Nat.le_of_ble_eq_true rfl)]
  simp only [List.set_cons_succ, List.set_cons_zero]
  refine hk_aload_n dX4_init_24 rfl rfl ?_
  refine hk_bipush (v := 9) dX4_init_25 (by decide) ?_
  refine hk_newa (t := 0) (ty := .int) (N := 9) rfl (Or.inl ⟨rfl, rfl⟩) (hk_t 57 (by decide +kernel) rfl) (by decide) (by decide) (Nat.le_of_ble_eq_true rfl) ⟨by decide, by decide⟩ dX4_init_27 ?_
  rw [show (.inl (0, 9, .inl (fun _ => 0)) : hk_E) = zi 9 from rfl]
  rw [hl_push]
  simp only [List.cons_append, List.nil_append]
  show hk_WP _ _ _ _ _ _ _ _ (.ref 20 :: _) _ _
  refine pfX4_24 rfl dX4_init_29 (Nat.le_of_ble_eq_true rfl) rfl (Nat.le_of_ble_eq_true rfl) rfl ?_
  rw [hl_up (Nat.le_of_ble_eq_true rfl)]
  simp only [List.set_cons_succ, List.set_cons_zero]
  refine hk_aload_n dX4_init_32 rfl rfl ?_
  refine hk_sipush (v := 160) dX4_init_33 (by decide) ?_
  refine hk_newa (t := 0) (ty := .int) (N := 160) rfl (Or.inl ⟨rfl, rfl⟩) (hk_t 57 (by decide +kernel) rfl) (by decide) (by decide) (Nat.le_of_ble_eq_true rfl) ⟨by decide, by decide⟩ dX4_init_36 ?_
  rw [show (.inl (0, 160, .inl (fun _ => 0)) : hk_E) = zi 160 from rfl]
  rw [hl_push]
  simp only [List.cons_append, List.nil_append]
  show hk_WP _ _ _ _ _ _ _ _ (.ref 21 :: _) _ _
  refine pfX4_28 rfl dX4_init_38 (Nat.le_of_ble_eq_true rfl) rfl (Nat.le_of_ble_eq_true rfl) rfl ?_
  rw [hl_up (Nat.le_of_ble_eq_true rfl)]
  simp only [List.set_cons_succ, List.set_cons_zero]
  exact hk_return dX4_init_41 rfl (by decide) ⟨rfl, rfl⟩
set_option maxRecDepth 20000 in
set_option maxHeartbeats 2000000 in
theorem ct_X8_init {e0 e1 e2 e3 e4 e5 e6 e7 e8 e9 e10 e11 e12 e13 e14 e15 e16 e17 e18 e19 e20 e21 : hk_E} : hk_Cd MX8_init 2 6 5125 [.ref 22] (hl [e0, e1, e2, e3, e4, e5, e6, e7, e8, e9, e10, e11, e12, e13, e14, e15, e16, e17, e18, e19, e20, e21, .inr (8, [.null, .null, .null])]) none (hl [e0, e1, e2, e3, e4, e5, e6, e7, e8, e9, e10, e11, e12, e13, e14, e15, e16, e17, e18, e19, e20, e21, .inr (8, [.ref 23, .ref 25, .ref 27]), .inr (6, [.int 300, .int 13, .ref 24, .int 0]), zi 3900, .inr (6, [.int 1, .int 13, .ref 26, .int 1]), zi 13, .inr (6, [.int 300, .int 4, .ref 28, .int 0]), zi 1200]) := by
  refine hk_ofWP (by decide) (by simp [Value.category]) (Nat.le_of_ble_eq_true rfl) ?_
  show hk_WP _ _ _ _ _ _ _ [some (.ref 22)] [] _ _
  refine hk_aload_n dX8_init_0 rfl rfl ?_
  refine hk_objInit ⟨hk_t 165 (by decide +kernel) rfl, hk_t 25 (by decide +kernel) rfl, hk_t 26 (by decide +kernel) rfl⟩ dX8_init_1 (by decide) (Nat.le_of_ble_eq_true rfl) ?_
  refine hk_aload_n dX8_init_4 rfl rfl ?_
  refine hk_new (ci := 6) tyX6 tyX6_ok (fs := [.int 0, .int 0, .null, .int 0]) rfl hk_in6 ⟨hk_t 166 (by decide +kernel) rfl, hk_t 34 (by decide +kernel) rfl, hk_t 3 (by decide +kernel) rfl⟩ hk_f6 ⟨by decide, by decide⟩ dX8_init_5 ?_
  rw [hl_push]
  simp only [List.cons_append, List.nil_append]
  show hk_WP _ _ _ _ _ _ _ _ (.ref 23 :: _) _ _
  refine hk_dup dX8_init_8 rfl ?_
  refine hk_sipush (v := 300) dX8_init_9 (by decide) ?_
  refine hk_bipush (v := 13) dX8_init_12 (by decide) ?_
  refine ivX8_11 rfl (ct_tinit (a := 23) (c := 24) (N := 3900) (x := 300) (w := 13) (Nat.le_of_ble_eq_true rfl) rfl rfl (by decide) (by decide) (Nat.le_of_ble_eq_true rfl)) dX8_init_14 rfl rfl (by decide) ⟨by decide, by decide⟩ (Nat.le_of_ble_eq_true rfl) (hk_kv ?_)
  rw [hl_push, hl_up (Nat.le_of_ble_eq_true rfl)]
  simp only [List.cons_append, List.nil_append, List.set_cons_succ, List.set_cons_zero]
  refine pfX8_14 rfl dX8_init_17 (Nat.le_of_ble_eq_true rfl) rfl (Nat.le_of_ble_eq_true rfl) rfl ?_
  rw [hl_up (Nat.le_of_ble_eq_true rfl)]
  simp only [List.set_cons_succ, List.set_cons_zero]
  refine hk_aload_n dX8_init_20 rfl rfl ?_
  refine hk_new (ci := 6) tyX6 tyX6_ok (fs := [.int 0, .int 0, .null, .int 0]) rfl hk_in6 ⟨hk_t 166 (by decide +kernel) rfl, hk_t 34 (by decide +kernel) rfl, hk_t 3 (by decide +kernel) rfl⟩ hk_f6 ⟨by decide, by decide⟩ dX8_init_21 ?_
  rw [hl_push]
  simp only [List.cons_append, List.nil_append]
  show hk_WP _ _ _ _ _ _ _ _ (.ref 25 :: _) _ _
  refine hk_dup dX8_init_24 rfl ?_
  refine hk_iconst (v := 1) dX8_init_25 (by decide) ?_
  refine hk_bipush (v := 13) dX8_init_26 (by decide) ?_
  refine ivX8_11 rfl (ct_tinit (a := 25) (c := 26) (N := 13) (x := 1) (w := 13) (Nat.le_of_ble_eq_true rfl) rfl rfl (by decide) (by decide) (Nat.le_of_ble_eq_true rfl)) dX8_init_28 rfl rfl (by decide) ⟨by decide, by decide⟩ (Nat.le_of_ble_eq_true rfl) (hk_kv ?_)
  rw [hl_push, hl_up (Nat.le_of_ble_eq_true rfl)]
  simp only [List.cons_append, List.nil_append, List.set_cons_succ, List.set_cons_zero]
  refine pfX8_18 rfl dX8_init_31 (Nat.le_of_ble_eq_true rfl) rfl (Nat.le_of_ble_eq_true rfl) rfl ?_
  rw [hl_up (Nat.le_of_ble_eq_true rfl)]
  simp only [List.set_cons_succ, List.set_cons_zero]
  refine hk_aload_n dX8_init_34 rfl rfl ?_
  refine hk_new (ci := 6) tyX6 tyX6_ok (fs := [.int 0, .int 0, .null, .int 0]) rfl hk_in6 ⟨hk_t 166 (by decide +kernel) rfl, hk_t 34 (by decide +kernel) rfl, hk_t 3 (by decide +kernel) rfl⟩ hk_f6 ⟨by decide, by decide⟩ dX8_init_35 ?_
  rw [hl_push]
  simp only [List.cons_append, List.nil_append]
  show hk_WP _ _ _ _ _ _ _ _ (.ref 27 :: _) _ _
  refine hk_dup dX8_init_38 rfl ?_
  refine hk_sipush (v := 300) dX8_init_39 (by decide) ?_
  refine hk_iconst (v := 4) dX8_init_42 (by decide) ?_
  refine ivX8_11 rfl (ct_tinit (a := 27) (c := 28) (N := 1200) (x := 300) (w := 4) (Nat.le_of_ble_eq_true rfl) rfl rfl (by decide) (by decide) (Nat.le_of_ble_eq_true rfl)) dX8_init_43 rfl rfl (by decide) ⟨by decide, by decide⟩ (Nat.le_of_ble_eq_true rfl) (hk_kv ?_)
  rw [hl_push, hl_up (Nat.le_of_ble_eq_true rfl)]
  simp only [List.cons_append, List.nil_append, List.set_cons_succ, List.set_cons_zero]
  refine pfX8_21 rfl dX8_init_46 (Nat.le_of_ble_eq_true rfl) rfl (Nat.le_of_ble_eq_true rfl) rfl ?_
  rw [hl_up (Nat.le_of_ble_eq_true rfl)]
  simp only [List.set_cons_succ, List.set_cons_zero]
  refine hk_aload_n dX8_init_49 rfl rfl ?_
  refine gfX8_18 rfl dX8_init_50 (Nat.le_of_ble_eq_true rfl) rfl rfl ?_
  refine ivX8_24 rfl (ct_tadd (a := 25) (c := 26) (Nat.le_of_ble_eq_true rfl) rfl) dX8_init_53 (Nat.le_of_ble_eq_true rfl) rfl rfl rfl (by decide) ⟨by decide, by decide⟩ (Nat.le_of_ble_eq_true rfl) (hk_kd ?_)
  rw [hl_up (Nat.le_of_ble_eq_true rfl)]
  simp only [List.set_cons_succ, List.set_cons_zero]
  refine hk_pop dX8_init_56 rfl ?_
  exact hk_return dX8_init_57 rfl (by decide) ⟨rfl, rfl⟩
set_option maxRecDepth 20000 in
set_option maxHeartbeats 2000000 in
theorem ct_X1_init {e0 e1 e2 e3 e4 e5 e6 e7 e8 e9 e10 e11 e12 e13 e14 e15 e16 e17 e18 e19 e20 e21 e22 e23 e24 e25 e26 e27 e28 : hk_E} : hk_Cd MX1_init 2 2 604 [.ref 29] (hl [e0, e1, e2, e3, e4, e5, e6, e7, e8, e9, e10, e11, e12, e13, e14, e15, e16, e17, e18, e19, e20, e21, e22, e23, e24, e25, e26, e27, e28, .inr (1, [.null])]) none (hl [e0, e1, e2, e3, e4, e5, e6, e7, e8, e9, e10, e11, e12, e13, e14, e15, e16, e17, e18, e19, e20, e21, e22, e23, e24, e25, e26, e27, e28, .inr (1, [.ref 30]), .inr (6, [.int 300, .int 2, .ref 31, .int 0]), zi 600]) := by
  refine hk_ofWP (by decide) (by simp [Value.category]) (Nat.le_of_ble_eq_true rfl) ?_
  show hk_WP _ _ _ _ _ _ _ [some (.ref 29)] [] _ _
  refine hk_aload_n dX1_init_0 rfl rfl ?_
  refine hk_objInit ⟨hk_t 194 (by decide +kernel) rfl, hk_t 25 (by decide +kernel) rfl, hk_t 26 (by decide +kernel) rfl⟩ dX1_init_1 (by decide) (Nat.le_of_ble_eq_true rfl) ?_
  refine hk_aload_n dX1_init_4 rfl rfl ?_
  refine hk_new (ci := 6) tyX6 tyX6_ok (fs := [.int 0, .int 0, .null, .int 0]) rfl hk_in6 ⟨hk_t 195 (by decide +kernel) rfl, hk_t 34 (by decide +kernel) rfl, hk_t 3 (by decide +kernel) rfl⟩ hk_f6 ⟨by decide, by decide⟩ dX1_init_5 ?_
  rw [hl_push]
  simp only [List.cons_append, List.nil_append]
  show hk_WP _ _ _ _ _ _ _ _ (.ref 30 :: _) _ _
  refine hk_dup dX1_init_8 rfl ?_
  refine hk_sipush (v := 300) dX1_init_9 (by decide) ?_
  refine hk_iconst (v := 2) dX1_init_12 (by decide) ?_
  refine ivX1_11 rfl (ct_tinit (a := 30) (c := 31) (N := 600) (x := 300) (w := 2) (Nat.le_of_ble_eq_true rfl) rfl rfl (by decide) (by decide) (Nat.le_of_ble_eq_true rfl)) dX1_init_13 rfl rfl (by decide) ⟨by decide, by decide⟩ (Nat.le_of_ble_eq_true rfl) (hk_kv ?_)
  rw [hl_push, hl_up (Nat.le_of_ble_eq_true rfl)]
  simp only [List.cons_append, List.nil_append, List.set_cons_succ, List.set_cons_zero]
  refine pfX1_14 rfl dX1_init_16 (Nat.le_of_ble_eq_true rfl) rfl (Nat.le_of_ble_eq_true rfl) rfl ?_
  rw [hl_up (Nat.le_of_ble_eq_true rfl)]
  simp only [List.set_cons_succ, List.set_cons_zero]
  exact hk_return dX1_init_19 rfl (by decide) ⟨rfl, rfl⟩
set_option maxRecDepth 20000 in
set_option maxHeartbeats 2000000 in
theorem ct_X7_init {e0 e1 e2 e3 e4 e5 e6 e7 e8 e9 e10 e11 e12 e13 e14 e15 e16 e17 e18 e19 e20 e21 e22 e23 e24 e25 e26 e27 e28 e29 e30 e31 : hk_E} : hk_Cd MX7_init 2 4 428 [.ref 32] (hl [e0, e1, e2, e3, e4, e5, e6, e7, e8, e9, e10, e11, e12, e13, e14, e15, e16, e17, e18, e19, e20, e21, e22, e23, e24, e25, e26, e27, e28, e29, e30, e31, .inr (7, [.null, .null])]) none (hl [e0, e1, e2, e3, e4, e5, e6, e7, e8, e9, e10, e11, e12, e13, e14, e15, e16, e17, e18, e19, e20, e21, e22, e23, e24, e25, e26, e27, e28, e29, e30, e31, .inr (7, [.ref 33, .ref 35]), .inr (6, [.int 60, .int 4, .ref 34, .int 0]), zi 240, .inr (6, [.int 60, .int 3, .ref 36, .int 0]), zi 180]) := by
  refine hk_ofWP (by decide) (by simp [Value.category]) (Nat.le_of_ble_eq_true rfl) ?_
  show hk_WP _ _ _ _ _ _ _ [some (.ref 32)] [] _ _
  refine hk_aload_n dX7_init_0 rfl rfl ?_
  refine hk_objInit ⟨hk_t 207 (by decide +kernel) rfl, hk_t 25 (by decide +kernel) rfl, hk_t 26 (by decide +kernel) rfl⟩ dX7_init_1 (by decide) (Nat.le_of_ble_eq_true rfl) ?_
  refine hk_aload_n dX7_init_4 rfl rfl ?_
  refine hk_new (ci := 6) tyX6 tyX6_ok (fs := [.int 0, .int 0, .null, .int 0]) rfl hk_in6 ⟨hk_t 208 (by decide +kernel) rfl, hk_t 34 (by decide +kernel) rfl, hk_t 3 (by decide +kernel) rfl⟩ hk_f6 ⟨by decide, by decide⟩ dX7_init_5 ?_
  rw [hl_push]
  simp only [List.cons_append, List.nil_append]
  show hk_WP _ _ _ _ _ _ _ _ (.ref 33 :: _) _ _
  refine hk_dup dX7_init_8 rfl ?_
  refine hk_bipush (v := 60) dX7_init_9 (by decide) ?_
  refine hk_iconst (v := 4) dX7_init_11 (by decide) ?_
  refine ivX7_11 rfl (ct_tinit (a := 33) (c := 34) (N := 240) (x := 60) (w := 4) (Nat.le_of_ble_eq_true rfl) rfl rfl (by decide) (by decide) (Nat.le_of_ble_eq_true rfl)) dX7_init_12 rfl rfl (by decide) ⟨by decide, by decide⟩ (Nat.le_of_ble_eq_true rfl) (hk_kv ?_)
  rw [hl_push, hl_up (Nat.le_of_ble_eq_true rfl)]
  simp only [List.cons_append, List.nil_append, List.set_cons_succ, List.set_cons_zero]
  refine pfX7_14 rfl dX7_init_15 (Nat.le_of_ble_eq_true rfl) rfl (Nat.le_of_ble_eq_true rfl) rfl ?_
  rw [hl_up (Nat.le_of_ble_eq_true rfl)]
  simp only [List.set_cons_succ, List.set_cons_zero]
  refine hk_aload_n dX7_init_18 rfl rfl ?_
  refine hk_new (ci := 6) tyX6 tyX6_ok (fs := [.int 0, .int 0, .null, .int 0]) rfl hk_in6 ⟨hk_t 208 (by decide +kernel) rfl, hk_t 34 (by decide +kernel) rfl, hk_t 3 (by decide +kernel) rfl⟩ hk_f6 ⟨by decide, by decide⟩ dX7_init_19 ?_
  rw [hl_push]
  simp only [List.cons_append, List.nil_append]
  show hk_WP _ _ _ _ _ _ _ _ (.ref 35 :: _) _ _
  refine hk_dup dX7_init_22 rfl ?_
  refine hk_bipush (v := 60) dX7_init_23 (by decide) ?_
  refine hk_iconst (v := 3) dX7_init_25 (by decide) ?_
  refine ivX7_11 rfl (ct_tinit (a := 35) (c := 36) (N := 180) (x := 60) (w := 3) (Nat.le_of_ble_eq_true rfl) rfl rfl (by decide) (by decide) (Nat.le_of_ble_eq_true rfl)) dX7_init_26 rfl rfl (by decide) ⟨by decide, by decide⟩ (Nat.le_of_ble_eq_true rfl) (hk_kv ?_)
  rw [hl_push, hl_up (Nat.le_of_ble_eq_true rfl)]
  simp only [List.cons_append, List.nil_append, List.set_cons_succ, List.set_cons_zero]
  refine pfX7_18 rfl dX7_init_29 (Nat.le_of_ble_eq_true rfl) rfl (Nat.le_of_ble_eq_true rfl) rfl ?_
  rw [hl_up (Nat.le_of_ble_eq_true rfl)]
  simp only [List.set_cons_succ, List.set_cons_zero]
  exact hk_return dX7_init_32 rfl (by decide) ⟨rfl, rfl⟩
set_option maxRecDepth 20000 in
set_option maxHeartbeats 2000000 in
theorem ct_X9_init : hk_Cd MX9_init 3 36 8576 [.ref 0] (hl [.inr (9, [.int 0, .null, .null, .null, .null, .null, .null])]) none (hl [.inr (9, [.int 0, .ref 1, .ref 8, .ref 15, .ref 22, .ref 29, .ref 32]), .inr (0, [.int 0, .ref 2, .ref 4, .ref 5, .ref 6, .ref 7, .int 0]), .inr (6, [.int 60, .int 13, .ref 3, .int 0]), zi 780, .inl (0, 12, .inl (sf 12 360)), .inl (0, 12, .inl (sf 12 1080)), zi 24, zi 24, .inr (2, [.ref 9, .ref 11, .ref 13]), .inr (6, [.int 30, .int 8, .ref 10, .int 0]), zi 240, .inr (6, [.int 200, .int 3, .ref 12, .int 0]), zi 600, .inr (6, [.int 12, .int 13, .ref 14, .int 0]), zi 156, .inr (4, [.ref 16, .ref 19, .int 0, .ref 20, .ref 21]), .inr (5, [.ref 17, .ref 18, .int 0, .int 0, .int 0]), zi 160, zi 160, .inl (2, 40, .inr (fun _ => none)), zi 9, zi 160, .inr (8, [.ref 23, .ref 25, .ref 27]), .inr (6, [.int 300, .int 13, .ref 24, .int 0]), zi 3900, .inr (6, [.int 1, .int 13, .ref 26, .int 1]), zi 13, .inr (6, [.int 300, .int 4, .ref 28, .int 0]), zi 1200, .inr (1, [.ref 30]), .inr (6, [.int 300, .int 2, .ref 31, .int 0]), zi 600, .inr (7, [.ref 33, .ref 35]), .inr (6, [.int 60, .int 4, .ref 34, .int 0]), zi 240, .inr (6, [.int 60, .int 3, .ref 36, .int 0]), zi 180]) := by
  refine hk_ofWP (by decide) (by simp [Value.category]) (Nat.le_of_ble_eq_true rfl) ?_
  show hk_WP _ _ _ _ _ _ _ [some (.ref 0)] [] _ _
  refine hk_aload_n dX9_init_0 rfl rfl ?_
  refine hk_objInit ⟨hk_t 24 (by decide +kernel) rfl, hk_t 25 (by decide +kernel) rfl, hk_t 26 (by decide +kernel) rfl⟩ dX9_init_1 (by decide) (Nat.le_of_ble_eq_true rfl) ?_
  refine hk_aload_n dX9_init_4 rfl rfl ?_
  refine hk_iconst (v := 0) dX9_init_5 (by decide) ?_
  refine pfX9_7 rfl dX9_init_6 (Nat.le_of_ble_eq_true rfl) rfl (Nat.le_of_ble_eq_true rfl) ?_
  rw [hl_up (Nat.le_of_ble_eq_true rfl)]
  simp only [List.set_cons_succ, List.set_cons_zero]
  refine hk_aload_n dX9_init_9 rfl rfl ?_
  refine hk_new (ci := 0) tyX0 tyX0_ok (fs := [.int 0, .null, .null, .null, .null, .null, .int 0]) rfl hk_in0 ⟨hk_t 27 (by decide +kernel) rfl, hk_t 28 (by decide +kernel) rfl, hk_t 2 (by decide +kernel) rfl⟩ hk_f0 ⟨by decide, by decide⟩ dX9_init_10 ?_
  rw [hl_push]
  simp only [List.cons_append, List.nil_append]
  show hk_WP _ _ _ _ _ _ _ _ (.ref 1 :: _) _ _
  refine hk_dup dX9_init_13 rfl ?_
  refine ivX9_15 rfl ct_X0_init dX9_init_14 rfl rfl (by decide) ⟨by decide, by decide⟩ (Nat.le_of_ble_eq_true rfl) (hk_kv ?_)
  refine pfX9_16 rfl dX9_init_17 (Nat.le_of_ble_eq_true rfl) rfl (Nat.le_of_ble_eq_true rfl) rfl ?_
  rw [hl_up (Nat.le_of_ble_eq_true rfl)]
  simp only [List.set_cons_succ, List.set_cons_zero]
  refine hk_aload_n dX9_init_20 rfl rfl ?_
  refine hk_new (ci := 2) tyX2 tyX2_ok (fs := [.null, .null, .null]) rfl hk_in2 ⟨hk_t 86 (by decide +kernel) rfl, hk_t 87 (by decide +kernel) rfl, hk_t 4 (by decide +kernel) rfl⟩ hk_f2 ⟨by decide, by decide⟩ dX9_init_21 ?_
  rw [hl_push]
  simp only [List.cons_append, List.nil_append]
  show hk_WP _ _ _ _ _ _ _ _ (.ref 8 :: _) _ _
  refine hk_dup dX9_init_24 rfl ?_
  refine ivX9_22 rfl ct_X2_init dX9_init_25 rfl rfl (by decide) ⟨by decide, by decide⟩ (Nat.le_of_ble_eq_true rfl) (hk_kv ?_)
  refine pfX9_23 rfl dX9_init_28 (Nat.le_of_ble_eq_true rfl) rfl (Nat.le_of_ble_eq_true rfl) rfl ?_
  rw [hl_up (Nat.le_of_ble_eq_true rfl)]
  simp only [List.set_cons_succ, List.set_cons_zero]
  refine hk_aload_n dX9_init_31 rfl rfl ?_
  refine hk_new (ci := 4) tyX4 tyX4_ok (fs := [.null, .null, .int 0, .null, .null]) rfl hk_in4 ⟨hk_t 107 (by decide +kernel) rfl, hk_t 108 (by decide +kernel) rfl, hk_t 5 (by decide +kernel) rfl⟩ hk_f4 ⟨by decide, by decide⟩ dX9_init_32 ?_
  rw [hl_push]
  simp only [List.cons_append, List.nil_append]
  show hk_WP _ _ _ _ _ _ _ _ (.ref 15 :: _) _ _
  refine hk_dup dX9_init_35 rfl ?_
  refine ivX9_29 rfl ct_X4_init dX9_init_36 rfl rfl (by decide) ⟨by decide, by decide⟩ (Nat.le_of_ble_eq_true rfl) (hk_kv ?_)
  refine pfX9_30 rfl dX9_init_39 (Nat.le_of_ble_eq_true rfl) rfl (Nat.le_of_ble_eq_true rfl) rfl ?_
  rw [hl_up (Nat.le_of_ble_eq_true rfl)]
  simp only [List.set_cons_succ, List.set_cons_zero]
  refine hk_aload_n dX9_init_42 rfl rfl ?_
  refine hk_new (ci := 8) tyX8 tyX8_ok (fs := [.null, .null, .null]) rfl hk_in8 ⟨hk_t 160 (by decide +kernel) rfl, hk_t 161 (by decide +kernel) rfl, hk_t 7 (by decide +kernel) rfl⟩ hk_f8 ⟨by decide, by decide⟩ dX9_init_43 ?_
  rw [hl_push]
  simp only [List.cons_append, List.nil_append]
  show hk_WP _ _ _ _ _ _ _ _ (.ref 22 :: _) _ _
  refine hk_dup dX9_init_46 rfl ?_
  refine ivX9_36 rfl ct_X8_init dX9_init_47 rfl rfl (by decide) ⟨by decide, by decide⟩ (Nat.le_of_ble_eq_true rfl) (hk_kv ?_)
  refine pfX9_37 rfl dX9_init_50 (Nat.le_of_ble_eq_true rfl) rfl (Nat.le_of_ble_eq_true rfl) rfl ?_
  rw [hl_up (Nat.le_of_ble_eq_true rfl)]
  simp only [List.set_cons_succ, List.set_cons_zero]
  refine hk_aload_n dX9_init_53 rfl rfl ?_
  refine hk_new (ci := 1) tyX1 tyX1_ok (fs := [.null]) rfl hk_in1 ⟨hk_t 189 (by decide +kernel) rfl, hk_t 190 (by decide +kernel) rfl, hk_t 8 (by decide +kernel) rfl⟩ hk_f1 ⟨by decide, by decide⟩ dX9_init_54 ?_
  rw [hl_push]
  simp only [List.cons_append, List.nil_append]
  show hk_WP _ _ _ _ _ _ _ _ (.ref 29 :: _) _ _
  refine hk_dup dX9_init_57 rfl ?_
  refine ivX9_43 rfl ct_X1_init dX9_init_58 rfl rfl (by decide) ⟨by decide, by decide⟩ (Nat.le_of_ble_eq_true rfl) (hk_kv ?_)
  refine pfX9_44 rfl dX9_init_61 (Nat.le_of_ble_eq_true rfl) rfl (Nat.le_of_ble_eq_true rfl) rfl ?_
  rw [hl_up (Nat.le_of_ble_eq_true rfl)]
  simp only [List.set_cons_succ, List.set_cons_zero]
  refine hk_aload_n dX9_init_64 rfl rfl ?_
  refine hk_new (ci := 7) tyX7 tyX7_ok (fs := [.null, .null]) rfl hk_in7 ⟨hk_t 202 (by decide +kernel) rfl, hk_t 203 (by decide +kernel) rfl, hk_t 9 (by decide +kernel) rfl⟩ hk_f7 ⟨by decide, by decide⟩ dX9_init_65 ?_
  rw [hl_push]
  simp only [List.cons_append, List.nil_append]
  show hk_WP _ _ _ _ _ _ _ _ (.ref 32 :: _) _ _
  refine hk_dup dX9_init_68 rfl ?_
  refine ivX9_50 rfl ct_X7_init dX9_init_69 rfl rfl (by decide) ⟨by decide, by decide⟩ (Nat.le_of_ble_eq_true rfl) (hk_kv ?_)
  refine pfX9_51 rfl dX9_init_72 (Nat.le_of_ble_eq_true rfl) rfl (Nat.le_of_ble_eq_true rfl) rfl ?_
  rw [hl_up (Nat.le_of_ble_eq_true rfl)]
  simp only [List.set_cons_succ, List.set_cons_zero]
  exact hk_return dX9_init_75 rfl (by decide) ⟨rfl, rfl⟩
end CRy
