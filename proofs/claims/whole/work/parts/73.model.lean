/-! THE REFERENCE'S CONSTRUCTOR, and what both are at the start -/
section CTy
variable {L nC nS nK nD : Nat} {m m1 m2 ms : Nat → Nat → Int32} {z : Nat → Nat} {h : hk_H}
def hm (e : Nat → hk_E) (fs : List Value) (es : List hk_E) : hk_H := (38 + es.length, fun q => if q < 37 then e q else if q = 37 then .inr (10, fs) else es.getD (q - 38) (.inr (0, [])))
theorem hm_push {e : Nat → hk_E} {fs : List Value} {es : List hk_E} {x : hk_E} : hk_push (hm e fs es) x = hm e fs (es ++ [x]) := by
  refine Prod.ext (by show 38 + es.length + 1 = 38 + (es ++ [x]).length; rw [List.length_append]; rfl) ?_
  funext q
  show (if q = 38 + es.length then x else if q < 37 then e q else if q = 37 then .inr (10, fs) else es.getD (q - 38) _) = (if q < 37 then e q else if q = 37 then .inr (10, fs) else (es ++ [x]).getD (q - 38) _)
  by_cases k1 : q < 37
  · rw [if_neg (by omega), if_pos k1, if_pos k1]
  by_cases k2 : q = 37
  · rw [if_neg (by omega), if_neg k1, if_pos k2, if_neg k1, if_pos k2]
  rw [if_neg k1, if_neg k2, if_neg k1, if_neg k2]
  by_cases k3 : q = 38 + es.length
  · subst k3
    rw [if_pos rfl, show 38 + es.length - 38 = es.length by omega]
    simp [List.getD_eq_getElem?_getD]
  · rw [if_neg k3]
    by_cases e2 : q - 38 < es.length
    · simp [List.getD_eq_getElem?_getD, List.getElem?_append_left e2]
    · have h1 : es.length ≤ q - 38 := by omega
      have h2 : (es ++ [x]).length ≤ q - 38 := by rw [List.length_append, List.length_singleton]; omega
      simp [List.getD_eq_getElem?_getD, List.getElem?_eq_none h1, List.getElem?_eq_none h2]
theorem hm_up {e : Nat → hk_E} {fs gs : List Value} {es : List hk_E} : hk_up (hm e fs es) 37 (.inr (10, gs)) = hm e gs es := by
  refine Prod.ext rfl ?_
  funext q
  show (if q = 37 then .inr (10, gs) else if q < 37 then e q else if q = 37 then .inr (10, fs) else es.getD (q - 38) _) = (if q < 37 then e q else if q = 37 then .inr (10, gs) else es.getD (q - 38) _)
  by_cases k1 : q = 37
  · rw [if_pos k1, if_neg (by omega), if_pos k1]
  · rw [if_neg k1, if_neg k1, if_neg k1]
theorem hm_0 {e : Nat → hk_E} {fs : List Value} {r0 r1 x : hk_E} {rt : List hk_E} : hk_up (hm e fs (r0 :: r1 :: rt)) 38 x = hm e fs (x :: r1 :: rt) := by
  refine Prod.ext rfl ?_
  funext q
  show (if q = 38 then x else if q < 37 then e q else if q = 37 then .inr (10, fs) else (r0 :: r1 :: rt).getD (q - 38) _) = (if q < 37 then e q else if q = 37 then .inr (10, fs) else (x :: r1 :: rt).getD (q - 38) _)
  by_cases k1 : q = 38
  · subst k1; rfl
  rw [if_neg k1]
  by_cases k2 : q < 38
  · by_cases k3 : q < 37
    · rw [if_pos k3, if_pos k3]
    · have k4 : q = 37 := by omega
      subst k4; rfl
  · obtain ⟨j, rfl⟩ : ∃ j, q = 39 + j := ⟨q - 39, by omega⟩
    rw [if_neg (by omega), if_neg (by omega), if_neg (by omega), if_neg (by omega), show 39 + j - 38 = j + 1 by omega]
    rfl
theorem hm_1 {e : Nat → hk_E} {fs : List Value} {r0 r1 x : hk_E} {rt : List hk_E} : hk_up (hm e fs (r0 :: r1 :: rt)) 39 x = hm e fs (r0 :: x :: rt) := by
  refine Prod.ext rfl ?_
  funext q
  show (if q = 39 then x else if q < 37 then e q else if q = 37 then .inr (10, fs) else (r0 :: r1 :: rt).getD (q - 38) _) = (if q < 37 then e q else if q = 37 then .inr (10, fs) else (r0 :: x :: rt).getD (q - 38) _)
  by_cases k1 : q = 39
  · subst k1; rfl
  rw [if_neg k1]
  by_cases k2 : q < 39
  · by_cases k3 : q < 37
    · rw [if_pos k3, if_pos k3]
    · by_cases k4 : q = 37
      · subst k4; rfl
      · have k5 : q = 38 := by omega
        subst k5; rfl
  · obtain ⟨j, rfl⟩ : ∃ j, q = 40 + j := ⟨q - 40, by omega⟩
    rw [if_neg (by omega), if_neg (by omega), if_neg (by omega), if_neg (by omega), show 40 + j - 38 = j + 1 + 1 by omega]
    rfl
theorem hm_lt {e : Nat → hk_E} {fs : List Value} {r0 r1 : hk_E} {rt : List hk_E} {k : Nat} (hk : k < 40) : k < (hm e fs (r0 :: r1 :: rt)).1 := by
  show k < 38 + (rt.length + 1 + 1)
  omega
set_option maxRecDepth 20000 in
set_option maxHeartbeats 2000000 in
theorem lp_model {e : Nat → hk_E} {a0 : Value} {ft : List Value} {rt : List hk_E} (i : Nat) (hi : i ≤ 12) : hk_WP MX10_init 1 61 14745 61 14745 520 [some (.ref 37), some (.int (nI i))] [] (hm e (a0 :: .ref 38 :: .ref 39 :: ft) (.inl (0, 12, .inl (sf i 360)) :: .inl (0, 12, .inl (sf i 1080)) :: rt)) (fun r h => r = none ∧ h = (hm e (a0 :: .ref 38 :: .ref 39 :: ft) (.inl (0, 12, .inl (sf 12 360)) :: .inl (0, 12, .inl (sf 12 1080)) :: rt))) := by
  refine hk_iload_n dX10_init_520 rfl rfl ?_
  refine hk_bipush (v := 12) dX10_init_521 (by decide) ?_
  refine hk_icmp_ge (tgt := 550) dX10_init_523 (by decide) (fun c523 => ?_) (fun c523 => ?_)
  · rw [show (12 : Int32) = nI 12 from rfl, nI_leI (by omega) (by omega)] at c523
    exact hk_return dX10_init_550 rfl (by decide) ⟨rfl, by rw [show i = 12 by omega]⟩
  · rw [show (12 : Int32) = nI 12 from rfl, nI_leI (by omega) (by omega)] at c523
    refine hk_aload_n dX10_init_526 rfl rfl ?_
    refine gfX10_7 rfl dX10_init_527 (hm_lt (by decide)) rfl rfl ?_
    refine hk_iload_n dX10_init_530 rfl rfl ?_
    refine hk_sipush (v := 360) dX10_init_531 (by decide) ?_
    refine hk_iastore dX10_init_534 (hm_lt (by decide)) rfl (vp_in_nI (by omega) (by decide)) ?_
    rw [nI_clamp (by omega), sf_s, hm_0]
    refine hk_aload_n dX10_init_535 rfl rfl ?_
    refine gfX10_13 rfl dX10_init_536 (hm_lt (by decide)) rfl rfl ?_
    refine hk_iload_n dX10_init_539 rfl rfl ?_
    refine hk_sipush (v := 1080) dX10_init_540 (by decide) ?_
    refine hk_iastore dX10_init_543 (hm_lt (by decide)) rfl (vp_in_nI (by omega) (by decide)) ?_
    rw [nI_clamp (by omega), sf_s, hm_1]
    refine hk_iinc (v := nI (i + 1)) dX10_init_544 rfl (nI_1 i) (by decide) rfl ?_
    refine hk_goto (tgt := 520) dX10_init_547 (by decide) ?_
    have hlt : i < 12 := by omega
    exact lp_model (i + 1) hlt
termination_by 12 - i
decreasing_by all_goals omega
def mFS : List Value := [.int 0, .ref 38, .ref 39, .int 0, .ref 40, .ref 41, .ref 42, .ref 43, .ref 44, .ref 45, .ref 46, .int 0, .ref 47, .ref 48, .ref 49, .int 0, .ref 50, .int 0, .ref 51, .ref 52, .ref 53, .ref 54, .ref 55, .ref 56, .ref 57, .ref 58, .int 0, .ref 59, .ref 60, .ref 61, .int 0, .ref 62, .ref 63, .ref 64, .ref 65, .int 0, .ref 66, .int 0, .ref 67, .ref 68, .ref 69, .ref 70, .ref 71, .int 0, .int 0, .int 0, .ref 72, .ref 73, .ref 74, .ref 75, .ref 76, .ref 77, .ref 78, .ref 79, .ref 80, .ref 81, .ref 82, .ref 83, .ref 84, .ref 85, .int 0, .ref 86, .ref 87, .ref 88, .ref 89, .int 0, .ref 90, .ref 91, .int 0, .ref 92, .ref 93, .ref 94, .ref 95, .int 0, .ref 96, .ref 97, .ref 98, .int 0, .int 0, .int 0, .int 0]
def mES : List hk_E := [.inl (0, 12, .inl (sf 12 360)), .inl (0, 12, .inl (sf 12 1080)), zi 60, zi 60, zi 60, zi 60, zi 240, zi 240, zi 60, zi 24, zi 24, zi 24, zi 24, zi 30, zi 30, zi 30, zi 30, zi 30, zi 30, zi 30, zi 30, zi 200, zi 200, zi 200, zi 12, zi 12, zi 120, zi 12, zi 160, zi 6400, zi 40, zi 40, zi 40, zi 40, zi 9, zi 300, zi 300, zi 300, zi 300, zi 300, zi 300, zi 300, zi 300, zi 300, zi 300, zi 300, .inl (1, 300, .inl (fun _ => 0)), zi 300, zi 300, zi 300, zi 300, zi 300, zi 300, zi 300, zi 60, zi 60, zi 60, zi 60, zi 60, zi 60, zi 60]
set_option maxRecDepth 20000 in
set_option maxHeartbeats 2000000 in
theorem ct_X10_init {e : Nat → hk_E} : hk_Cd MX10_init 1 61 14745 [.ref 37] (hm e [.int 0, .null, .null, .int 0, .null, .null, .null, .null, .null, .null, .null, .int 0, .null, .null, .null, .int 0, .null, .int 0, .null, .null, .null, .null, .null, .null, .null, .null, .int 0, .null, .null, .null, .int 0, .null, .null, .null, .null, .int 0, .null, .int 0, .null, .null, .null, .null, .null, .int 0, .int 0, .int 0, .null, .null, .null, .null, .null, .null, .null, .null, .null, .null, .null, .null, .null, .null, .int 0, .null, .null, .null, .null, .int 0, .null, .null, .int 0, .null, .null, .null, .null, .int 0, .null, .null, .null, .int 0, .int 0, .int 0, .int 0] []) none (hm e mFS mES) := by
  refine hk_ofWP (by decide) (by simp [Value.category]) (Nat.le_of_ble_eq_true rfl) ?_
  show hk_WP _ _ _ _ _ _ _ [some (.ref 37), none] [] _ _
  refine hk_aload_n dX10_init_0 rfl rfl ?_
  refine hk_objInit ⟨hk_t 905 (by decide +kernel) rfl, hk_t 25 (by decide +kernel) rfl, hk_t 26 (by decide +kernel) rfl⟩ dX10_init_1 (by decide) (Nat.le_of_ble_eq_true rfl) ?_
  refine hk_aload_n dX10_init_4 rfl rfl ?_
  refine hk_bipush (v := 12) dX10_init_5 (by decide) ?_
  refine hk_newa (t := 0) (ty := .int) (N := 12) rfl (Or.inl ⟨rfl, rfl⟩) (hk_t 57 (by decide +kernel) rfl) (by decide) (by decide) (Nat.le_of_ble_eq_true rfl) ⟨by decide, by decide⟩ dX10_init_7 ?_
  rw [show (.inl (0, 12, .inl (fun _ => 0)) : hk_E) = zi 12 from rfl]
  rw [hm_push]
  simp only [List.cons_append, List.nil_append]
  show hk_WP _ _ _ _ _ _ _ _ (.ref 38 :: _) _ _
  refine pfX10_7 rfl dX10_init_9 (Nat.le_of_ble_eq_true rfl) rfl (Nat.le_of_ble_eq_true rfl) rfl ?_
  rw [hm_up]
  simp only [List.set_cons_succ, List.set_cons_zero]
  refine hk_aload_n dX10_init_12 rfl rfl ?_
  refine hk_bipush (v := 12) dX10_init_13 (by decide) ?_
  refine hk_newa (t := 0) (ty := .int) (N := 12) rfl (Or.inl ⟨rfl, rfl⟩) (hk_t 57 (by decide +kernel) rfl) (by decide) (by decide) (Nat.le_of_ble_eq_true rfl) ⟨by decide, by decide⟩ dX10_init_15 ?_
  rw [show (.inl (0, 12, .inl (fun _ => 0)) : hk_E) = zi 12 from rfl]
  rw [hm_push]
  simp only [List.cons_append, List.nil_append]
  show hk_WP _ _ _ _ _ _ _ _ (.ref 39 :: _) _ _
  refine pfX10_13 rfl dX10_init_17 (Nat.le_of_ble_eq_true rfl) rfl (Nat.le_of_ble_eq_true rfl) rfl ?_
  rw [hm_up]
  simp only [List.set_cons_succ, List.set_cons_zero]
  refine hk_aload_n dX10_init_20 rfl rfl ?_
  refine hk_bipush (v := 60) dX10_init_21 (by decide) ?_
  refine hk_newa (t := 0) (ty := .int) (N := 60) rfl (Or.inl ⟨rfl, rfl⟩) (hk_t 57 (by decide +kernel) rfl) (by decide) (by decide) (Nat.le_of_ble_eq_true rfl) ⟨by decide, by decide⟩ dX10_init_23 ?_
  rw [show (.inl (0, 60, .inl (fun _ => 0)) : hk_E) = zi 60 from rfl]
  rw [hm_push]
  simp only [List.cons_append, List.nil_append]
  show hk_WP _ _ _ _ _ _ _ _ (.ref 40 :: _) _ _
  refine pfX10_16 rfl dX10_init_25 (Nat.le_of_ble_eq_true rfl) rfl (Nat.le_of_ble_eq_true rfl) rfl ?_
  rw [hm_up]
  simp only [List.set_cons_succ, List.set_cons_zero]
  refine hk_aload_n dX10_init_28 rfl rfl ?_
  refine hk_bipush (v := 60) dX10_init_29 (by decide) ?_
  refine hk_newa (t := 0) (ty := .int) (N := 60) rfl (Or.inl ⟨rfl, rfl⟩) (hk_t 57 (by decide +kernel) rfl) (by decide) (by decide) (Nat.le_of_ble_eq_true rfl) ⟨by decide, by decide⟩ dX10_init_31 ?_
  rw [show (.inl (0, 60, .inl (fun _ => 0)) : hk_E) = zi 60 from rfl]
  rw [hm_push]
  simp only [List.cons_append, List.nil_append]
  show hk_WP _ _ _ _ _ _ _ _ (.ref 41 :: _) _ _
  refine pfX10_19 rfl dX10_init_33 (Nat.le_of_ble_eq_true rfl) rfl (Nat.le_of_ble_eq_true rfl) rfl ?_
  rw [hm_up]
  simp only [List.set_cons_succ, List.set_cons_zero]
  refine hk_aload_n dX10_init_36 rfl rfl ?_
  refine hk_bipush (v := 60) dX10_init_37 (by decide) ?_
  refine hk_newa (t := 0) (ty := .int) (N := 60) rfl (Or.inl ⟨rfl, rfl⟩) (hk_t 57 (by decide +kernel) rfl) (by decide) (by decide) (Nat.le_of_ble_eq_true rfl) ⟨by decide, by decide⟩ dX10_init_39 ?_
  rw [show (.inl (0, 60, .inl (fun _ => 0)) : hk_E) = zi 60 from rfl]
  rw [hm_push]
  simp only [List.cons_append, List.nil_append]
  show hk_WP _ _ _ _ _ _ _ _ (.ref 42 :: _) _ _
  refine pfX10_22 rfl dX10_init_41 (Nat.le_of_ble_eq_true rfl) rfl (Nat.le_of_ble_eq_true rfl) rfl ?_
  rw [hm_up]
  simp only [List.set_cons_succ, List.set_cons_zero]
  refine hk_aload_n dX10_init_44 rfl rfl ?_
  refine hk_bipush (v := 60) dX10_init_45 (by decide) ?_
  refine hk_newa (t := 0) (ty := .int) (N := 60) rfl (Or.inl ⟨rfl, rfl⟩) (hk_t 57 (by decide +kernel) rfl) (by decide) (by decide) (Nat.le_of_ble_eq_true rfl) ⟨by decide, by decide⟩ dX10_init_47 ?_
  rw [show (.inl (0, 60, .inl (fun _ => 0)) : hk_E) = zi 60 from rfl]
  rw [hm_push]
  simp only [List.cons_append, List.nil_append]
  show hk_WP _ _ _ _ _ _ _ _ (.ref 43 :: _) _ _
  refine pfX10_25 rfl dX10_init_49 (Nat.le_of_ble_eq_true rfl) rfl (Nat.le_of_ble_eq_true rfl) rfl ?_
  rw [hm_up]
  simp only [List.set_cons_succ, List.set_cons_zero]
  refine hk_aload_n dX10_init_52 rfl rfl ?_
  refine hk_sipush (v := 240) dX10_init_53 (by decide) ?_
  refine hk_newa (t := 0) (ty := .int) (N := 240) rfl (Or.inl ⟨rfl, rfl⟩) (hk_t 57 (by decide +kernel) rfl) (by decide) (by decide) (Nat.le_of_ble_eq_true rfl) ⟨by decide, by decide⟩ dX10_init_56 ?_
  rw [show (.inl (0, 240, .inl (fun _ => 0)) : hk_E) = zi 240 from rfl]
  rw [hm_push]
  simp only [List.cons_append, List.nil_append]
  show hk_WP _ _ _ _ _ _ _ _ (.ref 44 :: _) _ _
  refine pfX10_28 rfl dX10_init_58 (Nat.le_of_ble_eq_true rfl) rfl (Nat.le_of_ble_eq_true rfl) rfl ?_
  rw [hm_up]
  simp only [List.set_cons_succ, List.set_cons_zero]
  refine hk_aload_n dX10_init_61 rfl rfl ?_
  refine hk_sipush (v := 240) dX10_init_62 (by decide) ?_
  refine hk_newa (t := 0) (ty := .int) (N := 240) rfl (Or.inl ⟨rfl, rfl⟩) (hk_t 57 (by decide +kernel) rfl) (by decide) (by decide) (Nat.le_of_ble_eq_true rfl) ⟨by decide, by decide⟩ dX10_init_65 ?_
  rw [show (.inl (0, 240, .inl (fun _ => 0)) : hk_E) = zi 240 from rfl]
  rw [hm_push]
  simp only [List.cons_append, List.nil_append]
  show hk_WP _ _ _ _ _ _ _ _ (.ref 45 :: _) _ _
  refine pfX10_31 rfl dX10_init_67 (Nat.le_of_ble_eq_true rfl) rfl (Nat.le_of_ble_eq_true rfl) rfl ?_
  rw [hm_up]
  simp only [List.set_cons_succ, List.set_cons_zero]
  refine hk_aload_n dX10_init_70 rfl rfl ?_
  refine hk_bipush (v := 60) dX10_init_71 (by decide) ?_
  refine hk_newa (t := 0) (ty := .int) (N := 60) rfl (Or.inl ⟨rfl, rfl⟩) (hk_t 57 (by decide +kernel) rfl) (by decide) (by decide) (Nat.le_of_ble_eq_true rfl) ⟨by decide, by decide⟩ dX10_init_73 ?_
  rw [show (.inl (0, 60, .inl (fun _ => 0)) : hk_E) = zi 60 from rfl]
  rw [hm_push]
  simp only [List.cons_append, List.nil_append]
  show hk_WP _ _ _ _ _ _ _ _ (.ref 46 :: _) _ _
  refine pfX10_34 rfl dX10_init_75 (Nat.le_of_ble_eq_true rfl) rfl (Nat.le_of_ble_eq_true rfl) rfl ?_
  rw [hm_up]
  simp only [List.set_cons_succ, List.set_cons_zero]
  refine hk_aload_n dX10_init_78 rfl rfl ?_
  refine hk_bipush (v := 24) dX10_init_79 (by decide) ?_
  refine hk_newa (t := 0) (ty := .int) (N := 24) rfl (Or.inl ⟨rfl, rfl⟩) (hk_t 57 (by decide +kernel) rfl) (by decide) (by decide) (Nat.le_of_ble_eq_true rfl) ⟨by decide, by decide⟩ dX10_init_81 ?_
  rw [show (.inl (0, 24, .inl (fun _ => 0)) : hk_E) = zi 24 from rfl]
  rw [hm_push]
  simp only [List.cons_append, List.nil_append]
  show hk_WP _ _ _ _ _ _ _ _ (.ref 47 :: _) _ _
  refine pfX10_37 rfl dX10_init_83 (Nat.le_of_ble_eq_true rfl) rfl (Nat.le_of_ble_eq_true rfl) rfl ?_
  rw [hm_up]
  simp only [List.set_cons_succ, List.set_cons_zero]
  refine hk_aload_n dX10_init_86 rfl rfl ?_
  refine hk_bipush (v := 24) dX10_init_87 (by decide) ?_
  refine hk_newa (t := 0) (ty := .int) (N := 24) rfl (Or.inl ⟨rfl, rfl⟩) (hk_t 57 (by decide +kernel) rfl) (by decide) (by decide) (Nat.le_of_ble_eq_true rfl) ⟨by decide, by decide⟩ dX10_init_89 ?_
  rw [show (.inl (0, 24, .inl (fun _ => 0)) : hk_E) = zi 24 from rfl]
  rw [hm_push]
  simp only [List.cons_append, List.nil_append]
  show hk_WP _ _ _ _ _ _ _ _ (.ref 48 :: _) _ _
  refine pfX10_40 rfl dX10_init_91 (Nat.le_of_ble_eq_true rfl) rfl (Nat.le_of_ble_eq_true rfl) rfl ?_
  rw [hm_up]
  simp only [List.set_cons_succ, List.set_cons_zero]
  refine hk_aload_n dX10_init_94 rfl rfl ?_
  refine hk_bipush (v := 24) dX10_init_95 (by decide) ?_
  refine hk_newa (t := 0) (ty := .int) (N := 24) rfl (Or.inl ⟨rfl, rfl⟩) (hk_t 57 (by decide +kernel) rfl) (by decide) (by decide) (Nat.le_of_ble_eq_true rfl) ⟨by decide, by decide⟩ dX10_init_97 ?_
  rw [show (.inl (0, 24, .inl (fun _ => 0)) : hk_E) = zi 24 from rfl]
  rw [hm_push]
  simp only [List.cons_append, List.nil_append]
  show hk_WP _ _ _ _ _ _ _ _ (.ref 49 :: _) _ _
  refine pfX10_43 rfl dX10_init_99 (Nat.le_of_ble_eq_true rfl) rfl (Nat.le_of_ble_eq_true rfl) rfl ?_
  rw [hm_up]
  simp only [List.set_cons_succ, List.set_cons_zero]
  refine hk_aload_n dX10_init_102 rfl rfl ?_
  refine hk_bipush (v := 24) dX10_init_103 (by decide) ?_
  refine hk_newa (t := 0) (ty := .int) (N := 24) rfl (Or.inl ⟨rfl, rfl⟩) (hk_t 57 (by decide +kernel) rfl) (by decide) (by decide) (Nat.le_of_ble_eq_true rfl) ⟨by decide, by decide⟩ dX10_init_105 ?_
  rw [show (.inl (0, 24, .inl (fun _ => 0)) : hk_E) = zi 24 from rfl]
  rw [hm_push]
  simp only [List.cons_append, List.nil_append]
  show hk_WP _ _ _ _ _ _ _ _ (.ref 50 :: _) _ _
  refine pfX10_46 rfl dX10_init_107 (Nat.le_of_ble_eq_true rfl) rfl (Nat.le_of_ble_eq_true rfl) rfl ?_
  rw [hm_up]
  simp only [List.set_cons_succ, List.set_cons_zero]
  refine hk_aload_n dX10_init_110 rfl rfl ?_
  refine hk_bipush (v := 30) dX10_init_111 (by decide) ?_
  refine hk_newa (t := 0) (ty := .int) (N := 30) rfl (Or.inl ⟨rfl, rfl⟩) (hk_t 57 (by decide +kernel) rfl) (by decide) (by decide) (Nat.le_of_ble_eq_true rfl) ⟨by decide, by decide⟩ dX10_init_113 ?_
  rw [show (.inl (0, 30, .inl (fun _ => 0)) : hk_E) = zi 30 from rfl]
  rw [hm_push]
  simp only [List.cons_append, List.nil_append]
  show hk_WP _ _ _ _ _ _ _ _ (.ref 51 :: _) _ _
  refine pfX10_49 rfl dX10_init_115 (Nat.le_of_ble_eq_true rfl) rfl (Nat.le_of_ble_eq_true rfl) rfl ?_
  rw [hm_up]
  simp only [List.set_cons_succ, List.set_cons_zero]
  refine hk_aload_n dX10_init_118 rfl rfl ?_
  refine hk_bipush (v := 30) dX10_init_119 (by decide) ?_
  refine hk_newa (t := 0) (ty := .int) (N := 30) rfl (Or.inl ⟨rfl, rfl⟩) (hk_t 57 (by decide +kernel) rfl) (by decide) (by decide) (Nat.le_of_ble_eq_true rfl) ⟨by decide, by decide⟩ dX10_init_121 ?_
  rw [show (.inl (0, 30, .inl (fun _ => 0)) : hk_E) = zi 30 from rfl]
  rw [hm_push]
  simp only [List.cons_append, List.nil_append]
  show hk_WP _ _ _ _ _ _ _ _ (.ref 52 :: _) _ _
  refine pfX10_52 rfl dX10_init_123 (Nat.le_of_ble_eq_true rfl) rfl (Nat.le_of_ble_eq_true rfl) rfl ?_
  rw [hm_up]
  simp only [List.set_cons_succ, List.set_cons_zero]
  refine hk_aload_n dX10_init_126 rfl rfl ?_
  refine hk_bipush (v := 30) dX10_init_127 (by decide) ?_
  refine hk_newa (t := 0) (ty := .int) (N := 30) rfl (Or.inl ⟨rfl, rfl⟩) (hk_t 57 (by decide +kernel) rfl) (by decide) (by decide) (Nat.le_of_ble_eq_true rfl) ⟨by decide, by decide⟩ dX10_init_129 ?_
  rw [show (.inl (0, 30, .inl (fun _ => 0)) : hk_E) = zi 30 from rfl]
  rw [hm_push]
  simp only [List.cons_append, List.nil_append]
  show hk_WP _ _ _ _ _ _ _ _ (.ref 53 :: _) _ _
  refine pfX10_55 rfl dX10_init_131 (Nat.le_of_ble_eq_true rfl) rfl (Nat.le_of_ble_eq_true rfl) rfl ?_
  rw [hm_up]
  simp only [List.set_cons_succ, List.set_cons_zero]
  refine hk_aload_n dX10_init_134 rfl rfl ?_
  refine hk_bipush (v := 30) dX10_init_135 (by decide) ?_
  refine hk_newa (t := 0) (ty := .int) (N := 30) rfl (Or.inl ⟨rfl, rfl⟩) (hk_t 57 (by decide +kernel) rfl) (by decide) (by decide) (Nat.le_of_ble_eq_true rfl) ⟨by decide, by decide⟩ dX10_init_137 ?_
  rw [show (.inl (0, 30, .inl (fun _ => 0)) : hk_E) = zi 30 from rfl]
  rw [hm_push]
  simp only [List.cons_append, List.nil_append]
  show hk_WP _ _ _ _ _ _ _ _ (.ref 54 :: _) _ _
  refine pfX10_58 rfl dX10_init_139 (Nat.le_of_ble_eq_true rfl) rfl (Nat.le_of_ble_eq_true rfl) rfl ?_
  rw [hm_up]
  simp only [List.set_cons_succ, List.set_cons_zero]
  refine hk_aload_n dX10_init_142 rfl rfl ?_
  refine hk_bipush (v := 30) dX10_init_143 (by decide) ?_
  refine hk_newa (t := 0) (ty := .int) (N := 30) rfl (Or.inl ⟨rfl, rfl⟩) (hk_t 57 (by decide +kernel) rfl) (by decide) (by decide) (Nat.le_of_ble_eq_true rfl) ⟨by decide, by decide⟩ dX10_init_145 ?_
  rw [show (.inl (0, 30, .inl (fun _ => 0)) : hk_E) = zi 30 from rfl]
  rw [hm_push]
  simp only [List.cons_append, List.nil_append]
  show hk_WP _ _ _ _ _ _ _ _ (.ref 55 :: _) _ _
  refine pfX10_61 rfl dX10_init_147 (Nat.le_of_ble_eq_true rfl) rfl (Nat.le_of_ble_eq_true rfl) rfl ?_
  rw [hm_up]
  simp only [List.set_cons_succ, List.set_cons_zero]
  refine hk_aload_n dX10_init_150 rfl rfl ?_
  refine hk_bipush (v := 30) dX10_init_151 (by decide) ?_
  refine hk_newa (t := 0) (ty := .int) (N := 30) rfl (Or.inl ⟨rfl, rfl⟩) (hk_t 57 (by decide +kernel) rfl) (by decide) (by decide) (Nat.le_of_ble_eq_true rfl) ⟨by decide, by decide⟩ dX10_init_153 ?_
  rw [show (.inl (0, 30, .inl (fun _ => 0)) : hk_E) = zi 30 from rfl]
  rw [hm_push]
  simp only [List.cons_append, List.nil_append]
  show hk_WP _ _ _ _ _ _ _ _ (.ref 56 :: _) _ _
  refine pfX10_64 rfl dX10_init_155 (Nat.le_of_ble_eq_true rfl) rfl (Nat.le_of_ble_eq_true rfl) rfl ?_
  rw [hm_up]
  simp only [List.set_cons_succ, List.set_cons_zero]
  refine hk_aload_n dX10_init_158 rfl rfl ?_
  refine hk_bipush (v := 30) dX10_init_159 (by decide) ?_
  refine hk_newa (t := 0) (ty := .int) (N := 30) rfl (Or.inl ⟨rfl, rfl⟩) (hk_t 57 (by decide +kernel) rfl) (by decide) (by decide) (Nat.le_of_ble_eq_true rfl) ⟨by decide, by decide⟩ dX10_init_161 ?_
  rw [show (.inl (0, 30, .inl (fun _ => 0)) : hk_E) = zi 30 from rfl]
  rw [hm_push]
  simp only [List.cons_append, List.nil_append]
  show hk_WP _ _ _ _ _ _ _ _ (.ref 57 :: _) _ _
  refine pfX10_67 rfl dX10_init_163 (Nat.le_of_ble_eq_true rfl) rfl (Nat.le_of_ble_eq_true rfl) rfl ?_
  rw [hm_up]
  simp only [List.set_cons_succ, List.set_cons_zero]
  refine hk_aload_n dX10_init_166 rfl rfl ?_
  refine hk_bipush (v := 30) dX10_init_167 (by decide) ?_
  refine hk_newa (t := 0) (ty := .int) (N := 30) rfl (Or.inl ⟨rfl, rfl⟩) (hk_t 57 (by decide +kernel) rfl) (by decide) (by decide) (Nat.le_of_ble_eq_true rfl) ⟨by decide, by decide⟩ dX10_init_169 ?_
  rw [show (.inl (0, 30, .inl (fun _ => 0)) : hk_E) = zi 30 from rfl]
  rw [hm_push]
  simp only [List.cons_append, List.nil_append]
  show hk_WP _ _ _ _ _ _ _ _ (.ref 58 :: _) _ _
  refine pfX10_70 rfl dX10_init_171 (Nat.le_of_ble_eq_true rfl) rfl (Nat.le_of_ble_eq_true rfl) rfl ?_
  rw [hm_up]
  simp only [List.set_cons_succ, List.set_cons_zero]
  refine hk_aload_n dX10_init_174 rfl rfl ?_
  refine hk_sipush (v := 200) dX10_init_175 (by decide) ?_
  refine hk_newa (t := 0) (ty := .int) (N := 200) rfl (Or.inl ⟨rfl, rfl⟩) (hk_t 57 (by decide +kernel) rfl) (by decide) (by decide) (Nat.le_of_ble_eq_true rfl) ⟨by decide, by decide⟩ dX10_init_178 ?_
  rw [show (.inl (0, 200, .inl (fun _ => 0)) : hk_E) = zi 200 from rfl]
  rw [hm_push]
  simp only [List.cons_append, List.nil_append]
  show hk_WP _ _ _ _ _ _ _ _ (.ref 59 :: _) _ _
  refine pfX10_73 rfl dX10_init_180 (Nat.le_of_ble_eq_true rfl) rfl (Nat.le_of_ble_eq_true rfl) rfl ?_
  rw [hm_up]
  simp only [List.set_cons_succ, List.set_cons_zero]
  refine hk_aload_n dX10_init_183 rfl rfl ?_
  refine hk_sipush (v := 200) dX10_init_184 (by decide) ?_
  refine hk_newa (t := 0) (ty := .int) (N := 200) rfl (Or.inl ⟨rfl, rfl⟩) (hk_t 57 (by decide +kernel) rfl) (by decide) (by decide) (Nat.le_of_ble_eq_true rfl) ⟨by decide, by decide⟩ dX10_init_187 ?_
  rw [show (.inl (0, 200, .inl (fun _ => 0)) : hk_E) = zi 200 from rfl]
  rw [hm_push]
  simp only [List.cons_append, List.nil_append]
  show hk_WP _ _ _ _ _ _ _ _ (.ref 60 :: _) _ _
  refine pfX10_76 rfl dX10_init_189 (Nat.le_of_ble_eq_true rfl) rfl (Nat.le_of_ble_eq_true rfl) rfl ?_
  rw [hm_up]
  simp only [List.set_cons_succ, List.set_cons_zero]
  refine hk_aload_n dX10_init_192 rfl rfl ?_
  refine hk_sipush (v := 200) dX10_init_193 (by decide) ?_
  refine hk_newa (t := 0) (ty := .int) (N := 200) rfl (Or.inl ⟨rfl, rfl⟩) (hk_t 57 (by decide +kernel) rfl) (by decide) (by decide) (Nat.le_of_ble_eq_true rfl) ⟨by decide, by decide⟩ dX10_init_196 ?_
  rw [show (.inl (0, 200, .inl (fun _ => 0)) : hk_E) = zi 200 from rfl]
  rw [hm_push]
  simp only [List.cons_append, List.nil_append]
  show hk_WP _ _ _ _ _ _ _ _ (.ref 61 :: _) _ _
  refine pfX10_79 rfl dX10_init_198 (Nat.le_of_ble_eq_true rfl) rfl (Nat.le_of_ble_eq_true rfl) rfl ?_
  rw [hm_up]
  simp only [List.set_cons_succ, List.set_cons_zero]
  refine hk_aload_n dX10_init_201 rfl rfl ?_
  refine hk_bipush (v := 12) dX10_init_202 (by decide) ?_
  refine hk_newa (t := 0) (ty := .int) (N := 12) rfl (Or.inl ⟨rfl, rfl⟩) (hk_t 57 (by decide +kernel) rfl) (by decide) (by decide) (Nat.le_of_ble_eq_true rfl) ⟨by decide, by decide⟩ dX10_init_204 ?_
  rw [show (.inl (0, 12, .inl (fun _ => 0)) : hk_E) = zi 12 from rfl]
  rw [hm_push]
  simp only [List.cons_append, List.nil_append]
  show hk_WP _ _ _ _ _ _ _ _ (.ref 62 :: _) _ _
  refine pfX10_82 rfl dX10_init_206 (Nat.le_of_ble_eq_true rfl) rfl (Nat.le_of_ble_eq_true rfl) rfl ?_
  rw [hm_up]
  simp only [List.set_cons_succ, List.set_cons_zero]
  refine hk_aload_n dX10_init_209 rfl rfl ?_
  refine hk_bipush (v := 12) dX10_init_210 (by decide) ?_
  refine hk_newa (t := 0) (ty := .int) (N := 12) rfl (Or.inl ⟨rfl, rfl⟩) (hk_t 57 (by decide +kernel) rfl) (by decide) (by decide) (Nat.le_of_ble_eq_true rfl) ⟨by decide, by decide⟩ dX10_init_212 ?_
  rw [show (.inl (0, 12, .inl (fun _ => 0)) : hk_E) = zi 12 from rfl]
  rw [hm_push]
  simp only [List.cons_append, List.nil_append]
  show hk_WP _ _ _ _ _ _ _ _ (.ref 63 :: _) _ _
  refine pfX10_85 rfl dX10_init_214 (Nat.le_of_ble_eq_true rfl) rfl (Nat.le_of_ble_eq_true rfl) rfl ?_
  rw [hm_up]
  simp only [List.set_cons_succ, List.set_cons_zero]
  refine hk_aload_n dX10_init_217 rfl rfl ?_
  refine hk_bipush (v := 120) dX10_init_218 (by decide) ?_
  refine hk_newa (t := 0) (ty := .int) (N := 120) rfl (Or.inl ⟨rfl, rfl⟩) (hk_t 57 (by decide +kernel) rfl) (by decide) (by decide) (Nat.le_of_ble_eq_true rfl) ⟨by decide, by decide⟩ dX10_init_220 ?_
  rw [show (.inl (0, 120, .inl (fun _ => 0)) : hk_E) = zi 120 from rfl]
  rw [hm_push]
  simp only [List.cons_append, List.nil_append]
  show hk_WP _ _ _ _ _ _ _ _ (.ref 64 :: _) _ _
  refine pfX10_88 rfl dX10_init_222 (Nat.le_of_ble_eq_true rfl) rfl (Nat.le_of_ble_eq_true rfl) rfl ?_
  rw [hm_up]
  simp only [List.set_cons_succ, List.set_cons_zero]
  refine hk_aload_n dX10_init_225 rfl rfl ?_
  refine hk_bipush (v := 12) dX10_init_226 (by decide) ?_
  refine hk_newa (t := 0) (ty := .int) (N := 12) rfl (Or.inl ⟨rfl, rfl⟩) (hk_t 57 (by decide +kernel) rfl) (by decide) (by decide) (Nat.le_of_ble_eq_true rfl) ⟨by decide, by decide⟩ dX10_init_228 ?_
  rw [show (.inl (0, 12, .inl (fun _ => 0)) : hk_E) = zi 12 from rfl]
  rw [hm_push]
  simp only [List.cons_append, List.nil_append]
  show hk_WP _ _ _ _ _ _ _ _ (.ref 65 :: _) _ _
  refine pfX10_91 rfl dX10_init_230 (Nat.le_of_ble_eq_true rfl) rfl (Nat.le_of_ble_eq_true rfl) rfl ?_
  rw [hm_up]
  simp only [List.set_cons_succ, List.set_cons_zero]
  refine hk_aload_n dX10_init_233 rfl rfl ?_
  refine hk_sipush (v := 160) dX10_init_234 (by decide) ?_
  refine hk_newa (t := 0) (ty := .int) (N := 160) rfl (Or.inl ⟨rfl, rfl⟩) (hk_t 57 (by decide +kernel) rfl) (by decide) (by decide) (Nat.le_of_ble_eq_true rfl) ⟨by decide, by decide⟩ dX10_init_237 ?_
  rw [show (.inl (0, 160, .inl (fun _ => 0)) : hk_E) = zi 160 from rfl]
  rw [hm_push]
  simp only [List.cons_append, List.nil_append]
  show hk_WP _ _ _ _ _ _ _ _ (.ref 66 :: _) _ _
  refine pfX10_94 rfl dX10_init_239 (Nat.le_of_ble_eq_true rfl) rfl (Nat.le_of_ble_eq_true rfl) rfl ?_
  rw [hm_up]
  simp only [List.set_cons_succ, List.set_cons_zero]
  refine hk_aload_n dX10_init_242 rfl rfl ?_
  refine hk_sipush (v := 6400) dX10_init_243 (by decide) ?_
  refine hk_newa (t := 0) (ty := .int) (N := 6400) rfl (Or.inl ⟨rfl, rfl⟩) (hk_t 57 (by decide +kernel) rfl) (by decide) (by decide) (Nat.le_of_ble_eq_true rfl) ⟨by decide, by decide⟩ dX10_init_246 ?_
  rw [show (.inl (0, 6400, .inl (fun _ => 0)) : hk_E) = zi 6400 from rfl]
  rw [hm_push]
  simp only [List.cons_append, List.nil_append]
  show hk_WP _ _ _ _ _ _ _ _ (.ref 67 :: _) _ _
  refine pfX10_97 rfl dX10_init_248 (Nat.le_of_ble_eq_true rfl) rfl (Nat.le_of_ble_eq_true rfl) rfl ?_
  rw [hm_up]
  simp only [List.set_cons_succ, List.set_cons_zero]
  refine hk_aload_n dX10_init_251 rfl rfl ?_
  refine hk_bipush (v := 40) dX10_init_252 (by decide) ?_
  refine hk_newa (t := 0) (ty := .int) (N := 40) rfl (Or.inl ⟨rfl, rfl⟩) (hk_t 57 (by decide +kernel) rfl) (by decide) (by decide) (Nat.le_of_ble_eq_true rfl) ⟨by decide, by decide⟩ dX10_init_254 ?_
  rw [show (.inl (0, 40, .inl (fun _ => 0)) : hk_E) = zi 40 from rfl]
  rw [hm_push]
  simp only [List.cons_append, List.nil_append]
  show hk_WP _ _ _ _ _ _ _ _ (.ref 68 :: _) _ _
  refine pfX10_100 rfl dX10_init_256 (Nat.le_of_ble_eq_true rfl) rfl (Nat.le_of_ble_eq_true rfl) rfl ?_
  rw [hm_up]
  simp only [List.set_cons_succ, List.set_cons_zero]
  refine hk_aload_n dX10_init_259 rfl rfl ?_
  refine hk_bipush (v := 40) dX10_init_260 (by decide) ?_
  refine hk_newa (t := 0) (ty := .int) (N := 40) rfl (Or.inl ⟨rfl, rfl⟩) (hk_t 57 (by decide +kernel) rfl) (by decide) (by decide) (Nat.le_of_ble_eq_true rfl) ⟨by decide, by decide⟩ dX10_init_262 ?_
  rw [show (.inl (0, 40, .inl (fun _ => 0)) : hk_E) = zi 40 from rfl]
  rw [hm_push]
  simp only [List.cons_append, List.nil_append]
  show hk_WP _ _ _ _ _ _ _ _ (.ref 69 :: _) _ _
  refine pfX10_103 rfl dX10_init_264 (Nat.le_of_ble_eq_true rfl) rfl (Nat.le_of_ble_eq_true rfl) rfl ?_
  rw [hm_up]
  simp only [List.set_cons_succ, List.set_cons_zero]
  refine hk_aload_n dX10_init_267 rfl rfl ?_
  refine hk_bipush (v := 40) dX10_init_268 (by decide) ?_
  refine hk_newa (t := 0) (ty := .int) (N := 40) rfl (Or.inl ⟨rfl, rfl⟩) (hk_t 57 (by decide +kernel) rfl) (by decide) (by decide) (Nat.le_of_ble_eq_true rfl) ⟨by decide, by decide⟩ dX10_init_270 ?_
  rw [show (.inl (0, 40, .inl (fun _ => 0)) : hk_E) = zi 40 from rfl]
  rw [hm_push]
  simp only [List.cons_append, List.nil_append]
  show hk_WP _ _ _ _ _ _ _ _ (.ref 70 :: _) _ _
  refine pfX10_106 rfl dX10_init_272 (Nat.le_of_ble_eq_true rfl) rfl (Nat.le_of_ble_eq_true rfl) rfl ?_
  rw [hm_up]
  simp only [List.set_cons_succ, List.set_cons_zero]
  refine hk_aload_n dX10_init_275 rfl rfl ?_
  refine hk_bipush (v := 40) dX10_init_276 (by decide) ?_
  refine hk_newa (t := 0) (ty := .int) (N := 40) rfl (Or.inl ⟨rfl, rfl⟩) (hk_t 57 (by decide +kernel) rfl) (by decide) (by decide) (Nat.le_of_ble_eq_true rfl) ⟨by decide, by decide⟩ dX10_init_278 ?_
  rw [show (.inl (0, 40, .inl (fun _ => 0)) : hk_E) = zi 40 from rfl]
  rw [hm_push]
  simp only [List.cons_append, List.nil_append]
  show hk_WP _ _ _ _ _ _ _ _ (.ref 71 :: _) _ _
  refine pfX10_109 rfl dX10_init_280 (Nat.le_of_ble_eq_true rfl) rfl (Nat.le_of_ble_eq_true rfl) rfl ?_
  rw [hm_up]
  simp only [List.set_cons_succ, List.set_cons_zero]
  refine hk_aload_n dX10_init_283 rfl rfl ?_
  refine hk_bipush (v := 9) dX10_init_284 (by decide) ?_
  refine hk_newa (t := 0) (ty := .int) (N := 9) rfl (Or.inl ⟨rfl, rfl⟩) (hk_t 57 (by decide +kernel) rfl) (by decide) (by decide) (Nat.le_of_ble_eq_true rfl) ⟨by decide, by decide⟩ dX10_init_286 ?_
  rw [show (.inl (0, 9, .inl (fun _ => 0)) : hk_E) = zi 9 from rfl]
  rw [hm_push]
  simp only [List.cons_append, List.nil_append]
  show hk_WP _ _ _ _ _ _ _ _ (.ref 72 :: _) _ _
  refine pfX10_112 rfl dX10_init_288 (Nat.le_of_ble_eq_true rfl) rfl (Nat.le_of_ble_eq_true rfl) rfl ?_
  rw [hm_up]
  simp only [List.set_cons_succ, List.set_cons_zero]
  refine hk_aload_n dX10_init_291 rfl rfl ?_
  refine hk_sipush (v := 300) dX10_init_292 (by decide) ?_
  refine hk_newa (t := 0) (ty := .int) (N := 300) rfl (Or.inl ⟨rfl, rfl⟩) (hk_t 57 (by decide +kernel) rfl) (by decide) (by decide) (Nat.le_of_ble_eq_true rfl) ⟨by decide, by decide⟩ dX10_init_295 ?_
  rw [show (.inl (0, 300, .inl (fun _ => 0)) : hk_E) = zi 300 from rfl]
  rw [hm_push]
  simp only [List.cons_append, List.nil_append]
  show hk_WP _ _ _ _ _ _ _ _ (.ref 73 :: _) _ _
  refine pfX10_115 rfl dX10_init_297 (Nat.le_of_ble_eq_true rfl) rfl (Nat.le_of_ble_eq_true rfl) rfl ?_
  rw [hm_up]
  simp only [List.set_cons_succ, List.set_cons_zero]
  refine hk_aload_n dX10_init_300 rfl rfl ?_
  refine hk_sipush (v := 300) dX10_init_301 (by decide) ?_
  refine hk_newa (t := 0) (ty := .int) (N := 300) rfl (Or.inl ⟨rfl, rfl⟩) (hk_t 57 (by decide +kernel) rfl) (by decide) (by decide) (Nat.le_of_ble_eq_true rfl) ⟨by decide, by decide⟩ dX10_init_304 ?_
  rw [show (.inl (0, 300, .inl (fun _ => 0)) : hk_E) = zi 300 from rfl]
  rw [hm_push]
  simp only [List.cons_append, List.nil_append]
  show hk_WP _ _ _ _ _ _ _ _ (.ref 74 :: _) _ _
  refine pfX10_118 rfl dX10_init_306 (Nat.le_of_ble_eq_true rfl) rfl (Nat.le_of_ble_eq_true rfl) rfl ?_
  rw [hm_up]
  simp only [List.set_cons_succ, List.set_cons_zero]
  refine hk_aload_n dX10_init_309 rfl rfl ?_
  refine hk_sipush (v := 300) dX10_init_310 (by decide) ?_
  refine hk_newa (t := 0) (ty := .int) (N := 300) rfl (Or.inl ⟨rfl, rfl⟩) (hk_t 57 (by decide +kernel) rfl) (by decide) (by decide) (Nat.le_of_ble_eq_true rfl) ⟨by decide, by decide⟩ dX10_init_313 ?_
  rw [show (.inl (0, 300, .inl (fun _ => 0)) : hk_E) = zi 300 from rfl]
  rw [hm_push]
  simp only [List.cons_append, List.nil_append]
  show hk_WP _ _ _ _ _ _ _ _ (.ref 75 :: _) _ _
  refine pfX10_121 rfl dX10_init_315 (Nat.le_of_ble_eq_true rfl) rfl (Nat.le_of_ble_eq_true rfl) rfl ?_
  rw [hm_up]
  simp only [List.set_cons_succ, List.set_cons_zero]
  refine hk_aload_n dX10_init_318 rfl rfl ?_
  refine hk_sipush (v := 300) dX10_init_319 (by decide) ?_
  refine hk_newa (t := 0) (ty := .int) (N := 300) rfl (Or.inl ⟨rfl, rfl⟩) (hk_t 57 (by decide +kernel) rfl) (by decide) (by decide) (Nat.le_of_ble_eq_true rfl) ⟨by decide, by decide⟩ dX10_init_322 ?_
  rw [show (.inl (0, 300, .inl (fun _ => 0)) : hk_E) = zi 300 from rfl]
  rw [hm_push]
  simp only [List.cons_append, List.nil_append]
  show hk_WP _ _ _ _ _ _ _ _ (.ref 76 :: _) _ _
  refine pfX10_124 rfl dX10_init_324 (Nat.le_of_ble_eq_true rfl) rfl (Nat.le_of_ble_eq_true rfl) rfl ?_
  rw [hm_up]
  simp only [List.set_cons_succ, List.set_cons_zero]
  refine hk_aload_n dX10_init_327 rfl rfl ?_
  refine hk_sipush (v := 300) dX10_init_328 (by decide) ?_
  refine hk_newa (t := 0) (ty := .int) (N := 300) rfl (Or.inl ⟨rfl, rfl⟩) (hk_t 57 (by decide +kernel) rfl) (by decide) (by decide) (Nat.le_of_ble_eq_true rfl) ⟨by decide, by decide⟩ dX10_init_331 ?_
  rw [show (.inl (0, 300, .inl (fun _ => 0)) : hk_E) = zi 300 from rfl]
  rw [hm_push]
  simp only [List.cons_append, List.nil_append]
  show hk_WP _ _ _ _ _ _ _ _ (.ref 77 :: _) _ _
  refine pfX10_127 rfl dX10_init_333 (Nat.le_of_ble_eq_true rfl) rfl (Nat.le_of_ble_eq_true rfl) rfl ?_
  rw [hm_up]
  simp only [List.set_cons_succ, List.set_cons_zero]
  refine hk_aload_n dX10_init_336 rfl rfl ?_
  refine hk_sipush (v := 300) dX10_init_337 (by decide) ?_
  refine hk_newa (t := 0) (ty := .int) (N := 300) rfl (Or.inl ⟨rfl, rfl⟩) (hk_t 57 (by decide +kernel) rfl) (by decide) (by decide) (Nat.le_of_ble_eq_true rfl) ⟨by decide, by decide⟩ dX10_init_340 ?_
  rw [show (.inl (0, 300, .inl (fun _ => 0)) : hk_E) = zi 300 from rfl]
  rw [hm_push]
  simp only [List.cons_append, List.nil_append]
  show hk_WP _ _ _ _ _ _ _ _ (.ref 78 :: _) _ _
  refine pfX10_130 rfl dX10_init_342 (Nat.le_of_ble_eq_true rfl) rfl (Nat.le_of_ble_eq_true rfl) rfl ?_
  rw [hm_up]
  simp only [List.set_cons_succ, List.set_cons_zero]
  refine hk_aload_n dX10_init_345 rfl rfl ?_
  refine hk_sipush (v := 300) dX10_init_346 (by decide) ?_
  refine hk_newa (t := 0) (ty := .int) (N := 300) rfl (Or.inl ⟨rfl, rfl⟩) (hk_t 57 (by decide +kernel) rfl) (by decide) (by decide) (Nat.le_of_ble_eq_true rfl) ⟨by decide, by decide⟩ dX10_init_349 ?_
  rw [show (.inl (0, 300, .inl (fun _ => 0)) : hk_E) = zi 300 from rfl]
  rw [hm_push]
  simp only [List.cons_append, List.nil_append]
  show hk_WP _ _ _ _ _ _ _ _ (.ref 79 :: _) _ _
  refine pfX10_133 rfl dX10_init_351 (Nat.le_of_ble_eq_true rfl) rfl (Nat.le_of_ble_eq_true rfl) rfl ?_
  rw [hm_up]
  simp only [List.set_cons_succ, List.set_cons_zero]
  refine hk_aload_n dX10_init_354 rfl rfl ?_
  refine hk_sipush (v := 300) dX10_init_355 (by decide) ?_
  refine hk_newa (t := 0) (ty := .int) (N := 300) rfl (Or.inl ⟨rfl, rfl⟩) (hk_t 57 (by decide +kernel) rfl) (by decide) (by decide) (Nat.le_of_ble_eq_true rfl) ⟨by decide, by decide⟩ dX10_init_358 ?_
  rw [show (.inl (0, 300, .inl (fun _ => 0)) : hk_E) = zi 300 from rfl]
  rw [hm_push]
  simp only [List.cons_append, List.nil_append]
  show hk_WP _ _ _ _ _ _ _ _ (.ref 80 :: _) _ _
  refine pfX10_136 rfl dX10_init_360 (Nat.le_of_ble_eq_true rfl) rfl (Nat.le_of_ble_eq_true rfl) rfl ?_
  rw [hm_up]
  simp only [List.set_cons_succ, List.set_cons_zero]
  refine hk_aload_n dX10_init_363 rfl rfl ?_
  refine hk_sipush (v := 300) dX10_init_364 (by decide) ?_
  refine hk_newa (t := 0) (ty := .int) (N := 300) rfl (Or.inl ⟨rfl, rfl⟩) (hk_t 57 (by decide +kernel) rfl) (by decide) (by decide) (Nat.le_of_ble_eq_true rfl) ⟨by decide, by decide⟩ dX10_init_367 ?_
  rw [show (.inl (0, 300, .inl (fun _ => 0)) : hk_E) = zi 300 from rfl]
  rw [hm_push]
  simp only [List.cons_append, List.nil_append]
  show hk_WP _ _ _ _ _ _ _ _ (.ref 81 :: _) _ _
  refine pfX10_139 rfl dX10_init_369 (Nat.le_of_ble_eq_true rfl) rfl (Nat.le_of_ble_eq_true rfl) rfl ?_
  rw [hm_up]
  simp only [List.set_cons_succ, List.set_cons_zero]
  refine hk_aload_n dX10_init_372 rfl rfl ?_
  refine hk_sipush (v := 300) dX10_init_373 (by decide) ?_
  refine hk_newa (t := 0) (ty := .int) (N := 300) rfl (Or.inl ⟨rfl, rfl⟩) (hk_t 57 (by decide +kernel) rfl) (by decide) (by decide) (Nat.le_of_ble_eq_true rfl) ⟨by decide, by decide⟩ dX10_init_376 ?_
  rw [show (.inl (0, 300, .inl (fun _ => 0)) : hk_E) = zi 300 from rfl]
  rw [hm_push]
  simp only [List.cons_append, List.nil_append]
  show hk_WP _ _ _ _ _ _ _ _ (.ref 82 :: _) _ _
  refine pfX10_142 rfl dX10_init_378 (Nat.le_of_ble_eq_true rfl) rfl (Nat.le_of_ble_eq_true rfl) rfl ?_
  rw [hm_up]
  simp only [List.set_cons_succ, List.set_cons_zero]
  refine hk_aload_n dX10_init_381 rfl rfl ?_
  refine hk_sipush (v := 300) dX10_init_382 (by decide) ?_
  refine hk_newa (t := 0) (ty := .int) (N := 300) rfl (Or.inl ⟨rfl, rfl⟩) (hk_t 57 (by decide +kernel) rfl) (by decide) (by decide) (Nat.le_of_ble_eq_true rfl) ⟨by decide, by decide⟩ dX10_init_385 ?_
  rw [show (.inl (0, 300, .inl (fun _ => 0)) : hk_E) = zi 300 from rfl]
  rw [hm_push]
  simp only [List.cons_append, List.nil_append]
  show hk_WP _ _ _ _ _ _ _ _ (.ref 83 :: _) _ _
  refine pfX10_145 rfl dX10_init_387 (Nat.le_of_ble_eq_true rfl) rfl (Nat.le_of_ble_eq_true rfl) rfl ?_
  rw [hm_up]
  simp only [List.set_cons_succ, List.set_cons_zero]
  refine hk_aload_n dX10_init_390 rfl rfl ?_
  refine hk_sipush (v := 300) dX10_init_391 (by decide) ?_
  refine hk_newa (t := 1) (ty := .boolean) (N := 300) rfl (Or.inr ⟨rfl, rfl⟩) (hk_t 1150 (by decide +kernel) rfl) (by decide) (by decide) (Nat.le_of_ble_eq_true rfl) ⟨by decide, by decide⟩ dX10_init_394 ?_
  rw [hm_push]
  simp only [List.cons_append, List.nil_append]
  show hk_WP _ _ _ _ _ _ _ _ (.ref 84 :: _) _ _
  refine pfX10_148 rfl dX10_init_396 (Nat.le_of_ble_eq_true rfl) rfl (Nat.le_of_ble_eq_true rfl) rfl ?_
  rw [hm_up]
  simp only [List.set_cons_succ, List.set_cons_zero]
  refine hk_aload_n dX10_init_399 rfl rfl ?_
  refine hk_sipush (v := 300) dX10_init_400 (by decide) ?_
  refine hk_newa (t := 0) (ty := .int) (N := 300) rfl (Or.inl ⟨rfl, rfl⟩) (hk_t 57 (by decide +kernel) rfl) (by decide) (by decide) (Nat.le_of_ble_eq_true rfl) ⟨by decide, by decide⟩ dX10_init_403 ?_
  rw [show (.inl (0, 300, .inl (fun _ => 0)) : hk_E) = zi 300 from rfl]
  rw [hm_push]
  simp only [List.cons_append, List.nil_append]
  show hk_WP _ _ _ _ _ _ _ _ (.ref 85 :: _) _ _
  refine pfX10_152 rfl dX10_init_405 (Nat.le_of_ble_eq_true rfl) rfl (Nat.le_of_ble_eq_true rfl) rfl ?_
  rw [hm_up]
  simp only [List.set_cons_succ, List.set_cons_zero]
  refine hk_aload_n dX10_init_408 rfl rfl ?_
  refine hk_sipush (v := 300) dX10_init_409 (by decide) ?_
  refine hk_newa (t := 0) (ty := .int) (N := 300) rfl (Or.inl ⟨rfl, rfl⟩) (hk_t 57 (by decide +kernel) rfl) (by decide) (by decide) (Nat.le_of_ble_eq_true rfl) ⟨by decide, by decide⟩ dX10_init_412 ?_
  rw [show (.inl (0, 300, .inl (fun _ => 0)) : hk_E) = zi 300 from rfl]
  rw [hm_push]
  simp only [List.cons_append, List.nil_append]
  show hk_WP _ _ _ _ _ _ _ _ (.ref 86 :: _) _ _
  refine pfX10_155 rfl dX10_init_414 (Nat.le_of_ble_eq_true rfl) rfl (Nat.le_of_ble_eq_true rfl) rfl ?_
  rw [hm_up]
  simp only [List.set_cons_succ, List.set_cons_zero]
  refine hk_aload_n dX10_init_417 rfl rfl ?_
  refine hk_sipush (v := 300) dX10_init_418 (by decide) ?_
  refine hk_newa (t := 0) (ty := .int) (N := 300) rfl (Or.inl ⟨rfl, rfl⟩) (hk_t 57 (by decide +kernel) rfl) (by decide) (by decide) (Nat.le_of_ble_eq_true rfl) ⟨by decide, by decide⟩ dX10_init_421 ?_
  rw [show (.inl (0, 300, .inl (fun _ => 0)) : hk_E) = zi 300 from rfl]
  rw [hm_push]
  simp only [List.cons_append, List.nil_append]
  show hk_WP _ _ _ _ _ _ _ _ (.ref 87 :: _) _ _
  refine pfX10_158 rfl dX10_init_423 (Nat.le_of_ble_eq_true rfl) rfl (Nat.le_of_ble_eq_true rfl) rfl ?_
  rw [hm_up]
  simp only [List.set_cons_succ, List.set_cons_zero]
  refine hk_aload_n dX10_init_426 rfl rfl ?_
  refine hk_sipush (v := 300) dX10_init_427 (by decide) ?_
  refine hk_newa (t := 0) (ty := .int) (N := 300) rfl (Or.inl ⟨rfl, rfl⟩) (hk_t 57 (by decide +kernel) rfl) (by decide) (by decide) (Nat.le_of_ble_eq_true rfl) ⟨by decide, by decide⟩ dX10_init_430 ?_
  rw [show (.inl (0, 300, .inl (fun _ => 0)) : hk_E) = zi 300 from rfl]
  rw [hm_push]
  simp only [List.cons_append, List.nil_append]
  show hk_WP _ _ _ _ _ _ _ _ (.ref 88 :: _) _ _
  refine pfX10_161 rfl dX10_init_432 (Nat.le_of_ble_eq_true rfl) rfl (Nat.le_of_ble_eq_true rfl) rfl ?_
  rw [hm_up]
  simp only [List.set_cons_succ, List.set_cons_zero]
  refine hk_aload_n dX10_init_435 rfl rfl ?_
  refine hk_sipush (v := 300) dX10_init_436 (by decide) ?_
  refine hk_newa (t := 0) (ty := .int) (N := 300) rfl (Or.inl ⟨rfl, rfl⟩) (hk_t 57 (by decide +kernel) rfl) (by decide) (by decide) (Nat.le_of_ble_eq_true rfl) ⟨by decide, by decide⟩ dX10_init_439 ?_
  rw [show (.inl (0, 300, .inl (fun _ => 0)) : hk_E) = zi 300 from rfl]
  rw [hm_push]
  simp only [List.cons_append, List.nil_append]
  show hk_WP _ _ _ _ _ _ _ _ (.ref 89 :: _) _ _
  refine pfX10_164 rfl dX10_init_441 (Nat.le_of_ble_eq_true rfl) rfl (Nat.le_of_ble_eq_true rfl) rfl ?_
  rw [hm_up]
  simp only [List.set_cons_succ, List.set_cons_zero]
  refine hk_aload_n dX10_init_444 rfl rfl ?_
  refine hk_sipush (v := 300) dX10_init_445 (by decide) ?_
  refine hk_newa (t := 0) (ty := .int) (N := 300) rfl (Or.inl ⟨rfl, rfl⟩) (hk_t 57 (by decide +kernel) rfl) (by decide) (by decide) (Nat.le_of_ble_eq_true rfl) ⟨by decide, by decide⟩ dX10_init_448 ?_
  rw [show (.inl (0, 300, .inl (fun _ => 0)) : hk_E) = zi 300 from rfl]
  rw [hm_push]
  simp only [List.cons_append, List.nil_append]
  show hk_WP _ _ _ _ _ _ _ _ (.ref 90 :: _) _ _
  refine pfX10_167 rfl dX10_init_450 (Nat.le_of_ble_eq_true rfl) rfl (Nat.le_of_ble_eq_true rfl) rfl ?_
  rw [hm_up]
  simp only [List.set_cons_succ, List.set_cons_zero]
  refine hk_aload_n dX10_init_453 rfl rfl ?_
  refine hk_sipush (v := 300) dX10_init_454 (by decide) ?_
  refine hk_newa (t := 0) (ty := .int) (N := 300) rfl (Or.inl ⟨rfl, rfl⟩) (hk_t 57 (by decide +kernel) rfl) (by decide) (by decide) (Nat.le_of_ble_eq_true rfl) ⟨by decide, by decide⟩ dX10_init_457 ?_
  rw [show (.inl (0, 300, .inl (fun _ => 0)) : hk_E) = zi 300 from rfl]
  rw [hm_push]
  simp only [List.cons_append, List.nil_append]
  show hk_WP _ _ _ _ _ _ _ _ (.ref 91 :: _) _ _
  refine pfX10_170 rfl dX10_init_459 (Nat.le_of_ble_eq_true rfl) rfl (Nat.le_of_ble_eq_true rfl) rfl ?_
  rw [hm_up]
  simp only [List.set_cons_succ, List.set_cons_zero]
  refine hk_aload_n dX10_init_462 rfl rfl ?_
  refine hk_bipush (v := 60) dX10_init_463 (by decide) ?_
  refine hk_newa (t := 0) (ty := .int) (N := 60) rfl (Or.inl ⟨rfl, rfl⟩) (hk_t 57 (by decide +kernel) rfl) (by decide) (by decide) (Nat.le_of_ble_eq_true rfl) ⟨by decide, by decide⟩ dX10_init_465 ?_
  rw [show (.inl (0, 60, .inl (fun _ => 0)) : hk_E) = zi 60 from rfl]
  rw [hm_push]
  simp only [List.cons_append, List.nil_append]
  show hk_WP _ _ _ _ _ _ _ _ (.ref 92 :: _) _ _
  refine pfX10_173 rfl dX10_init_467 (Nat.le_of_ble_eq_true rfl) rfl (Nat.le_of_ble_eq_true rfl) rfl ?_
  rw [hm_up]
  simp only [List.set_cons_succ, List.set_cons_zero]
  refine hk_aload_n dX10_init_470 rfl rfl ?_
  refine hk_bipush (v := 60) dX10_init_471 (by decide) ?_
  refine hk_newa (t := 0) (ty := .int) (N := 60) rfl (Or.inl ⟨rfl, rfl⟩) (hk_t 57 (by decide +kernel) rfl) (by decide) (by decide) (Nat.le_of_ble_eq_true rfl) ⟨by decide, by decide⟩ dX10_init_473 ?_
  rw [show (.inl (0, 60, .inl (fun _ => 0)) : hk_E) = zi 60 from rfl]
  rw [hm_push]
  simp only [List.cons_append, List.nil_append]
  show hk_WP _ _ _ _ _ _ _ _ (.ref 93 :: _) _ _
  refine pfX10_176 rfl dX10_init_475 (Nat.le_of_ble_eq_true rfl) rfl (Nat.le_of_ble_eq_true rfl) rfl ?_
  rw [hm_up]
  simp only [List.set_cons_succ, List.set_cons_zero]
  refine hk_aload_n dX10_init_478 rfl rfl ?_
  refine hk_bipush (v := 60) dX10_init_479 (by decide) ?_
  refine hk_newa (t := 0) (ty := .int) (N := 60) rfl (Or.inl ⟨rfl, rfl⟩) (hk_t 57 (by decide +kernel) rfl) (by decide) (by decide) (Nat.le_of_ble_eq_true rfl) ⟨by decide, by decide⟩ dX10_init_481 ?_
  rw [show (.inl (0, 60, .inl (fun _ => 0)) : hk_E) = zi 60 from rfl]
  rw [hm_push]
  simp only [List.cons_append, List.nil_append]
  show hk_WP _ _ _ _ _ _ _ _ (.ref 94 :: _) _ _
  refine pfX10_179 rfl dX10_init_483 (Nat.le_of_ble_eq_true rfl) rfl (Nat.le_of_ble_eq_true rfl) rfl ?_
  rw [hm_up]
  simp only [List.set_cons_succ, List.set_cons_zero]
  refine hk_aload_n dX10_init_486 rfl rfl ?_
  refine hk_bipush (v := 60) dX10_init_487 (by decide) ?_
  refine hk_newa (t := 0) (ty := .int) (N := 60) rfl (Or.inl ⟨rfl, rfl⟩) (hk_t 57 (by decide +kernel) rfl) (by decide) (by decide) (Nat.le_of_ble_eq_true rfl) ⟨by decide, by decide⟩ dX10_init_489 ?_
  rw [show (.inl (0, 60, .inl (fun _ => 0)) : hk_E) = zi 60 from rfl]
  rw [hm_push]
  simp only [List.cons_append, List.nil_append]
  show hk_WP _ _ _ _ _ _ _ _ (.ref 95 :: _) _ _
  refine pfX10_182 rfl dX10_init_491 (Nat.le_of_ble_eq_true rfl) rfl (Nat.le_of_ble_eq_true rfl) rfl ?_
  rw [hm_up]
  simp only [List.set_cons_succ, List.set_cons_zero]
  refine hk_aload_n dX10_init_494 rfl rfl ?_
  refine hk_bipush (v := 60) dX10_init_495 (by decide) ?_
  refine hk_newa (t := 0) (ty := .int) (N := 60) rfl (Or.inl ⟨rfl, rfl⟩) (hk_t 57 (by decide +kernel) rfl) (by decide) (by decide) (Nat.le_of_ble_eq_true rfl) ⟨by decide, by decide⟩ dX10_init_497 ?_
  rw [show (.inl (0, 60, .inl (fun _ => 0)) : hk_E) = zi 60 from rfl]
  rw [hm_push]
  simp only [List.cons_append, List.nil_append]
  show hk_WP _ _ _ _ _ _ _ _ (.ref 96 :: _) _ _
  refine pfX10_185 rfl dX10_init_499 (Nat.le_of_ble_eq_true rfl) rfl (Nat.le_of_ble_eq_true rfl) rfl ?_
  rw [hm_up]
  simp only [List.set_cons_succ, List.set_cons_zero]
  refine hk_aload_n dX10_init_502 rfl rfl ?_
  refine hk_bipush (v := 60) dX10_init_503 (by decide) ?_
  refine hk_newa (t := 0) (ty := .int) (N := 60) rfl (Or.inl ⟨rfl, rfl⟩) (hk_t 57 (by decide +kernel) rfl) (by decide) (by decide) (Nat.le_of_ble_eq_true rfl) ⟨by decide, by decide⟩ dX10_init_505 ?_
  rw [show (.inl (0, 60, .inl (fun _ => 0)) : hk_E) = zi 60 from rfl]
  rw [hm_push]
  simp only [List.cons_append, List.nil_append]
  show hk_WP _ _ _ _ _ _ _ _ (.ref 97 :: _) _ _
  refine pfX10_188 rfl dX10_init_507 (Nat.le_of_ble_eq_true rfl) rfl (Nat.le_of_ble_eq_true rfl) rfl ?_
  rw [hm_up]
  simp only [List.set_cons_succ, List.set_cons_zero]
  refine hk_aload_n dX10_init_510 rfl rfl ?_
  refine hk_bipush (v := 60) dX10_init_511 (by decide) ?_
  refine hk_newa (t := 0) (ty := .int) (N := 60) rfl (Or.inl ⟨rfl, rfl⟩) (hk_t 57 (by decide +kernel) rfl) (by decide) (by decide) (Nat.le_of_ble_eq_true rfl) ⟨by decide, by decide⟩ dX10_init_513 ?_
  rw [show (.inl (0, 60, .inl (fun _ => 0)) : hk_E) = zi 60 from rfl]
  rw [hm_push]
  simp only [List.cons_append, List.nil_append]
  show hk_WP _ _ _ _ _ _ _ _ (.ref 98 :: _) _ _
  refine pfX10_191 rfl dX10_init_515 (Nat.le_of_ble_eq_true rfl) rfl (Nat.le_of_ble_eq_true rfl) rfl ?_
  rw [hm_up]
  simp only [List.set_cons_succ, List.set_cons_zero]
  refine hk_iconst (v := 0) dX10_init_518 (by decide) ?_
  refine hk_istore_n dX10_init_519 rfl (by decide) rfl ?_
  have hx := lp_model (e := e) (a0 := .int 0) (ft := [.int 0, .ref 40, .ref 41, .ref 42, .ref 43, .ref 44, .ref 45, .ref 46, .int 0, .ref 47, .ref 48, .ref 49, .int 0, .ref 50, .int 0, .ref 51, .ref 52, .ref 53, .ref 54, .ref 55, .ref 56, .ref 57, .ref 58, .int 0, .ref 59, .ref 60, .ref 61, .int 0, .ref 62, .ref 63, .ref 64, .ref 65, .int 0, .ref 66, .int 0, .ref 67, .ref 68, .ref 69, .ref 70, .ref 71, .int 0, .int 0, .int 0, .ref 72, .ref 73, .ref 74, .ref 75, .ref 76, .ref 77, .ref 78, .ref 79, .ref 80, .ref 81, .ref 82, .ref 83, .ref 84, .ref 85, .int 0, .ref 86, .ref 87, .ref 88, .ref 89, .int 0, .ref 90, .ref 91, .int 0, .ref 92, .ref 93, .ref 94, .ref 95, .int 0, .ref 96, .ref 97, .ref 98, .int 0, .int 0, .int 0, .int 0]) (rt := [zi 60, zi 60, zi 60, zi 60, zi 240, zi 240, zi 60, zi 24, zi 24, zi 24, zi 24, zi 30, zi 30, zi 30, zi 30, zi 30, zi 30, zi 30, zi 30, zi 200, zi 200, zi 200, zi 12, zi 12, zi 120, zi 12, zi 160, zi 6400, zi 40, zi 40, zi 40, zi 40, zi 9, zi 300, zi 300, zi 300, zi 300, zi 300, zi 300, zi 300, zi 300, zi 300, zi 300, zi 300, .inl (1, 300, .inl (fun _ => 0)), zi 300, zi 300, zi 300, zi 300, zi 300, zi 300, zi 300, zi 60, zi 60, zi 60, zi 60, zi 60, zi 60, zi 60]) 0 (by decide)
  rw [← sf_0, ← sf_0] at hx
  exact hx
def cES : List hk_E := [.inr (9, [.int 0, .ref 1, .ref 8, .ref 15, .ref 22, .ref 29, .ref 32]), .inr (0, [.int 0, .ref 2, .ref 4, .ref 5, .ref 6, .ref 7, .int 0]), .inr (6, [.int 60, .int 13, .ref 3, .int 0]), zi 780, .inl (0, 12, .inl (sf 12 360)), .inl (0, 12, .inl (sf 12 1080)), zi 24, zi 24, .inr (2, [.ref 9, .ref 11, .ref 13]), .inr (6, [.int 30, .int 8, .ref 10, .int 0]), zi 240, .inr (6, [.int 200, .int 3, .ref 12, .int 0]), zi 600, .inr (6, [.int 12, .int 13, .ref 14, .int 0]), zi 156, .inr (4, [.ref 16, .ref 19, .int 0, .ref 20, .ref 21]), .inr (5, [.ref 17, .ref 18, .int 0, .int 0, .int 0]), zi 160, zi 160, .inl (2, 40, .inr (fun _ => none)), zi 9, zi 160, .inr (8, [.ref 23, .ref 25, .ref 27]), .inr (6, [.int 300, .int 13, .ref 24, .int 0]), zi 3900, .inr (6, [.int 1, .int 13, .ref 26, .int 1]), zi 13, .inr (6, [.int 300, .int 4, .ref 28, .int 0]), zi 1200, .inr (1, [.ref 30]), .inr (6, [.int 300, .int 2, .ref 31, .int 0]), zi 600, .inr (7, [.ref 33, .ref 35]), .inr (6, [.int 60, .int 4, .ref 34, .int 0]), zi 240, .inr (6, [.int 60, .int 3, .ref 36, .int 0]), zi 180]
theorem hm_start {es : List hk_E} (hle : es.length = 37) {fs : List Value} : hk_push (hl es) (.inr (10, fs)) = hm (hl es).2 fs [] := by
  refine Prod.ext (by show es.length + 1 = 38; omega) ?_
  funext q
  show (if q = es.length then .inr (10, fs) else es.getD q _) = (if q < 37 then es.getD q _ else if q = 37 then .inr (10, fs) else ([] : List hk_E).getD (q - 38) _)
  by_cases k1 : q < 37
  · rw [if_neg (by omega), if_pos k1]
  · by_cases k2 : q = 37
    · rw [if_pos (by omega), if_neg k1, if_pos k2]
    · rw [if_neg (by omega), if_neg k1, if_neg k2]
      simp [List.getD_eq_getElem?_getD, List.getElem?_eq_none (show es.length ≤ q by omega)]
theorem hk_eqv_ext {h h' : hk_H} (h1 : h.1 = h'.1) (h2 : ∀ k, k < h.1 → h.2 k = h'.2 k) : hk_eqv h h' := by
  intro G U H hS
  have e : hk_wl G h = hk_wl G h' := by
    unfold hk_wl
    rw [← h1]
    refine List.map_congr_left (fun k hk => ?_)
    rw [h2 k (List.mem_range.mp hk)]
  exact ⟨hS.1, e ▸ hS.2.1, by rw [← h1]; exact hS.2.2⟩
/-- all ints of all objects at the start -/
def m0_ : Nat → Nat → Int32 := fun a => match a with
  | 4 => sf 12 360
  | 5 => sf 12 1080
  | 25 => fun j => if j = 3 then 1 else 0
  | 38 => sf 12 360
  | 39 => sf 12 1080
  | _ => fun _ => 0
set_option maxRecDepth 20000 in
theorem m0_ent : ∀ k, k < 99 → (hm (hl cES).2 mFS mES).2 k = hk_ent 0 k (m0_ k)
  | 0, _ => rfl
  | 1, _ => rfl
  | 2, _ => rfl
  | 3, _ => rfl
  | 4, _ => rfl
  | 5, _ => rfl
  | 6, _ => rfl
  | 7, _ => rfl
  | 8, _ => rfl
  | 9, _ => rfl
  | 10, _ => rfl
  | 11, _ => rfl
  | 12, _ => rfl
  | 13, _ => rfl
  | 14, _ => rfl
  | 15, _ => rfl
  | 16, _ => rfl
  | 17, _ => rfl
  | 18, _ => rfl
  | 19, _ => by
    show (.inl (2, 40, .inr (fun _ => none)) : hk_E) = .inl (2, 40, .inr (fun j => if j < 0 then some (99 + 2 * j) else none))
    congr 4
  | 20, _ => rfl
  | 21, _ => rfl
  | 22, _ => rfl
  | 23, _ => rfl
  | 24, _ => rfl
  | 25, _ => rfl
  | 26, _ => rfl
  | 27, _ => rfl
  | 28, _ => rfl
  | 29, _ => rfl
  | 30, _ => rfl
  | 31, _ => rfl
  | 32, _ => rfl
  | 33, _ => rfl
  | 34, _ => rfl
  | 35, _ => rfl
  | 36, _ => rfl
  | 37, _ => rfl
  | 38, _ => rfl
  | 39, _ => rfl
  | 40, _ => rfl
  | 41, _ => rfl
  | 42, _ => rfl
  | 43, _ => rfl
  | 44, _ => rfl
  | 45, _ => rfl
  | 46, _ => rfl
  | 47, _ => rfl
  | 48, _ => rfl
  | 49, _ => rfl
  | 50, _ => rfl
  | 51, _ => rfl
  | 52, _ => rfl
  | 53, _ => rfl
  | 54, _ => rfl
  | 55, _ => rfl
  | 56, _ => rfl
  | 57, _ => rfl
  | 58, _ => rfl
  | 59, _ => rfl
  | 60, _ => rfl
  | 61, _ => rfl
  | 62, _ => rfl
  | 63, _ => rfl
  | 64, _ => rfl
  | 65, _ => rfl
  | 66, _ => rfl
  | 67, _ => rfl
  | 68, _ => rfl
  | 69, _ => rfl
  | 70, _ => rfl
  | 71, _ => rfl
  | 72, _ => rfl
  | 73, _ => rfl
  | 74, _ => rfl
  | 75, _ => rfl
  | 76, _ => rfl
  | 77, _ => rfl
  | 78, _ => rfl
  | 79, _ => rfl
  | 80, _ => rfl
  | 81, _ => rfl
  | 82, _ => rfl
  | 83, _ => rfl
  | 84, _ => rfl
  | 85, _ => rfl
  | 86, _ => rfl
  | 87, _ => rfl
  | 88, _ => rfl
  | 89, _ => rfl
  | 90, _ => rfl
  | 91, _ => rfl
  | 92, _ => rfl
  | 93, _ => rfl
  | 94, _ => rfl
  | 95, _ => rfl
  | 96, _ => rfl
  | 97, _ => rfl
  | 98, _ => rfl
  | k + 99, h => absurd h (by omega)
theorem m0_eqv : hk_eqv (hm (hl cES).2 mFS mES) (hk_h 0 m0_) := hk_eqv_ext rfl (fun k hk => m0_ent k hk)
theorem Inv0 : Inv 0 (fun _ => 0) m0_ := by
  refine ⟨rfl, ⟨⟨rfl, rfl, rfl, rfl, rfl, rfl, rfl, rfl, rfl, rfl, rfl, rfl, rfl, rfl⟩, ⟨rfl, rfl, rfl, rfl, rfl, rfl, rfl, rfl, rfl, rfl, rfl, rfl, rfl⟩, ⟨by decide, by decide, by decide, by decide, by decide, by decide, by decide, by decide, by decide, by decide, by decide, by decide, by decide⟩⟩, ?_, ?_, ?_, ?_, ?_, ?_, ?_, ?_, ?_, ?_, ?_, ?_, ?_⟩
  · exact ⟨fun s hs => absurd hs (Nat.not_lt_zero _), fun s _ _ => ⟨rfl, rfl⟩⟩
  · exact fun i hi => ⟨rfl, rfl⟩
  · exact ⟨rfl, 0, rfl, by decide, fun i hi => absurd hi (Nat.not_lt_zero _)⟩
  · exact ⟨fun c hc => absurd hc (Nat.not_lt_zero _), fun c _ _ => rfl⟩
  · exact fun i hi => absurd hi (Nat.not_lt_zero _)
  · exact ⟨fun s hs => absurd hs (Nat.not_lt_zero _), fun s _ _ => ⟨rfl, rfl⟩⟩
  · exact fun i hi => absurd hi (Nat.not_lt_zero _)
  · exact fun i hi => absurd hi (Nat.not_lt_zero _)
  · exact fun i hi => absurd hi (Nat.not_lt_zero _)
  · exact fun i hi => absurd hi (Nat.not_lt_zero _)
  · exact ⟨fun i hi => absurd hi (Nat.not_lt_zero _), fun i j _ h => absurd h (Nat.not_lt_zero _)⟩
  · exact fun i hi => absurd hi (Nat.not_lt_zero _)
  · exact fun i hi => absurd hi (Nat.not_lt_zero _)
end CTy
