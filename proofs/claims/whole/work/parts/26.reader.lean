/-! THE READER of laws keeps to the parse -/
section RDx
variable {L : Nat} {m : Nat → Nat → Int32}
theorem hk_conseq {M : hk_M} {d mc ms k n pc : Nat} {ls : List (Option Value)} {st : List Value} {h : hk_H} {Q Q' : Option Value → hk_H → Prop} (hq : ∀ r h, Q r h → Q' r h) (w : hk_WP M d mc ms k n pc ls st h Q) : hk_WP M d mc ms k n pc ls st h Q' := by
  intro G p l e R s m args below meth c H locs lsA C hS hV hL T hT X
  obtain ⟨t, a1, o, b1, b2, ⟨⟨r, h1, e1, e2, e3⟩, e4⟩, b4⟩ := w G p l e R s m args below meth c H locs lsA C hS hV hL T hT X
  exact ⟨t, a1, o, b1, b2, ⟨⟨r, h1, e1, hq r h1 e2, e3⟩, e4⟩, b4⟩
/-- what a reading leaves: the reader's own numbers and commands alone are changed -/
def RP (L : Nat) (m : Nat → Nat → Int32) (o : Nat) (res : LRes) (r : Option Value) (h : hk_H) : Prop := ∃ m' : Nat → Nat → Int32, h = hk_h L m' ∧ (∀ a, a ≠ 16 → a ≠ 18 → m' a = m a) ∧ m' 16 2 = m 16 2 ∧ (match res with
  | .inl f => r = some (.int 0) ∧ m' 16 3 = nI f
  | .inr (p, c, _) => r = some (.int 1) ∧ m' 16 3 = nI p ∧ m' 16 4 = nI (o + c.length) ∧ (∀ j, j < o → m' 18 j = m 18 j) ∧ ∀ j, j < c.length → m' 18 (o + j) = c.getD j 0)
noncomputable def EO (b : Nat → Int32) (n : Nat) : Nat → Option PF
  | 0 => none
  | k + 1 => some (PE b n k)
theorem PE_EO (b : Nat → Int32) (n k : Nat) : PE b n k = pE b n (EO b n k) := by cases k <;> rfl
theorem EO_b {b : Nat → Int32} {n k : Nat} : ∀ F, EO b n k = some F → PB n F := by
  cases k with
  | zero => intro F h; cases h
  | succ k => intro F h; cases h; exact PB_PE b n k
theorem s_dg {b : Nat → Int32} {n p : Nat} : (¬ cI (p < n) (b p) (-1) < 48 ∧ ¬ 57 < cI (p < n) (b p) (-1)) ↔ isDg b n p := by
  by_cases h : p < n
  · rw [cI_t h]; exact ⟨fun q => ⟨h, q.1, q.2⟩, fun q => q.2⟩
  · rw [cI_f h]; exact ⟨fun q => absurd (by decide) q.1, fun q => absurd q.1 h⟩
theorem s_at {b : Nat → Int32} {n p : Nat} {c : Int32} (hc : ¬ c < 0) : cI (p < n) (b p) (-1) = c ↔ at_ b n p c := by
  by_cases h : p < n
  · rw [cI_t h]; exact ⟨fun q => ⟨h, q⟩, fun q => q.2⟩
  · rw [cI_f h]; exact ⟨fun q => absurd (by rw [← q]; decide) hc, fun q => absurd q.1 h⟩
set_option maxRecDepth 20000 in
set_option maxHeartbeats 2000000 in
theorem ct_sign {n p : Nat} (hn : m 16 2 = nI n) (hn2 : n ≤ 160) (hp : m 16 3 = nI p) (hp2 : p ≤ n) : hk_Cd MX5_sign 0 0 0 [.ref 16] (hk_h L m) (some (.int (cI (p < n) (m 17 p) (-1)))) (hk_h L m) := by
  refine hk_ofWP (by decide) (by simp [Value.category]) (Nat.le_of_ble_eq_true rfl) ?_
  show hk_WP _ _ _ _ _ _ _ [some (.ref 16)] [] _ _
  refine hk_aload_n dX5_sign_0 rfl rfl ?_
  refine gfX5_22 rfl dX5_sign_1 (hk_lt (by decide)) rfl rfl ?_
  refine hk_if_lt (tgt := 40) dX5_sign_4 (by decide) (fun c4 => absurd c4 (by rw [hp]; exact nI_pos (by omega))) (fun _ => ?_)
  refine hk_aload_n dX5_sign_7 rfl rfl ?_
  refine gfX5_22 rfl dX5_sign_8 (hk_lt (by decide)) rfl rfl ?_
  refine hk_aload_n dX5_sign_11 rfl rfl ?_
  refine gfX5_18 rfl dX5_sign_12 (hk_lt (by decide)) rfl rfl ?_
  refine hk_icmp_ge (tgt := 40) dX5_sign_15 (by decide) (fun c15 => ?_) (fun c15 => ?_)
  · rw [hn, hp, nI_leI (by omega) (by omega)] at c15
    refine hk_iconst (v := (-1)) dX5_sign_40 (by decide) ?_
    exact hk_ireturn dX5_sign_41 rfl rfl (by decide) ⟨by first | exact cI_r1 (by omega) | exact cI_r0 (by omega), rfl⟩
  · rw [hn, hp, nI_leI (by omega) (by omega)] at c15
    refine hk_aload_n dX5_sign_18 rfl rfl ?_
    refine gfX5_22 rfl dX5_sign_19 (hk_lt (by decide)) rfl rfl ?_
    refine hk_sipush (v := 160) dX5_sign_22 (by decide) ?_
    refine hk_icmp_ge (tgt := 40) dX5_sign_25 (by decide) (fun c25 => absurd c25 (by rw [hp]; exact nI_ge (show p < 160 by omega) (by decide))) (fun _ => ?_)
    refine hk_aload_n dX5_sign_28 rfl rfl ?_
    refine gfX5_11 rfl dX5_sign_29 (hk_lt (by decide)) rfl rfl ?_
    refine hk_aload_n dX5_sign_32 rfl rfl ?_
    refine gfX5_22 rfl dX5_sign_33 (hk_lt (by decide)) rfl rfl ?_
    refine hk_ian dX5_sign_36 (by decide) (fun _ => rfl) hp (by omega) (by decide) ?_
    refine hk_goto (tgt := 41) dX5_sign_37 (by decide) ?_
    exact hk_ireturn dX5_sign_41 rfl rfl (by decide) ⟨by first | exact cI_r1 (by omega) | exact cI_r0 (by omega), rfl⟩
set_option maxRecDepth 20000 in
set_option maxHeartbeats 2000000 in
theorem ct_isDigit (s : Int32) : hk_Cd MX5_isDigit 0 0 0 [.int s] (hk_h L m) (some (.int (bI (¬ s < 48 ∧ ¬ 57 < s)))) (hk_h L m) := by
  refine hk_ofWP (by decide) (by simp [Value.category]) (Nat.le_of_ble_eq_true rfl) ?_
  show hk_WP _ _ _ _ _ _ _ [some (.int s)] [] _ _
  refine hk_iload_n dX5_isDigit_0 rfl rfl ?_
  refine hk_bipush (v := 48) dX5_isDigit_1 (by decide) ?_
  refine hk_icmp_lt (tgt := 16) dX5_isDigit_3 (by decide) (fun c3 => ?_) (fun c3 => ?_)
  · refine hk_iconst (v := 0) dX5_isDigit_16 (by decide) ?_
    exact hk_ireturn dX5_isDigit_17 rfl rfl (by decide) ⟨by first | exact bI_r1 (by grind) | exact bI_r0 (by grind), rfl⟩
  · refine hk_iload_n dX5_isDigit_6 rfl rfl ?_
    refine hk_bipush (v := 57) dX5_isDigit_7 (by decide) ?_
    refine hk_icmp_gt (tgt := 16) dX5_isDigit_9 (by decide) (fun c9 => ?_) (fun c9 => ?_)
    · refine hk_iconst (v := 0) dX5_isDigit_16 (by decide) ?_
      exact hk_ireturn dX5_isDigit_17 rfl rfl (by decide) ⟨by first | exact bI_r1 (by grind) | exact bI_r0 (by grind), rfl⟩
    · refine hk_iconst (v := 1) dX5_isDigit_12 (by decide) ?_
      refine hk_goto (tgt := 17) dX5_isDigit_13 (by decide) ?_
      exact hk_ireturn dX5_isDigit_17 rfl rfl (by decide) ⟨by first | exact bI_r1 (by grind) | exact bI_r0 (by grind), rfl⟩
set_option maxRecDepth 20000 in
set_option maxHeartbeats 2000000 in
theorem ct_put {o : Nat} (ho : m 16 4 = nI o) (ho2 : o < 160) (s x : Int32) : hk_Cd MX5_put 0 0 0 [.ref 16, .int s, .int x] (hk_h L m) (some (.int (nI o))) (hk_h L (hk_w (hk_w m 18 o (s + 256 * x)) 16 4 (nI (o + 1)))) := by
  refine hk_ofWP (by decide) (by simp [Value.category]) (Nat.le_of_ble_eq_true rfl) ?_
  show hk_WP _ _ _ _ _ _ _ [some (.ref 16), some (.int s), some (.int x)] [] _ _
  refine hk_aload_n dX5_put_0 rfl rfl ?_
  refine gfX5_25 rfl dX5_put_1 (hk_lt (by decide)) rfl rfl ?_
  refine hk_aload_n dX5_put_4 rfl rfl ?_
  refine gfX5_15 rfl dX5_put_5 (hk_lt (by decide)) rfl rfl ?_
  refine hk_alen dX5_put_8 (hk_lt (by decide)) rfl rfl ?_
  refine hk_icmp_ge (tgt := 38) dX5_put_9 (by decide) (fun c9 => absurd c9 (by rw [ho]; exact nI_ge ho2 (by decide))) (fun _ => ?_)
  refine hk_aload_n dX5_put_12 rfl rfl ?_
  refine gfX5_15 rfl dX5_put_13 (hk_lt (by decide)) rfl rfl ?_
  refine hk_aload_n dX5_put_16 rfl rfl ?_
  refine gfX5_25 rfl dX5_put_17 (hk_lt (by decide)) rfl rfl ?_
  refine hk_iload_n dX5_put_20 rfl rfl ?_
  refine hk_sipush (v := 256) dX5_put_21 (by decide) ?_
  refine hk_iload_n dX5_put_24 rfl rfl ?_
  refine hk_imul dX5_put_25 ?_
  refine hk_iadd dX5_put_26 ?_
  refine hk_isn dX5_put_27 (by decide) (fun _ => rfl) ho (by omega) (by decide) ?_
  refine hk_aload_n dX5_put_28 rfl rfl ?_
  refine hk_dup dX5_put_29 rfl ?_
  refine gfX5_25 rfl dX5_put_30 (hk_lt (by decide)) rfl rfl ?_
  refine hk_iconst (v := 1) dX5_put_33 (by decide) ?_
  refine hk_iadd dX5_put_34 ?_
  refine pfX5_25 rfl dX5_put_35 (hk_lt (by decide)) rfl (Nat.le_of_ble_eq_true rfl) (hk_st (j := 4) rfl ?_)
  rw [show hk_w m 18 o (s + 256 * x) 16 4 + 1 = nI (o + 1) by rw [hk_w_ne (by decide), ho, nI_1]]
  refine hk_aload_n dX5_put_38 rfl rfl ?_
  refine gfX5_25 rfl dX5_put_39 (hk_lt (by decide)) rfl rfl ?_
  refine hk_iconst (v := 1) dX5_put_42 (by decide) ?_
  refine hk_isub dX5_put_43 ?_
  exact hk_ireturn dX5_put_44 rfl rfl (by decide) ⟨by rw [hk_w_eq]; exact congrArg (fun x => some (Value.int x)) (nI_pred o), rfl⟩
set_option maxRecDepth 20000 in
set_option maxHeartbeats 2000000 in
theorem ct_aimHere {o : Nat} (ho : m 16 4 = nI o) {k : Nat} (hk : k < 160) : hk_Cd MX5_aimHere 0 0 0 [.ref 16, .int (nI k)] (hk_h L m) none (hk_h L (hk_w m 18 k (m 18 k + 256 * nI o))) := by
  refine hk_ofWP (by decide) (by simp [Value.category]) (Nat.le_of_ble_eq_true rfl) ?_
  show hk_WP _ _ _ _ _ _ _ [some (.ref 16), some (.int (nI k))] [] _ _
  refine hk_iload_n dX5_aimHere_0 rfl rfl ?_
  refine hk_if_lt (tgt := 30) dX5_aimHere_1 (by decide) (fun c1 => absurd c1 (nI_pos (by omega))) (fun _ => ?_)
  refine hk_iload_n dX5_aimHere_4 rfl rfl ?_
  refine hk_aload_n dX5_aimHere_5 rfl rfl ?_
  refine gfX5_15 rfl dX5_aimHere_6 (hk_lt (by decide)) rfl rfl ?_
  refine hk_alen dX5_aimHere_9 (hk_lt (by decide)) rfl rfl ?_
  refine hk_icmp_ge (tgt := 30) dX5_aimHere_10 (by decide) (fun c10 => absurd c10 (nI_ge hk (by decide))) (fun _ => ?_)
  refine hk_aload_n dX5_aimHere_13 rfl rfl ?_
  refine gfX5_15 rfl dX5_aimHere_14 (hk_lt (by decide)) rfl rfl ?_
  refine hk_iload_n dX5_aimHere_17 rfl rfl ?_
  refine hk_dup2 dX5_aimHere_18 rfl rfl ?_
  refine hk_ian dX5_aimHere_19 (by decide) (fun _ => rfl) rfl (by omega) (by decide) ?_
  refine hk_sipush (v := 256) dX5_aimHere_20 (by decide) ?_
  refine hk_aload_n dX5_aimHere_23 rfl rfl ?_
  refine gfX5_25 rfl dX5_aimHere_24 (hk_lt (by decide)) rfl rfl ?_
  refine hk_imul dX5_aimHere_27 ?_
  refine hk_iadd dX5_aimHere_28 ?_
  refine hk_isn dX5_aimHere_29 (by decide) (fun _ => rfl) rfl (by omega) (by decide) ?_
  exact hk_return dX5_aimHere_30 rfl (by decide) ⟨rfl, by rw [ho]⟩
set_option maxRecDepth 20000 in
set_option maxHeartbeats 2000000 in
theorem lp_readNumber {n o p0 : Nat} (hn2 : n ≤ 160) (ho2 : o < 160) (i : Nat) (hi : i ≤ 5) : ∀ (m : Nat → Nat → Int32) (p : Nat) (v : Int32), m 16 2 = nI n → m 16 3 = nI p → p ≤ n → m 16 4 = nI o → hk_WP MX5_readNumber 1 0 0 0 0 4 [some (.ref 16), some (.int v), some (.int (nI i))] [] (hk_h L m) (fun r h => ∃ m' : Nat → Nat → Int32, r = some (.int (bI (¬ isDg (m 17) n (pNum (m 17) n (5 - i) p v).1))) ∧ h = hk_h L m' ∧ (∀ a, a ≠ 16 → a ≠ 18 → m' a = m a) ∧ m' 16 2 = m 16 2 ∧ m' 16 3 = nI (pNum (m 17) n (5 - i) p v).1 ∧ m' 16 4 = nI (o + 1) ∧ (∀ j, j ≠ o → m' 18 j = m 18 j) ∧ m' 18 o = 48 + 256 * (pNum (m 17) n (5 - i) p v).2) := by
  intro m p v hn hp hp2 ho
  refine hk_iload_n dX5_readNumber_4 rfl rfl ?_
  refine hk_iconst (v := 5) dX5_readNumber_5 (by decide) ?_
  refine hk_icmp_ge (tgt := 48) dX5_readNumber_6 (by decide) (fun c6 => ?_) (fun c6 => ?_)
  · rw [show (5 : Int32) = nI 5 from rfl, nI_leI (by omega) (by omega)] at c6
    have e2 : pNum (m 17) n (5 - i) p v = (p, v) := by
      by_cases hi5 : i = 5
      · rw [hi5]; rfl
      · rw [show 5 - i = (5 - (i + 1)) + 1 by omega]; show cI _ _ _ = _; rw [cI_f (by first | exact c16 | omega)]
    rw [e2]
    refine hk_aload_n dX5_readNumber_48 rfl rfl ?_
    refine hk_bipush (v := 48) dX5_readNumber_49 (by decide) ?_
    refine hk_iload_n dX5_readNumber_51 rfl rfl ?_
    refine ivX5_41 rfl (ct_put ho ho2 48 v) dX5_readNumber_52 (hk_lt (by decide)) rfl rfl rfl (by decide) ⟨by decide, by decide⟩ (Nat.le_of_ble_eq_true rfl) (hk_kd ?_)
    refine hk_pop dX5_readNumber_55 rfl ?_
    refine hk_aload_n dX5_readNumber_56 rfl rfl ?_
    refine ivX5_37 rfl (ct_sign (n := n) (p := p) (by rw [hk_w_off (by decide), hk_w_ne (by decide)]; exact hn) hn2 (by rw [hk_w_off (by decide), hk_w_ne (by decide)]; exact hp) hp2) dX5_readNumber_57 (hk_lt (by decide)) rfl rfl rfl (by decide) ⟨by decide, by decide⟩ (Nat.le_of_ble_eq_true rfl) (hk_kd ?_)
    refine ivX5_58 rfl (ct_isDigit _) dX5_readNumber_60 rfl rfl (by decide) ⟨by decide, by decide⟩ (Nat.le_of_ble_eq_true rfl) (hk_kd ?_)
    refine hk_if_ne (tgt := 70) dX5_readNumber_63 (by decide) (fun c63 => ?_) (fun c63 => ?_)
    · refine hk_iconst (v := 0) dX5_readNumber_70 (by decide) ?_
      exact hk_ireturn dX5_readNumber_71 rfl rfl (by decide) ⟨_, by first | exact bI_r1 (by rw [bI_0, hk_wo (by decide), hk_wo (by decide), s_dg] at c63; exact c63) | exact bI_r0 (by rw [bI_0, hk_wo (by decide), hk_wo (by decide), s_dg] at c63; exact c63), rfl, fun a h1 h2 => by rw [hk_wo h1, hk_wo h2], by rw [hk_w_off (by decide), hk_w_ne (by decide)], by rw [hk_w_off (by decide), hk_w_ne (by decide)]; exact hp, hk_w_eq, fun j hj => by rw [hk_w_ne (by decide), hk_w_off hj], by rw [hk_w_ne (by decide), hk_w_eq]⟩
    · refine hk_iconst (v := 1) dX5_readNumber_66 (by decide) ?_
      refine hk_goto (tgt := 71) dX5_readNumber_67 (by decide) ?_
      exact hk_ireturn dX5_readNumber_71 rfl rfl (by decide) ⟨_, by first | exact bI_r1 (by rw [bI_0, hk_wo (by decide), hk_wo (by decide), s_dg] at c63; exact c63) | exact bI_r0 (by rw [bI_0, hk_wo (by decide), hk_wo (by decide), s_dg] at c63; exact c63), rfl, fun a h1 h2 => by rw [hk_wo h1, hk_wo h2], by rw [hk_w_off (by decide), hk_w_ne (by decide)], by rw [hk_w_off (by decide), hk_w_ne (by decide)]; exact hp, hk_w_eq, fun j hj => by rw [hk_w_ne (by decide), hk_w_off hj], by rw [hk_w_ne (by decide), hk_w_eq]⟩
  · rw [show (5 : Int32) = nI 5 from rfl, nI_leI (by omega) (by omega)] at c6
    refine hk_aload_n dX5_readNumber_9 rfl rfl ?_
    refine ivX5_37 rfl (ct_sign hn hn2 hp hp2) dX5_readNumber_10 (hk_lt (by decide)) rfl rfl rfl (by decide) ⟨by decide, by decide⟩ (Nat.le_of_ble_eq_true rfl) (hk_kd ?_)
    refine ivX5_58 rfl (ct_isDigit _) dX5_readNumber_13 rfl rfl (by decide) ⟨by decide, by decide⟩ (Nat.le_of_ble_eq_true rfl) (hk_kd ?_)
    refine hk_if_eq (tgt := 48) dX5_readNumber_16 (by decide) (fun c16 => ?_) (fun c16 => ?_)
    · rw [bI_0, s_dg] at c16
      have e2 : pNum (m 17) n (5 - i) p v = (p, v) := by
        by_cases hi5 : i = 5
        · rw [hi5]; rfl
        · rw [show 5 - i = (5 - (i + 1)) + 1 by omega]; show cI _ _ _ = _; rw [cI_f (by first | exact c16 | omega)]
      rw [e2]
      refine hk_aload_n dX5_readNumber_48 rfl rfl ?_
      refine hk_bipush (v := 48) dX5_readNumber_49 (by decide) ?_
      refine hk_iload_n dX5_readNumber_51 rfl rfl ?_
      refine ivX5_41 rfl (ct_put ho ho2 48 v) dX5_readNumber_52 (hk_lt (by decide)) rfl rfl rfl (by decide) ⟨by decide, by decide⟩ (Nat.le_of_ble_eq_true rfl) (hk_kd ?_)
      refine hk_pop dX5_readNumber_55 rfl ?_
      refine hk_aload_n dX5_readNumber_56 rfl rfl ?_
      refine ivX5_37 rfl (ct_sign (n := n) (p := p) (by rw [hk_w_off (by decide), hk_w_ne (by decide)]; exact hn) hn2 (by rw [hk_w_off (by decide), hk_w_ne (by decide)]; exact hp) hp2) dX5_readNumber_57 (hk_lt (by decide)) rfl rfl rfl (by decide) ⟨by decide, by decide⟩ (Nat.le_of_ble_eq_true rfl) (hk_kd ?_)
      refine ivX5_58 rfl (ct_isDigit _) dX5_readNumber_60 rfl rfl (by decide) ⟨by decide, by decide⟩ (Nat.le_of_ble_eq_true rfl) (hk_kd ?_)
      refine hk_if_ne (tgt := 70) dX5_readNumber_63 (by decide) (fun c63 => ?_) (fun c63 => ?_)
      · refine hk_iconst (v := 0) dX5_readNumber_70 (by decide) ?_
        exact hk_ireturn dX5_readNumber_71 rfl rfl (by decide) ⟨_, by first | exact bI_r1 (by rw [bI_0, hk_wo (by decide), hk_wo (by decide), s_dg] at c63; exact c63) | exact bI_r0 (by rw [bI_0, hk_wo (by decide), hk_wo (by decide), s_dg] at c63; exact c63), rfl, fun a h1 h2 => by rw [hk_wo h1, hk_wo h2], by rw [hk_w_off (by decide), hk_w_ne (by decide)], by rw [hk_w_off (by decide), hk_w_ne (by decide)]; exact hp, hk_w_eq, fun j hj => by rw [hk_w_ne (by decide), hk_w_off hj], by rw [hk_w_ne (by decide), hk_w_eq]⟩
      · refine hk_iconst (v := 1) dX5_readNumber_66 (by decide) ?_
        refine hk_goto (tgt := 71) dX5_readNumber_67 (by decide) ?_
        exact hk_ireturn dX5_readNumber_71 rfl rfl (by decide) ⟨_, by first | exact bI_r1 (by rw [bI_0, hk_wo (by decide), hk_wo (by decide), s_dg] at c63; exact c63) | exact bI_r0 (by rw [bI_0, hk_wo (by decide), hk_wo (by decide), s_dg] at c63; exact c63), rfl, fun a h1 h2 => by rw [hk_wo h1, hk_wo h2], by rw [hk_w_off (by decide), hk_w_ne (by decide)], by rw [hk_w_off (by decide), hk_w_ne (by decide)]; exact hp, hk_w_eq, fun j hj => by rw [hk_w_ne (by decide), hk_w_off hj], by rw [hk_w_ne (by decide), hk_w_eq]⟩
    · rw [bI_0, s_dg] at c16
      refine hk_iload_n dX5_readNumber_19 rfl rfl ?_
      refine hk_bipush (v := 10) dX5_readNumber_20 (by decide) ?_
      refine hk_imul dX5_readNumber_22 ?_
      refine hk_aload_n dX5_readNumber_23 rfl rfl ?_
      refine ivX5_37 rfl (ct_sign hn hn2 hp hp2) dX5_readNumber_24 (hk_lt (by decide)) rfl rfl rfl (by decide) ⟨by decide, by decide⟩ (Nat.le_of_ble_eq_true rfl) (hk_kd ?_)
      refine hk_iadd dX5_readNumber_27 ?_
      refine hk_bipush (v := 48) dX5_readNumber_28 (by decide) ?_
      refine hk_isub dX5_readNumber_30 ?_
      refine hk_istore_n dX5_readNumber_31 rfl (by decide) rfl ?_
      refine hk_aload_n dX5_readNumber_32 rfl rfl ?_
      refine hk_dup dX5_readNumber_33 rfl ?_
      refine gfX5_22 rfl dX5_readNumber_34 (hk_lt (by decide)) rfl rfl ?_
      refine hk_iconst (v := 1) dX5_readNumber_37 (by decide) ?_
      refine hk_iadd dX5_readNumber_38 ?_
      refine pfX5_22 rfl dX5_readNumber_39 (hk_lt (by decide)) rfl (Nat.le_of_ble_eq_true rfl) (hk_st (j := 3) rfl ?_)
      refine hk_iinc (v := nI (i + 1)) dX5_readNumber_42 rfl (nI_1 i) (by decide) rfl ?_
      refine hk_goto (tgt := 4) dX5_readNumber_45 (by decide) ?_
      have hd := Classical.not_not.mp c16
      have e : 5 - i = (5 - (i + 1)) + 1 := by omega
      have hs := lp_readNumber (p0 := p0) hn2 ho2 (i + 1) (by omega) (hk_w m 16 3 (nI (p + 1))) (p + 1) (v * 10 + m 17 p - 48) (by rw [hk_w_off (by decide)]; exact hn) hk_w_eq hd.1 (by rw [hk_w_off (by decide)]; exact ho)
      rw [show hk_w m 16 3 (nI (p + 1)) 17 = m 17 from hk_wo (by decide)] at hs
      have e2 : pNum (m 17) n (5 - i) p v = pNum (m 17) n (5 - (i + 1)) (p + 1) (v * 10 + m 17 p - 48) := by rw [e]; show cI _ _ _ = _; rw [cI_t hd]
      rw [e2]
      rw [show m 16 3 + 1 = nI (p + 1) by rw [hp, nI_1], cI_t hd.1]
      refine hk_conseq ?_ hs
      rintro r h ⟨m', q1, q2, q3, q4, q5, q6, q7, q8⟩
      exact ⟨m', q1, q2, fun a h1 h2 => by rw [q3 a h1 h2, hk_wo h1], by rw [q4, hk_w_off (by decide)], q5, q6, fun j hj => by rw [q7 j hj, hk_w_ne (by decide)], q8⟩
termination_by 5 - i
decreasing_by all_goals omega
set_option maxRecDepth 20000 in
set_option maxHeartbeats 2000000 in
theorem ct_readNumber {n p : Nat} (hn : m 16 2 = nI n) (hn2 : n ≤ 160) (hp : m 16 3 = nI p) (hp2 : p ≤ n) {o : Nat} (ho : m 16 4 = nI o) (ho2 : o ≤ p) (hd : isDg (m 17) n p) : hk_Ct MX5_readNumber 1 0 0 [.ref 16] (hk_h L m) (RP L m o (cI (isDg (m 17) n (pNum (m 17) n 5 p 0).1) (.inl (pNum (m 17) n 5 p 0).1) (.inr ((pNum (m 17) n 5 p 0).1, [48 + 256 * (pNum (m 17) n 5 p 0).2], fun _ => (pNum (m 17) n 5 p 0).2)))) := by
  refine hk_ofWP (by decide) (by simp [Value.category]) (Nat.le_of_ble_eq_true rfl) ?_
  show hk_WP _ _ _ _ _ _ _ [some (.ref 16), none, none] [] _ _
  refine hk_iconst (v := 0) dX5_readNumber_0 (by decide) ?_
  refine hk_istore_n dX5_readNumber_1 rfl (by decide) rfl ?_
  refine hk_iconst (v := 0) dX5_readNumber_2 (by decide) ?_
  refine hk_istore_n dX5_readNumber_3 rfl (by decide) rfl ?_
  have hs := lp_readNumber (L := L) (p0 := 0) hn2 (show o < 160 by have := hd.1; omega) 0 (by omega) m p 0 hn hp hp2 ho
  refine hk_conseq ?_ hs
  rintro r h ⟨m', q1, q2, q3, q4, q5, q6, q7, q8⟩
  refine ⟨m', q2, q3, q4, ?_⟩
  by_cases hg : isDg (m 17) n (pNum (m 17) n 5 p 0).1
  · rw [cI_t hg]
    exact ⟨by rw [q1, bI_f (fun z => z hg)], q5⟩
  · rw [cI_f hg]
    refine ⟨by rw [q1, bI_t hg], q5, q6, fun j hj => q7 j (by omega), fun j hj => ?_⟩
    have : j = 0 := by simp only [List.length_singleton] at hj; omega
    subst this
    exact q8
/-- what nameOf answers -/
def NameOf (L : Nat) : Prop := ∀ (m : Nat → Nat → Int32) (s : Int32), hk_Cd MX4_nameOf 3 0 0 [.int s] (hk_h L m) (some (.int (nmo s))) (hk_h L m)
theorem nmo_i (c : Int32) : nmo c < 0 ∨ ∃ k, k < 9 ∧ nmo c = nI k := by
  unfold nmo
  split
  · exact Or.inr ⟨0, by decide, rfl⟩
  split
  · exact Or.inr ⟨1, by decide, rfl⟩
  split
  · exact Or.inr ⟨2, by decide, rfl⟩
  split
  · exact Or.inr ⟨3, by decide, rfl⟩
  split
  · exact Or.inr ⟨4, by decide, rfl⟩
  split
  · exact Or.inr ⟨5, by decide, rfl⟩
  split
  · exact Or.inr ⟨6, by decide, rfl⟩
  split
  · exact Or.inr ⟨7, by decide, rfl⟩
  split
  · exact Or.inr ⟨8, by decide, rfl⟩
  · exact Or.inl (by decide)
/-- a reading of level k, its depth d -/
def RdE (L k d : Nat) : Prop := ∀ (m : Nat → Nat → Int32) (n p o : Nat), m 16 2 = nI n → n ≤ 160 → m 16 3 = nI p → p ≤ n → m 16 4 = nI o → o ≤ p → hk_Ct MX5_readE d 0 0 [.ref 16, .int (nI (12 - k))] (hk_h L m) (RP L m o (PE (m 17) n k p o))
theorem RP_len {m m' : Nat → Nat → Int32} {a : Nat} (h : ∀ a, a ≠ 16 → a ≠ 18 → m' a = m a) (h1 : a ≠ 16) (h2 : a ≠ 18) : m' a = m a := h a h1 h2
set_option maxRecDepth 20000 in
set_option maxHeartbeats 2000000 in
theorem ct_readBraced {k d : Nat} (hE : RdE L k d) {n p : Nat} (hn : m 16 2 = nI n) (hn2 : n ≤ 160) (hp : m 16 3 = nI p) (hp2 : p ≤ n) {o : Nat} (ho : m 16 4 = nI o) (ho2 : o ≤ p) (hpn : p < n) : hk_Ct MX5_readBraced (d + 1) 0 0 [.ref 16, .int (nI (12 - k))] (hk_h L m) (RP L m o (match PE (m 17) n k (p + 1) o with | .inl f => .inl f | .inr (p1, c, v) => cI (at_ (m 17) n p1 41) (.inr (p1 + 1, c, v)) (.inl p1))) := by
  have e0 : hk_w m 16 3 (nI (p + 1)) 17 = m 17 := hk_wo (by decide)
  have hB := PB_PE (m 17) n k (p + 1) o hpn
  refine hk_ofWP (by decide) (by simp [Value.category]) (Nat.le_of_ble_eq_true rfl) ?_
  show hk_WP _ _ _ _ _ _ _ [some (.ref 16), some (.int (nI (12 - k)))] [] _ _
  refine hk_aload_n dX5_readBraced_0 rfl rfl ?_
  refine hk_dup dX5_readBraced_1 rfl ?_
  refine gfX5_22 rfl dX5_readBraced_2 (hk_lt (by decide)) rfl rfl ?_
  refine hk_iconst (v := 1) dX5_readBraced_5 (by decide) ?_
  refine hk_iadd dX5_readBraced_6 ?_
  refine pfX5_22 rfl dX5_readBraced_7 (hk_lt (by decide)) rfl (Nat.le_of_ble_eq_true rfl) (hk_st (j := 3) rfl ?_)
  rw [show m 16 3 + 1 = nI (p + 1) by rw [hp, nI_1]]
  refine hk_aload_n dX5_readBraced_10 rfl rfl ?_
  refine hk_iload_n dX5_readBraced_11 rfl rfl ?_
  refine ivX5_28 rfl (hE (hk_w m 16 3 (nI (p + 1))) n (p + 1) o (by rw [hk_w_off (by decide)]; exact hn) hn2 hk_w_eq hpn (by rw [hk_w_off (by decide)]; exact ho) (by omega)) dX5_readBraced_12 (hk_lt (by decide)) rfl rfl rfl (Nat.le_refl _) ⟨by decide, by decide⟩ (Nat.le_of_ble_eq_true rfl) (fun r h1 hq => ?_)
  obtain ⟨m1, rfl, q1, q2, q3⟩ := hq
  rw [e0] at q3
  have e1 : m1 17 = m 17 := by rw [q1 17 (by decide) (by decide), e0]
  have e2 : m1 16 2 = nI n := by rw [q2, hk_w_off (by decide)]; exact hn
  have e3 : ∀ a, a ≠ 16 → a ≠ 18 → m1 a = m a := fun a z1 z2 => by rw [q1 a z1 z2, hk_wo z1]
  rcases hr : PE (m 17) n k (p + 1) o with q | ⟨p1, c, v⟩
  · simp only [hr] at q3
    obtain ⟨rfl, q4⟩ := q3
    refine hk_if_eq (tgt := 27) dX5_readBraced_15 (by decide) (fun _ => ?_) (fun c15 => absurd (by decide) c15)
    refine hk_iconst (v := 0) dX5_readBraced_27 (by decide) ?_
    exact hk_ireturn dX5_readBraced_28 rfl rfl (by decide) (by first | exact ⟨m1, rfl, e3, by rw [e2, hn], by simp only [hr]; exact ⟨rfl, q4⟩⟩ | exact ⟨m1, rfl, e3, by rw [e2, hn], by simp only [hr]; rw [cI_f c24]; exact ⟨rfl, q4⟩⟩)
  · simp only [hr] at q3 hB
    obtain ⟨rfl, q4, q5, q6, q7⟩ := q3
    refine hk_if_eq (tgt := 27) dX5_readBraced_15 (by decide) (fun c15 => absurd c15 (by decide)) (fun _ => ?_)
    refine hk_aload_n dX5_readBraced_18 rfl rfl ?_
    refine ivX5_37 rfl (ct_sign (n := n) (p := p1) e2 hn2 q4 hB.2.1) dX5_readBraced_19 (hk_lt (by decide)) rfl rfl rfl (Nat.succ_le_succ (Nat.zero_le _)) ⟨by decide, by decide⟩ (Nat.le_of_ble_eq_true rfl) (hk_kd ?_)
    refine hk_bipush (v := 41) dX5_readBraced_22 (by decide) ?_
    refine hk_icmp_eq (tgt := 29) dX5_readBraced_24 (by decide) (fun c24 => ?_) (fun c24 => ?_)
    · rw [e1, s_at (by decide)] at c24
      refine hk_aload_n dX5_readBraced_29 rfl rfl ?_
      refine hk_dup dX5_readBraced_30 rfl ?_
      refine gfX5_22 rfl dX5_readBraced_31 (hk_lt (by decide)) rfl rfl ?_
      refine hk_iconst (v := 1) dX5_readBraced_34 (by decide) ?_
      refine hk_iadd dX5_readBraced_35 ?_
      refine pfX5_22 rfl dX5_readBraced_36 (hk_lt (by decide)) rfl (Nat.le_of_ble_eq_true rfl) (hk_st (j := 3) rfl ?_)
      rw [show m1 16 3 + 1 = nI (p1 + 1) by rw [q4, nI_1]]
      refine hk_iconst (v := 1) dX5_readBraced_39 (by decide) ?_
      exact hk_ireturn dX5_readBraced_40 rfl rfl (by decide) ⟨_, rfl, fun a z1 z2 => by rw [hk_wo z1]; exact e3 a z1 z2, by rw [hk_w_off (by decide), e2, hn], by simp only [hr]; rw [cI_t c24]; exact ⟨rfl, hk_w_eq, by rw [hk_w_off (by decide)]; exact q5, fun j hj => by rw [hk_w_ne (by decide), q6 j hj, hk_w_ne (by decide)], fun j hj => by rw [hk_w_ne (by decide)]; exact q7 j hj⟩⟩
    · rw [e1, s_at (by decide)] at c24
      refine hk_iconst (v := 0) dX5_readBraced_27 (by decide) ?_
      exact hk_ireturn dX5_readBraced_28 rfl rfl (by decide) (by first | exact ⟨m1, rfl, e3, by rw [e2, hn], by simp only [hr]; exact ⟨rfl, q4⟩⟩ | exact ⟨m1, rfl, e3, by rw [e2, hn], by simp only [hr]; rw [cI_f c24]; exact ⟨rfl, q4⟩⟩)
end RDx
