/-! THE READER of laws keeps to the parse -/
section RDx
variable {L : Nat} {m m0 m1 : Nat → Nat → Int32}
theorem hk_conseq {M : hk_M} {d mc ms k n pc : Nat} {ls : List (Option Value)} {st : List Value} {h : hk_H} {Q Q' : Option Value → hk_H → Prop} (hq : ∀ r h, Q r h → Q' r h) (w : hk_WP M d mc ms k n pc ls st h Q) : hk_WP M d mc ms k n pc ls st h Q' := by
  intro G p l e R s m args below meth c H locs lsA C hS hV hL T hT X
  obtain ⟨t, a1, o, b1, b2, ⟨⟨r, h1, e1, e2, e3⟩, e4⟩, b4⟩ := w G p l e R s m args below meth c H locs lsA C hS hV hL T hT X
  exact ⟨t, a1, o, b1, b2, ⟨⟨r, h1, e1, hq r h1 e2, e3⟩, e4⟩, b4⟩
theorem gD_l {a b : List Int32} {j : Nat} (h : j < a.length) : (a ++ b).getD j 0 = a.getD j 0 := by simp [List.getD, List.getElem?_append_left h]
theorem gD_r {a b : List Int32} {j : Nat} (h : ¬ j < a.length) : (a ++ b).getD j 0 = b.getD (j - a.length) 0 := by simp [List.getD, List.getElem?_append_right (Nat.not_lt.mp h)]
/-- the reader stands at place p, of n bytes; all but its own numbers and commands is as in m0 -/
def RF (m0 m1 : Nat → Nat → Int32) (n p : Nat) : Prop := (∀ a, a ≠ 16 → a ≠ 18 → m1 a = m0 a) ∧ m1 16 2 = nI n ∧ m1 16 3 = nI p
/-- and behind the o commands of m0 come cs -/
def RS (m0 : Nat → Nat → Int32) (o : Nat) (cs : List Int32) (n p : Nat) (m1 : Nat → Nat → Int32) : Prop := RF m0 m1 n p ∧ m1 16 4 = nI (o + cs.length) ∧ (∀ j, j < o → m1 18 j = m0 18 j) ∧ ∀ j, j < cs.length → m1 18 (o + j) = cs.getD j 0
/-- what a reading leaves and answers -/
def RP (L : Nat) (m : Nat → Nat → Int32) (o n : Nat) (res : LRes) (r : Option Value) (h : hk_H) : Prop := match res with
  | .inl f => ∃ m1, r = some (.int 0) ∧ h = hk_h L m1 ∧ RF m m1 n f
  | .inr (p, c, _) => ∃ m1, r = some (.int 1) ∧ h = hk_h L m1 ∧ RS m o c n p m1
theorem RPf {o n f : Nat} {res : LRes} (e : res = .inl f) (s : RF m m1 n f) : RP L m o n res (some (.int 0)) (hk_h L m1) := by rw [e]; exact ⟨m1, rfl, rfl, s⟩
theorem RPc {o n p : Nat} {res : LRes} {c : List Int32} {v : (Nat → Int32) → Int32} (e : res = .inr (p, c, v)) (s : RS m o c n p m1) : RP L m o n res (some (.int 1)) (hk_h L m1) := by rw [e]; exact ⟨m1, rfl, rfl, s⟩
theorem RPi {o o' n p f : Nat} {cs : List Int32} {res : LRes} {r : Option Value} {h : hk_H} (s : RS m0 o cs n p m) (q : RP L m o' n res r h) (e : res = .inl f) : ∃ m1, r = some (.int 0) ∧ h = hk_h L m1 ∧ RF m0 m1 n f := by
  rw [e] at q
  obtain ⟨m1, q1, q2, q3⟩ := q
  exact ⟨m1, q1, q2, fun a h1 h2 => (q3.1 a h1 h2).trans (s.1.1 a h1 h2), q3.2⟩
theorem RPj {o o' n p p1 : Nat} {cs c : List Int32} {v : (Nat → Int32) → Int32} {res : LRes} {r : Option Value} {h : hk_H} (s : RS m0 o cs n p m) (eo : o' = o + cs.length) (q : RP L m o' n res r h) (e : res = .inr (p1, c, v)) : ∃ m1, r = some (.int 1) ∧ h = hk_h L m1 ∧ RS m0 o (cs ++ c) n p1 m1 := by
  rw [e] at q
  obtain ⟨m1, q1, q2, q3⟩ := q
  subst eo
  refine ⟨m1, q1, q2, ⟨fun a h1 h2 => (q3.1.1 a h1 h2).trans (s.1.1 a h1 h2), q3.1.2⟩, ?_, fun j hj => ?_, fun j hj => ?_⟩
  · rw [q3.2.1, List.length_append, Nat.add_assoc]
  · rw [q3.2.2.1 j (by omega)]; exact s.2.2.1 j hj
  · by_cases h1 : j < cs.length
    · rw [q3.2.2.1 (o + j) (by omega), gD_l h1]; exact s.2.2.2 j h1
    · rw [gD_r h1]
      rw [List.length_append] at hj
      have := q3.2.2.2 (j - cs.length) (by omega)
      rw [← this]
      congr 1; omega
theorem RS.refl {o n p : Nat} (hn : m 16 2 = nI n) (hp : m 16 3 = nI p) (ho : m 16 4 = nI o) : RS m o [] n p m := ⟨⟨fun _ _ _ => rfl, hn, hp⟩, ho, fun _ _ => rfl, fun j hj => absurd hj (Nat.not_lt_zero _)⟩
theorem RS.pl {o n p : Nat} {cs : List Int32} (q : Nat) (s : RS m0 o cs n p m1) : RS m0 o cs n q (hk_w m1 16 3 (nI q)) := by
  refine ⟨⟨fun a h1 h2 => ?_, ?_, hk_w_eq⟩, ?_, fun j hj => ?_, fun j hj => ?_⟩
  · rw [hk_wo h1]; exact s.1.1 a h1 h2
  · rw [hk_w_off (by decide)]; exact s.1.2.1
  · rw [hk_w_off (by decide)]; exact s.2.1
  · rw [hk_w_ne (by decide)]; exact s.2.2.1 j hj
  · rw [hk_w_ne (by decide)]; exact s.2.2.2 j hj
theorem RS.put {o n p e : Nat} {cs : List Int32} {x : Int32} (s : RS m0 o cs n p m1) (he : e = o + cs.length) : RS m0 o (cs ++ [x]) n p (hk_w (hk_w m1 18 e x) 16 4 (nI (e + 1))) := by
  subst he
  refine ⟨⟨fun a h1 h2 => ?_, ?_, ?_⟩, ?_, fun j hj => ?_, fun j hj => ?_⟩
  · rw [hk_wo h1, hk_wo h2]; exact s.1.1 a h1 h2
  · rw [hk_w_off (by decide), hk_w_ne (by decide)]; exact s.1.2.1
  · rw [hk_w_off (by decide), hk_w_ne (by decide)]; exact s.1.2.2
  · rw [hk_w_eq, List.length_append]; rfl
  · rw [hk_w_ne (by decide), hk_w_off (by omega)]; exact s.2.2.1 j hj
  · rw [hk_w_ne (by decide)]
    by_cases h1 : j < cs.length
    · rw [hk_w_off (by omega), gD_l h1]; exact s.2.2.2 j h1
    · rw [List.length_append, List.length_singleton] at hj
      have e : j = cs.length := by omega
      subst e
      rw [hk_w_eq, gD_r h1, Nat.sub_self]; rfl
theorem RS.cg {o n p : Nat} {cs cs' : List Int32} (e : cs = cs') (s : RS m0 o cs n p m1) : RS m0 o cs' n p m1 := e ▸ s
theorem RS.aim {o n p e : Nat} {a b : List Int32} {x y : Int32} (s : RS m0 o (a ++ [x] ++ b) n p m1) (he : e = o + a.length) : RS m0 o (a ++ [x + y] ++ b) n p (hk_w m1 18 e (m1 18 e + y)) := by
  subst he
  have hl : (a ++ [x + y] ++ b).length = (a ++ [x] ++ b).length := by simp
  have hx : m1 18 (o + a.length) = x := by
    rw [s.2.2.2 a.length (by simp only [List.length_append, List.length_singleton]; omega), gD_l (by simp), gD_r (by omega), Nat.sub_self]
    try rfl
  refine ⟨⟨fun c h1 h2 => ?_, ?_, ?_⟩, ?_, fun j hj => ?_, fun j hj => ?_⟩
  · rw [hk_wo h2]; exact s.1.1 c h1 h2
  · rw [hk_w_ne (by decide)]; exact s.1.2.1
  · rw [hk_w_ne (by decide)]; exact s.1.2.2
  · rw [hk_w_ne (by decide), hl]; exact s.2.1
  · rw [hk_w_off (by omega)]; exact s.2.2.1 j hj
  · rw [hl] at hj
    by_cases h1 : j < a.length
    · rw [hk_w_off (by omega), s.2.2.2 j hj, gD_l (by simp only [List.length_append, List.length_singleton]; omega), gD_l h1, gD_l (by simp only [List.length_append, List.length_singleton]; omega), gD_l h1]
    · by_cases h2 : j = a.length
      · subst h2
        rw [hk_w_eq, hx, gD_l (by simp), gD_r (by omega), Nat.sub_self]; rfl
      · rw [hk_w_off (by omega), s.2.2.2 j hj, gD_r (by simp only [List.length_append, List.length_singleton]; omega), gD_r (by simp only [List.length_append, List.length_singleton]; omega)]
        simp
noncomputable def EO (b : Nat → Int32) (n : Nat) : Nat → Option PF
  | 0 => none
  | k + 1 => some (PE b n k)
theorem PE_EO (b : Nat → Int32) (n k : Nat) : PE b n k = pE b n (EO b n k) := by cases k <;> rfl
theorem EO_b {b : Nat → Int32} {n k : Nat} : ∀ F, EO b n k = some F → PB n F := by
  cases k with
  | zero => intro F h; cases h
  | succ k => intro F h; cases h; exact PB_PE b n k
theorem s_dg {b : Nat → Int32} {n p : Nat} : (¬ cI (p < n) (b p) (-1) < 48 ∧ ¬ 57 < cI (p < n) (b p) (-1)) ↔ isDg b n p := by
  by_cases h : p < n
  · rw [cI_t h]; exact ⟨fun q => ⟨h, q.1, q.2⟩, fun q => q.2⟩
  · rw [cI_f h]; exact ⟨fun q => absurd (by decide) q.1, fun q => absurd q.1 h⟩
theorem s_at {b : Nat → Int32} {n p : Nat} {c : Int32} (hc : ¬ c < 0) : cI (p < n) (b p) (-1) = c ↔ at_ b n p c := by
  by_cases h : p < n
  · rw [cI_t h]; exact ⟨fun q => ⟨h, q⟩, fun q => q.2⟩
  · rw [cI_f h]; exact ⟨fun q => absurd (by rw [← q]; decide) hc, fun q => absurd q.1 h⟩
set_option maxRecDepth 20000 in
set_option maxHeartbeats 2000000 in
theorem ct_sign {n p : Nat} (hn : m 16 2 = nI n) (hn2 : n ≤ 160) (hp : m 16 3 = nI p) (hp2 : p ≤ n) : hk_Cd MX5_sign 0 0 0 [.ref 16] (hk_h L m) (some (.int (cI (p < n) (m 17 p) (-1)))) (hk_h L m) := by
  refine hk_ofWP (by decide) (by simp [Value.category]) (Nat.le_of_ble_eq_true rfl) ?_
  show hk_WP _ _ _ _ _ _ _ [some (.ref 16)] [] _ _
  refine hk_aload_n dX5_sign_0 rfl rfl ?_
  refine gfX5_22 rfl dX5_sign_1 (hk_lt (by decide)) rfl rfl ?_
  refine hk_if_lt (tgt := 40) dX5_sign_4 (by decide) (fun c4 => absurd c4 (by rw [hp]; exact nI_pos (by omega))) (fun _ => ?_)
  refine hk_aload_n dX5_sign_7 rfl rfl ?_
  refine gfX5_22 rfl dX5_sign_8 (hk_lt (by decide)) rfl rfl ?_
  refine hk_aload_n dX5_sign_11 rfl rfl ?_
  refine gfX5_18 rfl dX5_sign_12 (hk_lt (by decide)) rfl rfl ?_
  refine hk_icmp_ge (tgt := 40) dX5_sign_15 (by decide) (fun c15 => ?_) (fun c15 => ?_)
  · rw [hn, hp, nI_leI (by omega) (by omega)] at c15
    refine hk_iconst (v := (-1)) dX5_sign_40 (by decide) ?_
    exact hk_ireturn dX5_sign_41 rfl rfl (by decide) ⟨by first | exact cI_r1 (by omega) | exact cI_r0 (by omega), rfl⟩
  · rw [hn, hp, nI_leI (by omega) (by omega)] at c15
    refine hk_aload_n dX5_sign_18 rfl rfl ?_
    refine gfX5_22 rfl dX5_sign_19 (hk_lt (by decide)) rfl rfl ?_
    refine hk_sipush (v := 160) dX5_sign_22 (by decide) ?_
    refine hk_icmp_ge (tgt := 40) dX5_sign_25 (by decide) (fun c25 => absurd c25 (by rw [hp]; exact nI_ge (show p < 160 by omega) (by decide))) (fun _ => ?_)
    refine hk_aload_n dX5_sign_28 rfl rfl ?_
    refine gfX5_11 rfl dX5_sign_29 (hk_lt (by decide)) rfl rfl ?_
    refine hk_aload_n dX5_sign_32 rfl rfl ?_
    refine gfX5_22 rfl dX5_sign_33 (hk_lt (by decide)) rfl rfl ?_
    refine hk_ian dX5_sign_36 (by decide) (fun _ => rfl) hp (by omega) (by decide) ?_
    refine hk_goto (tgt := 41) dX5_sign_37 (by decide) ?_
    exact hk_ireturn dX5_sign_41 rfl rfl (by decide) ⟨by first | exact cI_r1 (by omega) | exact cI_r0 (by omega), rfl⟩
set_option maxRecDepth 20000 in
set_option maxHeartbeats 2000000 in
theorem ct_isDigit (s : Int32) : hk_Cd MX5_isDigit 0 0 0 [.int s] (hk_h L m) (some (.int (bI (¬ s < 48 ∧ ¬ 57 < s)))) (hk_h L m) := by
  refine hk_ofWP (by decide) (by simp [Value.category]) (Nat.le_of_ble_eq_true rfl) ?_
  show hk_WP _ _ _ _ _ _ _ [some (.int s)] [] _ _
  refine hk_iload_n dX5_isDigit_0 rfl rfl ?_
  refine hk_bipush (v := 48) dX5_isDigit_1 (by decide) ?_
  refine hk_icmp_lt (tgt := 16) dX5_isDigit_3 (by decide) (fun c3 => ?_) (fun c3 => ?_)
  · refine hk_iconst (v := 0) dX5_isDigit_16 (by decide) ?_
    exact hk_ireturn dX5_isDigit_17 rfl rfl (by decide) ⟨by first | exact bI_r1 (by grind) | exact bI_r0 (by grind), rfl⟩
  · refine hk_iload_n dX5_isDigit_6 rfl rfl ?_
    refine hk_bipush (v := 57) dX5_isDigit_7 (by decide) ?_
    refine hk_icmp_gt (tgt := 16) dX5_isDigit_9 (by decide) (fun c9 => ?_) (fun c9 => ?_)
    · refine hk_iconst (v := 0) dX5_isDigit_16 (by decide) ?_
      exact hk_ireturn dX5_isDigit_17 rfl rfl (by decide) ⟨by first | exact bI_r1 (by grind) | exact bI_r0 (by grind), rfl⟩
    · refine hk_iconst (v := 1) dX5_isDigit_12 (by decide) ?_
      refine hk_goto (tgt := 17) dX5_isDigit_13 (by decide) ?_
      exact hk_ireturn dX5_isDigit_17 rfl rfl (by decide) ⟨by first | exact bI_r1 (by grind) | exact bI_r0 (by grind), rfl⟩
set_option maxRecDepth 20000 in
set_option maxHeartbeats 2000000 in
theorem ct_put {o : Nat} (ho : m 16 4 = nI o) (ho2 : o < 160) (s x : Int32) : hk_Cd MX5_put 0 0 0 [.ref 16, .int s, .int x] (hk_h L m) (some (.int (nI o))) (hk_h L (hk_w (hk_w m 18 o (s + 256 * x)) 16 4 (nI (o + 1)))) := by
  refine hk_ofWP (by decide) (by simp [Value.category]) (Nat.le_of_ble_eq_true rfl) ?_
  show hk_WP _ _ _ _ _ _ _ [some (.ref 16), some (.int s), some (.int x)] [] _ _
  refine hk_aload_n dX5_put_0 rfl rfl ?_
  refine gfX5_25 rfl dX5_put_1 (hk_lt (by decide)) rfl rfl ?_
  refine hk_aload_n dX5_put_4 rfl rfl ?_
  refine gfX5_15 rfl dX5_put_5 (hk_lt (by decide)) rfl rfl ?_
  refine hk_alen dX5_put_8 (hk_lt (by decide)) rfl rfl ?_
  refine hk_icmp_ge (tgt := 38) dX5_put_9 (by decide) (fun c9 => absurd c9 (by rw [ho]; exact nI_ge ho2 (by decide))) (fun _ => ?_)
  refine hk_aload_n dX5_put_12 rfl rfl ?_
  refine gfX5_15 rfl dX5_put_13 (hk_lt (by decide)) rfl rfl ?_
  refine hk_aload_n dX5_put_16 rfl rfl ?_
  refine gfX5_25 rfl dX5_put_17 (hk_lt (by decide)) rfl rfl ?_
  refine hk_iload_n dX5_put_20 rfl rfl ?_
  refine hk_sipush (v := 256) dX5_put_21 (by decide) ?_
  refine hk_iload_n dX5_put_24 rfl rfl ?_
  refine hk_imul dX5_put_25 ?_
  refine hk_iadd dX5_put_26 ?_
  refine hk_isn dX5_put_27 (by decide) (fun _ => rfl) ho (by omega) (by decide) ?_
  refine hk_aload_n dX5_put_28 rfl rfl ?_
  refine hk_dup dX5_put_29 rfl ?_
  refine gfX5_25 rfl dX5_put_30 (hk_lt (by decide)) rfl rfl ?_
  refine hk_iconst (v := 1) dX5_put_33 (by decide) ?_
  refine hk_iadd dX5_put_34 ?_
  refine pfX5_25 rfl dX5_put_35 (hk_lt (by decide)) rfl (Nat.le_of_ble_eq_true rfl) (hk_st (j := 4) rfl ?_)
  rw [show hk_w m 18 o (s + 256 * x) 16 4 + 1 = nI (o + 1) by rw [hk_w_ne (by decide), ho, nI_1]]
  refine hk_aload_n dX5_put_38 rfl rfl ?_
  refine gfX5_25 rfl dX5_put_39 (hk_lt (by decide)) rfl rfl ?_
  refine hk_iconst (v := 1) dX5_put_42 (by decide) ?_
  refine hk_isub dX5_put_43 ?_
  exact hk_ireturn dX5_put_44 rfl rfl (by decide) ⟨by rw [hk_w_eq]; exact congrArg (fun x => some (Value.int x)) (nI_pred o), rfl⟩
set_option maxRecDepth 20000 in
set_option maxHeartbeats 2000000 in
theorem ct_aimHere {o : Nat} (ho : m 16 4 = nI o) {k : Nat} (hk : k < 160) : hk_Cd MX5_aimHere 0 0 0 [.ref 16, .int (nI k)] (hk_h L m) none (hk_h L (hk_w m 18 k (m 18 k + 256 * nI o))) := by
  refine hk_ofWP (by decide) (by simp [Value.category]) (Nat.le_of_ble_eq_true rfl) ?_
  show hk_WP _ _ _ _ _ _ _ [some (.ref 16), some (.int (nI k))] [] _ _
  refine hk_iload_n dX5_aimHere_0 rfl rfl ?_
  refine hk_if_lt (tgt := 30) dX5_aimHere_1 (by decide) (fun c1 => absurd c1 (nI_pos (by omega))) (fun _ => ?_)
  refine hk_iload_n dX5_aimHere_4 rfl rfl ?_
  refine hk_aload_n dX5_aimHere_5 rfl rfl ?_
  refine gfX5_15 rfl dX5_aimHere_6 (hk_lt (by decide)) rfl rfl ?_
  refine hk_alen dX5_aimHere_9 (hk_lt (by decide)) rfl rfl ?_
  refine hk_icmp_ge (tgt := 30) dX5_aimHere_10 (by decide) (fun c10 => absurd c10 (nI_ge hk (by decide))) (fun _ => ?_)
  refine hk_aload_n dX5_aimHere_13 rfl rfl ?_
  refine gfX5_15 rfl dX5_aimHere_14 (hk_lt (by decide)) rfl rfl ?_
  refine hk_iload_n dX5_aimHere_17 rfl rfl ?_
  refine hk_dup2 dX5_aimHere_18 rfl rfl ?_
  refine hk_ian dX5_aimHere_19 (by decide) (fun _ => rfl) rfl (by omega) (by decide) ?_
  refine hk_sipush (v := 256) dX5_aimHere_20 (by decide) ?_
  refine hk_aload_n dX5_aimHere_23 rfl rfl ?_
  refine gfX5_25 rfl dX5_aimHere_24 (hk_lt (by decide)) rfl rfl ?_
  refine hk_imul dX5_aimHere_27 ?_
  refine hk_iadd dX5_aimHere_28 ?_
  refine hk_isn dX5_aimHere_29 (by decide) (fun _ => rfl) rfl (by omega) (by decide) ?_
  exact hk_return dX5_aimHere_30 rfl (by decide) ⟨rfl, by rw [ho]⟩
theorem rd_sign {n p : Nat} (s : RF m0 m1 n p) (hn2 : n ≤ 160) (hp2 : p ≤ n) : hk_Cd MX5_sign 0 0 0 [.ref 16] (hk_h L m1) (some (.int (cI (p < n) (m0 17 p) (-1)))) (hk_h L m1) := by
  have := ct_sign (L := L) s.2.1 hn2 s.2.2 hp2
  rwa [s.1 17 (by decide) (by decide)] at this
theorem rd_put {o n p e : Nat} {cs : List Int32} (s : RS m0 o cs n p m1) (he : e = o + cs.length) (ho : e < 160) (g : Int32) : hk_Cd MX5_put 0 0 0 [.ref 16, .int g, .int 0] (hk_h L m1) (some (.int (nI e))) (hk_h L (hk_w (hk_w m1 18 e g) 16 4 (nI (e + 1)))) := by
  subst he
  have := ct_put (L := L) s.2.1 ho g 0
  rwa [show g + 256 * 0 = g by simp] at this
theorem rd_aim {o n p e q : Nat} {cs : List Int32} (s : RS m0 o cs n p m1) (hq : q = o + cs.length) (hk : e < 160) : hk_Cd MX5_aimHere 0 0 0 [.ref 16, .int (nI e)] (hk_h L m1) none (hk_h L (hk_w m1 18 e (m1 18 e + 256 * nI q))) := by
  subst hq
  exact ct_aimHere (L := L) s.2.1 hk
set_option maxRecDepth 20000 in
set_option maxHeartbeats 2000000 in
theorem lp_readNumber {n o p0 : Nat} (hn2 : n ≤ 160) (ho2 : o < 160) (i : Nat) (hi : i ≤ 5) : ∀ (m : Nat → Nat → Int32) (p : Nat) (v : Int32), m 16 2 = nI n → m 16 3 = nI p → p ≤ n → m 16 4 = nI o → hk_WP MX5_readNumber 1 0 0 0 0 4 [some (.ref 16), some (.int v), some (.int (nI i))] [] (hk_h L m) (fun r h => ∃ m' : Nat → Nat → Int32, r = some (.int (bI (¬ isDg (m 17) n (pNum (m 17) n (5 - i) p v).1))) ∧ h = hk_h L m' ∧ (∀ a, a ≠ 16 → a ≠ 18 → m' a = m a) ∧ m' 16 2 = m 16 2 ∧ m' 16 3 = nI (pNum (m 17) n (5 - i) p v).1 ∧ m' 16 4 = nI (o + 1) ∧ (∀ j, j ≠ o → m' 18 j = m 18 j) ∧ m' 18 o = 48 + 256 * (pNum (m 17) n (5 - i) p v).2) := by
  intro m p v hn hp hp2 ho
  refine hk_iload_n dX5_readNumber_4 rfl rfl ?_
  refine hk_iconst (v := 5) dX5_readNumber_5 (by decide) ?_
  refine hk_icmp_ge (tgt := 48) dX5_readNumber_6 (by decide) (fun c6 => ?_) (fun c6 => ?_)
  · rw [show (5 : Int32) = nI 5 from rfl, nI_leI (by omega) (by omega)] at c6
    have e2 : pNum (m 17) n (5 - i) p v = (p, v) := by
      by_cases hi5 : i = 5
      · rw [hi5]; rfl
      · rw [show 5 - i = (5 - (i + 1)) + 1 by omega]; show cI _ _ _ = _; rw [cI_f (by first | exact c16 | omega)]
    rw [e2]
    refine hk_aload_n dX5_readNumber_48 rfl rfl ?_
    refine hk_bipush (v := 48) dX5_readNumber_49 (by decide) ?_
    refine hk_iload_n dX5_readNumber_51 rfl rfl ?_
    refine ivX5_41 rfl (ct_put ho ho2 48 v) dX5_readNumber_52 (hk_lt (by decide)) rfl rfl rfl (by decide) ⟨by decide, by decide⟩ (Nat.le_of_ble_eq_true rfl) (hk_kd ?_)
    refine hk_pop dX5_readNumber_55 rfl ?_
    refine hk_aload_n dX5_readNumber_56 rfl rfl ?_
    refine ivX5_37 rfl (ct_sign (n := n) (p := p) (by rw [hk_w_off (by decide), hk_w_ne (by decide)]; exact hn) hn2 (by rw [hk_w_off (by decide), hk_w_ne (by decide)]; exact hp) hp2) dX5_readNumber_57 (hk_lt (by decide)) rfl rfl rfl (by decide) ⟨by decide, by decide⟩ (Nat.le_of_ble_eq_true rfl) (hk_kd ?_)
    refine ivX5_58 rfl (ct_isDigit _) dX5_readNumber_60 rfl rfl (by decide) ⟨by decide, by decide⟩ (Nat.le_of_ble_eq_true rfl) (hk_kd ?_)
    refine hk_if_ne (tgt := 70) dX5_readNumber_63 (by decide) (fun c63 => ?_) (fun c63 => ?_)
    · refine hk_iconst (v := 0) dX5_readNumber_70 (by decide) ?_
      exact hk_ireturn dX5_readNumber_71 rfl rfl (by decide) ⟨_, by first | exact bI_r1 (by rw [bI_0, hk_wo (by decide), hk_wo (by decide), s_dg] at c63; exact c63) | exact bI_r0 (by rw [bI_0, hk_wo (by decide), hk_wo (by decide), s_dg] at c63; exact c63), rfl, fun a h1 h2 => by rw [hk_wo h1, hk_wo h2], by rw [hk_w_off (by decide), hk_w_ne (by decide)], by rw [hk_w_off (by decide), hk_w_ne (by decide)]; exact hp, hk_w_eq, fun j hj => by rw [hk_w_ne (by decide), hk_w_off hj], by rw [hk_w_ne (by decide), hk_w_eq]⟩
    · refine hk_iconst (v := 1) dX5_readNumber_66 (by decide) ?_
      refine hk_goto (tgt := 71) dX5_readNumber_67 (by decide) ?_
      exact hk_ireturn dX5_readNumber_71 rfl rfl (by decide) ⟨_, by first | exact bI_r1 (by rw [bI_0, hk_wo (by decide), hk_wo (by decide), s_dg] at c63; exact c63) | exact bI_r0 (by rw [bI_0, hk_wo (by decide), hk_wo (by decide), s_dg] at c63; exact c63), rfl, fun a h1 h2 => by rw [hk_wo h1, hk_wo h2], by rw [hk_w_off (by decide), hk_w_ne (by decide)], by rw [hk_w_off (by decide), hk_w_ne (by decide)]; exact hp, hk_w_eq, fun j hj => by rw [hk_w_ne (by decide), hk_w_off hj], by rw [hk_w_ne (by decide), hk_w_eq]⟩
  · rw [show (5 : Int32) = nI 5 from rfl, nI_leI (by omega) (by omega)] at c6
    refine hk_aload_n dX5_readNumber_9 rfl rfl ?_
    refine ivX5_37 rfl (ct_sign hn hn2 hp hp2) dX5_readNumber_10 (hk_lt (by decide)) rfl rfl rfl (by decide) ⟨by decide, by decide⟩ (Nat.le_of_ble_eq_true rfl) (hk_kd ?_)
    refine ivX5_58 rfl (ct_isDigit _) dX5_readNumber_13 rfl rfl (by decide) ⟨by decide, by decide⟩ (Nat.le_of_ble_eq_true rfl) (hk_kd ?_)
    refine hk_if_eq (tgt := 48) dX5_readNumber_16 (by decide) (fun c16 => ?_) (fun c16 => ?_)
    · rw [bI_0, s_dg] at c16
      have e2 : pNum (m 17) n (5 - i) p v = (p, v) := by
        by_cases hi5 : i = 5
        · rw [hi5]; rfl
        · rw [show 5 - i = (5 - (i + 1)) + 1 by omega]; show cI _ _ _ = _; rw [cI_f (by first | exact c16 | omega)]
      rw [e2]
      refine hk_aload_n dX5_readNumber_48 rfl rfl ?_
      refine hk_bipush (v := 48) dX5_readNumber_49 (by decide) ?_
      refine hk_iload_n dX5_readNumber_51 rfl rfl ?_
      refine ivX5_41 rfl (ct_put ho ho2 48 v) dX5_readNumber_52 (hk_lt (by decide)) rfl rfl rfl (by decide) ⟨by decide, by decide⟩ (Nat.le_of_ble_eq_true rfl) (hk_kd ?_)
      refine hk_pop dX5_readNumber_55 rfl ?_
      refine hk_aload_n dX5_readNumber_56 rfl rfl ?_
      refine ivX5_37 rfl (ct_sign (n := n) (p := p) (by rw [hk_w_off (by decide), hk_w_ne (by decide)]; exact hn) hn2 (by rw [hk_w_off (by decide), hk_w_ne (by decide)]; exact hp) hp2) dX5_readNumber_57 (hk_lt (by decide)) rfl rfl rfl (by decide) ⟨by decide, by decide⟩ (Nat.le_of_ble_eq_true rfl) (hk_kd ?_)
      refine ivX5_58 rfl (ct_isDigit _) dX5_readNumber_60 rfl rfl (by decide) ⟨by decide, by decide⟩ (Nat.le_of_ble_eq_true rfl) (hk_kd ?_)
      refine hk_if_ne (tgt := 70) dX5_readNumber_63 (by decide) (fun c63 => ?_) (fun c63 => ?_)
      · refine hk_iconst (v := 0) dX5_readNumber_70 (by decide) ?_
        exact hk_ireturn dX5_readNumber_71 rfl rfl (by decide) ⟨_, by first | exact bI_r1 (by rw [bI_0, hk_wo (by decide), hk_wo (by decide), s_dg] at c63; exact c63) | exact bI_r0 (by rw [bI_0, hk_wo (by decide), hk_wo (by decide), s_dg] at c63; exact c63), rfl, fun a h1 h2 => by rw [hk_wo h1, hk_wo h2], by rw [hk_w_off (by decide), hk_w_ne (by decide)], by rw [hk_w_off (by decide), hk_w_ne (by decide)]; exact hp, hk_w_eq, fun j hj => by rw [hk_w_ne (by decide), hk_w_off hj], by rw [hk_w_ne (by decide), hk_w_eq]⟩
      · refine hk_iconst (v := 1) dX5_readNumber_66 (by decide) ?_
        refine hk_goto (tgt := 71) dX5_readNumber_67 (by decide) ?_
        exact hk_ireturn dX5_readNumber_71 rfl rfl (by decide) ⟨_, by first | exact bI_r1 (by rw [bI_0, hk_wo (by decide), hk_wo (by decide), s_dg] at c63; exact c63) | exact bI_r0 (by rw [bI_0, hk_wo (by decide), hk_wo (by decide), s_dg] at c63; exact c63), rfl, fun a h1 h2 => by rw [hk_wo h1, hk_wo h2], by rw [hk_w_off (by decide), hk_w_ne (by decide)], by rw [hk_w_off (by decide), hk_w_ne (by decide)]; exact hp, hk_w_eq, fun j hj => by rw [hk_w_ne (by decide), hk_w_off hj], by rw [hk_w_ne (by decide), hk_w_eq]⟩
    · rw [bI_0, s_dg] at c16
      refine hk_iload_n dX5_readNumber_19 rfl rfl ?_
      refine hk_bipush (v := 10) dX5_readNumber_20 (by decide) ?_
      refine hk_imul dX5_readNumber_22 ?_
      refine hk_aload_n dX5_readNumber_23 rfl rfl ?_
      refine ivX5_37 rfl (ct_sign hn hn2 hp hp2) dX5_readNumber_24 (hk_lt (by decide)) rfl rfl rfl (by decide) ⟨by decide, by decide⟩ (Nat.le_of_ble_eq_true rfl) (hk_kd ?_)
      refine hk_iadd dX5_readNumber_27 ?_
      refine hk_bipush (v := 48) dX5_readNumber_28 (by decide) ?_
      refine hk_isub dX5_readNumber_30 ?_
      refine hk_istore_n dX5_readNumber_31 rfl (by decide) rfl ?_
      refine hk_aload_n dX5_readNumber_32 rfl rfl ?_
      refine hk_dup dX5_readNumber_33 rfl ?_
      refine gfX5_22 rfl dX5_readNumber_34 (hk_lt (by decide)) rfl rfl ?_
      refine hk_iconst (v := 1) dX5_readNumber_37 (by decide) ?_
      refine hk_iadd dX5_readNumber_38 ?_
      refine pfX5_22 rfl dX5_readNumber_39 (hk_lt (by decide)) rfl (Nat.le_of_ble_eq_true rfl) (hk_st (j := 3) rfl ?_)
      refine hk_iinc (v := nI (i + 1)) dX5_readNumber_42 rfl (nI_1 i) (by decide) rfl ?_
      refine hk_goto (tgt := 4) dX5_readNumber_45 (by decide) ?_
      have hd := Classical.not_not.mp c16
      have e : 5 - i = (5 - (i + 1)) + 1 := by omega
      have hs := lp_readNumber (p0 := p0) hn2 ho2 (i + 1) (by omega) (hk_w m 16 3 (nI (p + 1))) (p + 1) (v * 10 + m 17 p - 48) (by rw [hk_w_off (by decide)]; exact hn) hk_w_eq hd.1 (by rw [hk_w_off (by decide)]; exact ho)
      rw [show hk_w m 16 3 (nI (p + 1)) 17 = m 17 from hk_wo (by decide)] at hs
      have e2 : pNum (m 17) n (5 - i) p v = pNum (m 17) n (5 - (i + 1)) (p + 1) (v * 10 + m 17 p - 48) := by rw [e]; show cI _ _ _ = _; rw [cI_t hd]
      rw [e2]
      rw [show m 16 3 + 1 = nI (p + 1) by rw [hp, nI_1], cI_t hd.1]
      refine hk_conseq ?_ hs
      rintro r h ⟨m', q1, q2, q3, q4, q5, q6, q7, q8⟩
      exact ⟨m', q1, q2, fun a h1 h2 => by rw [q3 a h1 h2, hk_wo h1], by rw [q4, hk_w_off (by decide)], q5, q6, fun j hj => by rw [q7 j hj, hk_w_ne (by decide)], q8⟩
termination_by 5 - i
decreasing_by all_goals omega
set_option maxRecDepth 20000 in
set_option maxHeartbeats 2000000 in
theorem ct_readNumber {n p : Nat} (hn : m 16 2 = nI n) (hn2 : n ≤ 160) (hp : m 16 3 = nI p) (hp2 : p ≤ n) {o : Nat} (ho : m 16 4 = nI o) (ho2 : o ≤ p) (hd : isDg (m 17) n p) : hk_Ct MX5_readNumber 1 0 0 [.ref 16] (hk_h L m) (RP L m o n (cI (isDg (m 17) n (pNum (m 17) n 5 p 0).1) (.inl (pNum (m 17) n 5 p 0).1) (.inr ((pNum (m 17) n 5 p 0).1, [48 + 256 * (pNum (m 17) n 5 p 0).2], fun _ => (pNum (m 17) n 5 p 0).2)) : LRes)) := by
  refine hk_ofWP (by decide) (by simp [Value.category]) (Nat.le_of_ble_eq_true rfl) ?_
  show hk_WP _ _ _ _ _ _ _ [some (.ref 16), none, none] [] _ _
  refine hk_iconst (v := 0) dX5_readNumber_0 (by decide) ?_
  refine hk_istore_n dX5_readNumber_1 rfl (by decide) rfl ?_
  refine hk_iconst (v := 0) dX5_readNumber_2 (by decide) ?_
  refine hk_istore_n dX5_readNumber_3 rfl (by decide) rfl ?_
  have hs := lp_readNumber (L := L) (p0 := 0) hn2 (show o < 160 by have := hd.1; omega) 0 (by omega) m p 0 hn hp hp2 ho
  refine hk_conseq ?_ hs
  rintro r h ⟨m', q1, q2, q3, q4, q5, q6, q7, q8⟩
  by_cases hg : isDg (m 17) n (pNum (m 17) n 5 p 0).1
  · rw [cI_t hg]
    exact ⟨m', by rw [q1, bI_f (fun z => z hg)], q2, q3, q4.trans hn, q5⟩
  · rw [cI_f hg]
    refine ⟨m', by rw [q1, bI_t hg], q2, ⟨q3, q4.trans hn, q5⟩, q6, fun j hj => q7 j (by omega), fun j hj => ?_⟩
    have : j = 0 := by simp only [List.length_singleton] at hj; omega
    subst this
    exact q8
/-- what nameOf answers (the String's own methods are walked elsewhere) -/
def NameOf (L : Nat) : Prop := ∀ (m : Nat → Nat → Int32) (s : Int32), hk_Cd MX4_nameOf 6 0 0 [.int s] (hk_h L m) (some (.int (nmo s))) (hk_h L m)
/-- a reading of level k, its depth d -/
def RdX (L : Nat) (M : hk_M) (d k : Nat) (F : (Nat → Int32) → Nat → PF) : Prop := ∀ (m : Nat → Nat → Int32) (n p o : Nat), m 16 2 = nI n → n ≤ 160 → m 16 3 = nI p → p ≤ n → m 16 4 = nI o → o ≤ p → hk_Ct M d 0 0 [.ref 16, .int (nI (12 - k))] (hk_h L m) (RP L m o n (F (m 17) n p o))
set_option maxRecDepth 20000 in
set_option maxHeartbeats 2000000 in
theorem ct_readBraced {k d : Nat} (hE : RdX L MX5_readE d k (fun b n => PE b n k)) {n p : Nat} (hn : m 16 2 = nI n) (hn2 : n ≤ 160) (hp : m 16 3 = nI p) (hp2 : p ≤ n) {o : Nat} (ho : m 16 4 = nI o) (ho2 : o ≤ p) (hpn : p < n) : hk_Ct MX5_readBraced (d + 1) 0 0 [.ref 16, .int (nI (12 - k))] (hk_h L m) (RP L m o n (match PE (m 17) n k (p + 1) o with | .inl f => .inl f | .inr (p1, c, v) => cI (at_ (m 17) n p1 41) (.inr (p1 + 1, c, v)) (.inl p1) : LRes)) := by
  have s0 : RS m o [] n p m := RS.refl hn hp ho
  have s1 := s0.pl (p + 1)
  have e0 : hk_w m 16 3 (nI (p + 1)) 17 = m 17 := hk_wo (by decide)
  have hB := PB_PE (m 17) n k (p + 1) o hpn
  refine hk_ofWP (by decide) (by simp [Value.category]) (Nat.le_of_ble_eq_true rfl) ?_
  show hk_WP _ _ _ _ _ _ _ [some (.ref 16), some (.int (nI (12 - k)))] [] _ _
  refine hk_aload_n dX5_readBraced_0 rfl rfl ?_
  refine hk_dup dX5_readBraced_1 rfl ?_
  refine gfX5_22 rfl dX5_readBraced_2 (hk_lt (by decide)) rfl rfl ?_
  refine hk_iconst (v := 1) dX5_readBraced_5 (by decide) ?_
  refine hk_iadd dX5_readBraced_6 ?_
  refine pfX5_22 rfl dX5_readBraced_7 (hk_lt (by decide)) rfl (Nat.le_of_ble_eq_true rfl) (hk_st (j := 3) rfl ?_)
  rw [show m 16 3 + 1 = nI (p + 1) by rw [hp, nI_1]]
  refine hk_aload_n dX5_readBraced_10 rfl rfl ?_
  refine hk_iload_n dX5_readBraced_11 rfl rfl ?_
  refine ivX5_28 rfl (hE (hk_w m 16 3 (nI (p + 1))) n (p + 1) o s1.1.2.1 hn2 s1.1.2.2 hpn s1.2.1 (by omega)) dX5_readBraced_12 (hk_lt (by decide)) rfl rfl rfl (Nat.le_refl _) ⟨by decide, by decide⟩ (Nat.le_of_ble_eq_true rfl) (fun r h1 hq => ?_)
  rw [e0] at hq
  rcases hr : PE (m 17) n k (p + 1) o with q | ⟨p1, c1, v1⟩
  · obtain ⟨m2, rfl, rfl, s2⟩ := RPi s1 hq hr
    refine hk_if_eq (tgt := 27) dX5_readBraced_15 (by decide) (fun _ => ?_) (fun c15 => absurd (by decide) c15)
    refine hk_iconst (v := 0) dX5_readBraced_27 (by decide) ?_
    exact hk_ireturn dX5_readBraced_28 rfl rfl (by decide) (by first | exact RPf (by simp only [hr]) s2 | exact RPf (by simp only [hr]; exact cI_f c24) s2.1)
  · obtain ⟨m2, rfl, rfl, s2⟩ := RPj s1 rfl hq hr
    rw [hr] at hB
    refine hk_if_eq (tgt := 27) dX5_readBraced_15 (by decide) (fun c15 => absurd c15 (by decide)) (fun _ => ?_)
    refine hk_aload_n dX5_readBraced_18 rfl rfl ?_
    refine ivX5_37 rfl (rd_sign s2.1 hn2 hB.2.1) dX5_readBraced_19 (hk_lt (by decide)) rfl rfl rfl (Nat.succ_le_succ (Nat.zero_le _)) ⟨by decide, by decide⟩ (Nat.le_of_ble_eq_true rfl) (hk_kd ?_)
    refine hk_bipush (v := 41) dX5_readBraced_22 (by decide) ?_
    refine hk_icmp_eq (tgt := 29) dX5_readBraced_24 (by decide) (fun c24 => ?_) (fun c24 => ?_)
    · rw [s_at (by decide)] at c24
      refine hk_aload_n dX5_readBraced_29 rfl rfl ?_
      refine hk_dup dX5_readBraced_30 rfl ?_
      refine gfX5_22 rfl dX5_readBraced_31 (hk_lt (by decide)) rfl rfl ?_
      refine hk_iconst (v := 1) dX5_readBraced_34 (by decide) ?_
      refine hk_iadd dX5_readBraced_35 ?_
      refine pfX5_22 rfl dX5_readBraced_36 (hk_lt (by decide)) rfl (Nat.le_of_ble_eq_true rfl) (hk_st (j := 3) rfl ?_)
      rw [show m2 16 3 + 1 = nI (p1 + 1) by rw [s2.1.2.2, nI_1]]
      refine hk_iconst (v := 1) dX5_readBraced_39 (by decide) ?_
      exact hk_ireturn dX5_readBraced_40 rfl rfl (by decide) (RPc (by simp only [hr]; exact cI_t c24) (s2.pl (p1 + 1)))
    · rw [s_at (by decide)] at c24
      refine hk_iconst (v := 0) dX5_readBraced_27 (by decide) ?_
      exact hk_ireturn dX5_readBraced_28 rfl rfl (by decide) (by first | exact RPf (by simp only [hr]) s2 | exact RPf (by simp only [hr]; exact cI_f c24) s2.1)
set_option maxRecDepth 20000 in
set_option maxHeartbeats 2000000 in
theorem ct_readO  (hN : NameOf L) {n p : Nat} (hn : m 16 2 = nI n) (hn2 : n ≤ 160) (hp : m 16 3 = nI p) (hp2 : p ≤ n) {o : Nat} (ho : m 16 4 = nI o) (ho2 : o ≤ p) : hk_Ct MX5_readO (8) 0 0 [.ref 16, .int (nI (12 - 0))] (hk_h L m) (RP L m o n (pO (m 17) n (EO (m 17) n 0) p o)) := by
  have s0 : RS m o [] n p m := RS.refl hn hp ho
  refine hk_ofWP (by decide) (by simp [Value.category]) (Nat.le_of_ble_eq_true rfl) ?_
  show hk_WP _ _ _ _ _ _ _ [some (.ref 16), some (.int (nI (12 - 0))), none, none] [] _ _
  refine hk_aload_n dX5_readO_0 rfl rfl ?_
  refine ivX5_37 rfl (rd_sign s0.1 hn2 hp2) dX5_readO_1 (hk_lt (by decide)) rfl rfl rfl (by omega) ⟨by decide, by decide⟩ (Nat.le_of_ble_eq_true rfl) (hk_kd ?_)
  refine hk_istore_n dX5_readO_4 rfl (by decide) rfl ?_
  refine hk_iload_n dX5_readO_5 rfl rfl ?_
  refine ivX5_58 rfl (ct_isDigit _) dX5_readO_6 rfl rfl (by omega) ⟨by decide, by decide⟩ (Nat.le_of_ble_eq_true rfl) (hk_kd ?_)
  refine hk_if_eq (tgt := 17) dX5_readO_9 (by decide) (fun c9 => ?_) (fun c9 => ?_)
  · rw [bI_0, s_dg] at c9
    refine hk_iload_n dX5_readO_17 rfl rfl ?_
    refine hk_bipush (v := 40) dX5_readO_18 (by decide) ?_
    refine hk_icmp_ne (tgt := 45) dX5_readO_20 (by decide) (fun c20 => ?_) (fun c20 => ?_)
    · rw [s_at (by decide)] at c20
      refine hk_iload_n dX5_readO_45 rfl rfl ?_
      refine ivX5_68 rfl (hN m _) dX5_readO_46 rfl rfl (by omega) ⟨by decide, by decide⟩ (Nat.le_of_ble_eq_true rfl) (hk_kd ?_)
      refine hk_istore_n dX5_readO_49 rfl (by decide) rfl ?_
      refine hk_iload_n dX5_readO_50 rfl rfl ?_
      refine hk_if_ge (tgt := 56) dX5_readO_51 (by decide) (fun c51 => ?_) (fun c51 => ?_)
      · have hpn : p < n := Classical.byContradiction (fun z => by rw [cI_f z] at c51; revert c51; decide)
        have hnm : ¬ nmo (m 17 p) < 0 := by rw [cI_t hpn] at c51; exact Int32.not_lt.mpr c51
        rw [cI_t hpn]
        refine hk_aload_n dX5_readO_56 rfl rfl ?_
        refine hk_dup dX5_readO_57 rfl ?_
        refine gfX5_22 rfl dX5_readO_58 (hk_lt (by decide)) rfl rfl ?_
        refine hk_iconst (v := 1) dX5_readO_61 (by decide) ?_
        refine hk_iadd dX5_readO_62 ?_
        refine pfX5_22 rfl dX5_readO_63 (hk_lt (by decide)) rfl (Nat.le_of_ble_eq_true rfl) (hk_st (j := 3) rfl ?_)
        rw [show m 16 3 + 1 = nI (p + 1) by rw [hp, nI_1]]
        refine hk_aload_n dX5_readO_66 rfl rfl ?_
        refine hk_bipush (v := 97) dX5_readO_67 (by decide) ?_
        refine hk_iload_n dX5_readO_69 rfl rfl ?_
        refine ivX5_41 rfl (ct_put (L := L) (s0.pl (p + 1)).2.1 (show o + 0 < 160 by omega) 97 (nmo (m 17 p))) dX5_readO_70 (hk_lt (by decide)) rfl rfl rfl (by omega) ⟨by decide, by decide⟩ (Nat.le_of_ble_eq_true rfl) (hk_kd ?_)
        refine hk_pop dX5_readO_73 rfl ?_
        refine hk_iconst (v := 1) dX5_readO_74 (by decide) ?_
        exact hk_ireturn dX5_readO_75 rfl rfl (by decide) (RPc (by unfold pO; rw [cI_f c9, cI_f c20, cI_t ⟨hpn, hnm⟩]; rfl) ((s0.pl (p + 1)).put rfl))
      · refine hk_iconst (v := 0) dX5_readO_54 (by decide) ?_
        exact hk_ireturn dX5_readO_55 rfl rfl (by decide) (RPf (by unfold pO; rw [cI_f c9, cI_f c20, cI_f (fun z => c51 (by rw [cI_t z.1]; exact Int32.not_lt.mp z.2))]) s0.1)
    · rw [s_at (by decide)] at c20
      refine hk_iload_n dX5_readO_23 rfl rfl ?_
      refine hk_bipush (v := 12) dX5_readO_24 (by decide) ?_
      refine hk_icmp_ge (tgt := 43) dX5_readO_26 (by decide) (fun _ => ?_) (fun c26 => absurd (by rw [show (12 : Int32) = nI 12 from rfl, nI_leI (by omega) (by omega)]; omega) c26)
      refine hk_iconst (v := 0) dX5_readO_43 (by decide) ?_
      exact hk_ireturn dX5_readO_44 rfl rfl (by decide) (by first | exact RPf (by unfold pO; rw [cI_f c9, cI_t c20]; first | exact hr | rfl) (by first | exact s1 | exact s0.1) | exact RPc (by unfold pO; rw [cI_f c9, cI_t c20]; exact hr) s1)
  · rw [bI_0, s_dg] at c9
    refine hk_aload_n dX5_readO_12 rfl rfl ?_
    refine ivX5_61 rfl (ct_readNumber hn hn2 hp hp2 ho ho2 (Classical.not_not.mp c9)) dX5_readO_13 (hk_lt (by decide)) rfl rfl rfl (by omega) ⟨by decide, by decide⟩ (Nat.le_of_ble_eq_true rfl) (fun r h1 hq => ?_)
    rcases hr : (cI (isDg (m 17) n (pNum (m 17) n 5 p 0).1) (.inl (pNum (m 17) n 5 p 0).1) (.inr ((pNum (m 17) n 5 p 0).1, [48 + 256 * (pNum (m 17) n 5 p 0).2], fun _ => (pNum (m 17) n 5 p 0).2)) : LRes) with q | ⟨p1, c1, v1⟩
    · obtain ⟨m1, rfl, rfl, s1⟩ := RPi s0 hq hr
      exact hk_ireturn dX5_readO_16 rfl rfl (by decide) (by first | exact RPf (by unfold pO; rw [cI_t (Classical.not_not.mp c9)]; exact hr) s1 | exact RPc (by unfold pO; rw [cI_t (Classical.not_not.mp c9)]; exact hr) s1)
    · obtain ⟨m1, rfl, rfl, s1⟩ := RPj s0 rfl hq hr
      exact hk_ireturn dX5_readO_16 rfl rfl (by decide) (by first | exact RPf (by unfold pO; rw [cI_t (Classical.not_not.mp c9)]; exact hr) s1 | exact RPc (by unfold pO; rw [cI_t (Classical.not_not.mp c9)]; exact hr) s1)
set_option maxRecDepth 20000 in
set_option maxHeartbeats 2000000 in
theorem ct_readOS {k d : Nat} (hk : k < 12) (hE : RdX L MX5_readE d k (fun b n => PE b n k)) (hd : 7 ≤ d) (hN : NameOf L) {n p : Nat} (hn : m 16 2 = nI n) (hn2 : n ≤ 160) (hp : m 16 3 = nI p) (hp2 : p ≤ n) {o : Nat} (ho : m 16 4 = nI o) (ho2 : o ≤ p) : hk_Ct MX5_readO (d + 2) 0 0 [.ref 16, .int (nI (12 - (k + 1)))] (hk_h L m) (RP L m o n (pO (m 17) n (EO (m 17) n (k + 1)) p o)) := by
  have s0 : RS m o [] n p m := RS.refl hn hp ho
  refine hk_ofWP (by decide) (by simp [Value.category]) (Nat.le_of_ble_eq_true rfl) ?_
  show hk_WP _ _ _ _ _ _ _ [some (.ref 16), some (.int (nI (12 - (k + 1)))), none, none] [] _ _
  refine hk_aload_n dX5_readO_0 rfl rfl ?_
  refine ivX5_37 rfl (rd_sign s0.1 hn2 hp2) dX5_readO_1 (hk_lt (by decide)) rfl rfl rfl (by omega) ⟨by decide, by decide⟩ (Nat.le_of_ble_eq_true rfl) (hk_kd ?_)
  refine hk_istore_n dX5_readO_4 rfl (by decide) rfl ?_
  refine hk_iload_n dX5_readO_5 rfl rfl ?_
  refine ivX5_58 rfl (ct_isDigit _) dX5_readO_6 rfl rfl (by omega) ⟨by decide, by decide⟩ (Nat.le_of_ble_eq_true rfl) (hk_kd ?_)
  refine hk_if_eq (tgt := 17) dX5_readO_9 (by decide) (fun c9 => ?_) (fun c9 => ?_)
  · rw [bI_0, s_dg] at c9
    refine hk_iload_n dX5_readO_17 rfl rfl ?_
    refine hk_bipush (v := 40) dX5_readO_18 (by decide) ?_
    refine hk_icmp_ne (tgt := 45) dX5_readO_20 (by decide) (fun c20 => ?_) (fun c20 => ?_)
    · rw [s_at (by decide)] at c20
      refine hk_iload_n dX5_readO_45 rfl rfl ?_
      refine ivX5_68 rfl (hN m _) dX5_readO_46 rfl rfl (by omega) ⟨by decide, by decide⟩ (Nat.le_of_ble_eq_true rfl) (hk_kd ?_)
      refine hk_istore_n dX5_readO_49 rfl (by decide) rfl ?_
      refine hk_iload_n dX5_readO_50 rfl rfl ?_
      refine hk_if_ge (tgt := 56) dX5_readO_51 (by decide) (fun c51 => ?_) (fun c51 => ?_)
      · have hpn : p < n := Classical.byContradiction (fun z => by rw [cI_f z] at c51; revert c51; decide)
        have hnm : ¬ nmo (m 17 p) < 0 := by rw [cI_t hpn] at c51; exact Int32.not_lt.mpr c51
        rw [cI_t hpn]
        refine hk_aload_n dX5_readO_56 rfl rfl ?_
        refine hk_dup dX5_readO_57 rfl ?_
        refine gfX5_22 rfl dX5_readO_58 (hk_lt (by decide)) rfl rfl ?_
        refine hk_iconst (v := 1) dX5_readO_61 (by decide) ?_
        refine hk_iadd dX5_readO_62 ?_
        refine pfX5_22 rfl dX5_readO_63 (hk_lt (by decide)) rfl (Nat.le_of_ble_eq_true rfl) (hk_st (j := 3) rfl ?_)
        rw [show m 16 3 + 1 = nI (p + 1) by rw [hp, nI_1]]
        refine hk_aload_n dX5_readO_66 rfl rfl ?_
        refine hk_bipush (v := 97) dX5_readO_67 (by decide) ?_
        refine hk_iload_n dX5_readO_69 rfl rfl ?_
        refine ivX5_41 rfl (ct_put (L := L) (s0.pl (p + 1)).2.1 (show o + 0 < 160 by omega) 97 (nmo (m 17 p))) dX5_readO_70 (hk_lt (by decide)) rfl rfl rfl (by omega) ⟨by decide, by decide⟩ (Nat.le_of_ble_eq_true rfl) (hk_kd ?_)
        refine hk_pop dX5_readO_73 rfl ?_
        refine hk_iconst (v := 1) dX5_readO_74 (by decide) ?_
        exact hk_ireturn dX5_readO_75 rfl rfl (by decide) (RPc (by unfold pO; rw [cI_f c9, cI_f c20, cI_t ⟨hpn, hnm⟩]; rfl) ((s0.pl (p + 1)).put rfl))
      · refine hk_iconst (v := 0) dX5_readO_54 (by decide) ?_
        exact hk_ireturn dX5_readO_55 rfl rfl (by decide) (RPf (by unfold pO; rw [cI_f c9, cI_f c20, cI_f (fun z => c51 (by rw [cI_t z.1]; exact Int32.not_lt.mp z.2))]) s0.1)
    · rw [s_at (by decide)] at c20
      refine hk_iload_n dX5_readO_23 rfl rfl ?_
      refine hk_bipush (v := 12) dX5_readO_24 (by decide) ?_
      refine hk_icmp_ge (tgt := 43) dX5_readO_26 (by decide) (fun c26 => absurd c26 (by rw [show (12 : Int32) = nI 12 from rfl, nI_leI (by omega) (by omega)]; omega)) (fun _ => ?_)
      refine hk_aload_n dX5_readO_29 rfl rfl ?_
      refine hk_iload_n dX5_readO_30 rfl rfl ?_
      refine hk_iconst (v := 1) dX5_readO_31 (by decide) ?_
      refine hk_iadd dX5_readO_32 ?_
      rw [show nI (12 - (k + 1)) + 1 = nI (12 - k) by rw [nI_1]; congr 1; omega]
      refine ivX5_65 rfl (ct_readBraced hE hn hn2 hp hp2 ho ho2 c20.1) dX5_readO_33 (hk_lt (by decide)) rfl rfl rfl (by omega) ⟨by decide, by decide⟩ (Nat.le_of_ble_eq_true rfl) (fun r h1 hq => ?_)
      rcases hr : (match PE (m 17) n k (p + 1) o with | .inl f => .inl f | .inr (p1, c, v) => cI (at_ (m 17) n p1 41) (.inr (p1 + 1, c, v)) (.inl p1) : LRes) with q | ⟨p1, c1, v1⟩
      · obtain ⟨m1, rfl, rfl, s1⟩ := RPi s0 hq hr
        refine hk_if_eq (tgt := 43) dX5_readO_36 (by decide) (fun _ => ?_) (fun c36 => absurd (by decide) c36)
        refine hk_iconst (v := 0) dX5_readO_43 (by decide) ?_
        exact hk_ireturn dX5_readO_44 rfl rfl (by decide) (by first | exact RPf (by unfold pO; rw [cI_f c9, cI_t c20]; first | exact hr | rfl) (by first | exact s1 | exact s0.1) | exact RPc (by unfold pO; rw [cI_f c9, cI_t c20]; exact hr) s1)
      · obtain ⟨m1, rfl, rfl, s1⟩ := RPj s0 rfl hq hr
        refine hk_if_eq (tgt := 43) dX5_readO_36 (by decide) (fun c36 => absurd c36 (by decide)) (fun _ => ?_)
        refine hk_iconst (v := 1) dX5_readO_39 (by decide) ?_
        refine hk_goto (tgt := 44) dX5_readO_40 (by decide) ?_
        exact hk_ireturn dX5_readO_44 rfl rfl (by decide) (by first | exact RPf (by unfold pO; rw [cI_f c9, cI_t c20]; first | exact hr | rfl) (by first | exact s1 | exact s0.1) | exact RPc (by unfold pO; rw [cI_f c9, cI_t c20]; exact hr) s1)
  · rw [bI_0, s_dg] at c9
    refine hk_aload_n dX5_readO_12 rfl rfl ?_
    refine ivX5_61 rfl (ct_readNumber hn hn2 hp hp2 ho ho2 (Classical.not_not.mp c9)) dX5_readO_13 (hk_lt (by decide)) rfl rfl rfl (by omega) ⟨by decide, by decide⟩ (Nat.le_of_ble_eq_true rfl) (fun r h1 hq => ?_)
    rcases hr : (cI (isDg (m 17) n (pNum (m 17) n 5 p 0).1) (.inl (pNum (m 17) n 5 p 0).1) (.inr ((pNum (m 17) n 5 p 0).1, [48 + 256 * (pNum (m 17) n 5 p 0).2], fun _ => (pNum (m 17) n 5 p 0).2)) : LRes) with q | ⟨p1, c1, v1⟩
    · obtain ⟨m1, rfl, rfl, s1⟩ := RPi s0 hq hr
      exact hk_ireturn dX5_readO_16 rfl rfl (by decide) (by first | exact RPf (by unfold pO; rw [cI_t (Classical.not_not.mp c9)]; exact hr) s1 | exact RPc (by unfold pO; rw [cI_t (Classical.not_not.mp c9)]; exact hr) s1)
    · obtain ⟨m1, rfl, rfl, s1⟩ := RPj s0 rfl hq hr
      exact hk_ireturn dX5_readO_16 rfl rfl (by decide) (by first | exact RPf (by unfold pO; rw [cI_t (Classical.not_not.mp c9)]; exact hr) s1 | exact RPc (by unfold pO; rw [cI_t (Classical.not_not.mp c9)]; exact hr) s1)
set_option maxRecDepth 20000 in
set_option maxHeartbeats 2000000 in
theorem lq_readP {k d : Nat} (hd : 7 ≤ d) (hF : RdX L MX5_readO d k (fun b n => pO b n (EO b n k))) {n o : Nat} (hn2 : n ≤ 160) {f p : Nat} {cs : List Int32} {v : (Nat → Int32) → Int32} (ih : ∀ (m1 : Nat → Nat → Int32) (p : Nat) (cs : List Int32) (v : (Nat → Int32) → Int32), RS m o cs n p m1 → p ≤ n → n + 1 - p ≤ f → o + cs.length ≤ p → hk_WP MX5_readP (d + 1) 0 0 0 0 15 [some (.ref 16), some (.int (nI (12 - k))), some (.int (cI (p < n) (m 17 p) (-1)))] [] (hk_h L m1) (RP L m o n (pL (m 17) n isMul (pO (m 17) n (EO (m 17) n k)) o f p cs v))) (s1 : RS m o cs n p m1) (hpn : p < n) (hf : n - p ≤ f) (ho2 : o + cs.length ≤ p) (hm : isMul (m 17 p)) (hPB : PB n (pO (m 17) n (EO (m 17) n k))) : hk_WP MX5_readP (d + 1) 0 0 0 0 44 [some (.ref 16), some (.int (nI (12 - k))), some (.int (m 17 p))] [] (hk_h L m1) (RP L m o n (pL (m 17) n isMul (pO (m 17) n (EO (m 17) n k)) o (f + 1) p cs v)) := by
  have s2 := s1.pl (p + 1)
  have e0 : hk_w m1 16 3 (nI (p + 1)) 17 = m 17 := s2.1.1 17 (by decide) (by decide)
  refine hk_aload_n dX5_readP_44 rfl rfl ?_
  refine hk_dup dX5_readP_45 rfl ?_
  refine gfX5_22 rfl dX5_readP_46 (hk_lt (by decide)) rfl rfl ?_
  refine hk_iconst (v := 1) dX5_readP_49 (by decide) ?_
  refine hk_iadd dX5_readP_50 ?_
  refine pfX5_22 rfl dX5_readP_51 (hk_lt (by decide)) rfl (Nat.le_of_ble_eq_true rfl) (hk_st (j := 3) rfl ?_)
  rw [show m1 16 3 + 1 = nI (p + 1) by rw [s1.1.2.2, nI_1]]
  refine hk_aload_n dX5_readP_54 rfl rfl ?_
  refine hk_iload_n dX5_readP_55 rfl rfl ?_
  refine ivX5_55 rfl (hF _ n (p + 1) (o + cs.length) s2.1.2.1 hn2 s2.1.2.2 hpn s2.2.1 (by omega)) dX5_readP_56 (hk_lt (by decide)) rfl rfl rfl (Nat.le_refl _) ⟨by decide, by decide⟩ (Nat.le_of_ble_eq_true rfl) (fun r h1 hq => ?_)
  rw [e0] at hq
  rcases hr : (pO (m 17) n (EO (m 17) n k) (p + 1) (o + cs.length)) with q | ⟨p1, c1, v1⟩
  · obtain ⟨m2, rfl, rfl, s3⟩ := RPi s2 hq hr
    refine hk_if_ne (tgt := 64) dX5_readP_59 (by decide) (fun c59 => absurd (by decide) c59) (fun _ => ?_)
    refine hk_iconst (v := 0) dX5_readP_62 (by decide) ?_
    exact hk_ireturn dX5_readP_63 rfl rfl (by decide) (RPf (by show cI _ _ _ = _; rw [cI_t ⟨hpn, hm⟩, hr]) s3)
  · obtain ⟨m2, rfl, rfl, s3⟩ := RPj s2 rfl hq hr
    have hB := hPB (p + 1) (o + cs.length) hpn
    rw [hr] at hB
    refine hk_if_ne (tgt := 64) dX5_readP_59 (by decide) (fun _ => ?_) (fun c59 => absurd c59 (by decide))
    refine hk_aload_n dX5_readP_64 rfl rfl ?_
    refine hk_iload_n dX5_readP_65 rfl rfl ?_
    refine hk_iconst (v := 0) dX5_readP_66 (by decide) ?_
    refine ivX5_41 rfl (rd_put s3 rfl (by simp only [List.length_append]; omega) (m 17 p)) dX5_readP_67 (hk_lt (by decide)) rfl rfl rfl (by omega) ⟨by decide, by decide⟩ (Nat.le_of_ble_eq_true rfl) (hk_kd ?_)
    refine hk_pop dX5_readP_70 rfl ?_
    refine hk_aload_n dX5_readP_71 rfl rfl ?_
    refine ivX5_37 rfl (rd_sign (RS.put s3 rfl).1 hn2 hB.2.1) dX5_readP_72 (hk_lt (by decide)) rfl rfl rfl (by omega) ⟨by decide, by decide⟩ (Nat.le_of_ble_eq_true rfl) (hk_kd ?_)
    refine hk_istore_n dX5_readP_75 rfl (by decide) rfl ?_
    refine hk_goto (tgt := 15) dX5_readP_76 (by decide) ?_
    rw [show pL (m 17) n isMul (pO (m 17) n (EO (m 17) n k)) o (f + 1) p cs v = pL (m 17) n isMul (pO (m 17) n (EO (m 17) n k)) o f p1 (cs ++ c1 ++ [m 17 p]) (fun nm => opv (m 17 p) (v nm) (v1 nm)) from by show cI _ _ _ = _; rw [cI_t ⟨hpn, hm⟩, hr]]
    exact ih _ p1 _ _ (RS.put s3 rfl) hB.2.1 (by omega) (by simp only [List.length_append, List.length_singleton]; omega)
set_option maxRecDepth 20000 in
set_option maxHeartbeats 2000000 in
theorem lp_readP {k d : Nat} (hd : 7 ≤ d) (hF : RdX L MX5_readO d k (fun b n => pO b n (EO b n k))) {n o : Nat} (hn2 : n ≤ 160) (hPB : PB n (pO (m 17) n (EO (m 17) n k))) (f : Nat) (m1 : Nat → Nat → Int32) (p : Nat) (cs : List Int32) (v : (Nat → Int32) → Int32) (s1 : RS m o cs n p m1) (hp2 : p ≤ n) (hf : n + 1 - p ≤ f) (ho2 : o + cs.length ≤ p) : hk_WP MX5_readP (d + 1) 0 0 0 0 15 [some (.ref 16), some (.int (nI (12 - k))), some (.int (cI (p < n) (m 17 p) (-1)))] [] (hk_h L m1) (RP L m o n (pL (m 17) n isMul (pO (m 17) n (EO (m 17) n k)) o f p cs v)) := by
  obtain ⟨g, rfl⟩ : ∃ g, f = g + 1 := ⟨f - 1, by omega⟩
  refine hk_aload_n dX5_readP_15 rfl rfl ?_
  refine gfX5_22 rfl dX5_readP_16 (hk_lt (by decide)) rfl rfl ?_
  refine hk_aload_n dX5_readP_19 rfl rfl ?_
  refine gfX5_18 rfl dX5_readP_20 (hk_lt (by decide)) rfl rfl ?_
  refine hk_icmp_ge (tgt := 79) dX5_readP_23 (by decide) (fun c23 => ?_) (fun c23 => ?_)
  · rw [s1.1.2.1, s1.1.2.2, nI_leI (by omega) (by omega)] at c23
    refine hk_iconst (v := 1) dX5_readP_79 (by decide) ?_
    exact hk_ireturn dX5_readP_80 rfl rfl (by decide) (RPc (by show cI _ _ _ = _; exact cI_f (fun z => by first | omega | (have z2 := z.2; unfold isMul at z2; grind))) s1)
  · rw [s1.1.2.1, s1.1.2.2, nI_leI (by omega) (by omega)] at c23
    have hpn : p < n := by omega
    rw [cI_t hpn]
    refine hk_iload_n dX5_readP_26 rfl rfl ?_
    refine hk_bipush (v := 42) dX5_readP_27 (by decide) ?_
    refine hk_icmp_eq (tgt := 44) dX5_readP_29 (by decide) (fun c29 => ?_) (fun c29 => ?_)
    · exact lq_readP hd hF hn2 (fun m1 p cs v s h1 h2 h3 => lp_readP hd hF hn2 hPB g m1 p cs v s h1 h2 h3) s1 hpn (by omega) ho2 (by unfold isMul; grind) hPB
    · refine hk_iload_n dX5_readP_32 rfl rfl ?_
      refine hk_bipush (v := 47) dX5_readP_33 (by decide) ?_
      refine hk_icmp_eq (tgt := 44) dX5_readP_35 (by decide) (fun c35 => ?_) (fun c35 => ?_)
      · exact lq_readP hd hF hn2 (fun m1 p cs v s h1 h2 h3 => lp_readP hd hF hn2 hPB g m1 p cs v s h1 h2 h3) s1 hpn (by omega) ho2 (by unfold isMul; grind) hPB
      · refine hk_iload_n dX5_readP_38 rfl rfl ?_
        refine hk_bipush (v := 37) dX5_readP_39 (by decide) ?_
        refine hk_icmp_ne (tgt := 79) dX5_readP_41 (by decide) (fun c41 => ?_) (fun c41 => ?_)
        · refine hk_iconst (v := 1) dX5_readP_79 (by decide) ?_
          exact hk_ireturn dX5_readP_80 rfl rfl (by decide) (RPc (by show cI _ _ _ = _; exact cI_f (fun z => by first | omega | (have z2 := z.2; unfold isMul at z2; grind))) s1)
        · exact lq_readP hd hF hn2 (fun m1 p cs v s h1 h2 h3 => lp_readP hd hF hn2 hPB g m1 p cs v s h1 h2 h3) s1 hpn (by omega) ho2 (by unfold isMul; grind) hPB
termination_by f
decreasing_by all_goals omega
set_option maxRecDepth 20000 in
set_option maxHeartbeats 2000000 in
theorem ct_readP {k d : Nat} (hd : 7 ≤ d) (hF : RdX L MX5_readO d k (fun b n => pO b n (EO b n k))) (hPB : ∀ b n, PB n (pO b n (EO b n k))) : RdX L MX5_readP (d + 1) k (fun b n => pP b n (EO b n k)) := by
  intro m n p o hn hn2 hp hp2 ho ho2
  have s0 : RS m o [] n p m := RS.refl hn hp ho
  replace hPB := hPB (m 17) n
  refine hk_ofWP (by decide) (by simp [Value.category]) (Nat.le_of_ble_eq_true rfl) ?_
  show hk_WP _ _ _ _ _ _ _ [some (.ref 16), some (.int (nI (12 - k))), none] [] _ _
  refine hk_aload_n dX5_readP_0 rfl rfl ?_
  refine hk_iload_n dX5_readP_1 rfl rfl ?_
  refine ivX5_55 rfl (hF m n p o hn hn2 hp hp2 ho ho2) dX5_readP_2 (hk_lt (by decide)) rfl rfl rfl (Nat.le_refl _) ⟨by decide, by decide⟩ (Nat.le_of_ble_eq_true rfl) (fun r h1 hq => ?_)
  rcases hr : pO (m 17) n (EO (m 17) n k) p o with q | ⟨p1, c1, v1⟩
  · obtain ⟨m1, rfl, rfl, s1⟩ := RPi s0 hq hr
    refine hk_if_ne (tgt := 10) dX5_readP_5 (by decide) (fun c5 => absurd (by decide) c5) (fun _ => ?_)
    refine hk_iconst (v := 0) dX5_readP_8 (by decide) ?_
    exact hk_ireturn dX5_readP_9 rfl rfl (by decide) (RPf (by show pLoop _ _ _ _ _ _ = _; unfold pLoop; rw [hr]) s1)
  · obtain ⟨m1, rfl, rfl, s1⟩ := RPj s0 rfl hq hr
    have hB := hPB p o hp2
    rw [hr] at hB
    refine hk_if_ne (tgt := 10) dX5_readP_5 (by decide) (fun _ => ?_) (fun c5 => absurd c5 (by decide))
    refine hk_aload_n dX5_readP_10 rfl rfl ?_
    refine ivX5_37 rfl (rd_sign s1.1 hn2 hB.2.1) dX5_readP_11 (hk_lt (by decide)) rfl rfl rfl (by omega) ⟨by decide, by decide⟩ (Nat.le_of_ble_eq_true rfl) (hk_kd ?_)
    refine hk_istore_n dX5_readP_14 rfl (by decide) rfl ?_
    show hk_WP _ _ _ _ _ _ _ _ _ _ (RP L m o n (pLoop (m 17) n isMul (pO (m 17) n (EO (m 17) n k)) p o))
    rw [show pLoop (m 17) n isMul (pO (m 17) n (EO (m 17) n k)) p o = pL (m 17) n isMul (pO (m 17) n (EO (m 17) n k)) o (n + 1 - p1) p1 c1 v1 from by unfold pLoop; rw [hr]]
    exact lp_readP hd hF hn2 hPB _ m1 p1 c1 v1 s1 hB.2.1 (Nat.le_refl _) (by omega)
set_option maxRecDepth 20000 in
set_option maxHeartbeats 2000000 in
theorem lq_readS {k d : Nat} (hd : 7 ≤ d) (hF : RdX L MX5_readP d k (fun b n => pP b n (EO b n k))) {n o : Nat} (hn2 : n ≤ 160) {f p : Nat} {cs : List Int32} {v : (Nat → Int32) → Int32} (ih : ∀ (m1 : Nat → Nat → Int32) (p : Nat) (cs : List Int32) (v : (Nat → Int32) → Int32), RS m o cs n p m1 → p ≤ n → n + 1 - p ≤ f → o + cs.length ≤ p → hk_WP MX5_readS (d + 1) 0 0 0 0 15 [some (.ref 16), some (.int (nI (12 - k))), some (.int (cI (p < n) (m 17 p) (-1)))] [] (hk_h L m1) (RP L m o n (pL (m 17) n isAdd (pP (m 17) n (EO (m 17) n k)) o f p cs v))) (s1 : RS m o cs n p m1) (hpn : p < n) (hf : n - p ≤ f) (ho2 : o + cs.length ≤ p) (hm : isAdd (m 17 p)) (hPB : PB n (pP (m 17) n (EO (m 17) n k))) : hk_WP MX5_readS (d + 1) 0 0 0 0 38 [some (.ref 16), some (.int (nI (12 - k))), some (.int (m 17 p))] [] (hk_h L m1) (RP L m o n (pL (m 17) n isAdd (pP (m 17) n (EO (m 17) n k)) o (f + 1) p cs v)) := by
  have s2 := s1.pl (p + 1)
  have e0 : hk_w m1 16 3 (nI (p + 1)) 17 = m 17 := s2.1.1 17 (by decide) (by decide)
  refine hk_aload_n dX5_readS_38 rfl rfl ?_
  refine hk_dup dX5_readS_39 rfl ?_
  refine gfX5_22 rfl dX5_readS_40 (hk_lt (by decide)) rfl rfl ?_
  refine hk_iconst (v := 1) dX5_readS_43 (by decide) ?_
  refine hk_iadd dX5_readS_44 ?_
  refine pfX5_22 rfl dX5_readS_45 (hk_lt (by decide)) rfl (Nat.le_of_ble_eq_true rfl) (hk_st (j := 3) rfl ?_)
  rw [show m1 16 3 + 1 = nI (p + 1) by rw [s1.1.2.2, nI_1]]
  refine hk_aload_n dX5_readS_48 rfl rfl ?_
  refine hk_iload_n dX5_readS_49 rfl rfl ?_
  refine ivX5_52 rfl (hF _ n (p + 1) (o + cs.length) s2.1.2.1 hn2 s2.1.2.2 hpn s2.2.1 (by omega)) dX5_readS_50 (hk_lt (by decide)) rfl rfl rfl (Nat.le_refl _) ⟨by decide, by decide⟩ (Nat.le_of_ble_eq_true rfl) (fun r h1 hq => ?_)
  rw [e0] at hq
  rcases hr : (pP (m 17) n (EO (m 17) n k) (p + 1) (o + cs.length)) with q | ⟨p1, c1, v1⟩
  · obtain ⟨m2, rfl, rfl, s3⟩ := RPi s2 hq hr
    refine hk_if_ne (tgt := 58) dX5_readS_53 (by decide) (fun c53 => absurd (by decide) c53) (fun _ => ?_)
    refine hk_iconst (v := 0) dX5_readS_56 (by decide) ?_
    exact hk_ireturn dX5_readS_57 rfl rfl (by decide) (RPf (by show cI _ _ _ = _; rw [cI_t ⟨hpn, hm⟩, hr]) s3)
  · obtain ⟨m2, rfl, rfl, s3⟩ := RPj s2 rfl hq hr
    have hB := hPB (p + 1) (o + cs.length) hpn
    rw [hr] at hB
    refine hk_if_ne (tgt := 58) dX5_readS_53 (by decide) (fun _ => ?_) (fun c53 => absurd c53 (by decide))
    refine hk_aload_n dX5_readS_58 rfl rfl ?_
    refine hk_iload_n dX5_readS_59 rfl rfl ?_
    refine hk_iconst (v := 0) dX5_readS_60 (by decide) ?_
    refine ivX5_41 rfl (rd_put s3 rfl (by simp only [List.length_append]; omega) (m 17 p)) dX5_readS_61 (hk_lt (by decide)) rfl rfl rfl (by omega) ⟨by decide, by decide⟩ (Nat.le_of_ble_eq_true rfl) (hk_kd ?_)
    refine hk_pop dX5_readS_64 rfl ?_
    refine hk_aload_n dX5_readS_65 rfl rfl ?_
    refine ivX5_37 rfl (rd_sign (RS.put s3 rfl).1 hn2 hB.2.1) dX5_readS_66 (hk_lt (by decide)) rfl rfl rfl (by omega) ⟨by decide, by decide⟩ (Nat.le_of_ble_eq_true rfl) (hk_kd ?_)
    refine hk_istore_n dX5_readS_69 rfl (by decide) rfl ?_
    refine hk_goto (tgt := 15) dX5_readS_70 (by decide) ?_
    rw [show pL (m 17) n isAdd (pP (m 17) n (EO (m 17) n k)) o (f + 1) p cs v = pL (m 17) n isAdd (pP (m 17) n (EO (m 17) n k)) o f p1 (cs ++ c1 ++ [m 17 p]) (fun nm => opv (m 17 p) (v nm) (v1 nm)) from by show cI _ _ _ = _; rw [cI_t ⟨hpn, hm⟩, hr]]
    exact ih _ p1 _ _ (RS.put s3 rfl) hB.2.1 (by omega) (by simp only [List.length_append, List.length_singleton]; omega)
set_option maxRecDepth 20000 in
set_option maxHeartbeats 2000000 in
theorem lp_readS {k d : Nat} (hd : 7 ≤ d) (hF : RdX L MX5_readP d k (fun b n => pP b n (EO b n k))) {n o : Nat} (hn2 : n ≤ 160) (hPB : PB n (pP (m 17) n (EO (m 17) n k))) (f : Nat) (m1 : Nat → Nat → Int32) (p : Nat) (cs : List Int32) (v : (Nat → Int32) → Int32) (s1 : RS m o cs n p m1) (hp2 : p ≤ n) (hf : n + 1 - p ≤ f) (ho2 : o + cs.length ≤ p) : hk_WP MX5_readS (d + 1) 0 0 0 0 15 [some (.ref 16), some (.int (nI (12 - k))), some (.int (cI (p < n) (m 17 p) (-1)))] [] (hk_h L m1) (RP L m o n (pL (m 17) n isAdd (pP (m 17) n (EO (m 17) n k)) o f p cs v)) := by
  obtain ⟨g, rfl⟩ : ∃ g, f = g + 1 := ⟨f - 1, by omega⟩
  refine hk_aload_n dX5_readS_15 rfl rfl ?_
  refine gfX5_22 rfl dX5_readS_16 (hk_lt (by decide)) rfl rfl ?_
  refine hk_aload_n dX5_readS_19 rfl rfl ?_
  refine gfX5_18 rfl dX5_readS_20 (hk_lt (by decide)) rfl rfl ?_
  refine hk_icmp_ge (tgt := 73) dX5_readS_23 (by decide) (fun c23 => ?_) (fun c23 => ?_)
  · rw [s1.1.2.1, s1.1.2.2, nI_leI (by omega) (by omega)] at c23
    refine hk_iconst (v := 1) dX5_readS_73 (by decide) ?_
    exact hk_ireturn dX5_readS_74 rfl rfl (by decide) (RPc (by show cI _ _ _ = _; exact cI_f (fun z => by first | omega | (have z2 := z.2; unfold isAdd at z2; grind))) s1)
  · rw [s1.1.2.1, s1.1.2.2, nI_leI (by omega) (by omega)] at c23
    have hpn : p < n := by omega
    rw [cI_t hpn]
    refine hk_iload_n dX5_readS_26 rfl rfl ?_
    refine hk_bipush (v := 43) dX5_readS_27 (by decide) ?_
    refine hk_icmp_eq (tgt := 38) dX5_readS_29 (by decide) (fun c29 => ?_) (fun c29 => ?_)
    · exact lq_readS hd hF hn2 (fun m1 p cs v s h1 h2 h3 => lp_readS hd hF hn2 hPB g m1 p cs v s h1 h2 h3) s1 hpn (by omega) ho2 (by unfold isAdd; grind) hPB
    · refine hk_iload_n dX5_readS_32 rfl rfl ?_
      refine hk_bipush (v := 45) dX5_readS_33 (by decide) ?_
      refine hk_icmp_ne (tgt := 73) dX5_readS_35 (by decide) (fun c35 => ?_) (fun c35 => ?_)
      · refine hk_iconst (v := 1) dX5_readS_73 (by decide) ?_
        exact hk_ireturn dX5_readS_74 rfl rfl (by decide) (RPc (by show cI _ _ _ = _; exact cI_f (fun z => by first | omega | (have z2 := z.2; unfold isAdd at z2; grind))) s1)
      · exact lq_readS hd hF hn2 (fun m1 p cs v s h1 h2 h3 => lp_readS hd hF hn2 hPB g m1 p cs v s h1 h2 h3) s1 hpn (by omega) ho2 (by unfold isAdd; grind) hPB
termination_by f
decreasing_by all_goals omega
set_option maxRecDepth 20000 in
set_option maxHeartbeats 2000000 in
theorem ct_readS {k d : Nat} (hd : 7 ≤ d) (hF : RdX L MX5_readP d k (fun b n => pP b n (EO b n k))) (hPB : ∀ b n, PB n (pP b n (EO b n k))) : RdX L MX5_readS (d + 1) k (fun b n => pS b n (EO b n k)) := by
  intro m n p o hn hn2 hp hp2 ho ho2
  have s0 : RS m o [] n p m := RS.refl hn hp ho
  replace hPB := hPB (m 17) n
  refine hk_ofWP (by decide) (by simp [Value.category]) (Nat.le_of_ble_eq_true rfl) ?_
  show hk_WP _ _ _ _ _ _ _ [some (.ref 16), some (.int (nI (12 - k))), none] [] _ _
  refine hk_aload_n dX5_readS_0 rfl rfl ?_
  refine hk_iload_n dX5_readS_1 rfl rfl ?_
  refine ivX5_52 rfl (hF m n p o hn hn2 hp hp2 ho ho2) dX5_readS_2 (hk_lt (by decide)) rfl rfl rfl (Nat.le_refl _) ⟨by decide, by decide⟩ (Nat.le_of_ble_eq_true rfl) (fun r h1 hq => ?_)
  rcases hr : pP (m 17) n (EO (m 17) n k) p o with q | ⟨p1, c1, v1⟩
  · obtain ⟨m1, rfl, rfl, s1⟩ := RPi s0 hq hr
    refine hk_if_ne (tgt := 10) dX5_readS_5 (by decide) (fun c5 => absurd (by decide) c5) (fun _ => ?_)
    refine hk_iconst (v := 0) dX5_readS_8 (by decide) ?_
    exact hk_ireturn dX5_readS_9 rfl rfl (by decide) (RPf (by show pLoop _ _ _ _ _ _ = _; unfold pLoop; rw [hr]) s1)
  · obtain ⟨m1, rfl, rfl, s1⟩ := RPj s0 rfl hq hr
    have hB := hPB p o hp2
    rw [hr] at hB
    refine hk_if_ne (tgt := 10) dX5_readS_5 (by decide) (fun _ => ?_) (fun c5 => absurd c5 (by decide))
    refine hk_aload_n dX5_readS_10 rfl rfl ?_
    refine ivX5_37 rfl (rd_sign s1.1 hn2 hB.2.1) dX5_readS_11 (hk_lt (by decide)) rfl rfl rfl (by omega) ⟨by decide, by decide⟩ (Nat.le_of_ble_eq_true rfl) (hk_kd ?_)
    refine hk_istore_n dX5_readS_14 rfl (by decide) rfl ?_
    show hk_WP _ _ _ _ _ _ _ _ _ _ (RP L m o n (pLoop (m 17) n isAdd (pP (m 17) n (EO (m 17) n k)) p o))
    rw [show pLoop (m 17) n isAdd (pP (m 17) n (EO (m 17) n k)) p o = pL (m 17) n isAdd (pP (m 17) n (EO (m 17) n k)) o (n + 1 - p1) p1 c1 v1 from by unfold pLoop; rw [hr]]
    exact lp_readS hd hF hn2 hPB _ m1 p1 c1 v1 s1 hB.2.1 (Nat.le_refl _) (by omega)
end RDx
