section RN
variable {M : hk_M} {d mc ms k n pc L : Nat} {ls : List (Option Value)} {st : List Value} {m : Nat → Nat → Int32} {Q : Option Value → hk_H → Prop}
theorem hk_ian {a N j : Nat} {i : Int32} (hd : decode M.2.1 pc = .ok (.iaload, 1)) (ha : a < hk_C0) (he : ∀ f, hk_ent L a f = .inl (0, N, .inl f)) (hi : i = nI j) (hj : j < N) (hN : N < 2 ^ 31) (kk : hk_WP M d mc ms k n (pc + 1) ls (.int (m a j) :: st) (hk_h L m) Q) : hk_WP M d mc ms k n pc ls (.int i :: .ref a :: st) (hk_h L m) Q := by
  subst hi
  refine hk_ia hd ha he (vp_in_nI hj hN) ?_
  rw [nI_clamp (by omega)]; exact kk
theorem hk_zan {a N j : Nat} {i : Int32} (hd : decode M.2.1 pc = .ok (.baload, 1)) (ha : a < hk_C0) (he : ∀ f, hk_ent L a f = .inl (1, N, .inl f)) (hi : i = nI j) (hj : j < N) (hN : N < 2 ^ 31) (kk : hk_WP M d mc ms k n (pc + 1) ls (.int (m a j) :: st) (hk_h L m) Q) : hk_WP M d mc ms k n pc ls (.int i :: .ref a :: st) (hk_h L m) Q := by
  subst hi
  refine hk_za hd ha he (vp_in_nI hj hN) ?_
  rw [nI_clamp (by omega)]; exact kk
theorem hk_isn {a N j : Nat} {i x : Int32} (hd : decode M.2.1 pc = .ok (.iastore, 1)) (ha : a < hk_C0) (he : ∀ f, hk_ent L a f = .inl (0, N, .inl f)) (hi : i = nI j) (hj : j < N) (hN : N < 2 ^ 31) (kk : hk_WP M d mc ms k n (pc + 1) ls st (hk_h L (hk_w m a j x)) Q) : hk_WP M d mc ms k n pc ls (.int x :: .int i :: .ref a :: st) (hk_h L m) Q := by
  subst hi
  refine hk_is hd ha he (vp_in_nI hj hN) ?_
  rw [nI_clamp (by omega)]; exact kk
theorem hk_zsn {a N j : Nat} {i x : Int32} (hx : narrow .boolean (.int x) = .int x) (hd : decode M.2.1 pc = .ok (.bastore, 1)) (ha : a < hk_C0) (he : ∀ f, hk_ent L a f = .inl (1, N, .inl f)) (hi : i = nI j) (hj : j < N) (hN : N < 2 ^ 31) (kk : hk_WP M d mc ms k n (pc + 1) ls st (hk_h L (hk_w m a j x)) Q) : hk_WP M d mc ms k n pc ls (.int x :: .int i :: .ref a :: st) (hk_h L m) Q := by
  subst hi
  refine hk_zs hx hd ha he (vp_in_nI hj hN) ?_
  rw [nI_clamp (by omega)]; exact kk
end RN
section O3
variable {L : Nat} {m : Nat → Nat → Int32} {z : Nat → Nat}
set_option maxRecDepth 20000 in
set_option maxHeartbeats 2000000 in
theorem ct_addStreet {nS : Nat} (hS : m 2 3 = nI nS) (hS2 : nS < 60) (a b y w : Int32) : hk_Cd MX0_addStreet 2 0 0 [.ref 1, .int a, .int b, .int y, .int w] (hk_h L m) (some (.int (nI nS))) (hk_h L (hk_w (hk_w (hk_w (hk_w m 2 3 (nI (nS + 1))) 3 (nS * 13 + 0) a) 3 (nS * 13 + 1) b) 3 (nS * 13 + 2) (y * 100 + w))) := by
  refine hk_ofWP (by decide) (by simp [Value.category]) (Nat.le_of_ble_eq_true rfl) ?_
  show hk_WP _ _ _ _ _ _ _ [some (.ref 1), some (.int a), some (.int b), some (.int y), some (.int w), none] [] _ _
  refine hk_aload_n dX0_addStreet_0 rfl rfl ?_
  refine gfX0_16 rfl dX0_addStreet_1 (hk_lt (by decide)) rfl rfl ?_
  refine ivX0_41 rfl (ct_add tb2 (by omega) hS hS2) dX0_addStreet_4 (hk_lt (by decide)) rfl rfl rfl (by decide) ⟨by decide, by decide⟩ (Nat.le_of_ble_eq_true rfl) (hk_kd ?_)
  refine hk_istore dX0_addStreet_7 (by decide) rfl ?_
  refine hk_aload_n dX0_addStreet_9 rfl rfl ?_
  refine gfX0_16 rfl dX0_addStreet_10 (hk_lt (by decide)) rfl rfl ?_
  refine hk_iload dX0_addStreet_13 rfl ?_
  refine hk_iconst (v := 0) dX0_addStreet_15 (by decide) ?_
  refine hk_iload_n dX0_addStreet_16 rfl rfl ?_
  refine ivX0_45 rfl (ct_seti tb2 (by omega : nS + 1 ≤ 60) (by simp [hk_w, upd]) rfl (Nat.lt_succ_self nS) (by decide) _) dX0_addStreet_17 (hk_lt (by decide)) rfl rfl rfl (by decide) ⟨by decide, by decide⟩ (Nat.le_of_ble_eq_true rfl) (hk_kv ?_)
  refine hk_aload_n dX0_addStreet_20 rfl rfl ?_
  refine gfX0_16 rfl dX0_addStreet_21 (hk_lt (by decide)) rfl rfl ?_
  refine hk_iload dX0_addStreet_24 rfl ?_
  refine hk_iconst (v := 1) dX0_addStreet_26 (by decide) ?_
  refine hk_iload_n dX0_addStreet_27 rfl rfl ?_
  refine ivX0_45 rfl (ct_seti tb2 (by omega : nS + 1 ≤ 60) (by simp [hk_w, upd]) rfl (Nat.lt_succ_self nS) (by decide) _) dX0_addStreet_28 (hk_lt (by decide)) rfl rfl rfl (by decide) ⟨by decide, by decide⟩ (Nat.le_of_ble_eq_true rfl) (hk_kv ?_)
  refine hk_aload_n dX0_addStreet_31 rfl rfl ?_
  refine gfX0_16 rfl dX0_addStreet_32 (hk_lt (by decide)) rfl rfl ?_
  refine hk_iload dX0_addStreet_35 rfl ?_
  refine hk_iconst (v := 2) dX0_addStreet_37 (by decide) ?_
  refine hk_iload_n dX0_addStreet_38 rfl rfl ?_
  refine hk_bipush (v := 100) dX0_addStreet_39 (by decide) ?_
  refine hk_imul dX0_addStreet_41 ?_
  refine hk_iload dX0_addStreet_42 rfl ?_
  refine hk_iadd dX0_addStreet_44 ?_
  refine ivX0_45 rfl (ct_seti tb2 (by omega : nS + 1 ≤ 60) (by simp [hk_w, upd]) rfl (Nat.lt_succ_self nS) (by decide) _) dX0_addStreet_45 (hk_lt (by decide)) rfl rfl rfl (by decide) ⟨by decide, by decide⟩ (Nat.le_of_ble_eq_true rfl) (hk_kv ?_)
  refine hk_iload dX0_addStreet_48 rfl ?_
  exact hk_ireturn dX0_addStreet_50 rfl rfl (by decide) ⟨rfl, rfl⟩
set_option maxRecDepth 20000 in
set_option maxHeartbeats 2000000 in
theorem ct_addStreet_full (hS : m 2 3 = nI 60) (a b y w : Int32) : hk_Cd MX0_addStreet 2 0 0 [.ref 1, .int a, .int b, .int y, .int w] (hk_h L m) (some (.int (-2))) (hk_h L m) := by
  refine hk_ofWP (by decide) (by simp [Value.category]) (Nat.le_of_ble_eq_true rfl) ?_
  show hk_WP _ _ _ _ _ _ _ [some (.ref 1), some (.int a), some (.int b), some (.int y), some (.int w), none] [] _ _
  refine hk_aload_n dX0_addStreet_0 rfl rfl ?_
  refine gfX0_16 rfl dX0_addStreet_1 (hk_lt (by decide)) rfl rfl ?_
  refine ivX0_41 rfl (ct_add_full tb2 (Nat.le_refl 60) hS rfl) dX0_addStreet_4 (hk_lt (by decide)) rfl rfl rfl (by decide) ⟨by decide, by decide⟩ (Nat.le_of_ble_eq_true rfl) (hk_kd ?_)
  refine hk_istore dX0_addStreet_7 (by decide) rfl ?_
  refine hk_aload_n dX0_addStreet_9 rfl rfl ?_
  refine gfX0_16 rfl dX0_addStreet_10 (hk_lt (by decide)) rfl rfl ?_
  refine hk_iload dX0_addStreet_13 rfl ?_
  refine hk_iconst (v := 0) dX0_addStreet_15 (by decide) ?_
  refine hk_iload_n dX0_addStreet_16 rfl rfl ?_
  refine ivX0_45 rfl (ct_set_out tb2 (Nat.le_refl 60) hS (by decide) _ _) dX0_addStreet_17 (hk_lt (by decide)) rfl rfl rfl (by decide) ⟨by decide, by decide⟩ (Nat.le_of_ble_eq_true rfl) (hk_kv ?_)
  refine hk_aload_n dX0_addStreet_20 rfl rfl ?_
  refine gfX0_16 rfl dX0_addStreet_21 (hk_lt (by decide)) rfl rfl ?_
  refine hk_iload dX0_addStreet_24 rfl ?_
  refine hk_iconst (v := 1) dX0_addStreet_26 (by decide) ?_
  refine hk_iload_n dX0_addStreet_27 rfl rfl ?_
  refine ivX0_45 rfl (ct_set_out tb2 (Nat.le_refl 60) hS (by decide) _ _) dX0_addStreet_28 (hk_lt (by decide)) rfl rfl rfl (by decide) ⟨by decide, by decide⟩ (Nat.le_of_ble_eq_true rfl) (hk_kv ?_)
  refine hk_aload_n dX0_addStreet_31 rfl rfl ?_
  refine gfX0_16 rfl dX0_addStreet_32 (hk_lt (by decide)) rfl rfl ?_
  refine hk_iload dX0_addStreet_35 rfl ?_
  refine hk_iconst (v := 2) dX0_addStreet_37 (by decide) ?_
  refine hk_iload_n dX0_addStreet_38 rfl rfl ?_
  refine hk_bipush (v := 100) dX0_addStreet_39 (by decide) ?_
  refine hk_imul dX0_addStreet_41 ?_
  refine hk_iload dX0_addStreet_42 rfl ?_
  refine hk_iadd dX0_addStreet_44 ?_
  refine ivX0_45 rfl (ct_set_out tb2 (Nat.le_refl 60) hS (by decide) _ _) dX0_addStreet_45 (hk_lt (by decide)) rfl rfl rfl (by decide) ⟨by decide, by decide⟩ (Nat.le_of_ble_eq_true rfl) (hk_kv ?_)
  refine hk_iload dX0_addStreet_48 rfl ?_
  exact hk_ireturn dX0_addStreet_50 rfl rfl (by decide) ⟨rfl, rfl⟩
set_option maxRecDepth 20000 in
set_option maxHeartbeats 2000000 in
theorem ct_street_no {nC : Nat} (hC : m 1 0 = nI nC) (e y w : Int32) (h : ¬ (inR (e / 100) nC ∧ inR (rm e 100) nC ∧ e / 100 ≠ rm e 100 ∧ ¬ y < 1 ∧ ¬ 2000 < y ∧ ¬ w < 0 ∧ ¬ 1 < w)) : hk_Cd MX9_street 3 0 0 [.ref 0, .int e, .int y, .int w] (hk_h L m) (some (.int (-1))) (hk_h L m) := by
  refine hk_ofWP (by decide) (by simp [Value.category]) (Nat.le_of_ble_eq_true rfl) ?_
  show hk_WP _ _ _ _ _ _ _ [some (.ref 0), some (.int e), some (.int y), some (.int w), none, none] [] _ _
  refine hk_iload_n dX9_street_0 rfl rfl ?_
  refine hk_bipush (v := 100) dX9_street_1 (by decide) ?_
  refine hk_idiv dX9_street_3 (by decide) ?_
  refine hk_istore dX9_street_4 (by decide) rfl ?_
  refine hk_iload_n dX9_street_6 rfl rfl ?_
  refine hk_bipush (v := 100) dX9_street_7 (by decide) ?_
  refine hk_irem dX9_street_9 (by decide) ?_
  refine hk_istore dX9_street_10 (by decide) rfl ?_
  refine hk_aload_n dX9_street_12 rfl rfl ?_
  refine gfX9_16 rfl dX9_street_13 (hk_lt (by decide)) rfl rfl ?_
  refine hk_iload dX9_street_16 rfl ?_
  refine ivX9_59 rfl (ct_isCorner hC _) dX9_street_18 (hk_lt (by decide)) rfl rfl rfl (by decide) ⟨by decide, by decide⟩ (Nat.le_of_ble_eq_true rfl) (hk_kd ?_)
  refine hk_if_eq (tgt := 43) dX9_street_21 (by decide) (fun c21 => ?_) (fun c21 => ?_)
  · rw [bI_0] at c21
    refine hk_iconst (v := (-1)) dX9_street_43 (by decide) ?_
    exact hk_ireturn dX9_street_44 rfl rfl (by decide) ⟨rfl, rfl⟩
  · rw [bI_0] at c21
    refine hk_aload_n dX9_street_24 rfl rfl ?_
    refine gfX9_16 rfl dX9_street_25 (hk_lt (by decide)) rfl rfl ?_
    refine hk_iload dX9_street_28 rfl ?_
    refine ivX9_59 rfl (ct_isCorner hC _) dX9_street_30 (hk_lt (by decide)) rfl rfl rfl (by decide) ⟨by decide, by decide⟩ (Nat.le_of_ble_eq_true rfl) (hk_kd ?_)
    refine hk_if_eq (tgt := 43) dX9_street_33 (by decide) (fun c33 => ?_) (fun c33 => ?_)
    · rw [bI_0] at c33
      refine hk_iconst (v := (-1)) dX9_street_43 (by decide) ?_
      exact hk_ireturn dX9_street_44 rfl rfl (by decide) ⟨rfl, rfl⟩
    · rw [bI_0] at c33
      refine hk_iload dX9_street_36 rfl ?_
      refine hk_iload dX9_street_38 rfl ?_
      refine hk_icmp_ne (tgt := 45) dX9_street_40 (by decide) (fun c40 => ?_) (fun c40 => ?_)
      · refine hk_iload_n dX9_street_45 rfl rfl ?_
        refine hk_iconst (v := 1) dX9_street_46 (by decide) ?_
        refine hk_icmp_lt (tgt := 66) dX9_street_47 (by decide) (fun c47 => ?_) (fun c47 => ?_)
        · refine hk_iconst (v := (-1)) dX9_street_66 (by decide) ?_
          exact hk_ireturn dX9_street_67 rfl rfl (by decide) ⟨rfl, rfl⟩
        · refine hk_iload_n dX9_street_50 rfl rfl ?_
          refine hk_sipush (v := 2000) dX9_street_51 (by decide) ?_
          refine hk_icmp_gt (tgt := 66) dX9_street_54 (by decide) (fun c54 => ?_) (fun c54 => ?_)
          · refine hk_iconst (v := (-1)) dX9_street_66 (by decide) ?_
            exact hk_ireturn dX9_street_67 rfl rfl (by decide) ⟨rfl, rfl⟩
          · refine hk_iload_n dX9_street_57 rfl rfl ?_
            refine hk_if_lt (tgt := 66) dX9_street_58 (by decide) (fun c58 => ?_) (fun c58 => ?_)
            · refine hk_iconst (v := (-1)) dX9_street_66 (by decide) ?_
              exact hk_ireturn dX9_street_67 rfl rfl (by decide) ⟨rfl, rfl⟩
            · refine hk_iload_n dX9_street_61 rfl rfl ?_
              refine hk_iconst (v := 1) dX9_street_62 (by decide) ?_
              refine hk_icmp_le (tgt := 68) dX9_street_63 (by decide) (fun c63 => ?_) (fun c63 => ?_)
              · exact absurd (by grind) h
              · refine hk_iconst (v := (-1)) dX9_street_66 (by decide) ?_
                exact hk_ireturn dX9_street_67 rfl rfl (by decide) ⟨rfl, rfl⟩
      · refine hk_iconst (v := (-1)) dX9_street_43 (by decide) ?_
        exact hk_ireturn dX9_street_44 rfl rfl (by decide) ⟨rfl, rfl⟩
set_option maxRecDepth 20000 in
set_option maxHeartbeats 2000000 in
theorem ct_street {nC : Nat} (hC : m 1 0 = nI nC) {nS : Nat} (hS : m 2 3 = nI nS) (hS2 : nS < 60) (e y w : Int32) (h : inR (e / 100) nC ∧ inR (rm e 100) nC ∧ e / 100 ≠ rm e 100 ∧ ¬ y < 1 ∧ ¬ 2000 < y ∧ ¬ w < 0 ∧ ¬ 1 < w) : hk_Cd MX9_street 3 0 0 [.ref 0, .int e, .int y, .int w] (hk_h L m) (some (.int (nI nS))) (hk_h L (hk_w (hk_w (hk_w (hk_w m 2 3 (nI (nS + 1))) 3 (nS * 13 + 0) (e / 100)) 3 (nS * 13 + 1) (rm e 100)) 3 (nS * 13 + 2) (y * 100 + w))) := by
  refine hk_ofWP (by decide) (by simp [Value.category]) (Nat.le_of_ble_eq_true rfl) ?_
  show hk_WP _ _ _ _ _ _ _ [some (.ref 0), some (.int e), some (.int y), some (.int w), none, none] [] _ _
  refine hk_iload_n dX9_street_0 rfl rfl ?_
  refine hk_bipush (v := 100) dX9_street_1 (by decide) ?_
  refine hk_idiv dX9_street_3 (by decide) ?_
  refine hk_istore dX9_street_4 (by decide) rfl ?_
  refine hk_iload_n dX9_street_6 rfl rfl ?_
  refine hk_bipush (v := 100) dX9_street_7 (by decide) ?_
  refine hk_irem dX9_street_9 (by decide) ?_
  refine hk_istore dX9_street_10 (by decide) rfl ?_
  refine hk_aload_n dX9_street_12 rfl rfl ?_
  refine gfX9_16 rfl dX9_street_13 (hk_lt (by decide)) rfl rfl ?_
  refine hk_iload dX9_street_16 rfl ?_
  refine ivX9_59 rfl (ct_isCorner hC _) dX9_street_18 (hk_lt (by decide)) rfl rfl rfl (by decide) ⟨by decide, by decide⟩ (Nat.le_of_ble_eq_true rfl) (hk_kd ?_)
  refine hk_if_eq (tgt := 43) dX9_street_21 (by decide) (fun c21 => ?_) (fun c21 => ?_)
  · rw [bI_0] at c21
    exfalso; grind
  · rw [bI_0] at c21
    refine hk_aload_n dX9_street_24 rfl rfl ?_
    refine gfX9_16 rfl dX9_street_25 (hk_lt (by decide)) rfl rfl ?_
    refine hk_iload dX9_street_28 rfl ?_
    refine ivX9_59 rfl (ct_isCorner hC _) dX9_street_30 (hk_lt (by decide)) rfl rfl rfl (by decide) ⟨by decide, by decide⟩ (Nat.le_of_ble_eq_true rfl) (hk_kd ?_)
    refine hk_if_eq (tgt := 43) dX9_street_33 (by decide) (fun c33 => ?_) (fun c33 => ?_)
    · rw [bI_0] at c33
      exfalso; grind
    · rw [bI_0] at c33
      refine hk_iload dX9_street_36 rfl ?_
      refine hk_iload dX9_street_38 rfl ?_
      refine hk_icmp_ne (tgt := 45) dX9_street_40 (by decide) (fun c40 => ?_) (fun c40 => ?_)
      · refine hk_iload_n dX9_street_45 rfl rfl ?_
        refine hk_iconst (v := 1) dX9_street_46 (by decide) ?_
        refine hk_icmp_lt (tgt := 66) dX9_street_47 (by decide) (fun c47 => ?_) (fun c47 => ?_)
        · exfalso; grind
        · refine hk_iload_n dX9_street_50 rfl rfl ?_
          refine hk_sipush (v := 2000) dX9_street_51 (by decide) ?_
          refine hk_icmp_gt (tgt := 66) dX9_street_54 (by decide) (fun c54 => ?_) (fun c54 => ?_)
          · exfalso; grind
          · refine hk_iload_n dX9_street_57 rfl rfl ?_
            refine hk_if_lt (tgt := 66) dX9_street_58 (by decide) (fun c58 => ?_) (fun c58 => ?_)
            · exfalso; grind
            · refine hk_iload_n dX9_street_61 rfl rfl ?_
              refine hk_iconst (v := 1) dX9_street_62 (by decide) ?_
              refine hk_icmp_le (tgt := 68) dX9_street_63 (by decide) (fun c63 => ?_) (fun c63 => ?_)
              · refine hk_aload_n dX9_street_68 rfl rfl ?_
                refine gfX9_16 rfl dX9_street_69 (hk_lt (by decide)) rfl rfl ?_
                refine hk_iload dX9_street_72 rfl ?_
                refine hk_iload dX9_street_74 rfl ?_
                refine hk_iload_n dX9_street_76 rfl rfl ?_
                refine hk_iload_n dX9_street_77 rfl rfl ?_
                refine ivX9_63 rfl (ct_addStreet hS hS2 _ _ _ _) dX9_street_78 (hk_lt (by decide)) rfl rfl rfl (by decide) ⟨by decide, by decide⟩ (Nat.le_of_ble_eq_true rfl) (hk_kd ?_)
                exact hk_ireturn dX9_street_81 rfl rfl (by decide) ⟨rfl, rfl⟩
              · exfalso; grind
      · exfalso; grind
set_option maxRecDepth 20000 in
set_option maxHeartbeats 2000000 in
theorem ct_street_full {nC : Nat} (hC : m 1 0 = nI nC) (hS : m 2 3 = nI 60) (e y w : Int32) (h : inR (e / 100) nC ∧ inR (rm e 100) nC ∧ e / 100 ≠ rm e 100 ∧ ¬ y < 1 ∧ ¬ 2000 < y ∧ ¬ w < 0 ∧ ¬ 1 < w) : hk_Cd MX9_street 3 0 0 [.ref 0, .int e, .int y, .int w] (hk_h L m) (some (.int (-2))) (hk_h L m) := by
  refine hk_ofWP (by decide) (by simp [Value.category]) (Nat.le_of_ble_eq_true rfl) ?_
  show hk_WP _ _ _ _ _ _ _ [some (.ref 0), some (.int e), some (.int y), some (.int w), none, none] [] _ _
  refine hk_iload_n dX9_street_0 rfl rfl ?_
  refine hk_bipush (v := 100) dX9_street_1 (by decide) ?_
  refine hk_idiv dX9_street_3 (by decide) ?_
  refine hk_istore dX9_street_4 (by decide) rfl ?_
  refine hk_iload_n dX9_street_6 rfl rfl ?_
  refine hk_bipush (v := 100) dX9_street_7 (by decide) ?_
  refine hk_irem dX9_street_9 (by decide) ?_
  refine hk_istore dX9_street_10 (by decide) rfl ?_
  refine hk_aload_n dX9_street_12 rfl rfl ?_
  refine gfX9_16 rfl dX9_street_13 (hk_lt (by decide)) rfl rfl ?_
  refine hk_iload dX9_street_16 rfl ?_
  refine ivX9_59 rfl (ct_isCorner hC _) dX9_street_18 (hk_lt (by decide)) rfl rfl rfl (by decide) ⟨by decide, by decide⟩ (Nat.le_of_ble_eq_true rfl) (hk_kd ?_)
  refine hk_if_eq (tgt := 43) dX9_street_21 (by decide) (fun c21 => ?_) (fun c21 => ?_)
  · rw [bI_0] at c21
    exfalso; grind
  · rw [bI_0] at c21
    refine hk_aload_n dX9_street_24 rfl rfl ?_
    refine gfX9_16 rfl dX9_street_25 (hk_lt (by decide)) rfl rfl ?_
    refine hk_iload dX9_street_28 rfl ?_
    refine ivX9_59 rfl (ct_isCorner hC _) dX9_street_30 (hk_lt (by decide)) rfl rfl rfl (by decide) ⟨by decide, by decide⟩ (Nat.le_of_ble_eq_true rfl) (hk_kd ?_)
    refine hk_if_eq (tgt := 43) dX9_street_33 (by decide) (fun c33 => ?_) (fun c33 => ?_)
    · rw [bI_0] at c33
      exfalso; grind
    · rw [bI_0] at c33
      refine hk_iload dX9_street_36 rfl ?_
      refine hk_iload dX9_street_38 rfl ?_
      refine hk_icmp_ne (tgt := 45) dX9_street_40 (by decide) (fun c40 => ?_) (fun c40 => ?_)
      · refine hk_iload_n dX9_street_45 rfl rfl ?_
        refine hk_iconst (v := 1) dX9_street_46 (by decide) ?_
        refine hk_icmp_lt (tgt := 66) dX9_street_47 (by decide) (fun c47 => ?_) (fun c47 => ?_)
        · exfalso; grind
        · refine hk_iload_n dX9_street_50 rfl rfl ?_
          refine hk_sipush (v := 2000) dX9_street_51 (by decide) ?_
          refine hk_icmp_gt (tgt := 66) dX9_street_54 (by decide) (fun c54 => ?_) (fun c54 => ?_)
          · exfalso; grind
          · refine hk_iload_n dX9_street_57 rfl rfl ?_
            refine hk_if_lt (tgt := 66) dX9_street_58 (by decide) (fun c58 => ?_) (fun c58 => ?_)
            · exfalso; grind
            · refine hk_iload_n dX9_street_61 rfl rfl ?_
              refine hk_iconst (v := 1) dX9_street_62 (by decide) ?_
              refine hk_icmp_le (tgt := 68) dX9_street_63 (by decide) (fun c63 => ?_) (fun c63 => ?_)
              · refine hk_aload_n dX9_street_68 rfl rfl ?_
                refine gfX9_16 rfl dX9_street_69 (hk_lt (by decide)) rfl rfl ?_
                refine hk_iload dX9_street_72 rfl ?_
                refine hk_iload dX9_street_74 rfl ?_
                refine hk_iload_n dX9_street_76 rfl rfl ?_
                refine hk_iload_n dX9_street_77 rfl rfl ?_
                refine ivX9_63 rfl (ct_addStreet_full hS _ _ _ _) dX9_street_78 (hk_lt (by decide)) rfl rfl rfl (by decide) ⟨by decide, by decide⟩ (Nat.le_of_ble_eq_true rfl) (hk_kd ?_)
                exact hk_ireturn dX9_street_81 rfl rfl (by decide) ⟨rfl, rfl⟩
              · exfalso; grind
      · exfalso; grind
set_option maxRecDepth 20000 in
set_option maxHeartbeats 2000000 in
theorem md_street_no {nC : Nat} (hC : m 37 3 = nI nC) (e y w : Int32) (h : ¬ (¬ e < 0 ∧ inR (e / 100) nC ∧ inR (rm e 100) nC ∧ e / 100 ≠ rm e 100 ∧ ¬ y < 1 ∧ ¬ 2000 < y ∧ ¬ w < 0 ∧ ¬ 1 < w)) : hk_Cd MX10_street 1 0 0 [.ref 37, .int e, .int y, .int w] (hk_h L m) (some (.int (-1))) (hk_h L m) := by
  refine hk_ofWP (by decide) (by simp [Value.category]) (Nat.le_of_ble_eq_true rfl) ?_
  show hk_WP _ _ _ _ _ _ _ [some (.ref 37), some (.int e), some (.int y), some (.int w)] [] _ _
  refine hk_iload_n dX10_street_0 rfl rfl ?_
  refine hk_if_lt (tgt := 57) dX10_street_1 (by decide) (fun c1 => ?_) (fun c1 => ?_)
  · refine hk_iconst (v := (-1)) dX10_street_57 (by decide) ?_
    exact hk_ireturn dX10_street_58 rfl rfl (by decide) ⟨rfl, rfl⟩
  · refine hk_aload_n dX10_street_4 rfl rfl ?_
    refine hk_iload_n dX10_street_5 rfl rfl ?_
    refine hk_bipush (v := 100) dX10_street_6 (by decide) ?_
    refine hk_idiv dX10_street_8 (by decide) ?_
    refine ivX10_212 rfl (md_isCorner hC _) dX10_street_9 (hk_lt (by decide)) rfl rfl rfl (by decide) ⟨by decide, by decide⟩ (Nat.le_of_ble_eq_true rfl) (hk_kd ?_)
    refine hk_if_eq (tgt := 57) dX10_street_12 (by decide) (fun c12 => ?_) (fun c12 => ?_)
    · rw [bI_0] at c12
      refine hk_iconst (v := (-1)) dX10_street_57 (by decide) ?_
      exact hk_ireturn dX10_street_58 rfl rfl (by decide) ⟨rfl, rfl⟩
    · rw [bI_0] at c12
      refine hk_aload_n dX10_street_15 rfl rfl ?_
      refine hk_iload_n dX10_street_16 rfl rfl ?_
      refine hk_bipush (v := 100) dX10_street_17 (by decide) ?_
      refine hk_irem dX10_street_19 (by decide) ?_
      refine ivX10_212 rfl (md_isCorner hC _) dX10_street_20 (hk_lt (by decide)) rfl rfl rfl (by decide) ⟨by decide, by decide⟩ (Nat.le_of_ble_eq_true rfl) (hk_kd ?_)
      refine hk_if_eq (tgt := 57) dX10_street_23 (by decide) (fun c23 => ?_) (fun c23 => ?_)
      · rw [bI_0] at c23
        refine hk_iconst (v := (-1)) dX10_street_57 (by decide) ?_
        exact hk_ireturn dX10_street_58 rfl rfl (by decide) ⟨rfl, rfl⟩
      · rw [bI_0] at c23
        refine hk_iload_n dX10_street_26 rfl rfl ?_
        refine hk_bipush (v := 100) dX10_street_27 (by decide) ?_
        refine hk_idiv dX10_street_29 (by decide) ?_
        refine hk_iload_n dX10_street_30 rfl rfl ?_
        refine hk_bipush (v := 100) dX10_street_31 (by decide) ?_
        refine hk_irem dX10_street_33 (by decide) ?_
        refine hk_icmp_eq (tgt := 57) dX10_street_34 (by decide) (fun c34 => ?_) (fun c34 => ?_)
        · refine hk_iconst (v := (-1)) dX10_street_57 (by decide) ?_
          exact hk_ireturn dX10_street_58 rfl rfl (by decide) ⟨rfl, rfl⟩
        · refine hk_iload_n dX10_street_37 rfl rfl ?_
          refine hk_iconst (v := 1) dX10_street_38 (by decide) ?_
          refine hk_sipush (v := 2000) dX10_street_39 (by decide) ?_
          refine ivX10_208 rfl (ct_within y 1 2000) dX10_street_42 rfl rfl (by decide) ⟨by decide, by decide⟩ (Nat.le_of_ble_eq_true rfl) (hk_kd ?_)
          refine hk_if_eq (tgt := 57) dX10_street_45 (by decide) (fun c45 => ?_) (fun c45 => ?_)
          · rw [bI_0] at c45
            refine hk_iconst (v := (-1)) dX10_street_57 (by decide) ?_
            exact hk_ireturn dX10_street_58 rfl rfl (by decide) ⟨rfl, rfl⟩
          · rw [bI_0] at c45
            refine hk_iload_n dX10_street_48 rfl rfl ?_
            refine hk_iconst (v := 0) dX10_street_49 (by decide) ?_
            refine hk_iconst (v := 1) dX10_street_50 (by decide) ?_
            refine ivX10_208 rfl (ct_within w 0 1) dX10_street_51 rfl rfl (by decide) ⟨by decide, by decide⟩ (Nat.le_of_ble_eq_true rfl) (hk_kd ?_)
            refine hk_if_ne (tgt := 59) dX10_street_54 (by decide) (fun c54 => ?_) (fun c54 => ?_)
            · rw [bI_0] at c54
              exact absurd (by grind) h
            · rw [bI_0] at c54
              refine hk_iconst (v := (-1)) dX10_street_57 (by decide) ?_
              exact hk_ireturn dX10_street_58 rfl rfl (by decide) ⟨rfl, rfl⟩
set_option maxRecDepth 20000 in
set_option maxHeartbeats 2000000 in
theorem md_street_full {nC : Nat} (hC : m 37 3 = nI nC) (hS : m 37 11 = nI 60) (e y w : Int32) (h : ¬ e < 0 ∧ inR (e / 100) nC ∧ inR (rm e 100) nC ∧ e / 100 ≠ rm e 100 ∧ ¬ y < 1 ∧ ¬ 2000 < y ∧ ¬ w < 0 ∧ ¬ 1 < w) : hk_Cd MX10_street 1 0 0 [.ref 37, .int e, .int y, .int w] (hk_h L m) (some (.int (-2))) (hk_h L m) := by
  refine hk_ofWP (by decide) (by simp [Value.category]) (Nat.le_of_ble_eq_true rfl) ?_
  show hk_WP _ _ _ _ _ _ _ [some (.ref 37), some (.int e), some (.int y), some (.int w)] [] _ _
  refine hk_iload_n dX10_street_0 rfl rfl ?_
  refine hk_if_lt (tgt := 57) dX10_street_1 (by decide) (fun c1 => ?_) (fun c1 => ?_)
  · exfalso; grind
  · refine hk_aload_n dX10_street_4 rfl rfl ?_
    refine hk_iload_n dX10_street_5 rfl rfl ?_
    refine hk_bipush (v := 100) dX10_street_6 (by decide) ?_
    refine hk_idiv dX10_street_8 (by decide) ?_
    refine ivX10_212 rfl (md_isCorner hC _) dX10_street_9 (hk_lt (by decide)) rfl rfl rfl (by decide) ⟨by decide, by decide⟩ (Nat.le_of_ble_eq_true rfl) (hk_kd ?_)
    refine hk_if_eq (tgt := 57) dX10_street_12 (by decide) (fun c12 => ?_) (fun c12 => ?_)
    · rw [bI_0] at c12
      exfalso; grind
    · rw [bI_0] at c12
      refine hk_aload_n dX10_street_15 rfl rfl ?_
      refine hk_iload_n dX10_street_16 rfl rfl ?_
      refine hk_bipush (v := 100) dX10_street_17 (by decide) ?_
      refine hk_irem dX10_street_19 (by decide) ?_
      refine ivX10_212 rfl (md_isCorner hC _) dX10_street_20 (hk_lt (by decide)) rfl rfl rfl (by decide) ⟨by decide, by decide⟩ (Nat.le_of_ble_eq_true rfl) (hk_kd ?_)
      refine hk_if_eq (tgt := 57) dX10_street_23 (by decide) (fun c23 => ?_) (fun c23 => ?_)
      · rw [bI_0] at c23
        exfalso; grind
      · rw [bI_0] at c23
        refine hk_iload_n dX10_street_26 rfl rfl ?_
        refine hk_bipush (v := 100) dX10_street_27 (by decide) ?_
        refine hk_idiv dX10_street_29 (by decide) ?_
        refine hk_iload_n dX10_street_30 rfl rfl ?_
        refine hk_bipush (v := 100) dX10_street_31 (by decide) ?_
        refine hk_irem dX10_street_33 (by decide) ?_
        refine hk_icmp_eq (tgt := 57) dX10_street_34 (by decide) (fun c34 => ?_) (fun c34 => ?_)
        · exfalso; grind
        · refine hk_iload_n dX10_street_37 rfl rfl ?_
          refine hk_iconst (v := 1) dX10_street_38 (by decide) ?_
          refine hk_sipush (v := 2000) dX10_street_39 (by decide) ?_
          refine ivX10_208 rfl (ct_within y 1 2000) dX10_street_42 rfl rfl (by decide) ⟨by decide, by decide⟩ (Nat.le_of_ble_eq_true rfl) (hk_kd ?_)
          refine hk_if_eq (tgt := 57) dX10_street_45 (by decide) (fun c45 => ?_) (fun c45 => ?_)
          · rw [bI_0] at c45
            exfalso; grind
          · rw [bI_0] at c45
            refine hk_iload_n dX10_street_48 rfl rfl ?_
            refine hk_iconst (v := 0) dX10_street_49 (by decide) ?_
            refine hk_iconst (v := 1) dX10_street_50 (by decide) ?_
            refine ivX10_208 rfl (ct_within w 0 1) dX10_street_51 rfl rfl (by decide) ⟨by decide, by decide⟩ (Nat.le_of_ble_eq_true rfl) (hk_kd ?_)
            refine hk_if_ne (tgt := 59) dX10_street_54 (by decide) (fun c54 => ?_) (fun c54 => ?_)
            · rw [bI_0] at c54
              refine hk_aload_n dX10_street_59 rfl rfl ?_
              refine gfX10_216 rfl dX10_street_60 (hk_lt (by decide)) rfl rfl ?_
              refine hk_bipush (v := 60) dX10_street_63 (by decide) ?_
              refine hk_icmp_ne (tgt := 71) dX10_street_65 (by decide) (fun c65 => absurd (by rw [hS]; rfl) c65) (fun _ => ?_)
              refine hk_bipush (v := (-2)) dX10_street_68 (by decide) ?_
              exact hk_ireturn dX10_street_70 rfl rfl (by decide) ⟨rfl, rfl⟩
            · rw [bI_0] at c54
              exfalso; grind
set_option maxRecDepth 20000 in
set_option maxHeartbeats 2000000 in
theorem md_street {nC : Nat} (hC : m 37 3 = nI nC) {nS : Nat} (hS : m 37 11 = nI nS) (hS2 : nS < 60) (e y w : Int32) (h : ¬ e < 0 ∧ inR (e / 100) nC ∧ inR (rm e 100) nC ∧ e / 100 ≠ rm e 100 ∧ ¬ y < 1 ∧ ¬ 2000 < y ∧ ¬ w < 0 ∧ ¬ 1 < w) : hk_Cd MX10_street 1 0 0 [.ref 37, .int e, .int y, .int w] (hk_h L m) (some (.int (nI nS))) (hk_h L (hk_w (hk_w (hk_w (hk_w (hk_w m 40 nS (e / 100)) 41 nS (rm e 100)) 42 nS y) 43 nS w) 37 11 (nI (nS + 1)))) := by
  refine hk_ofWP (by decide) (by simp [Value.category]) (Nat.le_of_ble_eq_true rfl) ?_
  show hk_WP _ _ _ _ _ _ _ [some (.ref 37), some (.int e), some (.int y), some (.int w)] [] _ _
  refine hk_iload_n dX10_street_0 rfl rfl ?_
  refine hk_if_lt (tgt := 57) dX10_street_1 (by decide) (fun c1 => ?_) (fun c1 => ?_)
  · exfalso; grind
  · refine hk_aload_n dX10_street_4 rfl rfl ?_
    refine hk_iload_n dX10_street_5 rfl rfl ?_
    refine hk_bipush (v := 100) dX10_street_6 (by decide) ?_
    refine hk_idiv dX10_street_8 (by decide) ?_
    refine ivX10_212 rfl (md_isCorner hC _) dX10_street_9 (hk_lt (by decide)) rfl rfl rfl (by decide) ⟨by decide, by decide⟩ (Nat.le_of_ble_eq_true rfl) (hk_kd ?_)
    refine hk_if_eq (tgt := 57) dX10_street_12 (by decide) (fun c12 => ?_) (fun c12 => ?_)
    · rw [bI_0] at c12
      exfalso; grind
    · rw [bI_0] at c12
      refine hk_aload_n dX10_street_15 rfl rfl ?_
      refine hk_iload_n dX10_street_16 rfl rfl ?_
      refine hk_bipush (v := 100) dX10_street_17 (by decide) ?_
      refine hk_irem dX10_street_19 (by decide) ?_
      refine ivX10_212 rfl (md_isCorner hC _) dX10_street_20 (hk_lt (by decide)) rfl rfl rfl (by decide) ⟨by decide, by decide⟩ (Nat.le_of_ble_eq_true rfl) (hk_kd ?_)
      refine hk_if_eq (tgt := 57) dX10_street_23 (by decide) (fun c23 => ?_) (fun c23 => ?_)
      · rw [bI_0] at c23
        exfalso; grind
      · rw [bI_0] at c23
        refine hk_iload_n dX10_street_26 rfl rfl ?_
        refine hk_bipush (v := 100) dX10_street_27 (by decide) ?_
        refine hk_idiv dX10_street_29 (by decide) ?_
        refine hk_iload_n dX10_street_30 rfl rfl ?_
        refine hk_bipush (v := 100) dX10_street_31 (by decide) ?_
        refine hk_irem dX10_street_33 (by decide) ?_
        refine hk_icmp_eq (tgt := 57) dX10_street_34 (by decide) (fun c34 => ?_) (fun c34 => ?_)
        · exfalso; grind
        · refine hk_iload_n dX10_street_37 rfl rfl ?_
          refine hk_iconst (v := 1) dX10_street_38 (by decide) ?_
          refine hk_sipush (v := 2000) dX10_street_39 (by decide) ?_
          refine ivX10_208 rfl (ct_within y 1 2000) dX10_street_42 rfl rfl (by decide) ⟨by decide, by decide⟩ (Nat.le_of_ble_eq_true rfl) (hk_kd ?_)
          refine hk_if_eq (tgt := 57) dX10_street_45 (by decide) (fun c45 => ?_) (fun c45 => ?_)
          · rw [bI_0] at c45
            exfalso; grind
          · rw [bI_0] at c45
            refine hk_iload_n dX10_street_48 rfl rfl ?_
            refine hk_iconst (v := 0) dX10_street_49 (by decide) ?_
            refine hk_iconst (v := 1) dX10_street_50 (by decide) ?_
            refine ivX10_208 rfl (ct_within w 0 1) dX10_street_51 rfl rfl (by decide) ⟨by decide, by decide⟩ (Nat.le_of_ble_eq_true rfl) (hk_kd ?_)
            refine hk_if_ne (tgt := 59) dX10_street_54 (by decide) (fun c54 => ?_) (fun c54 => ?_)
            · rw [bI_0] at c54
              refine hk_aload_n dX10_street_59 rfl rfl ?_
              refine gfX10_216 rfl dX10_street_60 (hk_lt (by decide)) rfl rfl ?_
              refine hk_bipush (v := 60) dX10_street_63 (by decide) ?_
              refine hk_icmp_ne (tgt := 71) dX10_street_65 (by decide) (fun _ => ?_) (fun c65 => absurd c65 (by rw [hS, show (60 : Int32) = nI 60 from rfl, nI_eq (by omega) (by decide)]; omega))
              refine hk_aload_n dX10_street_71 rfl rfl ?_
              refine gfX10_16 rfl dX10_street_72 (hk_lt (by decide)) rfl rfl ?_
              refine hk_aload_n dX10_street_75 rfl rfl ?_
              refine gfX10_216 rfl dX10_street_76 (hk_lt (by decide)) rfl rfl ?_
              refine hk_iload_n dX10_street_79 rfl rfl ?_
              refine hk_bipush (v := 100) dX10_street_80 (by decide) ?_
              refine hk_idiv dX10_street_82 (by decide) ?_
              refine hk_isn dX10_street_83 (by decide) (fun _ => rfl) hS (by omega) (by decide) ?_
              refine hk_aload_n dX10_street_84 rfl rfl ?_
              refine gfX10_19 rfl dX10_street_85 (hk_lt (by decide)) rfl rfl ?_
              refine hk_aload_n dX10_street_88 rfl rfl ?_
              refine gfX10_216 rfl dX10_street_89 (hk_lt (by decide)) rfl rfl ?_
              refine hk_iload_n dX10_street_92 rfl rfl ?_
              refine hk_bipush (v := 100) dX10_street_93 (by decide) ?_
              refine hk_irem dX10_street_95 (by decide) ?_
              refine hk_isn (j := nS) dX10_street_96 (by decide) (fun _ => rfl) (by simp [hk_wo, hS]) (by omega) (by decide) ?_
              refine hk_aload_n dX10_street_97 rfl rfl ?_
              refine gfX10_22 rfl dX10_street_98 (hk_lt (by decide)) rfl rfl ?_
              refine hk_aload_n dX10_street_101 rfl rfl ?_
              refine gfX10_216 rfl dX10_street_102 (hk_lt (by decide)) rfl rfl ?_
              refine hk_iload_n dX10_street_105 rfl rfl ?_
              refine hk_isn (j := nS) dX10_street_106 (by decide) (fun _ => rfl) (by simp [hk_wo, hS]) (by omega) (by decide) ?_
              refine hk_aload_n dX10_street_107 rfl rfl ?_
              refine gfX10_25 rfl dX10_street_108 (hk_lt (by decide)) rfl rfl ?_
              refine hk_aload_n dX10_street_111 rfl rfl ?_
              refine gfX10_216 rfl dX10_street_112 (hk_lt (by decide)) rfl rfl ?_
              refine hk_iload_n dX10_street_115 rfl rfl ?_
              refine hk_isn (j := nS) dX10_street_116 (by decide) (fun _ => rfl) (by simp [hk_wo, hS]) (by omega) (by decide) ?_
              refine hk_aload_n dX10_street_117 rfl rfl ?_
              refine hk_dup dX10_street_118 rfl ?_
              refine gfX10_216 rfl dX10_street_119 (hk_lt (by decide)) rfl rfl ?_
              refine hk_iconst (v := 1) dX10_street_122 (by decide) ?_
              refine hk_iadd dX10_street_123 ?_
              refine pfX10_216 rfl dX10_street_124 (hk_lt (by decide)) rfl (Nat.le_of_ble_eq_true rfl) (hk_st (j := 11) rfl ?_)
              rw [show hk_w _ _ _ _ _ _ + 1 = nI (nS + 1) by simp [hk_wo, hS, nI_1]]
              refine hk_aload_n dX10_street_127 rfl rfl ?_
              refine gfX10_216 rfl dX10_street_128 (hk_lt (by decide)) rfl rfl ?_
              refine hk_iconst (v := 1) dX10_street_131 (by decide) ?_
              refine hk_isub dX10_street_132 ?_
              exact hk_ireturn dX10_street_133 rfl rfl (by decide) ⟨by simp [hk_wt, upd, nI_pred], rfl⟩
            · rw [bI_0] at c54
              exfalso; grind
theorem st_pos {e : Int32} {n : Nat} (hn : n < 2 ^ 31) (h1 : inR (e / 100) n) (h2 : inR (rm e 100) n) : ¬ e < 0 := by
  intro h
  have h5 := i32_div_neg (n := 100) (by decide) h
  have h6 : e / 100 = e / nI 100 := rfl
  rw [inR_i hn, h6, h5.1] at h1
  have h7 : e / 100 = 0 := by rw [h6, i32_eq, h5.1, i32_0]; omega
  unfold rm at h2
  rw [h7, Int32.zero_mul, Int32.sub_zero] at h2
  exact h2.1 h
theorem op_street (hI : Inv L z m) (e y w : Int32) : OpOK L m MX9_street MX10_street [.int e, .int y, .int w] := by
  obtain ⟨g0, ⟨⟨a0, a1, a2, a3, a4, a5, a6, a7, a8, a9, a10, a11, a12, a13⟩, ⟨b0, b1, b2, b3, b4, b5, b6, b7, b8, b9, b10, b11, b12⟩, ⟨c0, c1, c2, c3, c4, c5, c6, c7, c8, c9, c10, c11, c12⟩⟩, g2, g3, g4, g5, g6, g7, g8, g9, g10, g11, g12, g13, g14⟩ := id hI
  by_cases h : inR (e / 100) (z 0) ∧ inR (rm e 100) (z 0) ∧ e / 100 ≠ rm e 100 ∧ ¬ y < 1 ∧ ¬ 2000 < y ∧ ¬ w < 0 ∧ ¬ 1 < w
  · have hp : ¬ e < 0 ∧ inR (e / 100) (z 0) ∧ inR (rm e 100) (z 0) ∧ e / 100 ≠ rm e 100 ∧ ¬ y < 1 ∧ ¬ 2000 < y ∧ ¬ w < 0 ∧ ¬ 1 < w := ⟨st_pos (by omega) h.1 h.2.1, h⟩
    by_cases hf : z 1 = 60
    · exact ⟨3, 0, 0, 1, -2, L, m, m, z, by decide, by decide, by decide, by decide, ct_street_full a0 (hf ▸ a1) e y w h, md_street_full b0 (hf ▸ b1) e y w hp, hI⟩
    · refine ⟨3, 0, 0, 1, nI (z 1), L, _, _, up z 1 (z 1 + 1), by decide, by decide, by decide, by decide, ct_street a0 a1 (by omega) e y w h, md_street (nC := z 0) (by simpa [hk_wo, hk_wt] using b0) (by simpa [hk_wo, hk_wt] using b1) (by omega) e y w hp, ?_⟩
      obtain ⟨i, hi, ei⟩ := inR_of h.1 (by omega)
      obtain ⟨j, hj, ej⟩ := inR_of h.2.1 (by omega)
      obtain ⟨u, hu, eu⟩ := nI_of2 (M := 2000) (n := 2000) rfl (x := y) (fun q => h.2.2.2.1 (by rw [i32_lt] at q ⊢; have : (1 : Int32).toInt = 1 := rfl; have : (0 : Int32).toInt = 0 := rfl; omega)) (Int32.not_lt.mp h.2.2.2.2.1)
      obtain ⟨v, hv, ev⟩ := nI_of2 (M := 1) (n := 1) rfl (x := w) h.2.2.2.2.2.1 (Int32.not_lt.mp h.2.2.2.2.2.2)
      have hij : i ≠ j := fun q => h.2.2.1 (by rw [ei, ej, q])
      have hu1 : 1 ≤ u := by
        rcases Nat.eq_zero_or_pos u with q | q
        · rw [eu, q] at h; exact absurd (by decide) h.2.2.2.1
        · exact q
      refine ⟨g0, ⟨?_, ?_, ?_⟩, ?_, ?_, ?_, ?_, ?_, ?_, ?_, ?_, ?_, ?_, ?_, ?_, ?_⟩
      · simp [hk_wo, hk_wt, hk_w99, up, upd, a0, a1, a2, a3, a4, a5, a6, a7, a8, a9, a10, a11, a12, a13]
      · simp [hk_wo, hk_wt, hk_w99, up, upd, b0, b1, b2, b3, b4, b5, b6, b7, b8, b9, b10, b11, b12]
      · first | (simp [up]; omega) | omega
      · refine ⟨fun s hs => ?_, fun s hs hs2 => ?_⟩
        · simp only [up, if_true] at hs
          by_cases hsn : s = z 1
          · subst hsn
            have hz := g2.2 (z 1) (Nat.le_refl _) (by omega)
            refine ⟨by simp [hk_wo, hk_wt, upd], by simp [hk_wo, hk_wt, upd], by simp [hk_wo, hk_wt, upd], ?_, i, j, u, v, 0, by simp [hk_wo, hk_wt, upd, ei], by simp [hk_wo, hk_wt, upd, ej], by simp [hk_wo, hk_wt, upd, eu], by simp [hk_wo, hk_wt, upd, ev], ?_, by simpa [up] using hi, by simpa [up] using hj, hij, hu1, hu, hv, by decide, fun i hi => absurd hi (Nat.not_lt_zero _)⟩
            · simp [hk_wo, hk_wt, upd]; rw [hz.1, hz.2]
            · simp [hk_wo, hk_wt, upd]; rw [hz.2]; rfl
          · obtain ⟨h1, h2, h3, h4, x1, x2, x3, x4, x5, q1, q2, q3, q4, q5, q6, q7, q8, q9, q10, q11, q12, q13⟩ := g2.1 s (by omega)
            have hne : ∀ c d, c < 13 → d < 13 → s * 13 + c ≠ z 1 * 13 + d := fun c d hc hd => by omega
            have hne0 : ∀ d, d < 13 → s * 13 ≠ z 1 * 13 + d := fun d hd => by omega
            have hne1 : ∀ c, c < 13 → s * 13 + c ≠ z 1 * 13 := fun c hc => by omega
            refine ⟨?_, ?_, ?_, ?_, x1, x2, x3, x4, x5, by simpa [hk_wo, hk_wt, upd, hsn] using q1, by simpa [hk_wo, hk_wt, upd, hsn] using q2, by simpa [hk_wo, hk_wt, upd, hsn] using q3, by simpa [hk_wo, hk_wt, upd, hsn] using q4, by simpa [hk_wo, hk_wt, upd, hsn] using q5, by simpa [up] using q6, by simpa [up] using q7, q8, q9, q10, q11, q12, fun i hi => ?_⟩
            · simp [hk_wo, hk_wt, upd, hsn, hne0, h1]; omega
            · (simp [hk_wo, hk_wt, upd, hsn, h2]) <;> (repeat rw [if_neg (by omega)])
            · (simp [hk_wo, hk_wt, upd, hsn, h3]) <;> (repeat rw [if_neg (by omega)])
            · simp [hk_wo, hk_wt, upd, hsn, hne, hne1, h4]
            · have := q13 i hi
              simp [hk_wo, hk_wt, upd, hsn, hne (5 + 2 * i) 0 (by omega) (by decide), hne (5 + 2 * i) 1 (by omega) (by decide), hne (5 + 2 * i) 2 (by omega) (by decide), hne (5 + 2 * i + 1) 0 (by omega) (by decide), hne (5 + 2 * i + 1) 1 (by omega) (by decide), hne (5 + 2 * i + 1) 2 (by omega) (by decide), hne1 (5 + 2 * i) (by omega), hne1 (5 + 2 * i + 1) (by omega), this]
        · simp only [up, if_true] at hs
          have := g2.2 s (by omega) hs2
          have e1 : s * 13 + 4 ≠ z 1 * 13 := by omega
          have e2 : s * 13 + 4 ≠ z 1 * 13 + 1 := by omega
          have e3 : s * 13 + 4 ≠ z 1 * 13 + 2 := by omega
          simpa [hk_wo, hk_wt, upd, e1, e2, e3] using this
      · simpa [hk_wo, hk_wt, hk_w99, up, upd] using g3
      · simpa [hk_wo, hk_wt, hk_w99, up, upd] using g4
      · simpa [hk_wo, hk_wt, hk_w99, up, upd] using g5
      · simpa [hk_wo, hk_wt, hk_w99, up, upd] using g6
      · simpa [hk_wo, hk_wt, hk_w99, up, upd] using g7
      · simpa [hk_wo, hk_wt, hk_w99, up, upd] using g8
      · simpa [hk_wo, hk_wt, hk_w99, up, upd] using g9
      · simpa [hk_wo, hk_wt, hk_w99, up, upd] using g10
      · simpa [hk_wo, hk_wt, hk_w99, up, upd] using g11
      · simpa [hk_wo, hk_wt, hk_w99, up, upd] using g12
      · simpa [hk_wo, hk_wt, hk_w99, up, upd] using g13
      · simpa [hk_wo, hk_wt, hk_w99, up, upd] using g14
  · have hp : ¬ (¬ e < 0 ∧ inR (e / 100) (z 0) ∧ inR (rm e 100) (z 0) ∧ e / 100 ≠ rm e 100 ∧ ¬ y < 1 ∧ ¬ 2000 < y ∧ ¬ w < 0 ∧ ¬ 1 < w) := fun q => h q.2
    exact ⟨3, 0, 0, 1, -1, L, m, m, z, by decide, by decide, by decide, by decide, ct_street_no a0 e y w h, md_street_no b0 e y w hp, hI⟩
end O3
