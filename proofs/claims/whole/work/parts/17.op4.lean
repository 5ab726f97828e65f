section FMx
variable {M : hk_M} {d mc ms k n pc : Nat} {ls : List (Option Value)} {st : List Value} {h : hk_H} {Q : Option Value → hk_H → Prop}
theorem hk_ixor {x y : Int32} (hd : decode M.2.1 pc = .ok (.ixor, 1)) (kk : hk_WP M d mc ms k n (pc + 1) ls (.int (x ^^^ y) :: st) h Q) : hk_WP M d mc ms k n pc ls (.int y :: .int x :: st) h Q := by
  intro G p l e R s m args below meth c H locs lsA C hS hV hL
  exact lv_ixor C.1 C.2.1 hd (kk G p l e R s m args below meth c H locs lsA C hS hV hL)
end FMx
/-- as hk_ofWP, for a method of a class some other methods of which are natives -/
theorem hk_ofWPF {M : hk_M} {d mc ms : Nat} {h : hk_H} {Q : Option Value → hk_H → Prop} {av : List Value} (hy : plainFor M.1 = true) (hcat : ∀ v ∈ av, v.category = 1) (hlen : av.length ≤ M.2.2.1) (w : hk_WP M d mc ms 0 0 0 (av.map some ++ List.replicate (M.2.2.1 - av.length) none) [] h Q) : hk_Ct M d mc ms av h Q := by
  intro l G
  refine MetFree.of_bodySF (code := M.2.1) (maxLocals := M.2.2.1) (ret := M.2.2.2) hy ?_ ?_
  · intro args s m h hn
    obtain ⟨meth, c, h1, h2, h3, h4, h5, h6, -, -⟩ := Cond.code_spec hn (atoms_spec (ws := Cond.code M.1 M.2.1 M.2.2.1 M.2.2.2 :: hk_T) h _ List.mem_cons_self)
    exact ⟨meth, c, h1, h2, h3, h4, h5, h6⟩
  · intro p e s m args below meth c s₁ B hml hv _
    obtain ⟨rfl, hS, hN, hX⟩ := hv
    have hts := atoms_spec (ws := Cond.code M.1 M.2.1 M.2.2.1 M.2.2.2 :: hk_T) B.pre
    have hcat' : ∀ v ∈ av.map (hk_v (hk_b G)), v.category = 1 := fun v hv => by
      obtain ⟨w, hw, rfl⟩ := List.mem_map.mp hv
      rw [hk_v_cat]; exact hcat w hw
    have hl := lv_entry (av.map (hk_v (hk_b G))) (n := M.2.2.1) (by rw [hk_sl_len _ hcat', List.length_map]; exact hlen)
    have hL : hk_L (hk_b G) M.2.2.1 (av.map some ++ List.replicate (M.2.2.1 - av.length) none) ((lg_sl (av.map (hk_v (hk_b G))) ++ List.replicate (M.2.2.1 - (lg_sl (av.map (hk_v (hk_b G)))).length) Slot.unset).toArray) := by
      refine ⟨hl.1, hl.2.1, fun q hq => hl.2.2 q ?_⟩
      obtain ⟨v, h1, h2⟩ := hk_as_mem.mp hq
      by_cases hi : q.1 < av.length
      · rw [List.getElem?_append_left (by simpa using hi), List.getElem?_map] at h1
        have h3 : av[q.1]? = some v := by
          cases h4 : av[q.1]? with
          | none => rw [h4] at h1; simp at h1
          | some w => rw [h4] at h1; simp at h1; rw [h1]
        have := hk_args (av.map (hk_v (hk_b G))) 0 hcat' q.1 (hk_v (hk_b G) v) (by rw [List.getElem?_map, h3]; rfl)
        rw [← h2] at this
        simpa using this
      · rw [List.getElem?_append_right (by simpa using Nat.not_lt.mp hi)] at h1
        rw [List.getElem?_replicate] at h1
        split at h1 <;> simp at h1
    have K := w G p l e (hk_rm d mc ms) s m ((av.map (hk_v (hk_b G))).toArray) below meth c s.heap [] _ ⟨B.exec, B.bytes, hml, findClass_of_methodNamed B.named, fun w hw => hts w (List.mem_cons_of_mem _ hw), B.returns, B.notSynchronized, (name_of_methodNamed B.named B.method).1, ⟨Nat.le_refl _, Nat.le_refl _⟩, ⟨Nat.le_refl _, Nat.le_refl _⟩, hN, by rw [hS.2.2]; exact Nat.le_add_right _ _, hX⟩ hS va_S.rf hL
    have hh0 : s₁.heap = s.heap := by rw [B.state]; rfl
    obtain ⟨t, a1, o, b1, b2, b3⟩ := K s₁ hh0 (Stand.of_body B)
    rw [lg_entry_eq]
    exact ⟨t, o, a1, b1, b2, ⟨b3.1, b3.2⟩⟩
abbrev MJ9_floorMod_7cf53 : hk_M := (yJ9_floorMod_7cf53, cJ9_floorMod_7cf53, 3, some .int)
theorem hk_wJ9_floorMod : hk_Wd yJ9_floorMod_7cf53 cJ9_floorMod_7cf53 3 (some .int) 2 := ⟨hk_t 351 (by decide +kernel) rfl, hk_t 11 (by decide +kernel) rfl, ⟨by decide +kernel, by decide +kernel, by decide +kernel⟩, by decide⟩
section O4
variable {L : Nat} {m : Nat → Nat → Int32} {z : Nat → Nat}
theorem nI_sub {a b : Nat} (h : b ≤ a) : nI a - nI b = nI (a - b) := by
  have h1 : nI (a - b) + nI b = nI a := by rw [nI_add]; congr 1; omega
  rw [← h1, Int32.add_sub_cancel]
theorem rm_nI {a b : Nat} (ha : a < 2 ^ 31) (hb : b < 2 ^ 31) : rm (nI a) (nI b) = nI (a % b) := by
  unfold rm
  have h2 : a / b * b ≤ a := Nat.div_mul_le_self a b
  rw [nI_div ha hb, nI_mul, nI_sub h2]
  congr 1
  have := Nat.div_add_mod a b
  rw [Nat.mul_comm] at this
  omega
theorem xor12 : ∀ a, a < 17 → 0 ≤ (nI a ^^^ (12 : Int32)) := by decide
set_option maxRecDepth 20000 in
set_option maxHeartbeats 2000000 in
theorem ct_floorMod {a : Nat} (ha : a < 17) : hk_Cd MJ9_floorMod_7cf53 0 0 0 [.int (nI a), .int 12] (hk_h L m) (some (.int (rm (nI a) 12))) (hk_h L m) := by
  refine hk_ofWPF (by decide +kernel) (by simp [Value.category]) (Nat.le_of_ble_eq_true rfl) ?_
  show hk_WP _ _ _ _ _ _ _ [some (.int (nI a)), some (.int 12), none] [] _ _
  refine hk_iload_n dJ9_floorMod_7cf53_0 rfl rfl ?_
  refine hk_iload_n dJ9_floorMod_7cf53_1 rfl rfl ?_
  refine hk_irem dJ9_floorMod_7cf53_2 (by decide) ?_
  refine hk_istore_n dJ9_floorMod_7cf53_3 rfl (by decide) rfl ?_
  refine hk_iload_n dJ9_floorMod_7cf53_4 rfl rfl ?_
  refine hk_iload_n dJ9_floorMod_7cf53_5 rfl rfl ?_
  refine hk_ixor dJ9_floorMod_7cf53_6 ?_
  refine hk_if_ge (tgt := 18) dJ9_floorMod_7cf53_7 (by decide) (fun _ => ?_) (fun c7 => absurd (xor12 a ha) c7)
  refine hk_iload_n dJ9_floorMod_7cf53_18 rfl rfl ?_
  exact hk_ireturn dJ9_floorMod_7cf53_19 rfl rfl (by decide) ⟨rfl, rfl⟩
/-- it is night in minute u, by the rows of sunrise and sunset -/
def ngt (r s : Nat → Int32) (u : Nat) : Prop := nI (u % 1440) < r (u / 1440 / 30 % 12) ∨ ¬ nI (u % 1440) < s (u / 1440 / 30 % 12)
theorem ngt_i {u : Nat} (hu : u < 720000) : rm (nI u) 1440 = nI (u % 1440) ∧ nI u / 1440 / 30 = nI (u / 1440 / 30) ∧ rm (nI (u / 1440 / 30)) 12 = nI (u / 1440 / 30 % 12) ∧ u / 1440 / 30 < 17 := by
  refine ⟨rm_nI (by omega) (by decide), ?_, rm_nI (by omega) (by decide), by omega⟩
  rw [show (1440 : Int32) = nI 1440 from rfl, nI_div (by omega) (by decide), show (30 : Int32) = nI 30 from rfl, nI_div (by omega) (by decide)]
set_option maxRecDepth 20000 in
set_option maxHeartbeats 2000000 in
theorem ct_nightIn {u : Nat} (hu : u < 720000) : hk_Cd MX0_nightIn 1 0 0 [.ref 1, .int (nI u)] (hk_h L m) (some (.int (bI (ngt (m 4) (m 5) u)))) (hk_h L m) := by
  obtain ⟨e1, e2, e3, e4⟩ := ngt_i hu
  have ct_floorMod_at := ct_floorMod (L := L) (m := m) e4
  rw [← e2] at ct_floorMod_at
  refine hk_ofWP (by decide) (by simp [Value.category]) (Nat.le_of_ble_eq_true rfl) ?_
  show hk_WP _ _ _ _ _ _ _ [some (.ref 1), some (.int (nI u)), none, none] [] _ _
  refine hk_iload_n dX0_nightIn_0 rfl rfl ?_
  refine hk_sipush (v := 1440) dX0_nightIn_1 (by decide) ?_
  refine hk_idiv dX0_nightIn_4 (by decide) ?_
  refine hk_bipush (v := 30) dX0_nightIn_5 (by decide) ?_
  refine hk_idiv dX0_nightIn_7 (by decide) ?_
  refine hk_bipush (v := 12) dX0_nightIn_8 (by decide) ?_
  refine hk_invS ct_floorMod_at hk_wJ9_floorMod ⟨hk_t 349 (by decide +kernel) rfl, hk_t 350 (by decide +kernel) rfl⟩ dX0_nightIn_10 rfl rfl (by decide) ⟨by decide, by decide⟩ (Nat.le_of_ble_eq_true rfl) (hk_kd ?_)
  refine hk_istore_n dX0_nightIn_13 rfl (by decide) rfl ?_
  refine hk_iload_n dX0_nightIn_14 rfl rfl ?_
  refine hk_sipush (v := 1440) dX0_nightIn_15 (by decide) ?_
  refine hk_irem dX0_nightIn_18 (by decide) ?_
  refine hk_istore_n dX0_nightIn_19 rfl (by decide) rfl ?_
  refine hk_iload_n dX0_nightIn_20 rfl rfl ?_
  refine hk_aload_n dX0_nightIn_21 rfl rfl ?_
  refine gfX0_20 rfl dX0_nightIn_22 (hk_lt (by decide)) rfl rfl ?_
  refine hk_iload_n dX0_nightIn_25 rfl rfl ?_
  refine hk_ian dX0_nightIn_26 (by decide) (fun _ => rfl) (by rw [e2]; exact e3) (by omega) (by decide) ?_
  refine hk_icmp_lt (tgt := 40) dX0_nightIn_27 (by decide) (fun c27 => ?_) (fun c27 => ?_)
  · rw [show nI u - nI u / 1440 * 1440 = nI (u % 1440) from e1] at c27
    refine hk_iconst (v := 1) dX0_nightIn_40 (by decide) ?_
    refine hk_goto (tgt := 45) dX0_nightIn_41 (by decide) ?_
    exact hk_ireturn dX0_nightIn_45 rfl rfl (by decide) ⟨by first | exact bI_r1 (by unfold ngt; grind) | exact bI_r0 (by unfold ngt; grind), rfl⟩
  · rw [show nI u - nI u / 1440 * 1440 = nI (u % 1440) from e1] at c27
    refine hk_iload_n dX0_nightIn_30 rfl rfl ?_
    refine hk_aload_n dX0_nightIn_31 rfl rfl ?_
    refine gfX0_24 rfl dX0_nightIn_32 (hk_lt (by decide)) rfl rfl ?_
    refine hk_iload_n dX0_nightIn_35 rfl rfl ?_
    refine hk_ian dX0_nightIn_36 (by decide) (fun _ => rfl) (by rw [e2]; exact e3) (by omega) (by decide) ?_
    refine hk_icmp_lt (tgt := 44) dX0_nightIn_37 (by decide) (fun c37 => ?_) (fun c37 => ?_)
    · rw [show nI u - nI u / 1440 * 1440 = nI (u % 1440) from e1] at c37
      refine hk_iconst (v := 0) dX0_nightIn_44 (by decide) ?_
      exact hk_ireturn dX0_nightIn_45 rfl rfl (by decide) ⟨by first | exact bI_r1 (by unfold ngt; grind) | exact bI_r0 (by unfold ngt; grind), rfl⟩
    · rw [show nI u - nI u / 1440 * 1440 = nI (u % 1440) from e1] at c37
      refine hk_iconst (v := 1) dX0_nightIn_40 (by decide) ?_
      refine hk_goto (tgt := 45) dX0_nightIn_41 (by decide) ?_
      exact hk_ireturn dX0_nightIn_45 rfl rfl (by decide) ⟨by first | exact bI_r1 (by unfold ngt; grind) | exact bI_r0 (by unfold ngt; grind), rfl⟩
set_option maxRecDepth 20000 in
set_option maxHeartbeats 2000000 in
theorem md_isNight {u : Nat} (hu : u < 720000) : hk_Cd MX10_isNight 0 0 0 [.ref 37, .int (nI u)] (hk_h L m) (some (.int (bI (ngt (m 38) (m 39) u)))) (hk_h L m) := by
  obtain ⟨e1, e2, e3, e4⟩ := ngt_i hu
  refine hk_ofWP (by decide) (by simp [Value.category]) (Nat.le_of_ble_eq_true rfl) ?_
  show hk_WP _ _ _ _ _ _ _ [some (.ref 37), some (.int (nI u)), none] [] _ _
  refine hk_iload_n dX10_isNight_0 rfl rfl ?_
  refine hk_sipush (v := 1440) dX10_isNight_1 (by decide) ?_
  refine hk_idiv dX10_isNight_4 (by decide) ?_
  refine hk_bipush (v := 30) dX10_isNight_5 (by decide) ?_
  refine hk_idiv dX10_isNight_7 (by decide) ?_
  refine hk_bipush (v := 12) dX10_isNight_8 (by decide) ?_
  refine hk_irem dX10_isNight_10 (by decide) ?_
  refine hk_istore_n dX10_isNight_11 rfl (by decide) rfl ?_
  refine hk_iload_n dX10_isNight_12 rfl rfl ?_
  refine hk_sipush (v := 1440) dX10_isNight_13 (by decide) ?_
  refine hk_irem dX10_isNight_16 (by decide) ?_
  refine hk_aload_n dX10_isNight_17 rfl rfl ?_
  refine gfX10_7 rfl dX10_isNight_18 (hk_lt (by decide)) rfl rfl ?_
  refine hk_iload_n dX10_isNight_21 rfl rfl ?_
  refine hk_ian dX10_isNight_22 (by decide) (fun _ => rfl) (by rw [e2]; exact e3) (by omega) (by decide) ?_
  refine hk_icmp_lt (tgt := 40) dX10_isNight_23 (by decide) (fun c23 => ?_) (fun c23 => ?_)
  · rw [show nI u - nI u / 1440 * 1440 = nI (u % 1440) from e1] at c23
    refine hk_iconst (v := 1) dX10_isNight_40 (by decide) ?_
    refine hk_goto (tgt := 45) dX10_isNight_41 (by decide) ?_
    exact hk_ireturn dX10_isNight_45 rfl rfl (by decide) ⟨by first | exact bI_r1 (by unfold ngt; grind) | exact bI_r0 (by unfold ngt; grind), rfl⟩
  · rw [show nI u - nI u / 1440 * 1440 = nI (u % 1440) from e1] at c23
    refine hk_iload_n dX10_isNight_26 rfl rfl ?_
    refine hk_sipush (v := 1440) dX10_isNight_27 (by decide) ?_
    refine hk_irem dX10_isNight_30 (by decide) ?_
    refine hk_aload_n dX10_isNight_31 rfl rfl ?_
    refine gfX10_13 rfl dX10_isNight_32 (hk_lt (by decide)) rfl rfl ?_
    refine hk_iload_n dX10_isNight_35 rfl rfl ?_
    refine hk_ian dX10_isNight_36 (by decide) (fun _ => rfl) (by rw [e2]; exact e3) (by omega) (by decide) ?_
    refine hk_icmp_lt (tgt := 44) dX10_isNight_37 (by decide) (fun c37 => ?_) (fun c37 => ?_)
    · rw [show nI u - nI u / 1440 * 1440 = nI (u % 1440) from e1] at c37
      refine hk_iconst (v := 0) dX10_isNight_44 (by decide) ?_
      exact hk_ireturn dX10_isNight_45 rfl rfl (by decide) ⟨by first | exact bI_r1 (by unfold ngt; grind) | exact bI_r0 (by unfold ngt; grind), rfl⟩
    · rw [show nI u - nI u / 1440 * 1440 = nI (u % 1440) from e1] at c37
      refine hk_iconst (v := 1) dX10_isNight_40 (by decide) ?_
      refine hk_goto (tgt := 45) dX10_isNight_41 (by decide) ?_
      exact hk_ireturn dX10_isNight_45 rfl rfl (by decide) ⟨by first | exact bI_r1 (by unfold ngt; grind) | exact bI_r0 (by unfold ngt; grind), rfl⟩
set_option maxRecDepth 20000 in
set_option maxHeartbeats 2000000 in
theorem ct_night_no {u : Int32} (hu : ¬ inR u 720000) : hk_Cd MX9_night 2 0 0 [.ref 0, .int u] (hk_h L m) (some (.int (-1))) (hk_h L m) := by
  refine hk_ofWP (by decide) (by simp [Value.category]) (Nat.le_of_ble_eq_true rfl) ?_
  show hk_WP _ _ _ _ _ _ _ [some (.ref 0), some (.int u)] [] _ _
  refine hk_iload_n dX9_night_0 rfl rfl ?_
  refine ivX9_85 rfl (ct_isMinute u) dX9_night_1 rfl rfl (by decide) ⟨by decide, by decide⟩ (Nat.le_of_ble_eq_true rfl) (hk_kd ?_)
  refine hk_if_ne (tgt := 9) dX9_night_4 (by decide) (fun c4 => absurd (bI_0.mpr hu) c4) (fun _ => ?_)
  refine hk_iconst (v := (-1)) dX9_night_7 (by decide) ?_
  exact hk_ireturn dX9_night_8 rfl rfl (by decide) ⟨rfl, rfl⟩
set_option maxRecDepth 20000 in
set_option maxHeartbeats 2000000 in
theorem ct_night {u : Nat} (hu : u < 720000) : hk_Cd MX9_night 2 0 0 [.ref 0, .int (nI u)] (hk_h L m) (some (.int (bI (ngt (m 4) (m 5) u)))) (hk_h L m) := by
  refine hk_ofWP (by decide) (by simp [Value.category]) (Nat.le_of_ble_eq_true rfl) ?_
  show hk_WP _ _ _ _ _ _ _ [some (.ref 0), some (.int (nI u))] [] _ _
  refine hk_iload_n dX9_night_0 rfl rfl ?_
  refine ivX9_85 rfl (ct_isMinute _) dX9_night_1 rfl rfl (by decide) ⟨by decide, by decide⟩ (Nat.le_of_ble_eq_true rfl) (hk_kd ?_)
  refine hk_if_ne (tgt := 9) dX9_night_4 (by decide) (fun _ => ?_) (fun c4 => absurd c4 (fun q => bI_0.mp q (inR_nI hu (by decide))))
  refine hk_aload_n dX9_night_9 rfl rfl ?_
  refine gfX9_16 rfl dX9_night_10 (hk_lt (by decide)) rfl rfl ?_
  refine hk_iload_n dX9_night_13 rfl rfl ?_
  refine ivX9_102 rfl (ct_nightIn hu) dX9_night_14 (hk_lt (by decide)) rfl rfl rfl (by decide) ⟨by decide, by decide⟩ (Nat.le_of_ble_eq_true rfl) (hk_kd ?_)
  exact hk_ireturn dX9_night_17 rfl rfl (by decide) ⟨rfl, rfl⟩
set_option maxRecDepth 20000 in
set_option maxHeartbeats 2000000 in
theorem md_night_no {u : Int32} (hu : ¬ inR u 720000) : hk_Cd MX10_night 2 0 0 [.ref 37, .int u] (hk_h L m) (some (.int (-1))) (hk_h L m) := by
  refine hk_ofWP (by decide) (by simp [Value.category]) (Nat.le_of_ble_eq_true rfl) ?_
  show hk_WP _ _ _ _ _ _ _ [some (.ref 37), some (.int u)] [] _ _
  refine hk_iload_n dX10_night_0 rfl rfl ?_
  refine ivX10_220 rfl (md_isMinute u) dX10_night_1 rfl rfl (by decide) ⟨by decide, by decide⟩ (Nat.le_of_ble_eq_true rfl) (hk_kd ?_)
  refine hk_if_eq (tgt := 23) dX10_night_4 (by decide) (fun _ => ?_) (fun c4 => absurd (bI_0.mpr hu) c4)
  refine hk_iconst (v := (-1)) dX10_night_23 (by decide) ?_
  exact hk_ireturn dX10_night_24 rfl rfl (by decide) ⟨rfl, rfl⟩
set_option maxRecDepth 20000 in
set_option maxHeartbeats 2000000 in
theorem md_night {u : Nat} (hu : u < 720000) : hk_Cd MX10_night 2 0 0 [.ref 37, .int (nI u)] (hk_h L m) (some (.int (bI (ngt (m 38) (m 39) u)))) (hk_h L m) := by
  refine hk_ofWP (by decide) (by simp [Value.category]) (Nat.le_of_ble_eq_true rfl) ?_
  show hk_WP _ _ _ _ _ _ _ [some (.ref 37), some (.int (nI u))] [] _ _
  refine hk_iload_n dX10_night_0 rfl rfl ?_
  refine ivX10_220 rfl (md_isMinute _) dX10_night_1 rfl rfl (by decide) ⟨by decide, by decide⟩ (Nat.le_of_ble_eq_true rfl) (hk_kd ?_)
  refine hk_if_eq (tgt := 23) dX10_night_4 (by decide) (fun c4 => absurd c4 (fun q => bI_0.mp q (inR_nI hu (by decide)))) (fun _ => ?_)
  refine hk_aload_n dX10_night_7 rfl rfl ?_
  refine hk_iload_n dX10_night_8 rfl rfl ?_
  refine ivX10_223 rfl (md_isNight hu) dX10_night_9 (hk_lt (by decide)) rfl rfl rfl (by decide) ⟨by decide, by decide⟩ (Nat.le_of_ble_eq_true rfl) (hk_kd ?_)
  refine hk_if_eq (tgt := 19) dX10_night_12 (by decide) (fun c12 => ?_) (fun c12 => ?_)
  · rw [bI_0] at c12
    refine hk_iconst (v := 0) dX10_night_19 (by decide) ?_
    refine hk_goto (tgt := 24) dX10_night_20 (by decide) ?_
    exact hk_ireturn dX10_night_24 rfl rfl (by decide) ⟨by first | exact bI_r1 (Classical.not_not.mp c12) | exact bI_r0 c12, rfl⟩
  · rw [bI_0] at c12
    refine hk_iconst (v := 1) dX10_night_15 (by decide) ?_
    refine hk_goto (tgt := 24) dX10_night_16 (by decide) ?_
    exact hk_ireturn dX10_night_24 rfl rfl (by decide) ⟨by first | exact bI_r1 (Classical.not_not.mp c12) | exact bI_r0 c12, rfl⟩
theorem ngt_c {r s r2 s2 : Nat → Int32} (h : GSun r s r2 s2) (u : Nat) : ngt r s u ↔ ngt r2 s2 u := by
  have := h (u / 1440 / 30 % 12) (Nat.mod_lt _ (by decide))
  unfold ngt
  rw [this.1, this.2]
theorem op_night (hI : Inv L z m) (u : Int32) : OpOK L m MX9_night MX10_night [.int u] := by
  by_cases h : inR u 720000
  · obtain ⟨v, hv, rfl⟩ := inR_of h (by decide)
    refine ⟨2, 0, 0, 2, _, L, m, m, z, by decide, by decide, by decide, by decide, ct_night hv, ?_, hI⟩
    rw [bI_c (ngt_c hI.2.2.2.1 v)]
    exact md_night hv
  · exact ⟨2, 0, 0, 2, -1, L, m, m, z, by decide, by decide, by decide, by decide, ct_night_no h, md_night_no h, hI⟩
end O4
