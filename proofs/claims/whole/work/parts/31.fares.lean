/-! THE CLASS: fares of trips; calls whose answers hold behind scratch work -/
section CFx
variable {L : Nat} {m m0 m1 m2 : Nat → Nat → Int32} {z : Nat → Nat}
/-- the class's names of row i of a table of trips -/
def NTC (m : Nat → Nat → Int32) (A i : Nat) : Nat → Int32 := NM (m A (i * 13 + 6)) ((m A (i * 13 + 6) + 109) / 110 + m A (i * 13 + 9)) (m A (i * 13 + 9)) (m A (i * 13 + 10)) (rm (m A (i * 13 + 3) / 1440) 7) (rm (m A (i * 13 + 3)) 1440 / 60) (m A (i * 13 + 8)) (m A (i * 13 + 7)) (m A (i * 13 + 11))
theorem y109 (y : Int32) : y + 110 - 1 = y + 109 := by rw [Int32.sub_eq_add_neg, Int32.add_assoc]; congr 1
set_option maxRecDepth 20000 in
set_option maxHeartbeats 2000000 in
theorem ct_tellTripK {n i : Nat} (hT : m 23 3 = nI n) (hT3 : n ≤ 300) (hi : i < n) : hk_Ct MX9_tellTrip 1 0 0 [.ref 0, .ref 23, .int (nI i)] (hk_h L m) (fun r h => ∃ m1, r = none ∧ h = hk_h L m1 ∧ (∀ a, a ≠ 20 → m1 a = m a) ∧ nmC m1 = NTC m 24 i) := by
  refine hk_ofWP (by decide) (by simp [Value.category]) (Nat.le_of_ble_eq_true rfl) ?_
  show hk_WP _ _ _ _ _ _ _ [some (.ref 0), some (.ref 23), some (.int (nI i)), none, none, none] [] _ _
  refine hk_aload_n dX9_tellTrip_0 rfl rfl ?_
  refine hk_iload_n dX9_tellTrip_1 rfl rfl ?_
  refine hk_bipush (v := 6) dX9_tellTrip_2 (by decide) ?_
  refine ivX9_124 rfl (ct_geti tb23 hT3 hT rfl hi (by decide)) dX9_tellTrip_4 (hk_lt (by decide)) rfl rfl rfl (by decide) ⟨by decide, by decide⟩ (Nat.le_of_ble_eq_true rfl) (hk_kd ?_)
  refine hk_istore_n dX9_tellTrip_7 rfl (by decide) rfl ?_
  refine hk_aload_n dX9_tellTrip_8 rfl rfl ?_
  refine hk_iload_n dX9_tellTrip_9 rfl rfl ?_
  refine hk_bipush (v := 9) dX9_tellTrip_10 (by decide) ?_
  refine ivX9_124 rfl (ct_geti tb23 hT3 hT rfl hi (by decide)) dX9_tellTrip_12 (hk_lt (by decide)) rfl rfl rfl (by decide) ⟨by decide, by decide⟩ (Nat.le_of_ble_eq_true rfl) (hk_kd ?_)
  refine hk_istore dX9_tellTrip_15 (by decide) rfl ?_
  refine hk_aload_n dX9_tellTrip_17 rfl rfl ?_
  refine hk_iload_n dX9_tellTrip_18 rfl rfl ?_
  refine hk_iconst (v := 3) dX9_tellTrip_19 (by decide) ?_
  refine ivX9_124 rfl (ct_geti tb23 hT3 hT rfl hi (by decide)) dX9_tellTrip_20 (hk_lt (by decide)) rfl rfl rfl (by decide) ⟨by decide, by decide⟩ (Nat.le_of_ble_eq_true rfl) (hk_kd ?_)
  refine hk_istore dX9_tellTrip_23 (by decide) rfl ?_
  refine hk_aload_n dX9_tellTrip_25 rfl rfl ?_
  refine gfX9_30 rfl dX9_tellTrip_26 (hk_lt (by decide)) rfl rfl ?_
  refine hk_iload_n dX9_tellTrip_29 rfl rfl ?_
  refine hk_iload_n dX9_tellTrip_30 rfl rfl ?_
  refine ivX9_146 rfl (ct_timeOf _) dX9_tellTrip_31 rfl rfl (by decide) ⟨by decide, by decide⟩ (Nat.le_of_ble_eq_true rfl) (hk_kd ?_)
  refine hk_iload dX9_tellTrip_34 rfl ?_
  refine hk_iadd dX9_tellTrip_36 ?_
  refine hk_iload dX9_tellTrip_37 rfl ?_
  refine ivX9_196 rfl (ct_tellRide _ _ _) dX9_tellTrip_39 (hk_lt (by decide)) rfl rfl rfl (by decide) ⟨by decide, by decide⟩ (Nat.le_of_ble_eq_true rfl) (hk_kv ?_)
  refine hk_aload_n dX9_tellTrip_42 rfl rfl ?_
  refine gfX9_30 rfl dX9_tellTrip_43 (hk_lt (by decide)) rfl rfl ?_
  refine hk_aload_n dX9_tellTrip_46 rfl rfl ?_
  refine hk_iload_n dX9_tellTrip_47 rfl rfl ?_
  refine hk_bipush (v := 10) dX9_tellTrip_48 (by decide) ?_
  refine ivX9_124 rfl (ct_geti tb23 hT3 (by simp only [hk_wo (show (23 : Nat) ≠ 20 by decide)]; exact hT) rfl hi (by decide)) dX9_tellTrip_50 (hk_lt (by decide)) rfl rfl rfl (by decide) ⟨by decide, by decide⟩ (Nat.le_of_ble_eq_true rfl) (hk_kd ?_)
  simp only [hk_wo (show (24 : Nat) ≠ 20 by decide)]
  refine hk_iload dX9_tellTrip_53 rfl ?_
  refine hk_sipush (v := 1440) dX9_tellTrip_55 (by decide) ?_
  refine hk_idiv dX9_tellTrip_58 (by decide) ?_
  refine hk_bipush (v := 7) dX9_tellTrip_59 (by decide) ?_
  refine hk_irem dX9_tellTrip_61 (by decide) ?_
  refine hk_iload dX9_tellTrip_62 rfl ?_
  refine hk_sipush (v := 1440) dX9_tellTrip_64 (by decide) ?_
  refine hk_irem dX9_tellTrip_67 (by decide) ?_
  refine hk_bipush (v := 60) dX9_tellTrip_68 (by decide) ?_
  refine hk_idiv dX9_tellTrip_70 (by decide) ?_
  refine ivX9_199 rfl (ct_tellTime _ _ _) dX9_tellTrip_71 (hk_lt (by decide)) rfl rfl rfl (by decide) ⟨by decide, by decide⟩ (Nat.le_of_ble_eq_true rfl) (hk_kv ?_)
  refine hk_aload_n dX9_tellTrip_74 rfl rfl ?_
  refine gfX9_30 rfl dX9_tellTrip_75 (hk_lt (by decide)) rfl rfl ?_
  refine hk_aload_n dX9_tellTrip_78 rfl rfl ?_
  refine hk_iload_n dX9_tellTrip_79 rfl rfl ?_
  refine hk_bipush (v := 8) dX9_tellTrip_80 (by decide) ?_
  refine ivX9_124 rfl (ct_geti tb23 hT3 (by simp only [hk_wo (show (23 : Nat) ≠ 20 by decide)]; exact hT) rfl hi (by decide)) dX9_tellTrip_82 (hk_lt (by decide)) rfl rfl rfl (by decide) ⟨by decide, by decide⟩ (Nat.le_of_ble_eq_true rfl) (hk_kd ?_)
  simp only [hk_wo (show (24 : Nat) ≠ 20 by decide)]
  refine hk_aload_n dX9_tellTrip_85 rfl rfl ?_
  refine hk_iload_n dX9_tellTrip_86 rfl rfl ?_
  refine hk_bipush (v := 7) dX9_tellTrip_87 (by decide) ?_
  refine ivX9_124 rfl (ct_geti tb23 hT3 (by simp only [hk_wo (show (23 : Nat) ≠ 20 by decide)]; exact hT) rfl hi (by decide)) dX9_tellTrip_89 (hk_lt (by decide)) rfl rfl rfl (by decide) ⟨by decide, by decide⟩ (Nat.le_of_ble_eq_true rfl) (hk_kd ?_)
  simp only [hk_wo (show (24 : Nat) ≠ 20 by decide)]
  refine hk_aload_n dX9_tellTrip_92 rfl rfl ?_
  refine hk_iload_n dX9_tellTrip_93 rfl rfl ?_
  refine hk_bipush (v := 11) dX9_tellTrip_94 (by decide) ?_
  refine ivX9_124 rfl (ct_geti tb23 hT3 (by simp only [hk_wo (show (23 : Nat) ≠ 20 by decide)]; exact hT) rfl hi (by decide)) dX9_tellTrip_96 (hk_lt (by decide)) rfl rfl rfl (by decide) ⟨by decide, by decide⟩ (Nat.le_of_ble_eq_true rfl) (hk_kd ?_)
  simp only [hk_wo (show (24 : Nat) ≠ 20 by decide)]
  refine ivX9_202 rfl (ct_tellLoad _ _ _) dX9_tellTrip_99 (hk_lt (by decide)) rfl rfl rfl (by decide) ⟨by decide, by decide⟩ (Nat.le_of_ble_eq_true rfl) (hk_kv ?_)
  exact hk_return dX9_tellTrip_102 rfl (by decide) ⟨_, rfl, rfl, fun a ha => by simp only [hk_wo ha], NM_of (f := fun j => _) rfl (by simp [hk_w_at, y109])⟩
set_option maxRecDepth 20000 in
set_option maxHeartbeats 2000000 in
theorem ct_tellTripD {n i : Nat} (hT : m 25 3 = nI n) (hT3 : n ≤ 1) (hi : i < n) : hk_Ct MX9_tellTrip 1 0 0 [.ref 0, .ref 25, .int (nI i)] (hk_h L m) (fun r h => ∃ m1, r = none ∧ h = hk_h L m1 ∧ (∀ a, a ≠ 20 → m1 a = m a) ∧ nmC m1 = NTC m 26 i) := by
  refine hk_ofWP (by decide) (by simp [Value.category]) (Nat.le_of_ble_eq_true rfl) ?_
  show hk_WP _ _ _ _ _ _ _ [some (.ref 0), some (.ref 25), some (.int (nI i)), none, none, none] [] _ _
  refine hk_aload_n dX9_tellTrip_0 rfl rfl ?_
  refine hk_iload_n dX9_tellTrip_1 rfl rfl ?_
  refine hk_bipush (v := 6) dX9_tellTrip_2 (by decide) ?_
  refine ivX9_124 rfl (ct_geti tb25 hT3 hT rfl hi (by decide)) dX9_tellTrip_4 (hk_lt (by decide)) rfl rfl rfl (by decide) ⟨by decide, by decide⟩ (Nat.le_of_ble_eq_true rfl) (hk_kd ?_)
  refine hk_istore_n dX9_tellTrip_7 rfl (by decide) rfl ?_
  refine hk_aload_n dX9_tellTrip_8 rfl rfl ?_
  refine hk_iload_n dX9_tellTrip_9 rfl rfl ?_
  refine hk_bipush (v := 9) dX9_tellTrip_10 (by decide) ?_
  refine ivX9_124 rfl (ct_geti tb25 hT3 hT rfl hi (by decide)) dX9_tellTrip_12 (hk_lt (by decide)) rfl rfl rfl (by decide) ⟨by decide, by decide⟩ (Nat.le_of_ble_eq_true rfl) (hk_kd ?_)
  refine hk_istore dX9_tellTrip_15 (by decide) rfl ?_
  refine hk_aload_n dX9_tellTrip_17 rfl rfl ?_
  refine hk_iload_n dX9_tellTrip_18 rfl rfl ?_
  refine hk_iconst (v := 3) dX9_tellTrip_19 (by decide) ?_
  refine ivX9_124 rfl (ct_geti tb25 hT3 hT rfl hi (by decide)) dX9_tellTrip_20 (hk_lt (by decide)) rfl rfl rfl (by decide) ⟨by decide, by decide⟩ (Nat.le_of_ble_eq_true rfl) (hk_kd ?_)
  refine hk_istore dX9_tellTrip_23 (by decide) rfl ?_
  refine hk_aload_n dX9_tellTrip_25 rfl rfl ?_
  refine gfX9_30 rfl dX9_tellTrip_26 (hk_lt (by decide)) rfl rfl ?_
  refine hk_iload_n dX9_tellTrip_29 rfl rfl ?_
  refine hk_iload_n dX9_tellTrip_30 rfl rfl ?_
  refine ivX9_146 rfl (ct_timeOf _) dX9_tellTrip_31 rfl rfl (by decide) ⟨by decide, by decide⟩ (Nat.le_of_ble_eq_true rfl) (hk_kd ?_)
  refine hk_iload dX9_tellTrip_34 rfl ?_
  refine hk_iadd dX9_tellTrip_36 ?_
  refine hk_iload dX9_tellTrip_37 rfl ?_
  refine ivX9_196 rfl (ct_tellRide _ _ _) dX9_tellTrip_39 (hk_lt (by decide)) rfl rfl rfl (by decide) ⟨by decide, by decide⟩ (Nat.le_of_ble_eq_true rfl) (hk_kv ?_)
  refine hk_aload_n dX9_tellTrip_42 rfl rfl ?_
  refine gfX9_30 rfl dX9_tellTrip_43 (hk_lt (by decide)) rfl rfl ?_
  refine hk_aload_n dX9_tellTrip_46 rfl rfl ?_
  refine hk_iload_n dX9_tellTrip_47 rfl rfl ?_
  refine hk_bipush (v := 10) dX9_tellTrip_48 (by decide) ?_
  refine ivX9_124 rfl (ct_geti tb25 hT3 (by simp only [hk_wo (show (25 : Nat) ≠ 20 by decide)]; exact hT) rfl hi (by decide)) dX9_tellTrip_50 (hk_lt (by decide)) rfl rfl rfl (by decide) ⟨by decide, by decide⟩ (Nat.le_of_ble_eq_true rfl) (hk_kd ?_)
  simp only [hk_wo (show (26 : Nat) ≠ 20 by decide)]
  refine hk_iload dX9_tellTrip_53 rfl ?_
  refine hk_sipush (v := 1440) dX9_tellTrip_55 (by decide) ?_
  refine hk_idiv dX9_tellTrip_58 (by decide) ?_
  refine hk_bipush (v := 7) dX9_tellTrip_59 (by decide) ?_
  refine hk_irem dX9_tellTrip_61 (by decide) ?_
  refine hk_iload dX9_tellTrip_62 rfl ?_
  refine hk_sipush (v := 1440) dX9_tellTrip_64 (by decide) ?_
  refine hk_irem dX9_tellTrip_67 (by decide) ?_
  refine hk_bipush (v := 60) dX9_tellTrip_68 (by decide) ?_
  refine hk_idiv dX9_tellTrip_70 (by decide) ?_
  refine ivX9_199 rfl (ct_tellTime _ _ _) dX9_tellTrip_71 (hk_lt (by decide)) rfl rfl rfl (by decide) ⟨by decide, by decide⟩ (Nat.le_of_ble_eq_true rfl) (hk_kv ?_)
  refine hk_aload_n dX9_tellTrip_74 rfl rfl ?_
  refine gfX9_30 rfl dX9_tellTrip_75 (hk_lt (by decide)) rfl rfl ?_
  refine hk_aload_n dX9_tellTrip_78 rfl rfl ?_
  refine hk_iload_n dX9_tellTrip_79 rfl rfl ?_
  refine hk_bipush (v := 8) dX9_tellTrip_80 (by decide) ?_
  refine ivX9_124 rfl (ct_geti tb25 hT3 (by simp only [hk_wo (show (25 : Nat) ≠ 20 by decide)]; exact hT) rfl hi (by decide)) dX9_tellTrip_82 (hk_lt (by decide)) rfl rfl rfl (by decide) ⟨by decide, by decide⟩ (Nat.le_of_ble_eq_true rfl) (hk_kd ?_)
  simp only [hk_wo (show (26 : Nat) ≠ 20 by decide)]
  refine hk_aload_n dX9_tellTrip_85 rfl rfl ?_
  refine hk_iload_n dX9_tellTrip_86 rfl rfl ?_
  refine hk_bipush (v := 7) dX9_tellTrip_87 (by decide) ?_
  refine ivX9_124 rfl (ct_geti tb25 hT3 (by simp only [hk_wo (show (25 : Nat) ≠ 20 by decide)]; exact hT) rfl hi (by decide)) dX9_tellTrip_89 (hk_lt (by decide)) rfl rfl rfl (by decide) ⟨by decide, by decide⟩ (Nat.le_of_ble_eq_true rfl) (hk_kd ?_)
  simp only [hk_wo (show (26 : Nat) ≠ 20 by decide)]
  refine hk_aload_n dX9_tellTrip_92 rfl rfl ?_
  refine hk_iload_n dX9_tellTrip_93 rfl rfl ?_
  refine hk_bipush (v := 11) dX9_tellTrip_94 (by decide) ?_
  refine ivX9_124 rfl (ct_geti tb25 hT3 (by simp only [hk_wo (show (25 : Nat) ≠ 20 by decide)]; exact hT) rfl hi (by decide)) dX9_tellTrip_96 (hk_lt (by decide)) rfl rfl rfl (by decide) ⟨by decide, by decide⟩ (Nat.le_of_ble_eq_true rfl) (hk_kd ?_)
  simp only [hk_wo (show (26 : Nat) ≠ 20 by decide)]
  refine ivX9_202 rfl (ct_tellLoad _ _ _) dX9_tellTrip_99 (hk_lt (by decide)) rfl rfl rfl (by decide) ⟨by decide, by decide⟩ (Nat.le_of_ble_eq_true rfl) (hk_kv ?_)
  exact hk_return dX9_tellTrip_102 rfl (by decide) ⟨_, rfl, rfl, fun a ha => by simp only [hk_wo ha], NM_of (f := fun j => _) rfl (by simp [hk_w_at, y109])⟩
set_option maxRecDepth 20000 in
set_option maxHeartbeats 2000000 in
theorem ct_dayOf {n i : Nat} (hT : m 23 3 = nI n) (hT3 : n ≤ 300) (hi : i < n) : hk_Cd MX9_dayOf 1 0 0 [.ref 0, .int (nI i)] (hk_h L m) (some (.int (m 24 (i * 13 + 3) / 1440))) (hk_h L m) := by
  refine hk_ofWP (by decide) (by simp [Value.category]) (Nat.le_of_ble_eq_true rfl) ?_
  show hk_WP _ _ _ _ _ _ _ [some (.ref 0), some (.int (nI i))] [] _ _
  refine hk_aload_n dX9_dayOf_0 rfl rfl ?_
  refine gfX9_37 rfl dX9_dayOf_1 (hk_lt (by decide)) rfl rfl ?_
  refine gfX9_215 rfl dX9_dayOf_4 (hk_lt (by decide)) rfl rfl ?_
  refine hk_iload_n dX9_dayOf_7 rfl rfl ?_
  refine hk_iconst (v := 3) dX9_dayOf_8 (by decide) ?_
  refine ivX9_124 rfl (ct_geti tb23 hT3 hT rfl hi (by decide)) dX9_dayOf_9 (hk_lt (by decide)) rfl rfl rfl (by decide) ⟨by decide, by decide⟩ (Nat.le_of_ble_eq_true rfl) (hk_kd ?_)
  refine hk_sipush (v := 1440) dX9_dayOf_12 (by decide) ?_
  refine hk_idiv dX9_dayOf_15 (by decide) ?_
  exact hk_ireturn dX9_dayOf_16 rfl rfl (by decide) ⟨rfl, rfl⟩
set_option maxRecDepth 20000 in
set_option maxHeartbeats 2000000 in
theorem ct_fareDue (hL : m 15 2 = nI L) (hL4 : L ≤ 40) (g : GL m L) {n i : Nat} (hT : m 23 3 = nI n) (hT3 : n ≤ 300) (hi : i < n) (w : Int32) : hk_Ct MX9_fareDue 3 0 0 [.ref 0, .int (nI i), .int w] (hk_h L m) (fun r h => ∃ m1, r = some (.int (fvc (fo1 m (NTC m 24 i) 0 (m 24 (i * 13 + 3) / 1440) w L) (fo1 m (NTC m 24 i) 1 (m 24 (i * 13 + 3) / 1440) w L))) ∧ h = hk_h L m1 ∧ CF m m1 ∧ nmC m1 = NTC m 24 i) := by
  refine hk_ofWP (by decide) (by simp [Value.category]) (Nat.le_of_ble_eq_true rfl) ?_
  show hk_WP _ _ _ _ _ _ _ [some (.ref 0), some (.int (nI i)), some (.int w), none, none, none] [] _ _
  refine hk_aload_n dX9_fareDue_0 rfl rfl ?_
  refine hk_aload_n dX9_fareDue_1 rfl rfl ?_
  refine gfX9_37 rfl dX9_fareDue_2 (hk_lt (by decide)) rfl rfl ?_
  refine gfX9_215 rfl dX9_fareDue_5 (hk_lt (by decide)) rfl rfl ?_
  refine hk_iload_n dX9_fareDue_8 rfl rfl ?_
  refine ivX9_305 rfl (ct_tellTripK hT hT3 hi) dX9_fareDue_9 (hk_lt (by decide)) rfl rfl rfl (by decide) ⟨by decide, by decide⟩ (Nat.le_of_ble_eq_true rfl) (fun r h1 hq => ?_)
  obtain ⟨m3, rfl, rfl, q1, q2⟩ := hq
  have s3 : CF m m3 := fun a h _ => q1 a h
  have hL3 : m3 15 2 = nI L := by rw [q1 15 (by decide)]; exact hL
  have hT5 : m3 23 3 = nI n := by rw [q1 23 (by decide)]; exact hT
  refine hk_aload_n dX9_fareDue_12 rfl rfl ?_
  refine hk_iload_n dX9_fareDue_13 rfl rfl ?_
  refine ivX9_302 rfl (ct_dayOf hT5 hT3 hi) dX9_fareDue_14 (hk_lt (by decide)) rfl rfl rfl (by decide) ⟨by decide, by decide⟩ (Nat.le_of_ble_eq_true rfl) (hk_kd ?_)
  refine hk_istore_n dX9_fareDue_17 rfl (by decide) rfl ?_
  refine hk_aload_n dX9_fareDue_18 rfl rfl ?_
  refine gfX9_30 rfl dX9_fareDue_19 (hk_lt (by decide)) rfl rfl ?_
  refine hk_aload_n dX9_fareDue_22 rfl rfl ?_
  refine gfX9_30 rfl dX9_fareDue_23 (hk_lt (by decide)) rfl rfl ?_
  refine hk_iconst (v := 0) dX9_fareDue_26 (by decide) ?_
  refine hk_iload_n dX9_fareDue_27 rfl rfl ?_
  refine hk_iload_n dX9_fareDue_28 rfl rfl ?_
  refine ivX9_187 rfl (ct_lawInForce hL3 hL4 (g.k s3) _ _ _) dX9_fareDue_29 (hk_lt (by decide)) rfl rfl rfl (by decide) ⟨by decide, by decide⟩ (Nat.le_of_ble_eq_true rfl) (hk_kd ?_)
  refine ivX9_309 rfl (ct_fareByF hL3 hL4 (g.k s3) _ _ _) dX9_fareDue_32 (hk_lt (by decide)) rfl rfl rfl (by decide) ⟨by decide, by decide⟩ (Nat.le_of_ble_eq_true rfl) (fun r h1 hq => ?_)
  obtain ⟨m4, rfl, rfl, q3⟩ := hq
  have s4 := s3.t (CF.s q3)
  have hL5 : m4 15 2 = nI L := by rw [q3 15 (by decide)]; exact hL3
  refine hk_istore dX9_fareDue_35 (by decide) rfl ?_
  refine hk_aload_n dX9_fareDue_37 rfl rfl ?_
  refine gfX9_30 rfl dX9_fareDue_38 (hk_lt (by decide)) rfl rfl ?_
  refine hk_aload_n dX9_fareDue_41 rfl rfl ?_
  refine gfX9_30 rfl dX9_fareDue_42 (hk_lt (by decide)) rfl rfl ?_
  refine hk_iconst (v := 1) dX9_fareDue_45 (by decide) ?_
  refine hk_iload_n dX9_fareDue_46 rfl rfl ?_
  refine hk_iload_n dX9_fareDue_47 rfl rfl ?_
  refine ivX9_187 rfl (ct_lawInForce hL5 hL4 (g.k s4) _ _ _) dX9_fareDue_48 (hk_lt (by decide)) rfl rfl rfl (by decide) ⟨by decide, by decide⟩ (Nat.le_of_ble_eq_true rfl) (hk_kd ?_)
  refine ivX9_309 rfl (ct_fareByF hL5 hL4 (g.k s4) _ _ _) dX9_fareDue_51 (hk_lt (by decide)) rfl rfl rfl (by decide) ⟨by decide, by decide⟩ (Nat.le_of_ble_eq_true rfl) (fun r h1 hq => ?_)
  obtain ⟨m5, rfl, rfl, q4⟩ := hq
  have s5 := s4.t (CF.s q4)
  have n4 : nmC m4 = nmC m3 := by unfold nmC; rw [q3 20 (by decide)]
  have n5 : nmC m5 = nmC m4 := by unfold nmC; rw [q4 20 (by decide)]
  rw [n4, q2, s3.fq, s4.fq, q1 24 (by decide)]
  refine hk_istore dX9_fareDue_54 (by decide) rfl ?_
  refine hk_iload dX9_fareDue_56 rfl ?_
  refine hk_iload dX9_fareDue_58 rfl ?_
  refine ivX9_312 rfl (ct_lesserFare _ _) dX9_fareDue_60 rfl rfl (by decide) ⟨by decide, by decide⟩ (Nat.le_of_ble_eq_true rfl) (hk_kd ?_)
  exact hk_ireturn dX9_fareDue_63 rfl rfl (by decide) ⟨m5, by rw [lf_fvc fo1_0 fo1_0], rfl, s5, by rw [n5, n4, q2]⟩
theorem kd_eq {x y : Option Int32} (hx : ∀ a, x = some a → ¬ a < 0) (hy : ∀ a, y = some a → ¬ a < 0) (h : ¬ fvc x y < 0) : (if x.getD (-1) = fvc x y then 0 else 1 : Int32) = fk x y ∧ fvc x y = fv x y := by
  cases x with
  | none =>
    cases y with
    | none => exact absurd (by decide) h
    | some b =>
      have hb := hy b rfl
      refine ⟨?_, rfl⟩
      show (if (-1 : Int32) = b then 0 else 1 : Int32) = 1
      rw [if_neg (fun e => hb (by rw [← e]; decide))]
  | some a =>
    cases y with
    | none => exact ⟨if_pos rfl, rfl⟩
    | some b =>
      refine ⟨?_, rfl⟩
      show (if a = (if b < a then b else a) then 0 else 1 : Int32) = (if b < a then 1 else 0)
      by_cases hc : b < a
      · rw [if_pos hc, if_pos hc, if_neg (fun e => by rw [e] at hc; exact Int32.lt_irrefl hc)]
      · rw [if_neg hc, if_neg hc, if_pos rfl]
theorem fvc_0 {x y : Option Int32} (hx : ∀ a, x = some a → ¬ a < 0) (hy : ∀ a, y = some a → ¬ a < 0) (h : fvc x y < 0) : x = none ∧ y = none := by
  cases x with
  | none =>
    cases y with
    | none => exact ⟨rfl, rfl⟩
    | some b => exact absurd h (hy b rfl)
  | some a =>
    have ha := hx a rfl
    cases y with
    | none => exact absurd h ha
    | some b =>
      have hb := hy b rfl
      have h2 : (if b < a then b else a) < 0 := h
      by_cases hc : b < a
      · rw [if_pos hc] at h2; exact absurd h2 hb
      · rw [if_neg hc] at h2; exact absurd h2 ha
set_option maxRecDepth 20000 in
set_option maxHeartbeats 2000000 in
theorem ct_kindDue (hL : m 15 2 = nI L) (hL4 : L ≤ 40) (g : GL m L) {n i : Nat} (hT : m 23 3 = nI n) (hT3 : n ≤ 300) (hi : i < n) (w : Int32) : hk_Ct MX9_kindDue 4 0 0 [.ref 0, .int (nI i), .int w] (hk_h L m) (fun r h => ∃ m1, r = some (.int (if (fo1 m (NTC m 24 i) 0 (m 24 (i * 13 + 3) / 1440) w L).getD (-1) = fvc (fo1 m (NTC m 24 i) 0 (m 24 (i * 13 + 3) / 1440) w L) (fo1 m (NTC m 24 i) 1 (m 24 (i * 13 + 3) / 1440) w L) then 0 else 1)) ∧ h = hk_h L m1 ∧ CF m m1) := by
  refine hk_ofWP (by decide) (by simp [Value.category]) (Nat.le_of_ble_eq_true rfl) ?_
  show hk_WP _ _ _ _ _ _ _ [some (.ref 0), some (.int (nI i)), some (.int w), none, none] [] _ _
  refine hk_aload_n dX9_kindDue_0 rfl rfl ?_
  refine hk_iload_n dX9_kindDue_1 rfl rfl ?_
  refine hk_iload_n dX9_kindDue_2 rfl rfl ?_
  refine ivX9_249 rfl (ct_fareDue hL hL4 g hT hT3 hi w) dX9_kindDue_3 (hk_lt (by decide)) rfl rfl rfl (by decide) ⟨by decide, by decide⟩ (Nat.le_of_ble_eq_true rfl) (fun r h1 hq => ?_)
  obtain ⟨m3, rfl, rfl, s3, q2⟩ := hq
  have hL3 : m3 15 2 = nI L := by rw [s3 15 (by decide) (by decide)]; exact hL
  have hT5 : m3 23 3 = nI n := by rw [s3 23 (by decide) (by decide)]; exact hT
  refine hk_istore_n dX9_kindDue_6 rfl (by decide) rfl ?_
  refine hk_aload_n dX9_kindDue_7 rfl rfl ?_
  refine gfX9_30 rfl dX9_kindDue_8 (hk_lt (by decide)) rfl rfl ?_
  refine hk_iconst (v := 0) dX9_kindDue_11 (by decide) ?_
  refine hk_aload_n dX9_kindDue_12 rfl rfl ?_
  refine hk_iload_n dX9_kindDue_13 rfl rfl ?_
  refine ivX9_302 rfl (ct_dayOf hT5 hT3 hi) dX9_kindDue_14 (hk_lt (by decide)) rfl rfl rfl (by decide) ⟨by decide, by decide⟩ (Nat.le_of_ble_eq_true rfl) (hk_kd ?_)
  refine hk_iload_n dX9_kindDue_17 rfl rfl ?_
  refine ivX9_187 rfl (ct_lawInForce hL3 hL4 (g.k s3) _ _ _) dX9_kindDue_18 (hk_lt (by decide)) rfl rfl rfl (by decide) ⟨by decide, by decide⟩ (Nat.le_of_ble_eq_true rfl) (hk_kd ?_)
  refine hk_istore dX9_kindDue_21 (by decide) rfl ?_
  refine hk_aload_n dX9_kindDue_23 rfl rfl ?_
  refine gfX9_30 rfl dX9_kindDue_24 (hk_lt (by decide)) rfl rfl ?_
  refine hk_iload dX9_kindDue_27 rfl ?_
  refine ivX9_309 rfl (ct_fareByF hL3 hL4 (g.k s3) _ _ _) dX9_kindDue_29 (hk_lt (by decide)) rfl rfl rfl (by decide) ⟨by decide, by decide⟩ (Nat.le_of_ble_eq_true rfl) (fun r h1 hq => ?_)
  obtain ⟨m4, rfl, rfl, q3⟩ := hq
  rw [q2, s3.fq, s3 24 (by decide) (by decide)]
  refine hk_iload_n dX9_kindDue_32 rfl rfl ?_
  refine hk_icmp_ne (tgt := 40) dX9_kindDue_33 (by decide) (fun c33 => ?_) (fun c33 => ?_)
  · refine hk_iconst (v := 1) dX9_kindDue_40 (by decide) ?_
    exact hk_ireturn dX9_kindDue_41 rfl rfl (by decide) ⟨m4, by first | exact congrArg (fun x => some (Value.int x)) (if_pos c33).symm | exact congrArg (fun x => some (Value.int x)) (if_neg c33).symm, rfl, s3.t (CF.s q3)⟩
  · refine hk_iconst (v := 0) dX9_kindDue_36 (by decide) ?_
    refine hk_goto (tgt := 41) dX9_kindDue_37 (by decide) ?_
    exact hk_ireturn dX9_kindDue_41 rfl rfl (by decide) ⟨m4, by first | exact congrArg (fun x => some (Value.int x)) (if_pos c33).symm | exact congrArg (fun x => some (Value.int x)) (if_neg c33).symm, rfl, s3.t (CF.s q3)⟩
/-! scratch: what no answer rests on -/
def SCR (m m1 : Nat → Nat → Int32) : Prop := (∀ a, a ≠ 3 → a ≠ 6 → a ≠ 16 → a ≠ 18 → a ≠ 20 → a ≠ 21 → a ≠ 26 → a ≠ 37 → a ≠ 47 → a ≠ 48 → a ≠ 49 → a ≠ 72 → m1 a = m a) ∧ (∀ j, j % 13 ≠ 3 → m1 3 j = m 3 j) ∧ m1 16 2 = m 16 2 ∧ ∀ j, j ≠ 15 → j ≠ 44 → j ≠ 45 → j ≠ 78 → j ≠ 79 → j ≠ 80 → m1 37 j = m 37 j
theorem SCR.refl : SCR m m := ⟨fun _ _ _ _ _ _ _ _ _ _ _ _ _ => rfl, fun _ _ => rfl, rfl, fun _ _ _ _ _ _ _ => rfl⟩
theorem SCR.t (s : SCR m m1) (u : SCR m1 m2) : SCR m m2 := ⟨fun a h1 h2 h3 h4 h5 h6 h7 h8 h9 h10 h11 h12 => (u.1 a h1 h2 h3 h4 h5 h6 h7 h8 h9 h10 h11 h12).trans (s.1 a h1 h2 h3 h4 h5 h6 h7 h8 h9 h10 h11 h12), fun j h => (u.2.1 j h).trans (s.2.1 j h), u.2.2.1.trans s.2.2.1, fun j h1 h2 h3 h4 h5 h6 => (u.2.2.2 j h1 h2 h3 h4 h5 h6).trans (s.2.2.2 j h1 h2 h3 h4 h5 h6)⟩
theorem CF.scr (s : CF m m1) : SCR m m1 := ⟨fun a _ _ _ _ h5 h6 _ _ _ _ _ _ => s a h5 h6, fun j _ => by rw [s 3 (by decide) (by decide)], by rw [s 16 (by decide) (by decide)], fun j _ _ _ _ _ _ => by rw [s 37 (by decide) (by decide)]⟩
theorem SF.scr (s : SF m m1) : SCR m m1 := ⟨fun a _ _ _ _ _ _ _ h8 _ _ _ h12 => s.1 a h8 h12, fun j _ => by rw [s.1 3 (by decide) (by decide)], by rw [s.1 16 (by decide) (by decide)], fun j _ h2 h3 h4 h5 h6 => s.2 j h2 h3 h4 h5 h6⟩
theorem GStr_scr {nC nS : Nat} {t t' fr to yd bd sf st sh : Nat → Int32} (h : GStr nC nS t fr to yd bd sf st sh) (e : ∀ j, j % 13 ≠ 3 → t' j = t j) : GStr nC nS t' fr to yd bd sf st sh := by
  refine ⟨fun s hs => ?_, fun s h1 h2 => ?_⟩
  · obtain ⟨h1, h2, h3, h4, a, b, y, w, k, g1, g2, g3, g4, g5, g6, g7, g8, g9, g10, g11, g12, g13⟩ := h.1 s hs
    rw [e _ (by omega), e _ (by omega), e _ (by omega), e _ (by omega)]
    refine ⟨h1, h2, h3, h4, a, b, y, w, k, g1, g2, g3, g4, g5, g6, g7, g8, g9, g10, g11, g12, fun i hi => ?_⟩
    rw [e _ (by omega), e _ (by omega)]
    exact g13 i hi
  · rw [e _ (by omega)]; exact h.2 s h1 h2
theorem Inv_scr (hI : Inv L z m) (s : SCR m m1) : Inv L z m1 := by
  obtain ⟨g0, ⟨a, b, c⟩, g2, g3, g4, g5, g6, g7, g8, g9, g10, g11, g12, g13, g14⟩ := hI
  obtain ⟨s1, s2, s3, s4⟩ := s
  have e : ∀ a, a ≠ 3 → a ≠ 6 → a ≠ 16 → a ≠ 18 → a ≠ 20 → a ≠ 21 → a ≠ 26 → a ≠ 37 → a ≠ 47 → a ≠ 48 → a ≠ 49 → a ≠ 72 → m1 a = m a := s1
  refine ⟨g0, ⟨?_, ?_, c⟩, ?_, ?_, ?_, ?_, ?_, ?_, ?_, ?_, ?_, ?_, ?_, ?_, ?_⟩
  · rw [e 1 (by decide) (by decide) (by decide) (by decide) (by decide) (by decide) (by decide) (by decide) (by decide) (by decide) (by decide) (by decide), e 2 (by decide) (by decide) (by decide) (by decide) (by decide) (by decide) (by decide) (by decide) (by decide) (by decide) (by decide) (by decide), s3]
    rw [e 9 (by decide) (by decide) (by decide) (by decide) (by decide) (by decide) (by decide) (by decide) (by decide) (by decide) (by decide) (by decide), e 13 (by decide) (by decide) (by decide) (by decide) (by decide) (by decide) (by decide) (by decide) (by decide) (by decide) (by decide) (by decide), e 15 (by decide) (by decide) (by decide) (by decide) (by decide) (by decide) (by decide) (by decide) (by decide) (by decide) (by decide) (by decide), e 23 (by decide) (by decide) (by decide) (by decide) (by decide) (by decide) (by decide) (by decide) (by decide) (by decide) (by decide) (by decide), e 27 (by decide) (by decide) (by decide) (by decide) (by decide) (by decide) (by decide) (by decide) (by decide) (by decide) (by decide) (by decide), e 30 (by decide) (by decide) (by decide) (by decide) (by decide) (by decide) (by decide) (by decide) (by decide) (by decide) (by decide) (by decide), e 0 (by decide) (by decide) (by decide) (by decide) (by decide) (by decide) (by decide) (by decide) (by decide) (by decide) (by decide) (by decide), e 33 (by decide) (by decide) (by decide) (by decide) (by decide) (by decide) (by decide) (by decide) (by decide) (by decide) (by decide) (by decide), e 35 (by decide) (by decide) (by decide) (by decide) (by decide) (by decide) (by decide) (by decide) (by decide) (by decide) (by decide) (by decide), e 11 (by decide) (by decide) (by decide) (by decide) (by decide) (by decide) (by decide) (by decide) (by decide) (by decide) (by decide) (by decide), e 25 (by decide) (by decide) (by decide) (by decide) (by decide) (by decide) (by decide) (by decide) (by decide) (by decide) (by decide) (by decide)]
    exact a
  · rw [s4 3 (by decide) (by decide) (by decide) (by decide) (by decide) (by decide), s4 11 (by decide) (by decide) (by decide) (by decide) (by decide) (by decide), s4 26 (by decide) (by decide) (by decide) (by decide) (by decide) (by decide), s4 35 (by decide) (by decide) (by decide) (by decide) (by decide) (by decide), s4 43 (by decide) (by decide) (by decide) (by decide) (by decide) (by decide), s4 60 (by decide) (by decide) (by decide) (by decide) (by decide) (by decide), s4 65 (by decide) (by decide) (by decide) (by decide) (by decide) (by decide), s4 68 (by decide) (by decide) (by decide) (by decide) (by decide) (by decide), s4 0 (by decide) (by decide) (by decide) (by decide) (by decide) (by decide), s4 37 (by decide) (by decide) (by decide) (by decide) (by decide) (by decide), s4 73 (by decide) (by decide) (by decide) (by decide) (by decide) (by decide), s4 77 (by decide) (by decide) (by decide) (by decide) (by decide) (by decide), s4 30 (by decide) (by decide) (by decide) (by decide) (by decide) (by decide)]
    exact b
  · rw [e 40 (by decide) (by decide) (by decide) (by decide) (by decide) (by decide) (by decide) (by decide) (by decide) (by decide) (by decide) (by decide), e 41 (by decide) (by decide) (by decide) (by decide) (by decide) (by decide) (by decide) (by decide) (by decide) (by decide) (by decide) (by decide), e 42 (by decide) (by decide) (by decide) (by decide) (by decide) (by decide) (by decide) (by decide) (by decide) (by decide) (by decide) (by decide), e 43 (by decide) (by decide) (by decide) (by decide) (by decide) (by decide) (by decide) (by decide) (by decide) (by decide) (by decide) (by decide), e 44 (by decide) (by decide) (by decide) (by decide) (by decide) (by decide) (by decide) (by decide) (by decide) (by decide) (by decide) (by decide), e 45 (by decide) (by decide) (by decide) (by decide) (by decide) (by decide) (by decide) (by decide) (by decide) (by decide) (by decide) (by decide), e 46 (by decide) (by decide) (by decide) (by decide) (by decide) (by decide) (by decide) (by decide) (by decide) (by decide) (by decide) (by decide)]
    exact GStr_scr g2 s2
  · rw [e 4 (by decide) (by decide) (by decide) (by decide) (by decide) (by decide) (by decide) (by decide) (by decide) (by decide) (by decide) (by decide), e 5 (by decide) (by decide) (by decide) (by decide) (by decide) (by decide) (by decide) (by decide) (by decide) (by decide) (by decide) (by decide), e 38 (by decide) (by decide) (by decide) (by decide) (by decide) (by decide) (by decide) (by decide) (by decide) (by decide) (by decide) (by decide), e 39 (by decide) (by decide) (by decide) (by decide) (by decide) (by decide) (by decide) (by decide) (by decide) (by decide) (by decide) (by decide)]
    exact g3
  · rw [e 1 (by decide) (by decide) (by decide) (by decide) (by decide) (by decide) (by decide) (by decide) (by decide) (by decide) (by decide) (by decide), e 7 (by decide) (by decide) (by decide) (by decide) (by decide) (by decide) (by decide) (by decide) (by decide) (by decide) (by decide) (by decide), e 50 (by decide) (by decide) (by decide) (by decide) (by decide) (by decide) (by decide) (by decide) (by decide) (by decide) (by decide) (by decide)]
    rw [s4 17 (by decide) (by decide) (by decide) (by decide) (by decide) (by decide)]
    exact g4
  · rw [e 10 (by decide) (by decide) (by decide) (by decide) (by decide) (by decide) (by decide) (by decide) (by decide) (by decide) (by decide) (by decide), e 51 (by decide) (by decide) (by decide) (by decide) (by decide) (by decide) (by decide) (by decide) (by decide) (by decide) (by decide) (by decide), e 52 (by decide) (by decide) (by decide) (by decide) (by decide) (by decide) (by decide) (by decide) (by decide) (by decide) (by decide) (by decide), e 53 (by decide) (by decide) (by decide) (by decide) (by decide) (by decide) (by decide) (by decide) (by decide) (by decide) (by decide) (by decide), e 54 (by decide) (by decide) (by decide) (by decide) (by decide) (by decide) (by decide) (by decide) (by decide) (by decide) (by decide) (by decide), e 55 (by decide) (by decide) (by decide) (by decide) (by decide) (by decide) (by decide) (by decide) (by decide) (by decide) (by decide) (by decide), e 56 (by decide) (by decide) (by decide) (by decide) (by decide) (by decide) (by decide) (by decide) (by decide) (by decide) (by decide) (by decide), e 57 (by decide) (by decide) (by decide) (by decide) (by decide) (by decide) (by decide) (by decide) (by decide) (by decide) (by decide) (by decide), e 58 (by decide) (by decide) (by decide) (by decide) (by decide) (by decide) (by decide) (by decide) (by decide) (by decide) (by decide) (by decide), e 14 (by decide) (by decide) (by decide) (by decide) (by decide) (by decide) (by decide) (by decide) (by decide) (by decide) (by decide) (by decide)]
    exact g5
  · rw [e 12 (by decide) (by decide) (by decide) (by decide) (by decide) (by decide) (by decide) (by decide) (by decide) (by decide) (by decide) (by decide), e 59 (by decide) (by decide) (by decide) (by decide) (by decide) (by decide) (by decide) (by decide) (by decide) (by decide) (by decide) (by decide), e 60 (by decide) (by decide) (by decide) (by decide) (by decide) (by decide) (by decide) (by decide) (by decide) (by decide) (by decide) (by decide), e 61 (by decide) (by decide) (by decide) (by decide) (by decide) (by decide) (by decide) (by decide) (by decide) (by decide) (by decide) (by decide)]
    exact g6
  · rw [e 14 (by decide) (by decide) (by decide) (by decide) (by decide) (by decide) (by decide) (by decide) (by decide) (by decide) (by decide) (by decide), e 62 (by decide) (by decide) (by decide) (by decide) (by decide) (by decide) (by decide) (by decide) (by decide) (by decide) (by decide) (by decide), e 63 (by decide) (by decide) (by decide) (by decide) (by decide) (by decide) (by decide) (by decide) (by decide) (by decide) (by decide) (by decide), e 64 (by decide) (by decide) (by decide) (by decide) (by decide) (by decide) (by decide) (by decide) (by decide) (by decide) (by decide) (by decide), e 65 (by decide) (by decide) (by decide) (by decide) (by decide) (by decide) (by decide) (by decide) (by decide) (by decide) (by decide) (by decide), e 10 (by decide) (by decide) (by decide) (by decide) (by decide) (by decide) (by decide) (by decide) (by decide) (by decide) (by decide) (by decide)]
    exact g7
  · rw [e 17 (by decide) (by decide) (by decide) (by decide) (by decide) (by decide) (by decide) (by decide) (by decide) (by decide) (by decide) (by decide), e 66 (by decide) (by decide) (by decide) (by decide) (by decide) (by decide) (by decide) (by decide) (by decide) (by decide) (by decide) (by decide)]
    exact g8
  · rw [e 67 (by decide) (by decide) (by decide) (by decide) (by decide) (by decide) (by decide) (by decide) (by decide) (by decide) (by decide) (by decide), e 68 (by decide) (by decide) (by decide) (by decide) (by decide) (by decide) (by decide) (by decide) (by decide) (by decide) (by decide) (by decide), e 69 (by decide) (by decide) (by decide) (by decide) (by decide) (by decide) (by decide) (by decide) (by decide) (by decide) (by decide) (by decide), e 70 (by decide) (by decide) (by decide) (by decide) (by decide) (by decide) (by decide) (by decide) (by decide) (by decide) (by decide) (by decide), e 71 (by decide) (by decide) (by decide) (by decide) (by decide) (by decide) (by decide) (by decide) (by decide) (by decide) (by decide) (by decide)]
    rw [show (fun k => m1 (99 + k)) = fun k => m (99 + k) from by funext k; exact e _ (by omega) (by omega) (by omega) (by omega) (by omega) (by omega) (by omega) (by omega) (by omega) (by omega) (by omega) (by omega)]
    exact g9
  · rw [e 24 (by decide) (by decide) (by decide) (by decide) (by decide) (by decide) (by decide) (by decide) (by decide) (by decide) (by decide) (by decide), e 73 (by decide) (by decide) (by decide) (by decide) (by decide) (by decide) (by decide) (by decide) (by decide) (by decide) (by decide) (by decide), e 74 (by decide) (by decide) (by decide) (by decide) (by decide) (by decide) (by decide) (by decide) (by decide) (by decide) (by decide) (by decide), e 75 (by decide) (by decide) (by decide) (by decide) (by decide) (by decide) (by decide) (by decide) (by decide) (by decide) (by decide) (by decide), e 76 (by decide) (by decide) (by decide) (by decide) (by decide) (by decide) (by decide) (by decide) (by decide) (by decide) (by decide) (by decide), e 77 (by decide) (by decide) (by decide) (by decide) (by decide) (by decide) (by decide) (by decide) (by decide) (by decide) (by decide) (by decide), e 78 (by decide) (by decide) (by decide) (by decide) (by decide) (by decide) (by decide) (by decide) (by decide) (by decide) (by decide) (by decide), e 79 (by decide) (by decide) (by decide) (by decide) (by decide) (by decide) (by decide) (by decide) (by decide) (by decide) (by decide) (by decide), e 80 (by decide) (by decide) (by decide) (by decide) (by decide) (by decide) (by decide) (by decide) (by decide) (by decide) (by decide) (by decide), e 81 (by decide) (by decide) (by decide) (by decide) (by decide) (by decide) (by decide) (by decide) (by decide) (by decide) (by decide) (by decide), e 82 (by decide) (by decide) (by decide) (by decide) (by decide) (by decide) (by decide) (by decide) (by decide) (by decide) (by decide) (by decide), e 84 (by decide) (by decide) (by decide) (by decide) (by decide) (by decide) (by decide) (by decide) (by decide) (by decide) (by decide) (by decide), e 83 (by decide) (by decide) (by decide) (by decide) (by decide) (by decide) (by decide) (by decide) (by decide) (by decide) (by decide) (by decide), e 85 (by decide) (by decide) (by decide) (by decide) (by decide) (by decide) (by decide) (by decide) (by decide) (by decide) (by decide) (by decide)]
    exact g10
  · rw [e 28 (by decide) (by decide) (by decide) (by decide) (by decide) (by decide) (by decide) (by decide) (by decide) (by decide) (by decide) (by decide), e 86 (by decide) (by decide) (by decide) (by decide) (by decide) (by decide) (by decide) (by decide) (by decide) (by decide) (by decide) (by decide), e 87 (by decide) (by decide) (by decide) (by decide) (by decide) (by decide) (by decide) (by decide) (by decide) (by decide) (by decide) (by decide), e 88 (by decide) (by decide) (by decide) (by decide) (by decide) (by decide) (by decide) (by decide) (by decide) (by decide) (by decide) (by decide), e 89 (by decide) (by decide) (by decide) (by decide) (by decide) (by decide) (by decide) (by decide) (by decide) (by decide) (by decide) (by decide)]
    exact g11
  · rw [e 31 (by decide) (by decide) (by decide) (by decide) (by decide) (by decide) (by decide) (by decide) (by decide) (by decide) (by decide) (by decide), e 90 (by decide) (by decide) (by decide) (by decide) (by decide) (by decide) (by decide) (by decide) (by decide) (by decide) (by decide) (by decide), e 91 (by decide) (by decide) (by decide) (by decide) (by decide) (by decide) (by decide) (by decide) (by decide) (by decide) (by decide) (by decide)]
    exact g12
  · rw [e 34 (by decide) (by decide) (by decide) (by decide) (by decide) (by decide) (by decide) (by decide) (by decide) (by decide) (by decide) (by decide), e 92 (by decide) (by decide) (by decide) (by decide) (by decide) (by decide) (by decide) (by decide) (by decide) (by decide) (by decide) (by decide), e 93 (by decide) (by decide) (by decide) (by decide) (by decide) (by decide) (by decide) (by decide) (by decide) (by decide) (by decide) (by decide), e 94 (by decide) (by decide) (by decide) (by decide) (by decide) (by decide) (by decide) (by decide) (by decide) (by decide) (by decide) (by decide), e 95 (by decide) (by decide) (by decide) (by decide) (by decide) (by decide) (by decide) (by decide) (by decide) (by decide) (by decide) (by decide)]
    exact g13
  · rw [e 36 (by decide) (by decide) (by decide) (by decide) (by decide) (by decide) (by decide) (by decide) (by decide) (by decide) (by decide) (by decide), e 96 (by decide) (by decide) (by decide) (by decide) (by decide) (by decide) (by decide) (by decide) (by decide) (by decide) (by decide) (by decide), e 97 (by decide) (by decide) (by decide) (by decide) (by decide) (by decide) (by decide) (by decide) (by decide) (by decide) (by decide) (by decide), e 98 (by decide) (by decide) (by decide) (by decide) (by decide) (by decide) (by decide) (by decide) (by decide) (by decide) (by decide) (by decide)]
    exact g14
/-- as OpOK, the states being told by what holds of them -/
def OpE (L : Nat) (m : Nat → Nat → Int32) (A B : hk_M) (av : List Value) : Prop :=
  ∃ (d1 c1 s1 d2 : Nat), d1 ≤ 300 ∧ c1 ≤ 2 ∧ s1 ≤ 164 ∧ d2 ≤ 300 ∧
    hk_Ct A d1 c1 s1 (.ref 0 :: av) (hk_h L m) (fun r h => ∃ (v : Int32) (L' : Nat) (m1 : Nat → Nat → Int32), r = some (.int v) ∧ h = hk_h L' m1 ∧
      hk_Ct B d2 0 0 (.ref 37 :: av) (hk_h L' m1) (fun r' h' => ∃ (m2 : Nat → Nat → Int32) (z' : Nat → Nat), r' = some (.int v) ∧ h' = hk_h L' m2 ∧ Inv L' z' m2))
theorem OpOK.e {A B : hk_M} {av : List Value} (h : OpOK L m A B av) : OpE L m A B av := by
  obtain ⟨d1, c1, s1, d2, r, L', m1, m2, z', h1, h2, h3, h4, h5, h6, h7⟩ := h
  refine ⟨d1, c1, s1, d2, h1, h2, h3, h4, hk_imp ?_ h5⟩
  rintro q h ⟨rfl, rfl⟩
  refine ⟨r, L', m1, rfl, rfl, hk_imp ?_ h6⟩
  rintro q h ⟨rfl, rfl⟩
  exact ⟨m2, z', rfl, rfl, h7⟩
/-- both answer v, and leave but scratch behind -/
theorem OpE.of {A B : hk_M} {av : List Value} {d1 d2 : Nat} {v : Int32} (hI : Inv L z m) (h1 : d1 ≤ 300) (h4 : d2 ≤ 300)
    (hA : hk_Ct A d1 0 0 (.ref 0 :: av) (hk_h L m) (fun r h => ∃ m1, r = some (.int v) ∧ h = hk_h L m1 ∧ SCR m m1))
    (hB : ∀ m1, Inv L z m1 → SCR m m1 → hk_Ct B d2 0 0 (.ref 37 :: av) (hk_h L m1) (fun r h => ∃ m2, r = some (.int v) ∧ h = hk_h L m2 ∧ SCR m1 m2)) : OpE L m A B av := by
  refine ⟨d1, 0, 0, d2, h1, by decide, by decide, h4, hk_imp ?_ hA⟩
  rintro q h ⟨m1, rfl, rfl, s1⟩
  have hI1 := Inv_scr hI s1
  refine ⟨v, L, m1, rfl, rfl, hk_imp ?_ (hB m1 hI1 s1)⟩
  rintro q h ⟨m2, rfl, rfl, s2⟩
  exact ⟨m2, z, rfl, rfl, Inv_scr hI1 s2⟩
end CFx
