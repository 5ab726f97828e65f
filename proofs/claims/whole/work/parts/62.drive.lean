/-! the reference's drive -/
section CJz
variable {L nC nS nK nD : Nat} {m m0 m1 m2 : Nat → Nat → Int32} {z : Nat → Nat}
/-- a trip's row written -/
def tkr (m : Nat → Nat → Int32) (q c f t n : Nat) (ah yd bd w g ni sd : Int32) : Nat → Nat → Int32 := (hk_w (hk_w (hk_w (hk_w (hk_w (hk_w (hk_w (hk_w (hk_w (hk_w (hk_w (hk_w (hk_w m 73 q (nI c)) 74 q (nI f)) 75 q (nI t)) 76 q (nI n)) 77 q (nI n + ah)) 78 q (nI n + ah + (yd + 109) / 110 + rm w 1000)) 79 q yd) 80 q bd) 81 q (w / 1000)) 82 q (rm w 1000)) 83 q g) 84 q ni) 85 q sd)
set_option maxRecDepth 20000 in
set_option maxHeartbeats 2000000 in
theorem md_drive {q c f t n : Nat} {ah yd bd w sd : Int32} (hc : c < 30) (hq : m 37 60 = nI q) (hq3 : q < 300) (hn : m 37 0 = nI n) (hn7 : n < 720000) (LVr : (Nat → Nat → Int32) → Nat → Nat → Int32) (lf : ∀ M a, a ≠ 64 → a ≠ 65 → LVr M a = M a) (lv : ∀ M, M 37 35 = m 37 35 → M 64 = m 64 → M 65 = m 65 → hk_Cd MX10_leaveRow 1 0 0 [.ref 37, .int (nI c)] (hk_h L M) none (hk_h L (LVr M))) : hk_Cd MX10_drive 3 0 0 [.ref 37, .int (nI c), .int sd, .int (nI f), .int (nI t), .int w, .int ah, .int yd, .int bd] (hk_h L m) none (hk_h L (hk_w (hk_w (hk_w (LVr (hk_w (tkr m q c f t n ah yd bd w (m 53 c) (bI (ngt (m 38) (m 39) n)) sd) 37 60 (nI (q + 1)))) 55 c 3) 56 c (nI t)) 57 c (nI n + ah + (yd + 109) / 110 + rm w 1000))) := by
  refine hk_ofWP (by decide) (by simp [Value.category]) (Nat.le_of_ble_eq_true rfl) ?_
  show hk_WP _ _ _ _ _ _ _ [some (.ref 37), some (.int (nI c)), some (.int sd), some (.int (nI f)), some (.int (nI t)), some (.int w), some (.int ah), some (.int yd), some (.int bd), none] [] _ _
  refine hk_aload_n dX10_drive_0 rfl rfl ?_
  refine gfX10_287 rfl dX10_drive_1 (hk_lt (by decide)) rfl rfl ?_
  rw [hq]
  refine hk_istore dX10_drive_4 (by decide) rfl ?_
  refine hk_aload_n dX10_drive_6 rfl rfl ?_
  refine gfX10_115 rfl dX10_drive_7 (hk_lt (by decide)) rfl rfl ?_
  refine hk_iload dX10_drive_10 rfl ?_
  refine hk_iload_n dX10_drive_12 rfl rfl ?_
  refine hk_isn dX10_drive_13 (by decide) (fun _ => rfl) rfl (by omega) (by decide) ?_
  refine hk_aload_n dX10_drive_14 rfl rfl ?_
  refine gfX10_118 rfl dX10_drive_15 (hk_lt (by decide)) rfl rfl ?_
  refine hk_iload dX10_drive_18 rfl ?_
  refine hk_iload_n dX10_drive_20 rfl rfl ?_
  refine hk_isn dX10_drive_21 (by decide) (fun _ => rfl) rfl (by omega) (by decide) ?_
  refine hk_aload_n dX10_drive_22 rfl rfl ?_
  refine gfX10_121 rfl dX10_drive_23 (hk_lt (by decide)) rfl rfl ?_
  refine hk_iload dX10_drive_26 rfl ?_
  refine hk_iload dX10_drive_28 rfl ?_
  refine hk_isn dX10_drive_30 (by decide) (fun _ => rfl) rfl (by omega) (by decide) ?_
  refine hk_aload_n dX10_drive_31 rfl rfl ?_
  refine gfX10_124 rfl dX10_drive_32 (hk_lt (by decide)) rfl rfl ?_
  refine hk_iload dX10_drive_35 rfl ?_
  refine hk_aload_n dX10_drive_37 rfl rfl ?_
  refine gfX10_194 rfl dX10_drive_38 (hk_lt (by decide)) rfl rfl ?_
  rw [show (hk_w (hk_w (hk_w m 73 q (nI c)) 74 q (nI f)) 75 q (nI t)) 37 0 = nI n by simp [hk_w, hn]]
  refine hk_isn dX10_drive_41 (by decide) (fun _ => rfl) rfl (by omega) (by decide) ?_
  refine hk_aload_n dX10_drive_42 rfl rfl ?_
  refine gfX10_127 rfl dX10_drive_43 (hk_lt (by decide)) rfl rfl ?_
  refine hk_iload dX10_drive_46 rfl ?_
  refine hk_aload_n dX10_drive_48 rfl rfl ?_
  refine gfX10_194 rfl dX10_drive_49 (hk_lt (by decide)) rfl rfl ?_
  rw [show (hk_w (hk_w (hk_w (hk_w m 73 q (nI c)) 74 q (nI f)) 75 q (nI t)) 76 q (nI n)) 37 0 = nI n by simp [hk_w, hn]]
  refine hk_iload dX10_drive_52 rfl ?_
  refine hk_iadd dX10_drive_54 ?_
  refine hk_isn dX10_drive_55 (by decide) (fun _ => rfl) rfl (by omega) (by decide) ?_
  refine hk_aload_n dX10_drive_56 rfl rfl ?_
  refine gfX10_130 rfl dX10_drive_57 (hk_lt (by decide)) rfl rfl ?_
  refine hk_iload dX10_drive_60 rfl ?_
  refine hk_aload_n dX10_drive_62 rfl rfl ?_
  refine gfX10_127 rfl dX10_drive_63 (hk_lt (by decide)) rfl rfl ?_
  refine hk_iload dX10_drive_66 rfl ?_
  refine hk_ian dX10_drive_68 (by decide) (fun _ => rfl) rfl (by omega) (by decide) ?_
  rw [show (hk_w (hk_w (hk_w (hk_w (hk_w m 73 q (nI c)) 74 q (nI f)) 75 q (nI t)) 76 q (nI n)) 77 q (nI n + ah)) 77 q = nI n + ah by rw [hk_w_eq]]
  refine hk_iload dX10_drive_69 rfl ?_
  refine ivX10_277 rfl (md_minutesOf _) dX10_drive_71 rfl rfl (by decide) ⟨by decide, by decide⟩ (Nat.le_of_ble_eq_true rfl) (hk_kd ?_)
  refine hk_iadd dX10_drive_74 ?_
  refine hk_iload dX10_drive_75 rfl ?_
  refine hk_sipush (v := 1000) dX10_drive_77 (by decide) ?_
  refine hk_irem dX10_drive_80 (by decide) ?_
  refine hk_iadd dX10_drive_81 ?_
  refine hk_isn dX10_drive_82 (by decide) (fun _ => rfl) rfl (by omega) (by decide) ?_
  refine hk_aload_n dX10_drive_83 rfl rfl ?_
  refine gfX10_133 rfl dX10_drive_84 (hk_lt (by decide)) rfl rfl ?_
  refine hk_iload dX10_drive_87 rfl ?_
  refine hk_iload dX10_drive_89 rfl ?_
  refine hk_isn dX10_drive_91 (by decide) (fun _ => rfl) rfl (by omega) (by decide) ?_
  refine hk_aload_n dX10_drive_92 rfl rfl ?_
  refine gfX10_136 rfl dX10_drive_93 (hk_lt (by decide)) rfl rfl ?_
  refine hk_iload dX10_drive_96 rfl ?_
  refine hk_iload dX10_drive_98 rfl ?_
  refine hk_isn dX10_drive_100 (by decide) (fun _ => rfl) rfl (by omega) (by decide) ?_
  refine hk_aload_n dX10_drive_101 rfl rfl ?_
  refine gfX10_139 rfl dX10_drive_102 (hk_lt (by decide)) rfl rfl ?_
  refine hk_iload dX10_drive_105 rfl ?_
  refine hk_iload dX10_drive_107 rfl ?_
  refine hk_sipush (v := 1000) dX10_drive_109 (by decide) ?_
  refine hk_idiv dX10_drive_112 (by decide) ?_
  refine hk_isn dX10_drive_113 (by decide) (fun _ => rfl) rfl (by omega) (by decide) ?_
  refine hk_aload_n dX10_drive_114 rfl rfl ?_
  refine gfX10_142 rfl dX10_drive_115 (hk_lt (by decide)) rfl rfl ?_
  refine hk_iload dX10_drive_118 rfl ?_
  refine hk_iload dX10_drive_120 rfl ?_
  refine hk_sipush (v := 1000) dX10_drive_122 (by decide) ?_
  refine hk_irem dX10_drive_125 (by decide) ?_
  refine hk_isn dX10_drive_126 (by decide) (fun _ => rfl) rfl (by omega) (by decide) ?_
  refine hk_aload_n dX10_drive_127 rfl rfl ?_
  refine gfX10_145 rfl dX10_drive_128 (hk_lt (by decide)) rfl rfl ?_
  refine hk_iload dX10_drive_131 rfl ?_
  refine hk_aload_n dX10_drive_133 rfl rfl ?_
  refine gfX10_55 rfl dX10_drive_134 (hk_lt (by decide)) rfl rfl ?_
  refine hk_iload_n dX10_drive_137 rfl rfl ?_
  refine hk_ian dX10_drive_138 (by decide) (fun _ => rfl) rfl (by omega) (by decide) ?_
  rw [show (hk_w (hk_w (hk_w (hk_w (hk_w (hk_w (hk_w (hk_w (hk_w (hk_w m 73 q (nI c)) 74 q (nI f)) 75 q (nI t)) 76 q (nI n)) 77 q (nI n + ah)) 78 q (nI n + ah + (yd + 109) / 110 + rm w 1000)) 79 q yd) 80 q bd) 81 q (w / 1000)) 82 q (rm w 1000)) 53 c = m 53 c by simp [hk_w]]
  refine hk_isn dX10_drive_139 (by decide) (fun _ => rfl) rfl (by omega) (by decide) ?_
  refine hk_aload_n dX10_drive_140 rfl rfl ?_
  refine gfX10_148 rfl dX10_drive_141 (hk_lt (by decide)) rfl rfl ?_
  refine hk_iload dX10_drive_144 rfl ?_
  refine hk_aload_n dX10_drive_146 rfl rfl ?_
  refine hk_aload_n dX10_drive_147 rfl rfl ?_
  refine gfX10_194 rfl dX10_drive_148 (hk_lt (by decide)) rfl rfl ?_
  rw [show (hk_w (hk_w (hk_w (hk_w (hk_w (hk_w (hk_w (hk_w (hk_w (hk_w (hk_w m 73 q (nI c)) 74 q (nI f)) 75 q (nI t)) 76 q (nI n)) 77 q (nI n + ah)) 78 q (nI n + ah + (yd + 109) / 110 + rm w 1000)) 79 q yd) 80 q bd) 81 q (w / 1000)) 82 q (rm w 1000)) 83 q (m 53 c)) 37 0 = nI n by simp [hk_w, hn]]
  refine ivX10_223 rfl (md_isNight (m := (hk_w (hk_w (hk_w (hk_w (hk_w (hk_w (hk_w (hk_w (hk_w (hk_w (hk_w m 73 q (nI c)) 74 q (nI f)) 75 q (nI t)) 76 q (nI n)) 77 q (nI n + ah)) 78 q (nI n + ah + (yd + 109) / 110 + rm w 1000)) 79 q yd) 80 q bd) 81 q (w / 1000)) 82 q (rm w 1000)) 83 q (m 53 c))) hn7) dX10_drive_151 (hk_lt (by decide)) rfl rfl rfl (by decide) ⟨by decide, by decide⟩ (Nat.le_of_ble_eq_true rfl) (hk_kd ?_)
  rw [show (hk_w (hk_w (hk_w (hk_w (hk_w (hk_w (hk_w (hk_w (hk_w (hk_w (hk_w m 73 q (nI c)) 74 q (nI f)) 75 q (nI t)) 76 q (nI n)) 77 q (nI n + ah)) 78 q (nI n + ah + (yd + 109) / 110 + rm w 1000)) 79 q yd) 80 q bd) 81 q (w / 1000)) 82 q (rm w 1000)) 83 q (m 53 c)) 38 = m 38 by simp [hk_w], show (hk_w (hk_w (hk_w (hk_w (hk_w (hk_w (hk_w (hk_w (hk_w (hk_w (hk_w m 73 q (nI c)) 74 q (nI f)) 75 q (nI t)) 76 q (nI n)) 77 q (nI n + ah)) 78 q (nI n + ah + (yd + 109) / 110 + rm w 1000)) 79 q yd) 80 q bd) 81 q (w / 1000)) 82 q (rm w 1000)) 83 q (m 53 c)) 39 = m 39 by simp [hk_w]]
  refine hk_zsn bI_nar dX10_drive_154 (by decide) (fun _ => rfl) rfl (by omega) (by decide) ?_
  refine hk_aload_n dX10_drive_155 rfl rfl ?_
  refine gfX10_152 rfl dX10_drive_156 (hk_lt (by decide)) rfl rfl ?_
  refine hk_iload dX10_drive_159 rfl ?_
  refine hk_iload_n dX10_drive_161 rfl rfl ?_
  refine hk_isn dX10_drive_162 (by decide) (fun _ => rfl) rfl (by omega) (by decide) ?_
  refine hk_aload_n dX10_drive_163 rfl rfl ?_
  refine hk_dup dX10_drive_164 rfl ?_
  refine gfX10_287 rfl dX10_drive_165 (hk_lt (by decide)) rfl rfl ?_
  refine hk_iconst (v := 1) dX10_drive_168 (by decide) ?_
  refine hk_iadd dX10_drive_169 ?_
  rw [show (hk_w (hk_w (hk_w (hk_w (hk_w (hk_w (hk_w (hk_w (hk_w (hk_w (hk_w (hk_w (hk_w m 73 q (nI c)) 74 q (nI f)) 75 q (nI t)) 76 q (nI n)) 77 q (nI n + ah)) 78 q (nI n + ah + (yd + 109) / 110 + rm w 1000)) 79 q yd) 80 q bd) 81 q (w / 1000)) 82 q (rm w 1000)) 83 q (m 53 c)) 84 q (bI (ngt (m 38) (m 39) n))) 85 q sd) 37 60 + 1 = nI (q + 1) by simp [hk_w, hq, nI_1]]
  refine pfX10_287 rfl dX10_drive_170 (hk_lt (by decide)) rfl (Nat.le_of_ble_eq_true rfl) (hk_st (j := 60) rfl ?_)
  refine hk_aload_n dX10_drive_173 rfl rfl ?_
  refine hk_iload_n dX10_drive_174 rfl rfl ?_
  refine ivX10_273 rfl (lv (hk_w (hk_w (hk_w (hk_w (hk_w (hk_w (hk_w (hk_w (hk_w (hk_w (hk_w (hk_w (hk_w (hk_w m 73 q (nI c)) 74 q (nI f)) 75 q (nI t)) 76 q (nI n)) 77 q (nI n + ah)) 78 q (nI n + ah + (yd + 109) / 110 + rm w 1000)) 79 q yd) 80 q bd) 81 q (w / 1000)) 82 q (rm w 1000)) 83 q (m 53 c)) 84 q (bI (ngt (m 38) (m 39) n))) 85 q sd) 37 60 (nI (q + 1))) (by simp [hk_w, upd]) (by simp [hk_w]) (by simp [hk_w])) dX10_drive_175 (hk_lt (by decide)) rfl rfl rfl (by decide) ⟨by decide, by decide⟩ (Nat.le_of_ble_eq_true rfl) (hk_kv ?_)
  refine hk_aload_n dX10_drive_178 rfl rfl ?_
  refine gfX10_61 rfl dX10_drive_179 (hk_lt (by decide)) rfl rfl ?_
  refine hk_iload_n dX10_drive_182 rfl rfl ?_
  refine hk_iconst (v := 3) dX10_drive_183 (by decide) ?_
  refine hk_isn dX10_drive_184 (by decide) (fun _ => rfl) rfl (by omega) (by decide) ?_
  refine hk_aload_n dX10_drive_185 rfl rfl ?_
  refine gfX10_64 rfl dX10_drive_186 (hk_lt (by decide)) rfl rfl ?_
  refine hk_iload_n dX10_drive_189 rfl rfl ?_
  refine hk_iload dX10_drive_190 rfl ?_
  refine hk_isn dX10_drive_192 (by decide) (fun _ => rfl) rfl (by omega) (by decide) ?_
  refine hk_aload_n dX10_drive_193 rfl rfl ?_
  refine gfX10_67 rfl dX10_drive_194 (hk_lt (by decide)) rfl rfl ?_
  refine hk_iload_n dX10_drive_197 rfl rfl ?_
  refine hk_aload_n dX10_drive_198 rfl rfl ?_
  refine gfX10_130 rfl dX10_drive_199 (hk_lt (by decide)) rfl rfl ?_
  refine hk_iload dX10_drive_202 rfl ?_
  refine hk_ian dX10_drive_204 (by decide) (fun _ => rfl) rfl (by omega) (by decide) ?_
  rw [show hk_w (hk_w (LVr (hk_w (hk_w (hk_w (hk_w (hk_w (hk_w (hk_w (hk_w (hk_w (hk_w (hk_w (hk_w (hk_w (hk_w m 73 q (nI c)) 74 q (nI f)) 75 q (nI t)) 76 q (nI n)) 77 q (nI n + ah)) 78 q (nI n + ah + (yd + 109) / 110 + rm w 1000)) 79 q yd) 80 q bd) 81 q (w / 1000)) 82 q (rm w 1000)) 83 q (m 53 c)) 84 q (bI (ngt (m 38) (m 39) n))) 85 q sd) 37 60 (nI (q + 1)))) 55 c 3) 56 c (nI t) 78 q = nI n + ah + (yd + 109) / 110 + rm w 1000 by rw [hk_wo (by decide), hk_wo (by decide), lf _ 78 (by decide) (by decide)]; simp [hk_w, upd]]
  refine hk_isn dX10_drive_205 (by decide) (fun _ => rfl) rfl (by omega) (by decide) ?_
  exact hk_return dX10_drive_206 rfl (by decide) ⟨rfl, rfl⟩
end CJz
