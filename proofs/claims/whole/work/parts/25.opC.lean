section OC
variable {L : Nat} {m : Nat → Nat → Int32} {z : Nat → Nat}
set_option maxRecDepth 20000 in
set_option maxHeartbeats 2000000 in
theorem lp_fitsPlate0 (u v k w : Int32) (i : Nat) (hi : i ≤ 4) : hk_WP MX10_fitsPlate 0 0 0 0 0 11 [some (.ref 37), some (.int u), some (.int v), some (.int 0), some (.int k), some (.int w), some (.int (nI i))] [] (hk_h L m) (fun r h' => r = some (.int 0) ∧ h' = hk_h L m) := by
  refine hk_iload dX10_fitsPlate_11 rfl ?_
  refine hk_iconst (v := 4) dX10_fitsPlate_13 (by decide) ?_
  refine hk_icmp_ge (tgt := 70) dX10_fitsPlate_14 (by decide) (fun c14 => ?_) (fun c14 => ?_)
  · rw [show (4 : Int32) = nI 4 from rfl, nI_leI (by omega) (by omega)] at c14
    refine hk_iload_n dX10_fitsPlate_70 rfl rfl ?_
    exact hk_ireturn dX10_fitsPlate_71 rfl rfl (by decide) ⟨rfl, rfl⟩
  · rw [show (4 : Int32) = nI 4 from rfl, nI_leI (by omega) (by omega)] at c14
    refine hk_iload_n dX10_fitsPlate_17 rfl rfl ?_
    refine hk_if_eq (tgt := 48) dX10_fitsPlate_18 (by decide) (fun _ => ?_) (fun c18 => absurd rfl c18)
    refine hk_iconst (v := 0) dX10_fitsPlate_48 (by decide) ?_
    refine hk_istore_n dX10_fitsPlate_49 rfl (by decide) rfl ?_
    refine hk_iload dX10_fitsPlate_50 rfl ?_
    refine hk_bipush (v := 11) dX10_fitsPlate_52 (by decide) ?_
    refine hk_idiv dX10_fitsPlate_54 (by decide) ?_
    refine hk_istore dX10_fitsPlate_55 (by decide) rfl ?_
    refine hk_iload dX10_fitsPlate_57 rfl ?_
    refine hk_bipush (v := 10) dX10_fitsPlate_59 (by decide) ?_
    refine hk_idiv dX10_fitsPlate_61 (by decide) ?_
    refine hk_istore dX10_fitsPlate_62 (by decide) rfl ?_
    refine hk_iinc (v := nI (i + 1)) dX10_fitsPlate_64 rfl (nI_1 i) (by decide) rfl ?_
    refine hk_goto (tgt := 11) dX10_fitsPlate_67 (by decide) ?_
    have hlt : i < 4 := by omega
    exact lp_fitsPlate0 u v (k / 11) (w / 10) (i + 1) (by omega)
termination_by 4 - i
decreasing_by all_goals omega
set_option maxRecDepth 20000 in
set_option maxHeartbeats 2000000 in
theorem lp_fitsPlate (u v k w : Int32) (i : Nat) (hi : i ≤ 4) : hk_WP MX10_fitsPlate 0 0 0 0 0 11 [some (.ref 37), some (.int u), some (.int v), some (.int 1), some (.int k), some (.int w), some (.int (nI i))] [] (hk_h L m) (fun r h' => r = some (.int (bI (fp (4 - i) k w))) ∧ h' = hk_h L m) := by
  refine hk_iload dX10_fitsPlate_11 rfl ?_
  refine hk_iconst (v := 4) dX10_fitsPlate_13 (by decide) ?_
  refine hk_icmp_ge (tgt := 70) dX10_fitsPlate_14 (by decide) (fun c14 => ?_) (fun c14 => ?_)
  · rw [show (4 : Int32) = nI 4 from rfl, nI_leI (by omega) (by omega)] at c14
    refine hk_iload_n dX10_fitsPlate_70 rfl rfl ?_
    exact hk_ireturn dX10_fitsPlate_71 rfl rfl (by decide) ⟨bI_r1 (by rw [show 4 - i = 0 by omega]; trivial), rfl⟩
  · rw [show (4 : Int32) = nI 4 from rfl, nI_leI (by omega) (by omega)] at c14
    refine hk_iload_n dX10_fitsPlate_17 rfl rfl ?_
    refine hk_if_eq (tgt := 48) dX10_fitsPlate_18 (by decide) (fun c18 => absurd c18 (by decide)) (fun _ => ?_)
    refine hk_iload dX10_fitsPlate_21 rfl ?_
    refine hk_bipush (v := 11) dX10_fitsPlate_23 (by decide) ?_
    refine hk_irem dX10_fitsPlate_25 (by decide) ?_
    refine hk_bipush (v := 10) dX10_fitsPlate_26 (by decide) ?_
    refine hk_icmp_eq (tgt := 44) dX10_fitsPlate_28 (by decide) (fun c28 => ?_) (fun c28 => ?_)
    · refine hk_iconst (v := 1) dX10_fitsPlate_44 (by decide) ?_
      refine hk_goto (tgt := 49) dX10_fitsPlate_45 (by decide) ?_
      refine hk_istore_n dX10_fitsPlate_49 rfl (by decide) rfl ?_
      refine hk_iload dX10_fitsPlate_50 rfl ?_
      refine hk_bipush (v := 11) dX10_fitsPlate_52 (by decide) ?_
      refine hk_idiv dX10_fitsPlate_54 (by decide) ?_
      refine hk_istore dX10_fitsPlate_55 (by decide) rfl ?_
      refine hk_iload dX10_fitsPlate_57 rfl ?_
      refine hk_bipush (v := 10) dX10_fitsPlate_59 (by decide) ?_
      refine hk_idiv dX10_fitsPlate_61 (by decide) ?_
      refine hk_istore dX10_fitsPlate_62 (by decide) rfl ?_
      refine hk_iinc (v := nI (i + 1)) dX10_fitsPlate_64 rfl (nI_1 i) (by decide) rfl ?_
      refine hk_goto (tgt := 11) dX10_fitsPlate_67 (by decide) ?_
      have hlt : i < 4 := by omega
      have e : 4 - i = (4 - (i + 1)) + 1 := by omega
      first
      | (have hs := lp_fitsPlate u v (k / 11) (w / 10) (i + 1) (by omega)
         rw [show bI (fp (4 - i) k w) = bI (fp (4 - (i + 1)) (k / 11) (w / 10)) from bI_c (by rw [e]; exact ⟨fun q => q.2, fun q => ⟨by first | exact Or.inl c28 | exact Or.inr (Classical.byContradiction (fun r => r c41)), q⟩⟩)]
         exact hs)
      | (have hs := lp_fitsPlate0 (L := L) (m := m) u v (k / 11) (w / 10) (i + 1) (by omega)
         rw [show bI (fp (4 - i) k w) = 0 from bI_f (by rw [e]; exact fun q => q.1.elim c28 c41)]
         exact hs)
    · refine hk_iload dX10_fitsPlate_31 rfl ?_
      refine hk_bipush (v := 11) dX10_fitsPlate_33 (by decide) ?_
      refine hk_irem dX10_fitsPlate_35 (by decide) ?_
      refine hk_iload dX10_fitsPlate_36 rfl ?_
      refine hk_bipush (v := 10) dX10_fitsPlate_38 (by decide) ?_
      refine hk_irem dX10_fitsPlate_40 (by decide) ?_
      refine hk_icmp_ne (tgt := 48) dX10_fitsPlate_41 (by decide) (fun c41 => ?_) (fun c41 => ?_)
      · refine hk_iconst (v := 0) dX10_fitsPlate_48 (by decide) ?_
        refine hk_istore_n dX10_fitsPlate_49 rfl (by decide) rfl ?_
        refine hk_iload dX10_fitsPlate_50 rfl ?_
        refine hk_bipush (v := 11) dX10_fitsPlate_52 (by decide) ?_
        refine hk_idiv dX10_fitsPlate_54 (by decide) ?_
        refine hk_istore dX10_fitsPlate_55 (by decide) rfl ?_
        refine hk_iload dX10_fitsPlate_57 rfl ?_
        refine hk_bipush (v := 10) dX10_fitsPlate_59 (by decide) ?_
        refine hk_idiv dX10_fitsPlate_61 (by decide) ?_
        refine hk_istore dX10_fitsPlate_62 (by decide) rfl ?_
        refine hk_iinc (v := nI (i + 1)) dX10_fitsPlate_64 rfl (nI_1 i) (by decide) rfl ?_
        refine hk_goto (tgt := 11) dX10_fitsPlate_67 (by decide) ?_
        have hlt : i < 4 := by omega
        have e : 4 - i = (4 - (i + 1)) + 1 := by omega
        first
        | (have hs := lp_fitsPlate u v (k / 11) (w / 10) (i + 1) (by omega)
           rw [show bI (fp (4 - i) k w) = bI (fp (4 - (i + 1)) (k / 11) (w / 10)) from bI_c (by rw [e]; exact ⟨fun q => q.2, fun q => ⟨by first | exact Or.inl c28 | exact Or.inr (Classical.byContradiction (fun r => r c41)), q⟩⟩)]
           exact hs)
        | (have hs := lp_fitsPlate0 (L := L) (m := m) u v (k / 11) (w / 10) (i + 1) (by omega)
           rw [show bI (fp (4 - i) k w) = 0 from bI_f (by rw [e]; exact fun q => q.1.elim c28 c41)]
           exact hs)
      · refine hk_iconst (v := 1) dX10_fitsPlate_44 (by decide) ?_
        refine hk_goto (tgt := 49) dX10_fitsPlate_45 (by decide) ?_
        refine hk_istore_n dX10_fitsPlate_49 rfl (by decide) rfl ?_
        refine hk_iload dX10_fitsPlate_50 rfl ?_
        refine hk_bipush (v := 11) dX10_fitsPlate_52 (by decide) ?_
        refine hk_idiv dX10_fitsPlate_54 (by decide) ?_
        refine hk_istore dX10_fitsPlate_55 (by decide) rfl ?_
        refine hk_iload dX10_fitsPlate_57 rfl ?_
        refine hk_bipush (v := 10) dX10_fitsPlate_59 (by decide) ?_
        refine hk_idiv dX10_fitsPlate_61 (by decide) ?_
        refine hk_istore dX10_fitsPlate_62 (by decide) rfl ?_
        refine hk_iinc (v := nI (i + 1)) dX10_fitsPlate_64 rfl (nI_1 i) (by decide) rfl ?_
        refine hk_goto (tgt := 11) dX10_fitsPlate_67 (by decide) ?_
        have hlt : i < 4 := by omega
        have e : 4 - i = (4 - (i + 1)) + 1 := by omega
        first
        | (have hs := lp_fitsPlate u v (k / 11) (w / 10) (i + 1) (by omega)
           rw [show bI (fp (4 - i) k w) = bI (fp (4 - (i + 1)) (k / 11) (w / 10)) from bI_c (by rw [e]; exact ⟨fun q => q.2, fun q => ⟨by first | exact Or.inl c28 | exact Or.inr (Classical.byContradiction (fun r => r c41)), q⟩⟩)]
           exact hs)
        | (have hs := lp_fitsPlate0 (L := L) (m := m) u v (k / 11) (w / 10) (i + 1) (by omega)
           rw [show bI (fp (4 - i) k w) = 0 from bI_f (by rw [e]; exact fun q => q.1.elim c28 c41)]
           exact hs)
termination_by 4 - i
decreasing_by all_goals omega
set_option maxRecDepth 20000 in
set_option maxHeartbeats 2000000 in
theorem md_fitsPlate (k v : Int32) : hk_Cd MX10_fitsPlate 0 0 0 [.ref 37, .int k, .int v] (hk_h L m) (some (.int (bI (fp 4 k v)))) (hk_h L m) := by
  refine hk_ofWP (by decide) (by simp [Value.category]) (Nat.le_of_ble_eq_true rfl) ?_
  show hk_WP _ _ _ _ _ _ _ [some (.ref 37), some (.int k), some (.int v), none, none, none, none] [] _ _
  refine hk_iconst (v := 1) dX10_fitsPlate_0 (by decide) ?_
  refine hk_istore_n dX10_fitsPlate_1 rfl (by decide) rfl ?_
  refine hk_iload_n dX10_fitsPlate_2 rfl rfl ?_
  refine hk_istore dX10_fitsPlate_3 (by decide) rfl ?_
  refine hk_iload_n dX10_fitsPlate_5 rfl rfl ?_
  refine hk_istore dX10_fitsPlate_6 (by decide) rfl ?_
  refine hk_iconst (v := 0) dX10_fitsPlate_8 (by decide) ?_
  refine hk_istore dX10_fitsPlate_9 (by decide) rfl ?_
  exact lp_fitsPlate k v k v 0 (by omega)
set_option maxRecDepth 20000 in
set_option maxHeartbeats 2000000 in
theorem lp_fit {nT : Nat} (hT : m 37 60 = nI nT) (hT3 : nT ≤ 300) {l f k nL : Nat} (hl : l < nL) (hL : nL ≤ 60) (i : Nat) (hi : i ≤ nT) : hk_WP MX10_fit 1 0 0 0 0 64 [some (.ref 37), some (.int (nI l)), some (.int (nI f)), some (.int (nI k)), some (.int (bI (∃ u, u < i ∧ (fun t => m 73 t = nI k ∧ m 76 t ≤ m 95 l ∧ ¬ m 78 t ≤ m 94 l) u))), some (.int (nI i))] [] (hk_h L m) (fun r h' => r = some (.int (bI (∃ u, u < nT ∧ (fun t => m 73 t = nI k ∧ m 76 t ≤ m 95 l ∧ ¬ m 78 t ≤ m 94 l) u))) ∧ h' = hk_h L m) := by
  refine hk_iload dX10_fit_64 rfl ?_
  refine hk_aload_n dX10_fit_66 rfl rfl ?_
  refine gfX10_287 rfl dX10_fit_67 (hk_lt (by decide)) rfl rfl ?_
  refine hk_icmp_ge (tgt := 134) dX10_fit_70 (by decide) (fun c70 => ?_) (fun c70 => ?_)
  · rw [hT, nI_leI (by omega) (by omega)] at c70
    refine hk_iload dX10_fit_134 rfl ?_
    exact hk_ireturn dX10_fit_136 rfl bI_nar (by decide) ⟨by rw [show i = nT by omega], rfl⟩
  · rw [hT, nI_leI (by omega) (by omega)] at c70
    refine hk_iload dX10_fit_73 rfl ?_
    refine hk_if_ne (tgt := 121) dX10_fit_75 (by decide) (fun c75 => ?_) (fun c75 => ?_)
    · rw [bI_0] at c75
      refine hk_iconst (v := 1) dX10_fit_121 (by decide) ?_
      refine hk_goto (tgt := 126) dX10_fit_122 (by decide) ?_
      refine hk_istore dX10_fit_126 (by decide) rfl ?_
      refine hk_iinc (v := nI (i + 1)) dX10_fit_128 rfl (nI_1 i) (by decide) rfl ?_
      refine hk_goto (tgt := 64) dX10_fit_131 (by decide) ?_
      have hlt : i < nT := by omega
      have hs := lp_fit hT hT3 (f := f) (k := k) hl hL (i + 1) (by omega)
      first
      | (rw [bI_t (P := ∃ u, u < i + 1 ∧ (fun t => m 73 t = nI k ∧ m 76 t ≤ m 95 l ∧ ¬ m 78 t ≤ m 94 l) u) (exS.mpr (Or.inl (Classical.not_not.mp c75)))] at hs; exact hs)
      | (rw [bI_t (P := ∃ u, u < i + 1 ∧ (fun t => m 73 t = nI k ∧ m 76 t ≤ m 95 l ∧ ¬ m 78 t ≤ m 94 l) u) (exS.mpr (Or.inr (by grind)))] at hs; exact hs)
      | (rw [bI_f (P := ∃ u, u < i + 1 ∧ (fun t => m 73 t = nI k ∧ m 76 t ≤ m 95 l ∧ ¬ m 78 t ≤ m 94 l) u) (fun q => (exS.mp q).elim (Classical.byContradiction (fun r => by grind)) (by grind))] at hs; exact hs)
    · rw [bI_0] at c75
      refine hk_aload_n dX10_fit_78 rfl rfl ?_
      refine gfX10_115 rfl dX10_fit_79 (hk_lt (by decide)) rfl rfl ?_
      refine hk_iload dX10_fit_82 rfl ?_
      refine hk_ian dX10_fit_84 (by decide) (fun _ => rfl) rfl (by omega) (by decide) ?_
      refine hk_iload_n dX10_fit_85 rfl rfl ?_
      refine hk_icmp_ne (tgt := 125) dX10_fit_86 (by decide) (fun c86 => ?_) (fun c86 => ?_)
      · refine hk_iconst (v := 0) dX10_fit_125 (by decide) ?_
        refine hk_istore dX10_fit_126 (by decide) rfl ?_
        refine hk_iinc (v := nI (i + 1)) dX10_fit_128 rfl (nI_1 i) (by decide) rfl ?_
        refine hk_goto (tgt := 64) dX10_fit_131 (by decide) ?_
        have hlt : i < nT := by omega
        have hs := lp_fit hT hT3 (f := f) (k := k) hl hL (i + 1) (by omega)
        first
        | (rw [bI_t (P := ∃ u, u < i + 1 ∧ (fun t => m 73 t = nI k ∧ m 76 t ≤ m 95 l ∧ ¬ m 78 t ≤ m 94 l) u) (exS.mpr (Or.inl (Classical.not_not.mp c75)))] at hs; exact hs)
        | (rw [bI_t (P := ∃ u, u < i + 1 ∧ (fun t => m 73 t = nI k ∧ m 76 t ≤ m 95 l ∧ ¬ m 78 t ≤ m 94 l) u) (exS.mpr (Or.inr (by grind)))] at hs; exact hs)
        | (rw [bI_f (P := ∃ u, u < i + 1 ∧ (fun t => m 73 t = nI k ∧ m 76 t ≤ m 95 l ∧ ¬ m 78 t ≤ m 94 l) u) (fun q => (exS.mp q).elim (Classical.byContradiction (fun r => by grind)) (by grind))] at hs; exact hs)
      · refine hk_aload_n dX10_fit_89 rfl rfl ?_
        refine gfX10_124 rfl dX10_fit_90 (hk_lt (by decide)) rfl rfl ?_
        refine hk_iload dX10_fit_93 rfl ?_
        refine hk_ian dX10_fit_95 (by decide) (fun _ => rfl) rfl (by omega) (by decide) ?_
        refine hk_aload_n dX10_fit_96 rfl rfl ?_
        refine gfX10_182 rfl dX10_fit_97 (hk_lt (by decide)) rfl rfl ?_
        refine hk_iload_n dX10_fit_100 rfl rfl ?_
        refine hk_ian dX10_fit_101 (by decide) (fun _ => rfl) rfl (by omega) (by decide) ?_
        refine hk_icmp_gt (tgt := 125) dX10_fit_102 (by decide) (fun c102 => ?_) (fun c102 => ?_)
        · refine hk_iconst (v := 0) dX10_fit_125 (by decide) ?_
          refine hk_istore dX10_fit_126 (by decide) rfl ?_
          refine hk_iinc (v := nI (i + 1)) dX10_fit_128 rfl (nI_1 i) (by decide) rfl ?_
          refine hk_goto (tgt := 64) dX10_fit_131 (by decide) ?_
          have hlt : i < nT := by omega
          have hs := lp_fit hT hT3 (f := f) (k := k) hl hL (i + 1) (by omega)
          first
          | (rw [bI_t (P := ∃ u, u < i + 1 ∧ (fun t => m 73 t = nI k ∧ m 76 t ≤ m 95 l ∧ ¬ m 78 t ≤ m 94 l) u) (exS.mpr (Or.inl (Classical.not_not.mp c75)))] at hs; exact hs)
          | (rw [bI_t (P := ∃ u, u < i + 1 ∧ (fun t => m 73 t = nI k ∧ m 76 t ≤ m 95 l ∧ ¬ m 78 t ≤ m 94 l) u) (exS.mpr (Or.inr (by grind)))] at hs; exact hs)
          | (rw [bI_f (P := ∃ u, u < i + 1 ∧ (fun t => m 73 t = nI k ∧ m 76 t ≤ m 95 l ∧ ¬ m 78 t ≤ m 94 l) u) (fun q => (exS.mp q).elim (Classical.byContradiction (fun r => by grind)) (by grind))] at hs; exact hs)
        · refine hk_aload_n dX10_fit_105 rfl rfl ?_
          refine gfX10_130 rfl dX10_fit_106 (hk_lt (by decide)) rfl rfl ?_
          refine hk_iload dX10_fit_109 rfl ?_
          refine hk_ian dX10_fit_111 (by decide) (fun _ => rfl) rfl (by omega) (by decide) ?_
          refine hk_aload_n dX10_fit_112 rfl rfl ?_
          refine gfX10_179 rfl dX10_fit_113 (hk_lt (by decide)) rfl rfl ?_
          refine hk_iload_n dX10_fit_116 rfl rfl ?_
          refine hk_ian dX10_fit_117 (by decide) (fun _ => rfl) rfl (by omega) (by decide) ?_
          refine hk_icmp_le (tgt := 125) dX10_fit_118 (by decide) (fun c118 => ?_) (fun c118 => ?_)
          · refine hk_iconst (v := 0) dX10_fit_125 (by decide) ?_
            refine hk_istore dX10_fit_126 (by decide) rfl ?_
            refine hk_iinc (v := nI (i + 1)) dX10_fit_128 rfl (nI_1 i) (by decide) rfl ?_
            refine hk_goto (tgt := 64) dX10_fit_131 (by decide) ?_
            have hlt : i < nT := by omega
            have hs := lp_fit hT hT3 (f := f) (k := k) hl hL (i + 1) (by omega)
            first
            | (rw [bI_t (P := ∃ u, u < i + 1 ∧ (fun t => m 73 t = nI k ∧ m 76 t ≤ m 95 l ∧ ¬ m 78 t ≤ m 94 l) u) (exS.mpr (Or.inl (Classical.not_not.mp c75)))] at hs; exact hs)
            | (rw [bI_t (P := ∃ u, u < i + 1 ∧ (fun t => m 73 t = nI k ∧ m 76 t ≤ m 95 l ∧ ¬ m 78 t ≤ m 94 l) u) (exS.mpr (Or.inr (by grind)))] at hs; exact hs)
            | (rw [bI_f (P := ∃ u, u < i + 1 ∧ (fun t => m 73 t = nI k ∧ m 76 t ≤ m 95 l ∧ ¬ m 78 t ≤ m 94 l) u) (fun q => (exS.mp q).elim (Classical.byContradiction (fun r => by grind)) (by grind))] at hs; exact hs)
          · refine hk_iconst (v := 1) dX10_fit_121 (by decide) ?_
            refine hk_goto (tgt := 126) dX10_fit_122 (by decide) ?_
            refine hk_istore dX10_fit_126 (by decide) rfl ?_
            refine hk_iinc (v := nI (i + 1)) dX10_fit_128 rfl (nI_1 i) (by decide) rfl ?_
            refine hk_goto (tgt := 64) dX10_fit_131 (by decide) ?_
            have hlt : i < nT := by omega
            have hs := lp_fit hT hT3 (f := f) (k := k) hl hL (i + 1) (by omega)
            first
            | (rw [bI_t (P := ∃ u, u < i + 1 ∧ (fun t => m 73 t = nI k ∧ m 76 t ≤ m 95 l ∧ ¬ m 78 t ≤ m 94 l) u) (exS.mpr (Or.inl (Classical.not_not.mp c75)))] at hs; exact hs)
            | (rw [bI_t (P := ∃ u, u < i + 1 ∧ (fun t => m 73 t = nI k ∧ m 76 t ≤ m 95 l ∧ ¬ m 78 t ≤ m 94 l) u) (exS.mpr (Or.inr (by grind)))] at hs; exact hs)
            | (rw [bI_f (P := ∃ u, u < i + 1 ∧ (fun t => m 73 t = nI k ∧ m 76 t ≤ m 95 l ∧ ¬ m 78 t ≤ m 94 l) u) (fun q => (exS.mp q).elim (Classical.byContradiction (fun r => by grind)) (by grind))] at hs; exact hs)
termination_by nT - i
decreasing_by all_goals omega
set_option maxRecDepth 20000 in
set_option maxHeartbeats 2000000 in
theorem md_fit {nT : Nat} (hT : m 37 60 = nI nT) (hT3 : nT ≤ 300) {nL : Nat} (hL : m 37 73 = nI nL) (hL2 : nL ≤ 60) {nF : Nat} (hF : m 37 77 = nI nF) (hF2 : nF ≤ 60) {K : Nat} (hK30 : K ≤ 30) (hG : ∀ i, i < nF → ∃ k : Nat, m 97 i = nI k ∧ k < K) {l f : Nat} (hl : l < nL) (hf : f < nF) : hk_Cd MX10_fit 1 0 0 [.ref 37, .int (nI l), .int (nI f)] (hk_h L m) (some (.int (bI (FitM m nT l f)))) (hk_h L m) := by
  obtain ⟨k, ek, hk⟩ := hG f hf
  refine hk_ofWP (by decide) (by simp [Value.category]) (Nat.le_of_ble_eq_true rfl) ?_
  show hk_WP _ _ _ _ _ _ _ [some (.ref 37), some (.int (nI l)), some (.int (nI f)), none, none, none] [] _ _
  refine hk_aload_n dX10_fit_0 rfl rfl ?_
  refine gfX10_188 rfl dX10_fit_1 (hk_lt (by decide)) rfl rfl ?_
  refine hk_iload_n dX10_fit_4 rfl rfl ?_
  refine hk_ian dX10_fit_5 (by decide) (fun _ => rfl) rfl (by omega) (by decide) ?_
  rw [ek]
  refine hk_istore_n dX10_fit_6 rfl (by decide) rfl ?_
  refine hk_aload_n dX10_fit_7 rfl rfl ?_
  refine gfX10_173 rfl dX10_fit_8 (hk_lt (by decide)) rfl rfl ?_
  refine hk_iload_n dX10_fit_11 rfl rfl ?_
  refine hk_ian dX10_fit_12 (by decide) (fun _ => rfl) rfl (by omega) (by decide) ?_
  refine hk_aload_n dX10_fit_13 rfl rfl ?_
  refine gfX10_185 rfl dX10_fit_14 (hk_lt (by decide)) rfl rfl ?_
  refine hk_iload_n dX10_fit_17 rfl rfl ?_
  refine hk_ian dX10_fit_18 (by decide) (fun _ => rfl) rfl (by omega) (by decide) ?_
  refine hk_icmp_ne (tgt := 56) dX10_fit_19 (by decide) (fun c19 => ?_) (fun c19 => ?_)
  · refine hk_iconst (v := 0) dX10_fit_56 (by decide) ?_
    exact hk_ireturn dX10_fit_57 rfl rfl (by decide) ⟨by first | exact bI_r0 (by unfold FitM; exact fun q => c19 q.1) | exact bI_r0 (by unfold FitM; exact fun q => q.2.1 c34) | exact bI_r0 (by unfold FitM; rw [ek, nI_clamp (by omega)]; exact fun q => c53 q.2.2.1), rfl⟩
  · refine hk_aload_n dX10_fit_22 rfl rfl ?_
    refine gfX10_191 rfl dX10_fit_23 (hk_lt (by decide)) rfl rfl ?_
    refine hk_iload_n dX10_fit_26 rfl rfl ?_
    refine hk_ian dX10_fit_27 (by decide) (fun _ => rfl) rfl (by omega) (by decide) ?_
    refine hk_aload_n dX10_fit_28 rfl rfl ?_
    refine gfX10_179 rfl dX10_fit_29 (hk_lt (by decide)) rfl rfl ?_
    refine hk_iload_n dX10_fit_32 rfl rfl ?_
    refine hk_ian dX10_fit_33 (by decide) (fun _ => rfl) rfl (by omega) (by decide) ?_
    refine hk_icmp_lt (tgt := 56) dX10_fit_34 (by decide) (fun c34 => ?_) (fun c34 => ?_)
    · refine hk_iconst (v := 0) dX10_fit_56 (by decide) ?_
      exact hk_ireturn dX10_fit_57 rfl rfl (by decide) ⟨by first | exact bI_r0 (by unfold FitM; exact fun q => c19 q.1) | exact bI_r0 (by unfold FitM; exact fun q => q.2.1 c34) | exact bI_r0 (by unfold FitM; rw [ek, nI_clamp (by omega)]; exact fun q => c53 q.2.2.1), rfl⟩
    · refine hk_aload_n dX10_fit_37 rfl rfl ?_
      refine hk_aload_n dX10_fit_38 rfl rfl ?_
      refine gfX10_176 rfl dX10_fit_39 (hk_lt (by decide)) rfl rfl ?_
      refine hk_iload_n dX10_fit_42 rfl rfl ?_
      refine hk_ian dX10_fit_43 (by decide) (fun _ => rfl) rfl (by omega) (by decide) ?_
      refine hk_aload_n dX10_fit_44 rfl rfl ?_
      refine gfX10_49 rfl dX10_fit_45 (hk_lt (by decide)) rfl rfl ?_
      refine hk_iload_n dX10_fit_48 rfl rfl ?_
      refine hk_ian dX10_fit_49 (by decide) (fun _ => rfl) rfl (by omega) (by decide) ?_
      refine ivX10_407 rfl (md_fitsPlate _ _) dX10_fit_50 (hk_lt (by decide)) rfl rfl rfl (by decide) ⟨by decide, by decide⟩ (Nat.le_of_ble_eq_true rfl) (hk_kd ?_)
      refine hk_if_ne (tgt := 58) dX10_fit_53 (by decide) (fun c53 => ?_) (fun c53 => ?_)
      · rw [bI_0] at c53
        refine hk_iconst (v := 0) dX10_fit_58 (by decide) ?_
        refine hk_istore dX10_fit_59 (by decide) rfl ?_
        refine hk_iconst (v := 0) dX10_fit_61 (by decide) ?_
        refine hk_istore dX10_fit_62 (by decide) rfl ?_
        have hs := lp_fit (L := L) hT hT3 (f := f) (k := k) hl hL2 0 (Nat.zero_le _)
        rw [bI_f (P := ∃ u, u < 0 ∧ (fun t => m 73 t = nI k ∧ m 76 t ≤ m 95 l ∧ ¬ m 78 t ≤ m 94 l) u) (fun ⟨u, hu, _⟩ => absurd hu (Nat.not_lt_zero _))] at hs
        rw [show bI (FitM m nT l f) = bI (∃ u, u < nT ∧ (fun t => m 73 t = nI k ∧ m 76 t ≤ m 95 l ∧ ¬ m 78 t ≤ m 94 l) u) from bI_c (by unfold FitM; rw [ek, nI_clamp (by omega)]; exact ⟨fun q => q.2.2.2, fun q => ⟨c19, c34, Classical.not_not.mp c53, q⟩⟩)]
        exact hs
      · rw [bI_0] at c53
        refine hk_iconst (v := 0) dX10_fit_56 (by decide) ?_
        exact hk_ireturn dX10_fit_57 rfl rfl (by decide) ⟨by first | exact bI_r0 (by unfold FitM; exact fun q => c19 q.1) | exact bI_r0 (by unfold FitM; exact fun q => q.2.1 c34) | exact bI_r0 (by unfold FitM; rw [ek, nI_clamp (by omega)]; exact fun q => c53 q.2.2.1), rfl⟩
set_option maxRecDepth 20000 in
set_option maxHeartbeats 2000000 in
theorem lp_mfits {nT : Nat} (hT : m 37 60 = nI nT) (hT3 : nT ≤ 300) {nL : Nat} (hL : m 37 73 = nI nL) (hL2 : nL ≤ 60) {nF : Nat} (hF : m 37 77 = nI nF) (hF2 : nF ≤ 60) {K : Nat} (hK30 : K ≤ 30) (hG : ∀ i, i < nF → ∃ k : Nat, m 97 i = nI k ∧ k < K) {l : Nat} (hl : l < nL) (i : Nat) (hi : i ≤ nF) : hk_WP MX10_fits 2 0 0 0 0 18 [some (.ref 37), some (.int (nI l)), some (.int (nI (cn (fun f => FitM m nT l f) i))), some (.int (nI i))] [] (hk_h L m) (fun r h' => r = some (.int (nI (cn (fun f => FitM m nT l f) nF))) ∧ h' = hk_h L m) := by
  refine hk_iload_n dX10_fits_18 rfl rfl ?_
  refine hk_aload_n dX10_fits_19 rfl rfl ?_
  refine gfX10_404 rfl dX10_fits_20 (hk_lt (by decide)) rfl rfl ?_
  refine hk_icmp_ge (tgt := 49) dX10_fits_23 (by decide) (fun c23 => ?_) (fun c23 => ?_)
  · rw [hF, nI_leI (by omega) (by omega)] at c23
    refine hk_iload_n dX10_fits_49 rfl rfl ?_
    exact hk_ireturn dX10_fits_50 rfl rfl (by decide) ⟨by rw [show i = nF by omega], rfl⟩
  · rw [hF, nI_leI (by omega) (by omega)] at c23
    refine hk_iload_n dX10_fits_26 rfl rfl ?_
    refine hk_aload_n dX10_fits_27 rfl rfl ?_
    refine hk_iload_n dX10_fits_28 rfl rfl ?_
    refine hk_iload_n dX10_fits_29 rfl rfl ?_
    refine ivX10_410 rfl (md_fit hT hT3 hL hL2 hF hF2 hK30 hG hl (by omega)) dX10_fits_30 (hk_lt (by decide)) rfl rfl rfl (by decide) ⟨by decide, by decide⟩ (Nat.le_of_ble_eq_true rfl) (hk_kd ?_)
    refine hk_if_eq (tgt := 40) dX10_fits_33 (by decide) (fun c33 => ?_) (fun c33 => ?_)
    · rw [bI_0] at c33
      refine hk_iconst (v := 0) dX10_fits_40 (by decide) ?_
      refine hk_iadd dX10_fits_41 ?_
      refine hk_istore_n dX10_fits_42 rfl (by decide) rfl ?_
      refine hk_iinc (v := nI (i + 1)) dX10_fits_43 rfl (nI_1 i) (by decide) rfl ?_
      refine hk_goto (tgt := 18) dX10_fits_46 (by decide) ?_
      have hlt : i < nF := by omega
      have cF := c33
      have hs := lp_mfits hT hT3 hL hL2 hF hF2 hK30 hG hl (i + 1) (by omega)
      first | (rw [cn_y (p := fun f => FitM m nT l f) (n := i) (by first | exact Classical.not_not.mp cF | exact Classical.byContradiction cF), ← nI_1] at hs; exact hs) | (rw [cn_n (p := fun f => FitM m nT l f) (n := i) cF] at hs; simp only [Int32.add_zero]; exact hs)
    · rw [bI_0] at c33
      refine hk_iconst (v := 1) dX10_fits_36 (by decide) ?_
      refine hk_goto (tgt := 41) dX10_fits_37 (by decide) ?_
      refine hk_iadd dX10_fits_41 ?_
      refine hk_istore_n dX10_fits_42 rfl (by decide) rfl ?_
      refine hk_iinc (v := nI (i + 1)) dX10_fits_43 rfl (nI_1 i) (by decide) rfl ?_
      refine hk_goto (tgt := 18) dX10_fits_46 (by decide) ?_
      have hlt : i < nF := by omega
      have cF := c33
      have hs := lp_mfits hT hT3 hL hL2 hF hF2 hK30 hG hl (i + 1) (by omega)
      first | (rw [cn_y (p := fun f => FitM m nT l f) (n := i) (by first | exact Classical.not_not.mp cF | exact Classical.byContradiction cF), ← nI_1] at hs; exact hs) | (rw [cn_n (p := fun f => FitM m nT l f) (n := i) cF] at hs; simp only [Int32.add_zero]; exact hs)
termination_by nF - i
decreasing_by all_goals omega
set_option maxRecDepth 20000 in
set_option maxHeartbeats 2000000 in
theorem md_fits {nT : Nat} (hT : m 37 60 = nI nT) (hT3 : nT ≤ 300) {nL : Nat} (hL : m 37 73 = nI nL) (hL2 : nL ≤ 60) {nF : Nat} (hF : m 37 77 = nI nF) (hF2 : nF ≤ 60) {K : Nat} (hK30 : K ≤ 30) (hG : ∀ i, i < nF → ∃ k : Nat, m 97 i = nI k ∧ k < K) {l : Nat} (hl : l < nL) : hk_Cd MX10_fits 2 0 0 [.ref 37, .int (nI l)] (hk_h L m) (some (.int (nI (cn (fun f => FitM m nT l f) nF)))) (hk_h L m) := by
  refine hk_ofWP (by decide) (by simp [Value.category]) (Nat.le_of_ble_eq_true rfl) ?_
  show hk_WP _ _ _ _ _ _ _ [some (.ref 37), some (.int (nI l)), none, none] [] _ _
  refine hk_iload_n dX10_fits_0 rfl rfl ?_
  refine hk_if_lt (tgt := 12) dX10_fits_1 (by decide) (fun c1 => absurd c1 (nI_pos (by omega))) (fun _ => ?_)
  refine hk_iload_n dX10_fits_4 rfl rfl ?_
  refine hk_aload_n dX10_fits_5 rfl rfl ?_
  refine gfX10_401 rfl dX10_fits_6 (hk_lt (by decide)) rfl rfl ?_
  refine hk_icmp_lt (tgt := 14) dX10_fits_9 (by decide) (fun _ => ?_) (fun c9 => absurd (by rw [hL]; exact nI_lt hl (by omega)) c9)
  refine hk_iconst (v := 0) dX10_fits_14 (by decide) ?_
  refine hk_istore_n dX10_fits_15 rfl (by decide) rfl ?_
  refine hk_iconst (v := 0) dX10_fits_16 (by decide) ?_
  refine hk_istore_n dX10_fits_17 rfl (by decide) rfl ?_
  exact lp_mfits hT hT3 hL hL2 hF hF2 hK30 hG hl 0 (Nat.zero_le _)
set_option maxRecDepth 20000 in
set_option maxHeartbeats 2000000 in
theorem md_fits_no {nL : Nat} (hL : m 37 73 = nI nL) (hL2 : nL ≤ 60) (l : Int32) (h : ¬ inR l nL) : hk_Cd MX10_fits 2 0 0 [.ref 37, .int l] (hk_h L m) (some (.int (-1))) (hk_h L m) := by
  refine hk_ofWP (by decide) (by simp [Value.category]) (Nat.le_of_ble_eq_true rfl) ?_
  show hk_WP _ _ _ _ _ _ _ [some (.ref 37), some (.int l), none, none] [] _ _
  refine hk_iload_n dX10_fits_0 rfl rfl ?_
  refine hk_if_lt (tgt := 12) dX10_fits_1 (by decide) (fun c1 => ?_) (fun c1 => ?_)
  · refine hk_iconst (v := (-1)) dX10_fits_12 (by decide) ?_
    exact hk_ireturn dX10_fits_13 rfl rfl (by decide) ⟨rfl, rfl⟩
  · refine hk_iload_n dX10_fits_4 rfl rfl ?_
    refine hk_aload_n dX10_fits_5 rfl rfl ?_
    refine gfX10_401 rfl dX10_fits_6 (hk_lt (by decide)) rfl rfl ?_
    refine hk_icmp_lt (tgt := 14) dX10_fits_9 (by decide) (fun c9 => ?_) (fun c9 => ?_)
    · rw [hL] at c9
      exact absurd ⟨c1, Int32.not_le.mpr c9⟩ h
    · rw [hL] at c9
      refine hk_iconst (v := (-1)) dX10_fits_12 (by decide) ?_
      exact hk_ireturn dX10_fits_13 rfl rfl (by decide) ⟨rfl, rfl⟩
set_option maxRecDepth 20000 in
set_option maxHeartbeats 2000000 in
theorem lp_mjB {nT : Nat} (hT : m 37 60 = nI nT) (hT3 : nT ≤ 300) {nL : Nat} (hL : m 37 73 = nI nL) (hL2 : nL ≤ 60) {nF : Nat} (hF : m 37 77 = nI nF) (hF2 : nF ≤ 60) {K : Nat} (hK30 : K ≤ 30) (hG : ∀ i, i < nF → ∃ k : Nat, m 97 i = nI k ∧ k < K) {l f : Nat} (hl : l < nL) (hf : f < nF) (i : Nat) (hi : i ≤ nL) : hk_WP MX10_joined 3 0 0 0 0 48 [some (.ref 37), some (.int (nI l)), some (.int (nI f)), some (.int (nI (cn (fun l => FitM m nT l f) i))), some (.int (nI i))] [] (hk_h L m) (fun r h' => r = some (.int (cI (cn (fun l => FitM m nT l f) nL = 1) (nI f) (-9))) ∧ h' = hk_h L m) := by
  refine hk_iload dX10_joined_48 rfl ?_
  refine hk_aload_n dX10_joined_50 rfl rfl ?_
  refine gfX10_401 rfl dX10_joined_51 (hk_lt (by decide)) rfl rfl ?_
  refine hk_icmp_ge (tgt := 81) dX10_joined_54 (by decide) (fun c54 => ?_) (fun c54 => ?_)
  · rw [hL, nI_leI (by omega) (by omega)] at c54
    refine hk_iload_n dX10_joined_81 rfl rfl ?_
    refine hk_iconst (v := 1) dX10_joined_82 (by decide) ?_
    refine hk_icmp_ne (tgt := 90) dX10_joined_83 (by decide) (fun c83 => ?_) (fun c83 => ?_)
    · rw [show i = nL by omega, show (1 : Int32) = nI 1 from rfl, nI_eq (by have := cn_le (fun l => FitM m nT l f) nL; omega) (by decide)] at c83
      refine hk_bipush (v := (-9)) dX10_joined_90 (by decide) ?_
      exact hk_ireturn dX10_joined_92 rfl rfl (by decide) ⟨by first | exact cI_r1 c83 | exact cI_r0 c83, rfl⟩
    · rw [show i = nL by omega, show (1 : Int32) = nI 1 from rfl, nI_eq (by have := cn_le (fun l => FitM m nT l f) nL; omega) (by decide)] at c83
      refine hk_iload_n dX10_joined_86 rfl rfl ?_
      refine hk_goto (tgt := 92) dX10_joined_87 (by decide) ?_
      exact hk_ireturn dX10_joined_92 rfl rfl (by decide) ⟨by first | exact cI_r1 c83 | exact cI_r0 c83, rfl⟩
  · rw [hL, nI_leI (by omega) (by omega)] at c54
    refine hk_iload_n dX10_joined_57 rfl rfl ?_
    refine hk_aload_n dX10_joined_58 rfl rfl ?_
    refine hk_iload dX10_joined_59 rfl ?_
    refine hk_iload_n dX10_joined_61 rfl rfl ?_
    refine ivX10_410 rfl (md_fit hT hT3 hL hL2 hF hF2 hK30 hG (by omega) hf) dX10_joined_62 (hk_lt (by decide)) rfl rfl rfl (by decide) ⟨by decide, by decide⟩ (Nat.le_of_ble_eq_true rfl) (hk_kd ?_)
    refine hk_if_eq (tgt := 72) dX10_joined_65 (by decide) (fun c65 => ?_) (fun c65 => ?_)
    · rw [bI_0] at c65
      refine hk_iconst (v := 0) dX10_joined_72 (by decide) ?_
      refine hk_iadd dX10_joined_73 ?_
      refine hk_istore_n dX10_joined_74 rfl (by decide) rfl ?_
      refine hk_iinc (v := nI (i + 1)) dX10_joined_75 rfl (nI_1 i) (by decide) rfl ?_
      refine hk_goto (tgt := 48) dX10_joined_78 (by decide) ?_
      have hlt : i < nL := by omega
      have cF := c65
      have hs := lp_mjB hT hT3 hL hL2 hF hF2 hK30 hG hl hf (i + 1) (by omega)
      first | (rw [cn_y (p := fun l => FitM m nT l f) (n := i) (by first | exact Classical.not_not.mp cF | exact Classical.byContradiction cF), ← nI_1] at hs; exact hs) | (rw [cn_n (p := fun l => FitM m nT l f) (n := i) cF] at hs; simp only [Int32.add_zero]; exact hs)
    · rw [bI_0] at c65
      refine hk_iconst (v := 1) dX10_joined_68 (by decide) ?_
      refine hk_goto (tgt := 73) dX10_joined_69 (by decide) ?_
      refine hk_iadd dX10_joined_73 ?_
      refine hk_istore_n dX10_joined_74 rfl (by decide) rfl ?_
      refine hk_iinc (v := nI (i + 1)) dX10_joined_75 rfl (nI_1 i) (by decide) rfl ?_
      refine hk_goto (tgt := 48) dX10_joined_78 (by decide) ?_
      have hlt : i < nL := by omega
      have cF := c65
      have hs := lp_mjB hT hT3 hL hL2 hF hF2 hK30 hG hl hf (i + 1) (by omega)
      first | (rw [cn_y (p := fun l => FitM m nT l f) (n := i) (by first | exact Classical.not_not.mp cF | exact Classical.byContradiction cF), ← nI_1] at hs; exact hs) | (rw [cn_n (p := fun l => FitM m nT l f) (n := i) cF] at hs; simp only [Int32.add_zero]; exact hs)
termination_by nL - i
decreasing_by all_goals omega
set_option maxRecDepth 20000 in
set_option maxHeartbeats 2000000 in
theorem lp_mjA {nT : Nat} (hT : m 37 60 = nI nT) (hT3 : nT ≤ 300) {nL : Nat} (hL : m 37 73 = nI nL) (hL2 : nL ≤ 60) {nF : Nat} (hF : m 37 77 = nI nF) (hF2 : nF ≤ 60) {K : Nat} (hK30 : K ≤ 30) (hG : ∀ i, i < nF → ∃ k : Nat, m 97 i = nI k ∧ k < K) {l : Nat} (hl : l < nL) (h1 : cn (fun f => FitM m nT l f) nF = 1) (i : Nat) (hi : i < nF) (hno : ∀ j, j < i → ¬ FitM m nT l j) (l3 l4 : Option Value) : hk_WP MX10_joined 3 0 0 0 0 28 [some (.ref 37), some (.int (nI l)), some (.int (nI i)), l3, l4] [] (hk_h L m) (fun r h' => r = some (.int (cI (cn (fun f => FitM m nT l f) nF = 1 ∧ cn (fun l' => FitM m nT l' (fi (fun f => FitM m nT l f) nF)) nL = 1) (nI (fi (fun f => FitM m nT l f) nF)) (-9))) ∧ h' = hk_h L m) := by
  refine hk_aload_n dX10_joined_28 rfl rfl ?_
  refine hk_iload_n dX10_joined_29 rfl rfl ?_
  refine hk_iload_n dX10_joined_30 rfl rfl ?_
  refine ivX10_410 rfl (md_fit hT hT3 hL hL2 hF hF2 hK30 hG hl hi) dX10_joined_31 (hk_lt (by decide)) rfl rfl rfl (by decide) ⟨by decide, by decide⟩ (Nat.le_of_ble_eq_true rfl) (hk_kd ?_)
  refine hk_if_ne (tgt := 43) dX10_joined_34 (by decide) (fun c34 => ?_) (fun c34 => ?_)
  · rw [bI_0] at c34
    refine hk_iconst (v := 0) dX10_joined_43 (by decide) ?_
    refine hk_istore_n dX10_joined_44 rfl (by decide) rfl ?_
    refine hk_iconst (v := 0) dX10_joined_45 (by decide) ?_
    refine hk_istore dX10_joined_46 (by decide) rfl ?_
    have hs := lp_mjB (L := L) hT hT3 hL hL2 hF hF2 hK30 hG hl hi 0 (Nat.zero_le _)
    rw [show cI (cn (fun f => FitM m nT l f) nF = 1 ∧ cn (fun l' => FitM m nT l' (fi (fun f => FitM m nT l f) nF)) nL = 1) (nI (fi (fun f => FitM m nT l f) nF)) (-9) = cI (cn (fun l => FitM m nT l i) nL = 1) (nI i) (-9) from (by rw [fi_is hi (Classical.not_not.mp c34) hno]; congr 1; exact propext ⟨fun q => q.2, fun q => ⟨h1, q⟩⟩)]
    exact hs
  · rw [bI_0] at c34
    refine hk_iinc (v := nI (i + 1)) dX10_joined_37 rfl (nI_1 i) (by decide) rfl ?_
    refine hk_goto (tgt := 28) dX10_joined_40 (by decide) ?_
    have hlt : i + 1 < nF := by
      obtain ⟨q, e1, e2, e3⟩ := cn_one.mp h1
      rcases Nat.lt_trichotomy i q with r | r | r
      · omega
      · exact absurd (r ▸ e2) c34
      · exact absurd e2 (hno q r)
    exact lp_mjA hT hT3 hL hL2 hF hF2 hK30 hG hl h1 (i + 1) hlt (fun j hj hp => by rcases Nat.lt_succ_iff_lt_or_eq.mp hj with r | r; exact hno j r hp; exact absurd (r ▸ hp) c34) _ _
termination_by nF - i
decreasing_by all_goals omega
set_option maxRecDepth 20000 in
set_option maxHeartbeats 2000000 in
theorem md_joined {nT : Nat} (hT : m 37 60 = nI nT) (hT3 : nT ≤ 300) {nL : Nat} (hL : m 37 73 = nI nL) (hL2 : nL ≤ 60) {nF : Nat} (hF : m 37 77 = nI nF) (hF2 : nF ≤ 60) {K : Nat} (hK30 : K ≤ 30) (hG : ∀ i, i < nF → ∃ k : Nat, m 97 i = nI k ∧ k < K) {l : Nat} (hl : l < nL) : hk_Cd MX10_joined 3 0 0 [.ref 37, .int (nI l)] (hk_h L m) (some (.int (cI (cn (fun f => FitM m nT l f) nF = 1 ∧ cn (fun l' => FitM m nT l' (fi (fun f => FitM m nT l f) nF)) nL = 1) (nI (fi (fun f => FitM m nT l f) nF)) (-9)))) (hk_h L m) := by
  refine hk_ofWP (by decide) (by simp [Value.category]) (Nat.le_of_ble_eq_true rfl) ?_
  show hk_WP _ _ _ _ _ _ _ [some (.ref 37), some (.int (nI l)), none, none, none] [] _ _
  refine hk_iload_n dX10_joined_0 rfl rfl ?_
  refine hk_if_lt (tgt := 12) dX10_joined_1 (by decide) (fun c1 => absurd c1 (nI_pos (by omega))) (fun _ => ?_)
  refine hk_iload_n dX10_joined_4 rfl rfl ?_
  refine hk_aload_n dX10_joined_5 rfl rfl ?_
  refine gfX10_401 rfl dX10_joined_6 (hk_lt (by decide)) rfl rfl ?_
  refine hk_icmp_lt (tgt := 14) dX10_joined_9 (by decide) (fun _ => ?_) (fun c9 => absurd (by rw [hL]; exact nI_lt hl (by omega)) c9)
  refine hk_aload_n dX10_joined_14 rfl rfl ?_
  refine hk_iload_n dX10_joined_15 rfl rfl ?_
  refine ivX10_413 rfl (md_fits hT hT3 hL hL2 hF hF2 hK30 hG hl) dX10_joined_16 (hk_lt (by decide)) rfl rfl rfl (by decide) ⟨by decide, by decide⟩ (Nat.le_of_ble_eq_true rfl) (hk_kd ?_)
  refine hk_iconst (v := 1) dX10_joined_19 (by decide) ?_
  refine hk_icmp_eq (tgt := 26) dX10_joined_20 (by decide) (fun c20 => ?_) (fun c20 => ?_)
  · rw [show (1 : Int32) = nI 1 from rfl, nI_eq (by have := cn_le (fun f => FitM m nT l f) nF; omega) (by decide)] at c20
    refine hk_iconst (v := 0) dX10_joined_26 (by decide) ?_
    refine hk_istore_n dX10_joined_27 rfl (by decide) rfl ?_
    exact lp_mjA hT hT3 hL hL2 hF hF2 hK30 hG hl c20 0 (by have := cn_le (fun f => FitM m nT l f) nF; omega) (fun j hj => absurd hj (Nat.not_lt_zero _)) _ _
  · rw [show (1 : Int32) = nI 1 from rfl, nI_eq (by have := cn_le (fun f => FitM m nT l f) nF; omega) (by decide)] at c20
    refine hk_bipush (v := (-9)) dX10_joined_23 (by decide) ?_
    exact hk_ireturn dX10_joined_25 rfl rfl (by decide) ⟨cI_r0 (fun q => c20 q.1), rfl⟩
set_option maxRecDepth 20000 in
set_option maxHeartbeats 2000000 in
theorem md_joined_no {nL : Nat} (hL : m 37 73 = nI nL) (hL2 : nL ≤ 60) (l : Int32) (h : ¬ inR l nL) : hk_Cd MX10_joined 3 0 0 [.ref 37, .int l] (hk_h L m) (some (.int (-1))) (hk_h L m) := by
  refine hk_ofWP (by decide) (by simp [Value.category]) (Nat.le_of_ble_eq_true rfl) ?_
  show hk_WP _ _ _ _ _ _ _ [some (.ref 37), some (.int l), none, none, none] [] _ _
  refine hk_iload_n dX10_joined_0 rfl rfl ?_
  refine hk_if_lt (tgt := 12) dX10_joined_1 (by decide) (fun c1 => ?_) (fun c1 => ?_)
  · refine hk_iconst (v := (-1)) dX10_joined_12 (by decide) ?_
    exact hk_ireturn dX10_joined_13 rfl rfl (by decide) ⟨rfl, rfl⟩
  · refine hk_iload_n dX10_joined_4 rfl rfl ?_
    refine hk_aload_n dX10_joined_5 rfl rfl ?_
    refine gfX10_401 rfl dX10_joined_6 (hk_lt (by decide)) rfl rfl ?_
    refine hk_icmp_lt (tgt := 14) dX10_joined_9 (by decide) (fun c9 => ?_) (fun c9 => ?_)
    · rw [hL] at c9
      exact absurd ⟨c1, Int32.not_le.mpr c9⟩ h
    · rw [hL] at c9
      refine hk_iconst (v := (-1)) dX10_joined_12 (by decide) ?_
      exact hk_ireturn dX10_joined_13 rfl rfl (by decide) ⟨rfl, rfl⟩
theorem Fit_c (hI : Inv L z m) {l f : Nat} (hl : l < z 10) (hf : f < z 11) : FitC m (z 5) l f ↔ FitM m (z 5) l f := by
  obtain ⟨g0, ⟨⟨a0, a1, a2, a3, a4, a5, a6, a7, a8, a9, a10, a11, a12, a13⟩, ⟨b0, b1, b2, b3, b4, b5, b6, b7, b8, b9, b10, b11, b12⟩, ⟨c0, c1, c2, c3, c4, c5, c6, c7, c8, c9, c10, c11, c12⟩⟩, g2, g3, g4, g5, g6, g7, g8, g9, g10, g11, g12, g13, g14⟩ := id hI
  obtain ⟨e1, e2, e3, k, e4, e5⟩ := g14 f hf
  have hl4 := g13 l hl
  unfold FitC FitM
  rw [e1, e2, e3, e4, nI_clamp (by omega), hl4.1, hl4.2.1, hl4.2.2.1, hl4.2.2.2, (g5.1 k e5).2.2.2.2.1]
  have : (∃ t, t < z 5 ∧ m 24 (t * 13) = nI k ∧ m 24 (t * 13 + 3) ≤ m 95 l ∧ ¬ m 24 (t * 13 + 5) ≤ m 94 l) ↔ ∃ t, t < z 5 ∧ m 73 t = nI k ∧ m 76 t ≤ m 95 l ∧ ¬ m 78 t ≤ m 94 l := by
    constructor
    · rintro ⟨t, ht, h⟩
      have g := g10 t ht
      rw [g.1, g.2.2.2.1, g.2.2.2.2.2.1] at h
      exact ⟨t, ht, h⟩
    · rintro ⟨t, ht, h⟩
      have g := g10 t ht
      exact ⟨t, ht, by rw [g.1, g.2.2.2.1, g.2.2.2.2.2.1]; exact h⟩
  rw [this]
theorem op_fits (hI : Inv L z m) (l : Int32) : OpOK L m MX9_fits MX10_fits [.int l] := by
  obtain ⟨g0, ⟨⟨a0, a1, a2, a3, a4, a5, a6, a7, a8, a9, a10, a11, a12, a13⟩, ⟨b0, b1, b2, b3, b4, b5, b6, b7, b8, b9, b10, b11, b12⟩, ⟨c0, c1, c2, c3, c4, c5, c6, c7, c8, c9, c10, c11, c12⟩⟩, g2, g3, g4, g5, g6, g7, g8, g9, g10, g11, g12, g13, g14⟩ := id hI
  by_cases h : inR l (z 10)
  · obtain ⟨j, hj, rfl⟩ := inR_of h (by omega)
    refine ⟨3, 0, 0, 2, _, L, m, m, z, by decide, by decide, by decide, by decide, ct_fits a2 c2 a5 c5 a10 c10 a11 c11 g14 hj, ?_, hI⟩
    rw [cn_c (q := fun f => FitM m (z 5) j f) (fun f hf => Fit_c hI hj hf)]
    exact md_fits b5 c5 b10 c10 b11 c11 c2 (fun i hi => (g14 i hi).2.2.2) hj
  · exact ⟨3, 0, 0, 2, -1, L, m, m, z, by decide, by decide, by decide, by decide, ct_fits_no a10 c10 l h, md_fits_no b10 c10 l h, hI⟩
theorem op_joined (hI : Inv L z m) (l : Int32) : OpOK L m MX9_joined MX10_joined [.int l] := by
  obtain ⟨g0, ⟨⟨a0, a1, a2, a3, a4, a5, a6, a7, a8, a9, a10, a11, a12, a13⟩, ⟨b0, b1, b2, b3, b4, b5, b6, b7, b8, b9, b10, b11, b12⟩, ⟨c0, c1, c2, c3, c4, c5, c6, c7, c8, c9, c10, c11, c12⟩⟩, g2, g3, g4, g5, g6, g7, g8, g9, g10, g11, g12, g13, g14⟩ := id hI
  by_cases h : inR l (z 10)
  · obtain ⟨j, hj, rfl⟩ := inR_of h (by omega)
    refine ⟨4, 0, 0, 3, _, L, m, m, z, by decide, by decide, by decide, by decide, ct_joined a2 c2 a5 c5 a10 c10 a11 c11 g14 hj, ?_, hI⟩
    have := md_joined (L := L) b5 c5 b10 c10 b11 c11 c2 (fun i hi => (g14 i hi).2.2.2) hj
    have e1 : cn (fun f => FitC m (z 5) j f) (z 11) = cn (fun f => FitM m (z 5) j f) (z 11) := cn_c (fun f hf => Fit_c hI hj hf)
    have e2 : fi (fun f => FitC m (z 5) j f) (z 11) = fi (fun f => FitM m (z 5) j f) (z 11) := fi_c (fun f hf => Fit_c hI hj hf)
    rw [e1, e2]
    by_cases h1 : cn (fun f => FitM m (z 5) j f) (z 11) = 1
    · have hff : fi (fun f => FitM m (z 5) j f) (z 11) < z 11 := by
        obtain ⟨q, k1, k2, k3⟩ := cn_one.mp h1
        rw [fi_is k1 k2 (fun j hj hp => by have := k3 j (by omega) hp; omega)]; exact k1
      rw [cn_c (q := fun l' => FitM m (z 5) l' (fi (fun f => FitM m (z 5) j f) (z 11))) (fun l' hl' => Fit_c hI hl' hff)]
      exact this
    · rw [cI_f (fun q => h1 q.1)] at this ⊢; exact this
  · exact ⟨4, 0, 0, 3, -1, L, m, m, z, by decide, by decide, by decide, by decide, ct_joined_no a10 c10 l h, md_joined_no b10 c10 l h, hI⟩
end OC
