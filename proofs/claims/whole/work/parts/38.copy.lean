/-! a row for System.arraycopy; Arrays.copyOf -/
section CPx
variable {M : hk_M} {d mc ms k n pc idx : Nat} {ls : List (Option Value)} {st : List Value} {h : hk_H} {Q : Option Value → hk_H → Prop}
theorem hk_copyi {a0 a n0 n1 : Nat} {f g : Nat → Int32} {sp dp cnt : Int32} (hl : Cond.methodLink M.1.cls idx arraycopyName ∈ hk_T ∧ Cond.native arraycopyName ∈ hk_T ∧ Cond.static arraycopyName ∈ hk_T ∧ Cond.initialized "java/lang/System" ∈ hk_T)
    (hd : decode M.2.1 pc = .ok (.invokestatic idx, 3)) (ha0 : a0 < h.1) (he0 : h.2 a0 = .inl (0, n0, .inl f)) (ha : a < h.1) (he : h.2 a = .inl (0, n1, .inl g)) (h1 : ¬ sp < 0) (h2 : ¬ dp < 0) (h3 : ¬ cnt < 0) (h4 : sp.toNatClampNeg + cnt.toNatClampNeg ≤ n0) (h5 : dp.toNatClampNeg + cnt.toNatClampNeg ≤ n1)
    (hdep : 1 ≤ d) (hcat : (st.map fun v => v.category).sum ≤ 8) (kk : hk_WP M d mc ms k n (pc + 3) ls st (hk_up h a (.inl (0, n1, .inl (va_cpy f g sp.toNatClampNeg dp.toNatClampNeg cnt.toNatClampNeg)))) Q) : hk_WP M d mc ms k n pc ls (.int cnt :: .int dp :: .ref a :: .int sp :: .ref a0 :: st) h Q := by
  intro G p l e R s m args below meth c H locs lsA C0 hS hV hL
  have hts := C0.2.2.2.2.1
  have hR := C0.2.2.2.2.2.2.2.2.1
  have nn : ∀ z : Int32, ¬ z < 0 → z.toInt = (z.toNatClampNeg : Int) := by
    intro z hz
    have hz0 : (0 : Int) ≤ z.toInt := by
      have := Int32.not_lt.mp hz
      simpa using Int32.le_iff_toInt_le.mp this
    show z.toInt = ((z.toInt.toNat : Nat) : Int)
    omega
  have w0 := hk_wl_int (G := G) ha0 he0
  have w1 := hk_wl_int (G := G) ha he
  have hc0 : H[hk_b G + a0]? = some (vp_cell (hk_cid G 0) (n0, .inl f)) := hS.2.1 a0 _ w0
  have hc1 : H[hk_b G + a]? = some (vp_cell (hk_cid G 0) (n1, .inl g)) := hS.2.1 a _ w1
  obtain ⟨-, k0, hk0, cm0, hkk0⟩ := (hS.1.2 0 _ rfl).1 n0 (fun j => .int (f j))
  obtain ⟨-, k1, hk1, cm1, hkk1⟩ := (hS.1.2 0 _ rfl).1 n1 (fun j => .int (g j))
  have hcat2 : ((st.map (hk_v (hk_b G))).map fun v => v.category).sum ≤ 8 := by
    rw [List.map_map]
    have : ((fun v => Value.category v) ∘ hk_v (hk_b G)) = fun v => v.category := by funext v; exact hk_v_cat _ v
    rw [this]
    exact hcat
  have hnf : nativeFrameWords "java/lang/System" "arraycopy" 5 + 11 ≤ 50 := by decide
  intro T hT X
  obtain ⟨vm', X', step⟩ := X.arraycopy C0.1 C0.2.2.2.1 (hts _ hl.1) (hts _ hl.2.1) (hts _ hl.2.2.1) (hts _ hl.2.2.2) (src := hk_b G + a0) (dst := hk_b G + a) (cs := vp_cell (hk_cid G 0) (n0, .inl f)) (cd := vp_cell (hk_cid G 0) (n1, .inl g)) (srcPos := sp) (destPos := dp) (n := cnt) (by rw [hT]; exact hc0) (by rw [hT]; exact hc1)
    (fun _ h => by cases h) (fun _ h => by cases h) (fun h => by cases h) (fun h => by cases h) hk0 hk1 hkk0 hkk1 (by simp [refKind]) h1 h2 h3
    (by rw [nn sp h1, nn cnt h3]; show ¬ _ > ((arrV (hk_cid G 0) n0 (fun j => .int (f j))).slots.size : Int); rw [arrV_size]; omega)
    (by rw [nn dp h2, nn cnt h3]; show ¬ _ > ((arrV (hk_cid G 0) n1 (fun j => .int (g j))).slots.size : Int); rw [arrV_size]; omega)
    (fun vm₁ _ i hi => by
      have e : (vp_cell (hk_cid G 0) (n0, .inl f)).slots.getD (sp.toNatClampNeg + i) .null = .int (f (sp.toNatClampNeg + i)) := by
        show (arrV (hk_cid G 0) n0 (fun j => .int (f j))).slots.getD _ _ = _
        rw [Array.getD_eq_getD_getElem?, arrV_read _ _ (by omega)]
        rfl
      refine ⟨?_, ?_⟩
      · rw [e]
        rfl
      · rw [e]
        exact trivial)
    (g := F0 m pc lsA ((Value.int cnt :: .int dp :: .ref a :: .int sp :: .ref a0 :: st).map (hk_v (hk_b G)))) rfl (by exact hL.1.trans C0.2.2.1.symm) (rest := st.map (hk_v (hk_b G))) rfl (by rw [C0.2.1]; exact hd) (Nat.le_trans hdep hR.1) (by show 2 * 0 + _ + _ ≤ _; omega)
  have e1 : copied (vp_cell (hk_cid G 0) (n0, .inl f)) (vp_cell (hk_cid G 0) (n1, .inl g)) sp dp cnt = vp_cell (hk_cid G 0) (n1, .inl (va_cpy f g sp.toNatClampNeg dp.toNatClampNeg cnt.toNatClampNeg)) := va_copied (fun z => .int z) (hk_cid G 0) (hk_cid G 0) f g h4
  rw [e1] at X' step
  have hlt : hk_b G + a < H.size := (Array.getElem?_eq_some_iff.mp hc1).1
  have hheap : ((T.setVm vm').setCell (hk_b G + a) (vp_cell (hk_cid G 0) (n1, .inl (va_cpy f g sp.toNatClampNeg dp.toNatClampNeg cnt.toNatClampNeg)))).heap = H.setIfInBounds (hk_b G + a) (vp_cell (hk_cid G 0) (n1, .inl (va_cpy f g sp.toNatClampNeg dp.toNatClampNeg cnt.toNatClampNeg))) := by rw [← hT]; rfl
  have oq : ∀ q : Nat, q ≠ hk_b G + a → (H.setIfInBounds (hk_b G + a) (vp_cell (hk_cid G 0) (n1, .inl (va_cpy f g sp.toNatClampNeg dp.toNatClampNeg cnt.toNatClampNeg))))[q]? = H[q]? := fun q hq => by simp [Array.getElem?_setIfInBounds, Ne.symm hq]
  have hP1 := hS.2.1.set (hk_D G h) w1 (e := .inl (hk_cid G 0, n1, .inl (va_cpy f g sp.toNatClampNeg dp.toNatClampNeg cnt.toNatClampNeg))) (show (H.setIfInBounds (hk_b G + a) _)[hk_b G + a]? = some _ by simp [Array.getElem?_setIfInBounds, hlt]) oq
  obtain ⟨t, a1, b1⟩ := kk G p l e R s m args below meth c _ _ lsA C0 (hk_S_set (x := .inl (0, n1, .inl (va_cpy f g sp.toNatClampNeg dp.toNatClampNeg cnt.toNatClampNeg))) hS hP1 (by simp)) ⟨by simp; exact hV.1, fun q g1 g2 => by
      rw [oq q (fun e => g2 (by rw [e]; exact Nat.le_add_right _ _))]
      exact hV.2.1 q g1 g2, fun q hq => by
      rcases List.mem_append.mp hq with h | h
      · exact hV.2.2 q h
      · obtain ⟨z, -, hz⟩ := List.mem_map.mp h
        rw [← hz]
        exact Nat.le_add_right _ _⟩ hL _ hheap X'
  exact ⟨t, step t a1, b1⟩
/-- another heap that says the same of the machine's -/
def hk_eqv (h h' : hk_H) : Prop := ∀ (G : hk_G) (U : State) (H : Heap), hk_S G h U H → hk_S G h' U H
theorem hk_impS {M : hk_M} {d mc ms : Nat} {av : List Value} {h : hk_H} {Q Q' : Option Value → hk_H → Prop} (hq : ∀ r h, Q r h → ∃ h', Q' r h' ∧ hk_eqv h h') (w : hk_Ct M d mc ms av h Q) : hk_Ct M d mc ms av h Q' := by
  intro l G p e a1 a2 a3 s m args below a4 a5 a6 a7
  obtain ⟨n, o, b1, b2, b3, ⟨⟨r, h1, e1, e2, e3⟩, e4⟩, b5⟩ := w l G p e a1 a2 a3 s m args below a4 a5 a6 a7
  obtain ⟨h', q1, q2⟩ := hq r h1 e2
  exact ⟨n, o, b1, b2, b3, ⟨⟨r, h', e1, q1, q2 G _ _ e3⟩, e4⟩, b5⟩
theorem arrV_cg {cA : ClassId} {N : Nat} {f g : Nat → Int32} (e : ∀ j, j < N → f j = g j) : arrV cA N (fun j => .int (f j)) = arrV cA N (fun j => .int (g j)) := by
  unfold arrV
  congr 1
  apply Array.ext
  · simp
  · intro i h1 h2
    simp at h1
    simp [e i h1]
/-- an array's function may be told otherwise beyond its length -/
theorem hk_eqv_arr {h : hk_H} {a t N : Nat} {f g : Nat → Int32} (he : h.2 a = .inl (t, N, .inl f)) (e : ∀ j, j < N → f j = g j) : hk_eqv h (hk_up h a (.inl (t, N, .inl g))) := by
  intro G U H hS
  refine ⟨hS.1, fun q x hx => ?_, hS.2.2⟩
  obtain ⟨hq, rfl⟩ := hk_wl_inv hx
  have := hS.2.1 q _ (hk_wl_get (h := h) hq)
  by_cases ha : q = a
  · subst ha
    rw [he] at this
    have e2 : (hk_up h q (.inl (t, N, .inl g))).2 q = .inl (t, N, .inl g) := if_pos rfl
    rw [e2]
    show H[_]? = some (arrV (hk_cid G t) N (fun j => .int (g j)))
    rw [← arrV_cg e]
    exact this
  · have e2 : (hk_up h a (.inl (t, N, .inl g))).2 q = h.2 q := if_neg ha
    rw [e2]
    exact this
theorem hk_up_up {h : hk_H} {a : Nat} {x y : hk_E} : hk_up (hk_up h a x) a y = hk_up h a y := by
  refine Prod.ext rfl ?_
  funext q
  show (if q = a then y else if q = a then x else h.2 q) = if q = a then y else h.2 q
  by_cases e : q = a
  · rw [if_pos e, if_pos e]
  · rw [if_neg e, if_neg e, if_neg e]
end CPx
abbrev MJ7_copyOf : hk_M := (yJ7_copyOf_59c91, cJ7_copyOf_59c91, 3, some (.array .int))
theorem hk_wJ7_copyOf : hk_Wd yJ7_copyOf_59c91 cJ7_copyOf_59c91 3 (some (.array .int)) 2 := ⟨hk_t 638 (by decide +kernel) rfl, hk_t 17 (by decide +kernel) rfl, ⟨by decide +kernel, by decide +kernel, by decide +kernel⟩, by decide⟩
section CPy
variable {L : Nat} {m m0 m1 m2 : Nat → Nat → Int32} {z : Nat → Nat}
set_option maxRecDepth 20000 in
set_option maxHeartbeats 2000000 in
theorem ct_copyOf {h : hk_H} {a N : Nat} {f : Nat → Int32} (ha : a < h.1) (he : h.2 a = .inl (0, 160, .inl f)) (hN : N < 160) : hk_Ct MJ7_copyOf 1 1 160 [.ref a, .int (nI N)] h (fun r h' => r = some (.ref h.1) ∧ ∃ g : Nat → Int32, h' = hk_push h (.inl (0, N, .inl g)) ∧ ∀ j, j < N → g j = f j) := by
  refine hk_ofWP (by decide) (by simp [Value.category]) (Nat.le_of_ble_eq_true rfl) ?_
  show hk_WP _ _ _ _ _ _ _ [some (.ref a), some (.int (nI N)), none] [] _ _
  refine hk_iload_n dJ7_copyOf_59c91_0 rfl rfl ?_
  refine hk_aload_n dJ7_copyOf_59c91_1 rfl rfl ?_
  refine hk_alen dJ7_copyOf_59c91_2 ha he rfl ?_
  refine hk_icmp_ne (tgt := 14) dJ7_copyOf_59c91_3 (by decide) (fun _ => ?_) (fun c3 => absurd c3 (by rw [show (Int32.ofNat 160) = nI 160 from rfl, nI_eq (by omega) (by decide)]; omega))
  refine hk_iload_n dJ7_copyOf_59c91_14 rfl rfl ?_
  refine hk_newa (t := 0) (ty := .int) (N := N) rfl (Or.inl ⟨rfl, rfl⟩) (hk_t 57 (by decide +kernel) rfl) (nI_pos (by omega)) (nI_clamp (by omega)) (by show N * 4 ≤ 536870912; omega) ⟨by decide, by show _ ≤ 160; omega⟩ dJ7_copyOf_59c91_15 ?_
  refine hk_astore_n dJ7_copyOf_59c91_17 rfl (by decide) rfl ?_
  refine hk_aload_n dJ7_copyOf_59c91_18 rfl rfl ?_
  refine hk_iconst (v := 0) dJ7_copyOf_59c91_19 (by decide) ?_
  refine hk_aload_n dJ7_copyOf_59c91_20 rfl rfl ?_
  refine hk_iconst (v := 0) dJ7_copyOf_59c91_21 (by decide) ?_
  refine hk_aload_n dJ7_copyOf_59c91_22 rfl rfl ?_
  refine hk_alen dJ7_copyOf_59c91_23 (Nat.lt_succ_of_lt ha) (by rw [← he]; exact if_neg (Nat.ne_of_lt ha)) rfl ?_
  refine hk_iload_n dJ7_copyOf_59c91_24 rfl rfl ?_
  refine hk_mmin ⟨hk_t 646 (by decide +kernel) rfl, hk_t 509 (by decide +kernel) rfl, hk_t 11 (by decide +kernel) rfl, hk_t 510 (by decide +kernel) rfl⟩ dJ7_copyOf_59c91_25 (by decide) (Nat.le_of_ble_eq_true rfl) ⟨by decide, by show _ ≤ 160; omega⟩ ?_
  rw [show (if nI N < Int32.ofNat 160 then nI N else Int32.ofNat 160) = nI N from if_pos (nI_lt (a := N) (b := 160) hN (by decide))]
  refine hk_copyi ⟨hk_t 647 (by decide +kernel) rfl, hk_t 649 (by decide +kernel) rfl, hk_t 648 (by decide +kernel) rfl, hk_t 18 (by decide +kernel) rfl⟩ dJ7_copyOf_59c91_28 (Nat.lt_succ_of_lt ha) (by rw [← he]; exact if_neg (Nat.ne_of_lt ha)) (Nat.lt_succ_self _) (if_pos rfl) (by decide) (by decide) (nI_pos (by omega)) (by rw [nI_clamp (by omega)]; show 0 + N ≤ 160; omega) (by rw [nI_clamp (by omega)]; show 0 + N ≤ N; omega) (by decide) (Nat.le_of_ble_eq_true rfl) ?_
  refine hk_aload_n dJ7_copyOf_59c91_31 rfl rfl ?_
  exact hk_areturn dJ7_copyOf_59c91_32 rfl (Or.inr ⟨_, rfl⟩) (Or.inr ⟨_, rfl⟩) ⟨by decide, by show 0 + N ≤ 160; omega⟩ ⟨rfl, va_cpy f (fun _ => 0) 0 0 N, by
      rw [nI_clamp (show N < 2 ^ 31 by omega)]
      refine Prod.ext rfl ?_
      funext q
      show (if q = h.1 then _ else if q = h.1 then _ else h.2 q) = if q = h.1 then _ else h.2 q
      by_cases e : q = h.1
      · rw [if_pos e, if_pos e]; rfl
      · rw [if_neg e, if_neg e, if_neg e], fun j hj => by
      unfold va_cpy
      rw [if_pos ⟨Nat.zero_le _, by omega⟩]
      congr 1; omega⟩
set_option maxRecDepth 20000 in
set_option maxHeartbeats 2000000 in
theorem ct_LawInit {h : hk_H} {a c : Nat} (ha : a < h.1) (he : h.2 a = .inr (3, [.int 0, .int 0, .int 0, .null])) (x f d : Int32) : hk_Cd MX3_init 1 0 0 [.ref a, .int x, .int f, .int d, .ref c] h none (hk_up h a (.inr (3, [.int x, .int f, .int d, .ref c]))) := by
  refine hk_ofWP (by decide) (by simp [Value.category]) (Nat.le_of_ble_eq_true rfl) ?_
  show hk_WP _ _ _ _ _ _ _ [some (.ref a), some (.int x), some (.int f), some (.int d), some (.ref c)] [] _ _
  refine hk_aload_n dX3_init_0 rfl rfl ?_
  refine hk_objInit ⟨hk_t 653 (by decide +kernel) rfl, hk_t 25 (by decide +kernel) rfl, hk_t 26 (by decide +kernel) rfl⟩ dX3_init_1 (by decide) (Nat.le_of_ble_eq_true rfl) ?_
  refine hk_aload_n dX3_init_4 rfl rfl ?_
  refine hk_iload_n dX3_init_5 rfl rfl ?_
  refine pfX3_7 rfl dX3_init_6 ha he (by decide) rfl ?_
  refine hk_aload_n dX3_init_9 rfl rfl ?_
  refine hk_iload_n dX3_init_10 rfl rfl ?_
  refine pfX3_13 rfl dX3_init_11 (show a < h.1 from ha) (if_pos rfl) (Nat.le_of_ble_eq_true rfl) rfl ?_
  refine hk_aload_n dX3_init_14 rfl rfl ?_
  refine hk_iload_n dX3_init_15 rfl rfl ?_
  refine pfX3_16 rfl dX3_init_16 (show a < h.1 from ha) (if_pos rfl) (Nat.le_of_ble_eq_true rfl) rfl ?_
  refine hk_aload_n dX3_init_19 rfl rfl ?_
  refine hk_aload dX3_init_20 rfl ?_
  refine pfX3_19 rfl dX3_init_22 (show a < h.1 from ha) (if_pos rfl) (Nat.le_of_ble_eq_true rfl) rfl ?_
  exact hk_return dX3_init_25 rfl (by decide) ⟨rfl, by rw [hk_up_up, hk_up_up, hk_up_up]; rfl⟩
end CPy
