theorem lw_wX10_init : hk_Wd yX10_init cX10_init 2 none 0 := ⟨(hk_t 904 (by decide +kernel) rfl), hk_t 10 (by decide +kernel) rfl, ⟨by decide +kernel, by decide +kernel, by decide +kernel⟩, by decide⟩
/-! THE LAW, from its entry -/
theorem va_Kn_all {s : State} {args : Array Value} (hts : ∀ w ∈ hk_T, w.before args s = true) : ∀ k : Nat, ∃ d : ClassId × (Nat → Nat), ∀ q : vw_C, vwCl[k]? = some q → u_Kn s q.1 q.2.1 q.2.2 d.1 d.2
  | 0 => by
    obtain ⟨c, i, hq⟩ := u_known (C := RX0) (T := TX0) (N := 7) (n := 7) hts hk_in0 (hts _ (hk_t 28 (by decide +kernel) rfl))
    exact ⟨(c, i), fun q h => by cases h; exact hq⟩
  | 1 => by
    obtain ⟨c, i, hq⟩ := u_known (C := RX1) (T := TX1) (N := 1) (n := 1) hts hk_in1 (hts _ (hk_t 190 (by decide +kernel) rfl))
    exact ⟨(c, i), fun q h => by cases h; exact hq⟩
  | 2 => by
    obtain ⟨c, i, hq⟩ := u_known (C := RX2) (T := TX2) (N := 3) (n := 3) hts hk_in2 (hts _ (hk_t 87 (by decide +kernel) rfl))
    exact ⟨(c, i), fun q h => by cases h; exact hq⟩
  | 3 => by
    obtain ⟨c, i, hq⟩ := u_known (C := RX3) (T := TX3) (N := 4) (n := 4) hts hk_in3 (hts _ (hk_t 497 (by decide +kernel) rfl))
    exact ⟨(c, i), fun q h => by cases h; exact hq⟩
  | 4 => by
    obtain ⟨c, i, hq⟩ := u_known (C := RX4) (T := TX4) (N := 5) (n := 5) hts hk_in4 (hts _ (hk_t 108 (by decide +kernel) rfl))
    exact ⟨(c, i), fun q h => by cases h; exact hq⟩
  | 5 => by
    obtain ⟨c, i, hq⟩ := u_known (C := RX5) (T := TX5) (N := 5) (n := 5) hts hk_in5 (hts _ (hk_t 114 (by decide +kernel) rfl))
    exact ⟨(c, i), fun q h => by cases h; exact hq⟩
  | 6 => by
    obtain ⟨c, i, hq⟩ := u_known (C := RX6) (T := TX6) (N := 4) (n := 4) hts hk_in6 (hts _ (hk_t 34 (by decide +kernel) rfl))
    exact ⟨(c, i), fun q h => by cases h; exact hq⟩
  | 7 => by
    obtain ⟨c, i, hq⟩ := u_known (C := RX7) (T := TX7) (N := 2) (n := 2) hts hk_in7 (hts _ (hk_t 203 (by decide +kernel) rfl))
    exact ⟨(c, i), fun q h => by cases h; exact hq⟩
  | 8 => by
    obtain ⟨c, i, hq⟩ := u_known (C := RX8) (T := TX8) (N := 3) (n := 3) hts hk_in8 (hts _ (hk_t 161 (by decide +kernel) rfl))
    exact ⟨(c, i), fun q h => by cases h; exact hq⟩
  | 9 => by
    obtain ⟨c, i, hq⟩ := u_known (C := RX9) (T := TX9) (N := 7) (n := 7) hts hk_in9 (hts _ (hk_t 20 (by decide +kernel) rfl))
    exact ⟨(c, i), fun q h => by cases h; exact hq⟩
  | 10 => by
    obtain ⟨c, i, hq⟩ := u_known (C := RX10) (T := TX10) (N := 81) (n := 81) hts hk_in10 (hts _ (hk_t 901 (by decide +kernel) rfl))
    exact ⟨(c, i), fun q h => by cases h; exact hq⟩
  | k + 11 => ⟨(0, fun _ => 0), fun q h => by
      have h1 : vwCl[k + 11]? = none := List.getElem?_eq_none (by show 11 ≤ k + 11; omega)
      rw [h1] at h; cases h⟩
theorem lw_G {p : Program} {s : State} {m : MethodId} {meth : Method} {c : Code} {b L : Nat} {xs : Nat → Int32} (C0 : lw_At p s m meth c b L xs) : ∃ G : hk_G, lw_C p s m meth c b L xs G ∧ hk_S G (hl []) s s.heap := by
  obtain ⟨hx, hb, hr, hml, hown, hts, hX, hbl, hlocks, hgv⟩ := id C0
  have hts' : ∀ w ∈ hk_T, w.before #[Value.ref b] s = true := fun w hw => hts w (List.mem_filter.mp hw).1
  have htb : ∀ w ∈ tables_1, w.before #[Value.ref b] s = true := fun w hw => hts w (List.mem_append_right _ hw)
  have hs := flat_of_before _ hgv
  obtain ⟨D, hD⟩ := Classical.axiomOfChoice (va_Kn_all hts')
  obtain ⟨ai, aik, aic, ai1, ai2, ai3⟩ := Cond.arrayClass_spec (htb (Cond.arrayClass .int) (List.mem_of_getElem? (i := 57) (by decide +kernel)))
  obtain ⟨az, azk, azc, az1, az2, az3⟩ := Cond.arrayClass_spec (htb (Cond.arrayClass .boolean) (List.mem_of_getElem? (i := 1150) (by decide +kernel)))
  obtain ⟨comp, ao, ak, ao1, ao2, ao3, ao4, ao5⟩ := Cond.arrayOver_spec (htb (Cond.arrayOver (.object RX3)) (List.mem_of_getElem? (i := 141) (by decide +kernel)))
  have hA : ∀ a : Nat, a < s.heap.size → ¬ (fun q => s.heap.size ≤ q) a := fun a h => Nat.not_le.mpr h
  obtain ⟨adK, adV, hSt, hRf⟩ := vk_Sof (args := #[Value.ref b]) (s := s) (N := 1) (tm := fun _ => .string RX4 31) (len := [9]) (byt := [[121, 116, 119, 110, 100, 104, 112, 98, 115]]) (A := fun q => s.heap.size ≤ q)
    (fun i hi => by rw [show i = 0 by omega]; decide) (fun i _ => hs _ (by decide +kernel)) (fun i _ => hs _ (by decide +kernel)) (fun i _ => hs _ (by decide +kernel)) (fun i hi => by rw [show i = 0 by omega]; exact hs _ (by decide +kernel))
    (fun i hi j hj => by
      rw [show i = 0 by omega] at hj ⊢
      have hj9 : j < 9 := hj
      have : j = 0 ∨ j = 1 ∨ j = 2 ∨ j = 3 ∨ j = 4 ∨ j = 5 ∨ j = 6 ∨ j = 7 ∨ j = 8 := by omega
      rcases this with rfl | rfl | rfl | rfl | rfl | rfl | rfl | rfl | rfl <;> exact hs _ (by decide +kernel))
    (fun i j hi hj hne => absurd (show i = j by omega) hne) hA
  refine ⟨((fun k => (D k).1, fun k => (D k).2), (ai, az, ao), s.heap.size, adK, adV), ⟨C0, rfl, fun w hw => ?_, hSt, ?_, ?_, ?_, ?_⟩, ⟨⟨fun k q hq => hD k q hq, fun k q hq => ?_⟩, fun k q hq => ?_, rfl⟩⟩
  · have h1 := hk_isN_of hw
    exact va_Nw.of (by cases w <;> first | rfl | (cases h1)) (htb w (List.mem_filter.mp hw).1)
  · exact vk_R.of (htb _ (List.mem_of_getElem? (i := 583) (by decide +kernel))) (hRf 0 (by decide))
  · exact va_Zof (htb (Cond.laysStatic "java/lang/String" "COMPACT_STRINGS" "Z") (List.mem_of_getElem? (i := 593) (by decide +kernel))) (hts' _ (hk_t 13 (by decide +kernel) rfl)) (va_eqt (hs _ (by decide +kernel))) hA
  · exact va_Zqof (htb (Cond.laysStatic "jdk/internal/util/Preconditions" "SIOOBE_FORMATTER" "Ljava/util/function/BiFunction;") (List.mem_of_getElem? (i := 609) (by decide +kernel))) (hts' _ (hk_t 15 (by decide +kernel) rfl)) (hs _ (by decide +kernel)) hA
  · exact va_AO.of (htb (Cond.arrayOver (.object RX3)) (List.mem_of_getElem? (i := 141) (by decide +kernel)))
  · match k, hq with
    | 0, hq => cases hq; exact ⟨fun n z => ⟨fun k h => (by cases h), aik, ai2, aic, ai3⟩, ai1⟩
    | 1, hq => cases hq; exact ⟨fun n z => ⟨fun k h => (by cases h), azk, az2, azc, az3⟩, az1⟩
    | 2, hq => cases hq; exact ⟨fun n z => ⟨fun k h => (by cases h), ak, ao3, comp, ao4⟩, ak, comp, ao3, ao4, ao1, ao5⟩
    | k + 3, hq => simp [hk_tys] at hq
  · have h1 := (hk_wl_inv hq).1
    exact absurd h1 (Nat.not_lt_zero _)
set_option maxHeartbeats 4000000 in
set_option maxRecDepth 100000 in
theorem whole_start {p : Program} {e : Env} {s : State} {m : MethodId} {below : List Frame} {meth : Method} {c : Code} (l : Launch) (hflags : l.flags = flags0) {b L : Nat} {xs : Nat → Int32} (hL : L ≤ 3072) (C0 : lw_At p s m meth c b L xs) : W p l e room_1 s m #[Value.ref b] below meth c s.heap [] 0 0 (lw_Z below #[Value.ref b] s) (entryFrame m ([Value.ref b] : List Value).toArray 4) := by
  obtain ⟨G, C, hS0⟩ := lw_G C0
  have hlv := lv_entry ([.ref b]) (n := 4) (Nat.le_of_ble_eq_true rfl)
  rw [lg_entry_eq]
  generalize (lg_sl ([.ref b]) ++ List.replicate (4 - (lg_sl ([.ref b])).length) Slot.unset).toArray = ls at hlv ⊢
  have hlv : lv_has ls 4 [(0, .ref b)] := hlv
  have key : lw_WP p l e s m below meth c b G [(0, .ref b)] 0 0 0 [] (hl []) := by
    refine lr_new (ci := 9) (fs := [.int 0, .null, .null, .null, .null, .null, .null]) C tyX9 tyX9_ok rfl hk_in9 ⟨(hk_t 19 (by decide +kernel) rfl), (hk_t 20 (by decide +kernel) rfl), (hk_t 1 (by decide +kernel) rfl)⟩ hk_f9 ⟨by decide, by decide⟩ d_law_0 ?_
    rw [hl_push]
    show lw_WP p l e s m below meth c b G [(0, .ref b)] (0 + 1) (0 + 7) (0 + 3) [.ref 0] (hl [.inr (9, [.int 0, .null, .null, .null, .null, .null, .null])])
    intro H locs lsA hS hV hlv
    refine lv_dup C.1.1 C.1.2.1 d_law_3 rfl ?_
    have k4 : lw_WP p l e s m below meth c b G [(0, .ref b)] (0 + 1) (0 + 7) (0 + 3 + 1) [.ref 0, .ref 0] (hl [.inr (9, [.int 0, .null, .null, .null, .null, .null, .null])]) := by
      refine lr_init (a := 0) C ct_X9_init hk_wX9_init rfl ⟨(hk_t 21 (by decide +kernel) rfl), (hk_t 22 (by decide +kernel) rfl)⟩ d_law_4 (by decide) ⟨by decide, by decide⟩ (Nat.le_of_ble_eq_true rfl) ?_
      show lw_WP p l e s m below meth c b G [(0, .ref b)] (0 + 1 + 36) (0 + 7 + 8576) (0 + 3 + 1 + 3) [.ref 0] (hl cES)
      intro H locs lsA hS hV hlv
      refine lv_astore_n (lv' := [(1, .ref (hk_b G + 0)), (0, .ref b)]) C.1.1 C.1.2.1 d_law_7 rfl hlv (by decide) rfl (fun lsA hlv => ?_)
      have k8 : lw_WP p l e s m below meth c b G [(1, .ref (hk_b G + 0)), (0, .ref b)] (0 + 1 + 36) (0 + 7 + 8576) 8 [] (hl cES) := by
        refine lr_new (ci := 10) (fs := [.int 0, .null, .null, .int 0, .null, .null, .null, .null, .null, .null, .null, .int 0, .null, .null, .null, .int 0, .null, .int 0, .null, .null, .null, .null, .null, .null, .null, .null, .int 0, .null, .null, .null, .int 0, .null, .null, .null, .null, .int 0, .null, .int 0, .null, .null, .null, .null, .null, .int 0, .int 0, .int 0, .null, .null, .null, .null, .null, .null, .null, .null, .null, .null, .null, .null, .null, .null, .int 0, .null, .null, .null, .null, .int 0, .null, .null, .int 0, .null, .null, .null, .null, .int 0, .null, .null, .null, .int 0, .int 0, .int 0, .int 0]) C tyX10 tyX10_ok rfl hk_in10 ⟨(hk_t 900 (by decide +kernel) rfl), (hk_t 901 (by decide +kernel) rfl), (hk_t 10 (by decide +kernel) rfl)⟩ hk_f10 ⟨by decide, by decide⟩ d_law_8 ?_
        rw [hm_start rfl]
        show lw_WP p l e s m below meth c b G [(1, .ref (hk_b G + 0)), (0, .ref b)] (0 + 1 + 36 + 1) (0 + 7 + 8576 + 81) (8 + 3) [.ref 37] (hm (hl cES).2 [.int 0, .null, .null, .int 0, .null, .null, .null, .null, .null, .null, .null, .int 0, .null, .null, .null, .int 0, .null, .int 0, .null, .null, .null, .null, .null, .null, .null, .null, .int 0, .null, .null, .null, .int 0, .null, .null, .null, .null, .int 0, .null, .int 0, .null, .null, .null, .null, .null, .int 0, .int 0, .int 0, .null, .null, .null, .null, .null, .null, .null, .null, .null, .null, .null, .null, .null, .null, .int 0, .null, .null, .null, .null, .int 0, .null, .null, .int 0, .null, .null, .null, .null, .int 0, .null, .null, .null, .int 0, .int 0, .int 0, .int 0] [])
        intro H locs lsA hS hV hlv
        refine lv_dup C.1.1 C.1.2.1 d_law_11 rfl ?_
        have k12 : lw_WP p l e s m below meth c b G [(1, .ref (hk_b G + 0)), (0, .ref b)] (0 + 1 + 36 + 1) (0 + 7 + 8576 + 81) (8 + 3 + 1) [.ref 37, .ref 37] (hm (hl cES).2 [.int 0, .null, .null, .int 0, .null, .null, .null, .null, .null, .null, .null, .int 0, .null, .null, .null, .int 0, .null, .int 0, .null, .null, .null, .null, .null, .null, .null, .null, .int 0, .null, .null, .null, .int 0, .null, .null, .null, .null, .int 0, .null, .int 0, .null, .null, .null, .null, .null, .int 0, .int 0, .int 0, .null, .null, .null, .null, .null, .null, .null, .null, .null, .null, .null, .null, .null, .null, .int 0, .null, .null, .null, .null, .int 0, .null, .null, .int 0, .null, .null, .null, .null, .int 0, .null, .null, .null, .int 0, .int 0, .int 0, .int 0] []) := by
          refine lr_init (a := 37) C ct_X10_init lw_wX10_init rfl ⟨(hk_t 902 (by decide +kernel) rfl), (hk_t 903 (by decide +kernel) rfl)⟩ d_law_12 (by decide) ⟨by decide, by decide⟩ (Nat.le_of_ble_eq_true rfl) ?_
          refine lr_eqv m0_eqv ?_
          intro H locs lsA hS hV hlv
          refine lv_astore_n (lv' := [(2, .ref (hk_b G + 37)), (1, .ref (hk_b G + 0)), (0, .ref b)]) C.1.1 C.1.2.1 d_law_15 rfl hlv (by decide) rfl (fun lsA hlv => ?_)
          refine lv_iconst (v := 0) C.1.1 C.1.2.1 d_law_16 (by decide) ?_
          refine lv_istore_n (lv' := [(3, .int (nI 0)), (2, .ref (hk_b G + 37)), (1, .ref (hk_b G + 0)), (0, .ref b)]) C.1.1 C.1.2.1 d_law_17 rfl hlv (by decide) rfl (fun lsA hlv => ?_)
          exact lw_loop C hL 0 (Nat.zero_le _) _ _ 0 (fun _ => 0) m0_ Inv0 (by omega) (by omega) H locs lsA hS hV (lv_sub hlv [3, 2, 1, 0] rfl)
        exact k12 H locs lsA hS hV hlv
      exact k8 H locs lsA hS hV hlv
    exact k4 H locs lsA hS hV hlv
  exact key s.heap [] ls hS0 va_S.rf hlv
