/-! minutes: both -/
section CQy
variable {L nC nS nK nD : Nat} {m m0 m1 m2 ms C X : Nat → Nat → Int32} {z : Nat → Nat}
theorem arrs_ne {u a : Nat} (h : a ≠ 10) (h2 : a ≠ 14) : ∀ {i : Nat}, arrs m u i a = m a
  | 0 => rfl
  | i + 1 => by
    by_cases c : mvg (arrs m u i) i ∧ arrs m u i 10 (i * 8 + 3) = nI u
    · rw [arrs_y c, ar_ne h h2]; exact arrs_ne h h2
    · rw [arrs_n c]; exact arrs_ne h h2
theorem tk_ne {a : Nat} (h : a ≠ 10) (h2 : a ≠ 14) (h0 : a ≠ 0) : ∀ {d u : Nat} {m : Nat → Nat → Int32}, tk nK m u d a = m a
  | 0, _, _ => rfl
  | d + 1, u, m => by
    show tk nK (tick nK m (u + 1)) (u + 1) d a = m a
    rw [tk_ne h h2 h0]
    unfold tick
    rw [arrs_ne h h2, spC_ne h h0]
theorem tk_00 : ∀ {d u : Nat} {m : Nat → Nat → Int32}, m 0 0 = nI u → tk nK m u d 0 0 = nI (u + d)
  | 0, _, _, h => h
  | d + 1, u, m, h => by
    show tk nK (tick nK m (u + 1)) (u + 1) d 0 0 = _
    rw [tk_00 (u := u + 1), show u + 1 + d = u + (d + 1) by omega]
    unfold tick
    rw [arrs_ne (by decide) (by decide)]
    exact hk_w_eq
theorem tk_01 : ∀ {d u : Nat} {m : Nat → Nat → Int32} {j : Nat}, j ≠ 0 → tk nK m u d 0 j = m 0 j
  | 0, _, _, _, _ => rfl
  | d + 1, u, m, j, h => by
    show tk nK (tick nK m (u + 1)) (u + 1) d 0 j = _
    rw [tk_01 h]
    unfold tick
    rw [arrs_ne (by decide) (by decide)]
    unfold spC
    rw [hk_w_off h, spK_ne (by decide)]
theorem op_minutes (hI : Inv L z m) (n : Int32) : OpE L m MX9_minutes MX10_minutes [.int n] := by
  obtain ⟨g0, ⟨⟨a0, a1, a2, a3, a4, a5, a6, a7, a8, a9, a10, a11, a12, a13⟩, ⟨b0, b1, b2, b3, b4, b5, b6, b7, b8, b9, b10, b11, b12⟩, ⟨c0, c1, c2, c3, c4, c5, c6, c7, c8, c9, c10, c11, c12⟩⟩, g2, g3, g4, g5, g6, g7, g8, g9, g10, g11, g12, g13, g14⟩ := id hI
  by_cases hok : ¬ n < 1 ∧ ¬ 1440 < n ∧ nI (z 8) + n < 720000
  rotate_left 1
  · exact OpOK.e ⟨5, 0, 0, 2, -1, L, m, m, z, by decide, by decide, by decide, by decide, ct_min_no a8 hok, md_min_no b8 c8 hok, hI⟩
  obtain ⟨h1, h2, h3⟩ := hok
  obtain ⟨d, hd, rfl⟩ : ∃ d : Nat, d < 1441 ∧ n = nI d := hk_dn (fun e => h1 (Int32.lt_trans e (by decide))) (fun e => h2 (Int32.lt_of_lt_of_le (by decide) e)) (by decide)
  have hd1 : 1 ≤ d := by
    refine Nat.one_le_iff_ne_zero.mpr (fun e => ?_)
    subst e
    exact h1 (by decide)
  have hv : z 8 + d < 720000 := by
    rw [nI_add] at h3
    exact (nI_ltI (by omega) (by decide)).mp (show nI (z 8 + d) < nI 720000 from h3)
  have hco := g5.1
  have hmov : ∀ x, x < z 2 → (mvg m x ↔ (m 55 x = 2 ∨ m 55 x = 3)) := fun x hx => by unfold mvg; rw [(hco x hx).1]
  have hW : WC (z 2) (z 3) m := by
    refine ⟨fun c hc => ?_, fun s hs => ?_⟩
    · obtain ⟨e1, e2, e3, e4, e5, e6, ⟨g0, a, s0, h, k1, k2, k3, k4, k5, k6, k7, k8⟩, e8, e9, e10, e11, e12⟩ := hco c hc
      refine ⟨⟨s0, e3.trans k5, k6⟩, fun q => ?_, fun q => ?_⟩
      · obtain ⟨q1, w, q2, q3, q4⟩ := e8 ((hmov c hc).mp q)
        exact ⟨w, q1.trans q2, q4⟩
      · obtain ⟨q1, q2⟩ := e11 (e1.symm.trans q)
        rcases q2 with q2 | ⟨s, hs, q3, _⟩
        · exact Or.inl (q1.trans q2)
        · exact Or.inr ⟨s, hs, q1.trans q3⟩
    · obtain ⟨e1, e2, e3, a, p, q, k1, k2, k3, k4, k5, k6, k7, _⟩ := g7.1 s hs
      exact ⟨p, q, e2.trans k3, e3.trans k6, k7, k5⟩
  have hlt : ∀ x, x < z 2 → mvg m x → ∀ a : Nat, a < 1000000 → m 10 (x * 8 + 3) = nI a → z 8 < a := fun x hx hm a ha ea => by
    obtain ⟨_, _, _, _, _, _, _, e8, _⟩ := hco x hx
    obtain ⟨q1, w, q2, q3, q4⟩ := e8 ((hmov x hx).mp hm)
    rw [q1, q2, nI_eq (by omega) (by omega)] at ea
    omega
  have hF : tkF (z 2) m (z 8) d = tk (z 2) m (z 8) d := by
    unfold tkF
    rw [arrs_none (fun x hx q => ?_)]
    have := hlt x hx q.1 (z 8) (by omega) q.2
    omega
  have hA := ct_min (L := L) a2 c2 a3 c3 hW a8 hd1 (by omega) hv (fun x hx hm a ha ea => Nat.le_of_lt (hlt x hx hm a ha ea))
  rw [hF] at hA
  obtain ⟨M0, eM⟩ : ∃ M0, M0 = tk (z 2) m (z 8) d := ⟨_, rfl⟩
  have f0 : ∀ a, a ≠ 10 → a ≠ 14 → a ≠ 0 → M0 a = m a := fun a k1 k2 k3 => by rw [eM]; exact tk_ne k1 k2 k3
  have hR : RelA (z 0) (z 2) (z 3) (z 8) m M0 := by
    unfold RelA
    rw [f0 51 (by decide) (by decide) (by decide), f0 52 (by decide) (by decide) (by decide), f0 53 (by decide) (by decide) (by decide), f0 54 (by decide) (by decide) (by decide), f0 55 (by decide) (by decide) (by decide), f0 56 (by decide) (by decide) (by decide), f0 57 (by decide) (by decide) (by decide), f0 58 (by decide) (by decide) (by decide), f0 62 (by decide) (by decide) (by decide), f0 63 (by decide) (by decide) (by decide), f0 64 (by decide) (by decide) (by decide), f0 65 (by decide) (by decide) (by decide)]
    exact ⟨g5, g7⟩
  have e37 : M0 37 = m 37 := f0 37 (by decide) (by decide) (by decide)
  refine ⟨5, 0, 0, 2, by decide, by decide, by decide, by decide, hk_imp ?_ hA⟩
  rintro r h ⟨rfl, rfl⟩
  rw [← eM]
  refine ⟨_, L, M0, rfl, rfl, hk_imp ?_ (md_min (L := L) (X0 := M0) (C := m) (u := z 8) (d := d) c2 c3 hd1 (by omega) hv (by rw [e37]; exact b2) (by rw [e37]; exact b8) hR)⟩
  rintro r h ⟨rfl, X1, rfl, r1, r2, r3, r4⟩
  rw [← eM] at r1
  have q : ∀ a, a ∉ [0, 10, 14, 37, 53, 55, 64, 65] → X1 a = m a := fun a ha => (r2 a (ni_l ha (by decide))).trans (f0 a (ni_e ha (by decide)) (ni_e ha (by decide)) (ni_e ha (by decide)))
  refine ⟨X1, _, rfl, rfl, Inv_co hI hv (fun a n3 n6 n16 n18 n20 n21 n26 n37 n47 n48 n49 n72 n0 n10 n14 n53 n55 n56 n57 n58 n64 n65 => q a (by simp only [List.mem_cons, List.not_mem_nil, or_false]; omega)) (fun j _ => by rw [q 3 (by decide)]) (by rw [q 16 (by decide)]) (fun j j0 _ _ _ _ _ _ => by rw [r3 j j0, e37]) ?_ r4 ?_ ?_⟩
  · rw [r2 0 (by decide), eM]; exact tk_00 a8
  · have hc := r1.1
    rw [r2 10 (by decide), r2 14 (by decide), q 51 (by decide), q 52 (by decide), q 54 (by decide), q 56 (by decide), q 57 (by decide), q 58 (by decide)]
    rw [q 51 (by decide), q 52 (by decide), q 54 (by decide), q 56 (by decide), q 57 (by decide), q 58 (by decide)] at hc
    exact hc
  · have hc := r1.2
    rw [r2 10 (by decide), r2 14 (by decide), q 62 (by decide), q 63 (by decide)]
    rw [q 62 (by decide), q 63 (by decide)] at hc
    exact hc
end CQy
