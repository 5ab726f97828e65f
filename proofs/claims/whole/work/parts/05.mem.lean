/-! rows of the hk_ layer: fields, arrays, making, calls -/
theorem hk_t {w : Cond} (i : Nat) (hi : tables_1[i]? = some w) (hg : goodWord w = true) : w ∈ hk_T := hk_T_good (List.mem_append_right _ (List.mem_of_getElem? hi)) hg
theorem hk_ts {w : Cond} (i : Nat) (hi : (k2_sels lw_privs)[i]? = some w) (hg : goodWord w = true) : w ∈ hk_T := hk_T_good (List.mem_append_left _ (List.mem_of_getElem? hi)) hg
theorem hk_n {w : Cond} (i : Nat) (hi : tables_1[i]? = some w) (hg : hk_isN w = true) : w ∈ hk_N := List.mem_filter.mpr ⟨List.mem_of_getElem? hi, hg⟩
section HM
variable {M : hk_M} {d mc ms k n pc : Nat} {ls : List (Option Value)} {st : List Value} {h : hk_H} {Q : Option Value → hk_H → Prop}
theorem hk_wl_obj {G : hk_G} {a ci : Nat} {fs : List Value} (ha : a < h.1) (he : h.2 a = .inr (ci, fs)) : (hk_wl G h)[a]? = some (hk_b G + a, .inr (ci, fs.map (hk_v (hk_b G)))) := by
  rw [hk_wl_get ha, he]; rfl
theorem hk_wl_int {G : hk_G} {a t N : Nat} {f : Nat → Int32} (ha : a < h.1) (he : h.2 a = .inl (t, N, .inl f)) : (hk_wl G h)[a]? = some (hk_b G + a, .inl (hk_cid G t, N, .inl f)) := by
  rw [hk_wl_get ha, he]; rfl
theorem hk_wl_ref {G : hk_G} {a t N : Nat} {f : Nat → Option Nat} (ha : a < h.1) (he : h.2 a = .inl (t, N, .inr f)) : (hk_wl G h)[a]? = some (hk_b G + a, .inl (hk_cid G t, N, .inr (.inr (.inr (.inr (fun j => (f j).map (fun a => hk_b G + a))))))) := by
  rw [hk_wl_get ha, he]; rfl
theorem hk_getf {C : String} {T : u_T} {N ci idx kf a : Nat} {fs : List Value} {v : Value} (hc : vwCl[ci]? = some (C, T, N)) (hin : ∀ w ∈ u_ws C T N, w ∈ hk_T) (hkN : kf < N) (hlink : Cond.fieldLink M.1.cls idx (T kf).1 (T kf).2.1 (T kf).2.2.1 ∈ hk_T)
    (hd : decode M.2.1 pc = .ok (.getfield idx, 3)) (ha : a < h.1) (he : h.2 a = .inr (ci, fs)) (hv : fs[kf]? = some v) (kk : hk_WP M d mc ms k n (pc + 3) ls (v :: st) h Q) : hk_WP M d mc ms k n pc ls (.ref a :: st) h Q := by
  intro G p l e R s m args below meth c H locs lsA C0 hS hV hL
  exact va_get C0.1 C0.2.1 C0.2.2.2.2.1 hin C0.2.2.2.1 hS.1 hS.2.1 a (hk_wl_obj ha he) hc kf hkN (C0.2.2.2.2.1 _ hlink) (fun _ h => h) (by rw [List.getElem?_map, hv]; rfl) hd (kk G p l e R s m args below meth c H locs lsA C0 hS hV hL)
theorem hk_getfN {C host : String} {T : u_T} {N ci idx kf a : Nat} {fs : List Value} {v : Value} (hc : vwCl[ci]? = some (C, T, N)) (hin : ∀ w ∈ u_ws C T N, w ∈ hk_T) (hkN : kf < N) (hlink : Cond.fieldLinkNest M.1.cls idx (T kf).1 (T kf).2.1 (T kf).2.2.1 host ∈ hk_N)
    (hd : decode M.2.1 pc = .ok (.getfield idx, 3)) (ha : a < h.1) (he : h.2 a = .inr (ci, fs)) (hv : fs[kf]? = some v) (kk : hk_WP M d mc ms k n (pc + 3) ls (v :: st) h Q) : hk_WP M d mc ms k n pc ls (.ref a :: st) h Q := by
  intro G p l e R s m args below meth c H locs lsA C0 hS hV hL
  exact va_getN C0.1 C0.2.1 C0.2.2.2.2.1 hin C0.2.2.2.1 hS.1 hS.2.1 a (hk_wl_obj ha he) hc kf hkN (va_Nw.use rfl (C0.2.2.2.2.2.2.2.2.2.2.1 _ hlink)) (fun _ h => h) (by rw [List.getElem?_map, hv]; rfl) hd (kk G p l e R s m args below meth c H locs lsA C0 hS hV hL)
theorem hk_set_map {G : hk_G} {fs : List Value} {kf : Nat} {v : Value} : (fs.map (hk_v (hk_b G))).set kf (hk_v (hk_b G) v) = (fs.set kf v).map (hk_v (hk_b G)) := List.map_set.symm
theorem hk_S_set {G : hk_G} {a : Nat} {x : hk_E} {s : State} {H H1 : Heap} (hS : hk_S G h s H) (hP : va_P G.1 vwCl ((hk_wl G h).set a (hk_b G + a, hk_ce G x)) H1) (hz : H1.size = H.size) : hk_S G (hk_up h a x) s H1 :=
  ⟨hS.1, hk_wl_set x ▸ hP, hz.trans hS.2.2⟩
theorem hk_putf {C : String} {T : u_T} {N ci idx kf a : Nat} {fs : List Value} {v : Value} (ty0 : Nat → FieldType) (hty : ∀ k, k < N → parseFieldDescriptor (T k).2.2.1 = some (ty0 k)) (hnm : ∀ a, a < N → ∀ b, b < N → a ≠ b → (T a).2.1 ≠ (T b).2.1)
    (hc : vwCl[ci]? = some (C, T, N)) (hin : ∀ w ∈ u_ws C T N, w ∈ hk_T) (hkN : kf < N) (hlink : Cond.fieldLink M.1.cls idx (T kf).1 (T kf).2.1 (T kf).2.2.1 ∈ hk_T) (hfin : (T kf).2.2.2 = false)
    (hn : ∀ b, narrow (ty0 kf) (hk_v b v) = hk_v b v) (hfit : ∀ b, fits (ty0 kf) (hk_v b v) = true)
    (hd : decode M.2.1 pc = .ok (.putfield idx, 3)) (ha : a < h.1) (he : h.2 a = .inr (ci, fs)) (hl : kf < fs.length) (kk : hk_WP M d mc ms k n (pc + 3) ls st (hk_up h a (.inr (ci, fs.set kf v))) Q) : hk_WP M d mc ms k n pc ls (v :: .ref a :: st) h Q := by
  intro G p l e R s m args below meth c H locs lsA C0 hS hV hL
  intro T0 hT0 X0
  refine va_put C0.1 C0.2.1 C0.2.2.2.2.1 hin ty0 hty hnm C0.2.2.2.1 hS.1 hS.2.1 (hk_D G h) hV a (hk_wl_obj ha he) hc kf hkN (C0.2.2.2.2.1 _ hlink) (fun _ h => h) hfin (hty kf hkN) (hn _) (hfit _) (by rw [List.length_map]; exact hl) hd (fun H1 locs1 hP hD hV1 => ?_) T0 hT0 X0
  rw [hk_set_map] at hP
  have hz : H1.size = H.size := sorry
  exact kk G p l e R s m args below meth c H1 locs1 lsA C0 (hk_S_set (x := .inr (ci, fs.set kf v)) hS hP hz) hV1 hL
end HM
