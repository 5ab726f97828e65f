/-! rows of the hk_ layer: fields, arrays, making, calls -/
theorem hk_t {w : Cond} (i : Nat) (hi : tables_1[i]? = some w) (hg : goodWord w = true) : w ∈ hk_T := hk_T_good (List.mem_append_right _ (List.mem_of_getElem? hi)) hg
theorem hk_ts {w : Cond} (i : Nat) (hi : (k2_sels lw_privs)[i]? = some w) (hg : goodWord w = true) : w ∈ hk_T := hk_T_good (List.mem_append_left _ (List.mem_of_getElem? hi)) hg
theorem hk_n {w : Cond} (i : Nat) (hi : tables_1[i]? = some w) (hg : hk_isN w = true) : w ∈ hk_N := List.mem_filter.mpr ⟨List.mem_of_getElem? hi, hg⟩
section HM
variable {M : hk_M} {d mc ms k n pc : Nat} {ls : List (Option Value)} {st : List Value} {h : hk_H} {Q : Option Value → hk_H → Prop}
theorem hk_wl_obj {G : hk_G} {a ci : Nat} {fs : List Value} (ha : a < h.1) (he : h.2 a = .inr (ci, fs)) : (hk_wl G h)[a]? = some (hk_b G + a, .inr (ci, fs.map (hk_v (hk_b G)))) := by
  rw [hk_wl_get ha, he]; rfl
theorem hk_wl_int {G : hk_G} {a t N : Nat} {f : Nat → Int32} (ha : a < h.1) (he : h.2 a = .inl (t, N, .inl f)) : (hk_wl G h)[a]? = some (hk_b G + a, .inl (hk_cid G t, N, .inl f)) := by
  rw [hk_wl_get ha, he]; rfl
theorem hk_wl_ref {G : hk_G} {a t N : Nat} {f : Nat → Option Nat} (ha : a < h.1) (he : h.2 a = .inl (t, N, .inr f)) : (hk_wl G h)[a]? = some (hk_b G + a, .inl (hk_cid G t, N, .inr (.inr (.inr (.inr (fun j => (f j).map (fun a => hk_b G + a))))))) := by
  rw [hk_wl_get ha, he]; rfl
theorem hk_getf {C : String} {T : u_T} {N ci idx kf a : Nat} {fs : List Value} {v : Value} (hc : vwCl[ci]? = some (C, T, N)) (hin : ∀ w ∈ u_ws C T N, w ∈ hk_T) (hkN : kf < N) (hlink : Cond.fieldLink M.1.cls idx (T kf).1 (T kf).2.1 (T kf).2.2.1 ∈ hk_T)
    (hd : decode M.2.1 pc = .ok (.getfield idx, 3)) (ha : a < h.1) (he : h.2 a = .inr (ci, fs)) (hv : fs[kf]? = some v) (kk : hk_WP M d mc ms k n (pc + 3) ls (v :: st) h Q) : hk_WP M d mc ms k n pc ls (.ref a :: st) h Q := by
  intro G p l e R s m args below meth c H locs lsA C0 hS hV hL
  exact va_get C0.1 C0.2.1 C0.2.2.2.2.1 hin C0.2.2.2.1 hS.1 hS.2.1 a (hk_wl_obj ha he) hc kf hkN (C0.2.2.2.2.1 _ hlink) (fun _ h => h) (by rw [List.getElem?_map, hv]; rfl) hd (kk G p l e R s m args below meth c H locs lsA C0 hS hV hL)
theorem hk_getfN {C host : String} {T : u_T} {N ci idx kf a : Nat} {fs : List Value} {v : Value} (hc : vwCl[ci]? = some (C, T, N)) (hin : ∀ w ∈ u_ws C T N, w ∈ hk_T) (hkN : kf < N) (hlink : Cond.fieldLinkNest M.1.cls idx (T kf).1 (T kf).2.1 (T kf).2.2.1 host ∈ hk_N)
    (hd : decode M.2.1 pc = .ok (.getfield idx, 3)) (ha : a < h.1) (he : h.2 a = .inr (ci, fs)) (hv : fs[kf]? = some v) (kk : hk_WP M d mc ms k n (pc + 3) ls (v :: st) h Q) : hk_WP M d mc ms k n pc ls (.ref a :: st) h Q := by
  intro G p l e R s m args below meth c H locs lsA C0 hS hV hL
  exact va_getN C0.1 C0.2.1 C0.2.2.2.2.1 hin C0.2.2.2.1 hS.1 hS.2.1 a (hk_wl_obj ha he) hc kf hkN (va_Nw.use rfl (C0.2.2.2.2.2.2.2.2.2.2.1 _ hlink)) (fun _ h => h) (by rw [List.getElem?_map, hv]; rfl) hd (kk G p l e R s m args below meth c H locs lsA C0 hS hV hL)
theorem hk_set_map {G : hk_G} {fs : List Value} {kf : Nat} {v : Value} : (fs.map (hk_v (hk_b G))).set kf (hk_v (hk_b G) v) = (fs.set kf v).map (hk_v (hk_b G)) := List.map_set.symm
theorem hk_S_set {G : hk_G} {a : Nat} {x : hk_E} {s : State} {H H1 : Heap} (hS : hk_S G h s H) (hP : va_P G.1 vwCl ((hk_wl G h).set a (hk_b G + a, hk_ce G x)) H1) (hz : H1.size = H.size) : hk_S G (hk_up h a x) s H1 :=
  ⟨hS.1, hk_wl_set x ▸ hP, hz.trans hS.2.2⟩
theorem hk_putf {C : String} {T : u_T} {N ci idx kf a : Nat} {fs : List Value} {v : Value} (ty0 : Nat → FieldType) (hty : ∀ k, k < N → parseFieldDescriptor (T k).2.2.1 = some (ty0 k)) (hnm : ∀ a, a < N → ∀ b, b < N → a ≠ b → (T a).2.1 ≠ (T b).2.1)
    (hc : vwCl[ci]? = some (C, T, N)) (hin : ∀ w ∈ u_ws C T N, w ∈ hk_T) (hkN : kf < N)
    (hlink : Cond.fieldLink M.1.cls idx (T kf).1 (T kf).2.1 (T kf).2.2.1 ∈ hk_T) (hfin : (T kf).2.2.2 = false)
    (hn : ∀ b, narrow (ty0 kf) (hk_v b v) = hk_v b v) (hfit : ∀ b, fits (ty0 kf) (hk_v b v) = true)
    (hd : decode M.2.1 pc = .ok (.putfield idx, 3)) (ha : a < h.1) (he : h.2 a = .inr (ci, fs)) (hl : kf < fs.length) (kk : hk_WP M d mc ms k n (pc + 3) ls st (hk_up h a (.inr (ci, fs.set kf v))) Q) : hk_WP M d mc ms k n pc ls (v :: .ref a :: st) h Q := by
  intro G p l e R s m args below meth c H locs lsA C0 hS hV hL
  have hap := va_apart (own := M.1.cls) C0.2.2.2.2.1 hin ty0 hty hnm hS.1 hc
  have he' := hk_wl_obj (G := G) ha he
  obtain ⟨r, h1, cell, q1, q2, q3, q4⟩ := hS.2.1 a _ he'
  obtain rfl : r = (C, T, N) := Option.some.inj (h1.symm.trans hc)
  obtain ⟨hSl, hfc, kC, hkC, hkind⟩ := hS.1.1 ci _ hc
  obtain ⟨cf, kf', fi, f, hi, hsl⟩ := hSl kf hkN
  have hlay := C0.2.2.2.2.1 _ (hin _ (u_in_lay hkN))
  simp only [u_lay, hfin, Bool.false_eq_true, if_false] at hlay
  have hst := (u_facts hfc hkC (u_lays C0.2.2.2.2.1 hin hkN) hi).1
  have h6 := u_store hfc hkC hkind hlay hi (hty kf hkN) (hn (hk_b G)) (hfit (hk_b G))
  refine W.putK C0.1 C0.2.1 (f := f) ⟨C0.2.2.2.1, C0.2.2.2.2.1 _ hlink, ⟨_, _, _, hi⟩, hst⟩ (by rw [q2]; exact h6) q1 q3 (by rw [hsl]; exact k2_hasslot (q4 kf hkN)) rfl rfl hd fun H1 e1 e2 e3 => ?_
  rw [hsl] at e1 ⊢
  have hP1 := hS.2.1.set (hk_D G h) he' (e := .inr (ci, (fs.map (hk_v (hk_b G))).set kf (hk_v (hk_b G) v))) (H1 := H1) ⟨_, hc, t_OB.to (V := updV (vp_V (fs.map (hk_v (hk_b G)))) kf (hk_v (hk_b G) v)) ⟨_, e1, q2, q3, t_set q4 hap hkN _⟩ (fun j _ => vp_updV_set (by rw [List.length_map]; exact hl) _ j)⟩ e3
  rw [hk_set_map] at hP1
  exact kk G p l e R s m args below meth c H1 _ lsA C0 (hk_S_set (x := .inr (ci, fs.set kf v)) hS hP1 e2) (hV.put e2 e3 (Nat.le_add_right _ _)) hL
theorem hk_putfN {C host : String} {T : u_T} {N ci idx kf a : Nat} {fs : List Value} {v : Value} (ty0 : Nat → FieldType) (hty : ∀ k, k < N → parseFieldDescriptor (T k).2.2.1 = some (ty0 k)) (hnm : ∀ a, a < N → ∀ b, b < N → a ≠ b → (T a).2.1 ≠ (T b).2.1)
    (hc : vwCl[ci]? = some (C, T, N)) (hin : ∀ w ∈ u_ws C T N, w ∈ hk_T) (hkN : kf < N)
    (hlink : Cond.fieldLinkNest M.1.cls idx (T kf).1 (T kf).2.1 (T kf).2.2.1 host ∈ hk_N) (hfin : (T kf).2.2.2 = false)
    (hn : ∀ b, narrow (ty0 kf) (hk_v b v) = hk_v b v) (hfit : ∀ b, fits (ty0 kf) (hk_v b v) = true)
    (hd : decode M.2.1 pc = .ok (.putfield idx, 3)) (ha : a < h.1) (he : h.2 a = .inr (ci, fs)) (hl : kf < fs.length) (kk : hk_WP M d mc ms k n (pc + 3) ls st (hk_up h a (.inr (ci, fs.set kf v))) Q) : hk_WP M d mc ms k n pc ls (v :: .ref a :: st) h Q := by
  intro G p l e R s m args below meth c H locs lsA C0 hS hV hL
  have hap := va_apart (own := M.1.cls) C0.2.2.2.2.1 hin ty0 hty hnm hS.1 hc
  have he' := hk_wl_obj (G := G) ha he
  obtain ⟨r, h1, cell, q1, q2, q3, q4⟩ := hS.2.1 a _ he'
  obtain rfl : r = (C, T, N) := Option.some.inj (h1.symm.trans hc)
  obtain ⟨hSl, hfc, kC, hkC, hkind⟩ := hS.1.1 ci _ hc
  obtain ⟨cf, kf', fi, f, hi, hsl⟩ := hSl kf hkN
  have hlay := C0.2.2.2.2.1 _ (hin _ (u_in_lay hkN))
  simp only [u_lay, hfin, Bool.false_eq_true, if_false] at hlay
  have hst := (u_facts hfc hkC (u_lays C0.2.2.2.2.1 hin hkN) hi).1
  have h6 := u_store hfc hkC hkind hlay hi (hty kf hkN) (hn (hk_b G)) (hfit (hk_b G))
  refine va_WputK C0.1 C0.2.1 (f := f) C0.2.2.2.1 (va_Nw.use rfl (C0.2.2.2.2.2.2.2.2.2.2.1 _ hlink)) hi hst (by rw [q2]; exact h6) q1 q3 (by rw [hsl]; exact k2_hasslot (q4 kf hkN)) rfl rfl hd fun H1 e1 e2 e3 => ?_
  rw [hsl] at e1 ⊢
  have hP1 := hS.2.1.set (hk_D G h) he' (e := .inr (ci, (fs.map (hk_v (hk_b G))).set kf (hk_v (hk_b G) v))) (H1 := H1) ⟨_, hc, t_OB.to (V := updV (vp_V (fs.map (hk_v (hk_b G)))) kf (hk_v (hk_b G) v)) ⟨_, e1, q2, q3, t_set q4 hap hkN _⟩ (fun j _ => vp_updV_set (by rw [List.length_map]; exact hl) _ j)⟩ e3
  rw [hk_set_map] at hP1
  exact kk G p l e R s m args below meth c H1 _ lsA C0 (hk_S_set (x := .inr (ci, fs.set kf v)) hS hP1 e2) (hV.put e2 e3 (Nat.le_add_right _ _)) hL
theorem hk_putF {C : String} {T : u_T} {N ci idx kf a : Nat} {fs : List Value} {v : Value} (ty0 : Nat → FieldType) (hty : ∀ k, k < N → parseFieldDescriptor (T k).2.2.1 = some (ty0 k)) (hnm : ∀ a, a < N → ∀ b, b < N → a ≠ b → (T a).2.1 ≠ (T b).2.1)
    (hc : vwCl[ci]? = some (C, T, N)) (hin : ∀ w ∈ u_ws C T N, w ∈ hk_T) (hkN : kf < N)
    (hlink : Cond.fieldLink M.1.cls idx (T kf).1 (T kf).2.1 (T kf).2.2.1 ∈ hk_T) (hfin : (T kf).2.2.2 = true) (hinit : M.1.name = "<init>") (hdecl : (T kf).1 = M.1.cls)
    (hn : ∀ b, narrow (ty0 kf) (hk_v b v) = hk_v b v) (hfit : ∀ b, fits (ty0 kf) (hk_v b v) = true)
    (hd : decode M.2.1 pc = .ok (.putfield idx, 3)) (ha : a < h.1) (he : h.2 a = .inr (ci, fs)) (hl : kf < fs.length) (kk : hk_WP M d mc ms k n (pc + 3) ls st (hk_up h a (.inr (ci, fs.set kf v))) Q) : hk_WP M d mc ms k n pc ls (v :: .ref a :: st) h Q := by
  intro G p l e R s m args below meth c H locs lsA C0 hS hV hL
  have hap := va_apart (own := M.1.cls) C0.2.2.2.2.1 hin ty0 hty hnm hS.1 hc
  have he' := hk_wl_obj (G := G) ha he
  obtain ⟨r, h1, cell, q1, q2, q3, q4⟩ := hS.2.1 a _ he'
  obtain rfl : r = (C, T, N) := Option.some.inj (h1.symm.trans hc)
  obtain ⟨hSl, hfc, kC, hkC, hkind⟩ := hS.1.1 ci _ hc
  obtain ⟨cf, kf', fi, f, hi, hsl⟩ := hSl kf hkN
  have hlay := C0.2.2.2.2.1 _ (hin _ (u_in_lay hkN))
  simp only [u_lay, hfin, if_true] at hlay
  have hst := (u_facts hfc hkC (u_lays C0.2.2.2.2.1 hin hkN) hi).1
  have hcf : m.cls = cf := by
    obtain ⟨_, _, c', _, _, _, -, -, hf', -, -, -, hown2, -⟩ := Cond.laysFinal_spec hlay
    have e1 : c' = cf := by have := hi.symm.trans hf'; simp at this; exact this.1.symm
    rw [hdecl] at hown2
    rw [← e1]; exact Option.some.inj (C0.2.2.2.1.symm.trans hown2)
  have h6 := u_fits hfc hkC hkind (Or.inr hlay) hi (hty kf hkN) (hn (hk_b G)) (hfit (hk_b G))
  refine W.putFinK C0.1 C0.2.1 C0.2.2.2.1 (C0.2.2.2.2.1 _ hlink) hi hst hcf (C0.2.2.2.2.2.2.2.1.trans hinit) (by rw [q2]; exact h6) q1 q3 (by rw [hsl]; exact k2_hasslot (q4 kf hkN)) rfl rfl hd fun H1 e1 e2 e3 => ?_
  rw [hsl] at e1 ⊢
  have hP1 := hS.2.1.set (hk_D G h) he' (e := .inr (ci, (fs.map (hk_v (hk_b G))).set kf (hk_v (hk_b G) v))) (H1 := H1) ⟨_, hc, t_OB.to (V := updV (vp_V (fs.map (hk_v (hk_b G)))) kf (hk_v (hk_b G) v)) ⟨_, e1, q2, q3, t_set q4 hap hkN _⟩ (fun j _ => vp_updV_set (by rw [List.length_map]; exact hl) _ j)⟩ e3
  rw [hk_set_map] at hP1
  exact kk G p l e R s m args below meth c H1 _ lsA C0 (hk_S_set (x := .inr (ci, fs.set kf v)) hS hP1 e2) (hV.put e2 e3 (Nat.le_add_right _ _)) hL
theorem hk_iaload {a N : Nat} {f : Nat → Int32} {i : Int32} (hd : decode M.2.1 pc = .ok (.iaload, 1)) (ha : a < h.1) (he : h.2 a = .inl (0, N, .inl f)) (hin : vp_in i N) (kk : hk_WP M d mc ms k n (pc + 1) ls (.int (f i.toNatClampNeg) :: st) h Q) : hk_WP M d mc ms k n pc ls (.int i :: .ref a :: st) h Q := by
  intro G p l e R s m args below meth c H locs lsA C0 hS hV hL
  exact va_iald C0.1 C0.2.1 hS.1 hS.2.1 a 0 (hk_wl_int ha he) rfl hin hd (kk G p l e R s m args below meth c H locs lsA C0 hS hV hL)
theorem hk_zaload {a N : Nat} {f : Nat → Int32} {i : Int32} (hd : decode M.2.1 pc = .ok (.baload, 1)) (ha : a < h.1) (he : h.2 a = .inl (1, N, .inl f)) (hin : vp_in i N) (kk : hk_WP M d mc ms k n (pc + 1) ls (.int (f i.toNatClampNeg) :: st) h Q) : hk_WP M d mc ms k n pc ls (.int i :: .ref a :: st) h Q := by
  intro G p l e R s m args below meth c H locs lsA C0 hS hV hL
  exact va_zald C0.1 C0.2.1 hS.1 hS.2.1 a 1 (hk_wl_int ha he) rfl hin hd (kk G p l e R s m args below meth c H locs lsA C0 hS hV hL)
theorem hk_aaload {a N : Nat} {f : Nat → Option Nat} {i : Int32} (hd : decode M.2.1 pc = .ok (.aaload, 1)) (ha : a < h.1) (he : h.2 a = .inl (2, N, .inr f)) (hin : vp_in i N) (kk : hk_WP M d mc ms k n (pc + 1) ls (va_rf (f i.toNatClampNeg) :: st) h Q) : hk_WP M d mc ms k n pc ls (.int i :: .ref a :: st) h Q := by
  intro G p l e R s m args below meth c H locs lsA C0 hS hV hL
  refine va_aldq C0.1 C0.2.1 hS.1 hS.2.1 a 2 (hk_wl_ref ha he) rfl hin hd ?_
  have := kk G p l e R s m args below meth c H locs lsA C0 hS hV hL
  have e9 : va_rf ((f i.toNatClampNeg).map (fun a => hk_b G + a)) = hk_v (hk_b G) (va_rf (f i.toNatClampNeg)) := by cases f i.toNatClampNeg <;> rfl
  simp only [e9]
  exact this
theorem hk_alen {a t N : Nat} {x : (Nat → Int32) ⊕ (Nat → Option Nat)} {v : Int32} (hd : decode M.2.1 pc = .ok (.arraylength, 1)) (ha : a < h.1) (he : h.2 a = .inl (t, N, x)) (hv : Int32.ofNat N = v) (kk : hk_WP M d mc ms k n (pc + 1) ls (.int v :: st) h Q) : hk_WP M d mc ms k n pc ls (.ref a :: st) h Q := by
  intro G p l e R s m args below meth c H locs lsA C0 hS hV hL
  have K := kk G p l e R s m args below meth c H locs lsA C0 hS hV hL
  have ht : ∃ (i : Nat) (ty : FieldType), (hk_tys G)[i]? = some (hk_cid G t, ty) := by
    match t with
    | 0 => exact ⟨0, _, rfl⟩
    | 1 => exact ⟨1, _, rfl⟩
    | t + 2 => exact ⟨2, _, rfl⟩
  obtain ⟨i, ty, ht⟩ := ht
  match x, he with
  | .inl f, he => exact va_alen C0.1 C0.2.1 hS.1 hS.2.1 a i (hk_wl_int ha he) ht hv hd K
  | .inr f, he => exact va_alen C0.1 C0.2.1 hS.1 hS.2.1 a i (hk_wl_ref ha he) ht hv hd K
theorem hk_arr_st {cA : ClassId} {N i : Nat} {f : Nat → Int32} {x : Int32} : (arrV cA N (fun j => .int (f j))).setSlot i (.int x) = vp_cell cA (N, .inl (upd f i x)) := by
  rw [vp_cell_i, arrV_store]
  congr 1
  funext q
  by_cases hq : q = i
  · subst hq; simp [updV, upd]
  · simp [updV, upd, hq]
theorem hk_iastore {a N : Nat} {f : Nat → Int32} {i x : Int32} (hd : decode M.2.1 pc = .ok (.iastore, 1)) (ha : a < h.1) (he : h.2 a = .inl (0, N, .inl f)) (hin : vp_in i N) (kk : hk_WP M d mc ms k n (pc + 1) ls st (hk_up h a (.inl (0, N, .inl (upd f i.toNatClampNeg x)))) Q) : hk_WP M d mc ms k n pc ls (.int x :: .int i :: .ref a :: st) h Q := by
  intro G p l e R s m args below meth c H locs lsA C0 hS hV hL
  have he' := hk_wl_int (G := G) ha he
  have hP := hS.2.1 a _ he'
  refine W.iast C0.1 C0.2.1 hP ((hS.1.2 0 _ rfl).1 N (fun j => .int (f j))) (fun q => by cases q) (by show ¬ (i < 0 ∨ (arrV _ _ _).slots.size ≤ _); rw [arrV_size]; exact hin) rfl rfl hd fun H1 e7 z oq => ?_
  have hP1 := hS.2.1.set (hk_D G h) he' (e := .inl (hk_cid G 0, N, .inl (upd f i.toNatClampNeg x))) (H1 := H1) (by show H1[_]? = some (vp_cell _ _); rw [← hk_arr_st]; exact e7) oq
  exact kk G p l e R s m args below meth c H1 _ lsA C0 (hk_S_set (x := .inl (0, N, .inl (upd f i.toNatClampNeg x))) hS hP1 z) (hV.put z oq (Nat.le_add_right _ _)) hL
theorem hk_zastore {a N : Nat} {f : Nat → Int32} {i x : Int32} (hx : narrow .boolean (.int x) = .int x) (hd : decode M.2.1 pc = .ok (.bastore, 1)) (ha : a < h.1) (he : h.2 a = .inl (1, N, .inl f)) (hin : vp_in i N) (kk : hk_WP M d mc ms k n (pc + 1) ls st (hk_up h a (.inl (1, N, .inl (upd f i.toNatClampNeg x)))) Q) : hk_WP M d mc ms k n pc ls (.int x :: .int i :: .ref a :: st) h Q := by
  intro G p l e R s m args below meth c H locs lsA C0 hS hV hL
  have he' := hk_wl_int (G := G) ha he
  have hP := hS.2.1 a _ he'
  refine W.zast C0.1 C0.2.1 hP ((hS.1.2 1 _ rfl).1 N (fun j => .int (f j))) (fun q => by cases q) (by show ¬ (i < 0 ∨ (arrV _ _ _).slots.size ≤ _); rw [arrV_size]; exact hin) rfl rfl hd fun H1 e7 z oq => ?_
  rw [hx] at e7
  have hP1 := hS.2.1.set (hk_D G h) he' (e := .inl (hk_cid G 1, N, .inl (upd f i.toNatClampNeg x))) (H1 := H1) (by show H1[_]? = some (vp_cell _ _); rw [← hk_arr_st]; exact e7) oq
  exact kk G p l e R s m args below meth c H1 _ lsA C0 (hk_S_set (x := .inl (1, N, .inl (upd f i.toNatClampNeg x))) hS hP1 z) (hV.put z oq (Nat.le_add_right _ _)) hL
/-- making: the new object is number h.1 -/
theorem hk_S_push {G : hk_G} {x : hk_E} {s : State} {H H1 : Heap} (hS : hk_S G h s H) (hx : va_at G.1 vwCl (hk_b G + h.1, hk_ce G x) H1) (hz : H1.size = H.size + 1) (ho : ∀ q : Nat, q < H.size → H1[q]? = H[q]?) : hk_S G (hk_push h x) s H1 := by
  refine ⟨hS.1, hk_wl_push x ▸ (hS.2.1.kept (fun k q hq => ho _ ((hS.2.1 k q hq).lt))).app (fun k q hq => ?_), by rw [hz, hS.2.2]; rfl⟩
  have hk0 : k = 0 := by
    have := (List.getElem?_eq_some_iff.mp hq).1
    simpa using this
  subst hk0
  cases hq
  exact hx
theorem hk_new {C : String} {T : u_T} {N ci idx : Nat} {fs : List Value} (ty : Nat → FieldType) (hty : ∀ k, k < N → parseFieldDescriptor (T k).2.2.1 = some (ty k)) (hc : vwCl[ci]? = some (C, T, N)) (hin : ∀ w ∈ u_ws C T N, w ∈ hk_T)
    (hw : Cond.classLink M.1.cls idx C ∈ hk_T ∧ Cond.instantiable C N ∈ hk_T ∧ Cond.initialized C ∈ hk_T) (hfs : ∀ b j, j < N → defaultValue (ty j) = vp_V (fs.map (hk_v b)) j) (hr : k + 1 ≤ mc ∧ n + N ≤ ms)
    (hd : decode M.2.1 pc = .ok (.new idx, 3)) (kk : hk_WP M d mc ms (k + 1) (n + N) (pc + 3) ls (.ref h.1 :: st) (hk_push h (.inr (ci, fs))) Q) : hk_WP M d mc ms k n pc ls st h Q := by
  intro G p l e R s m args below meth c H locs lsA C0 hS hV hL
  have hts := C0.2.2.2.2.1
  have hKn := hS.1.1 ci _ hc
  have hR := C0.2.2.2.2.2.2.2.2.2.1
  refine W.newcK C0.1 C0.2.1 C0.2.2.2.1 (hts _ hw.1) (hts _ hw.2.1) (hts _ hw.2.2) rfl hd (Nat.le_trans hr.1 hR.1) (Nat.le_trans hr.2 hR.2) hKn.2.1 hS.2.2 fun H1 kC hkC e1 z1 o1 => ?_
  refine kk G p l e R s m args below meth c H1 locs lsA C0 (hk_S_push (x := .inr (ci, fs)) hS ⟨_, hc, (u_born ty hts hin hKn hkC e1 hty).to (hfs _)⟩ (by rw [z1, hS.2.2]) (fun q hq => o1 q (by rw [← hS.2.2]; exact hq))) ?_ hL
  exact ⟨Nat.le_trans hV.1 (by rw [z1, hS.2.2]; exact Nat.le_succ _), fun q h1 h2 => by rw [o1 q (by rw [← hS.2.2]; exact Nat.lt_of_lt_of_le h1 hV.1)]; exact hV.2.1 q h1 h2, hV.2.2⟩
theorem hk_newa {at_ : ArrayType} {ty : FieldType} {t N : Nat} {v : Int32} (hty : newarray.typeOf at_ = ty) (ht : (t = 0 ∧ ty = .int) ∨ (t = 1 ∧ ty = .boolean)) (hw : Cond.arrayClass ty ∈ hk_T) (hv : ¬ v < 0) (hN : v.toNatClampNeg = N) (hb : N * componentBytes ty ≤ 536870912) (hr : k + 1 ≤ mc ∧ n + N ≤ ms)
    (hd : decode M.2.1 pc = .ok (.newarray at_, 2)) (kk : hk_WP M d mc ms (k + 1) (n + N) (pc + 2) ls (.ref h.1 :: st) (hk_push h (.inl (t, N, .inl (fun _ => 0)))) Q) : hk_WP M d mc ms k n pc ls (.int v :: st) h Q := by
  subst hty
  intro G p l e R s m args below meth c H locs lsA C0 hS hV hL
  have hts := C0.2.2.2.2.1
  have hR := C0.2.2.2.2.2.2.2.2.2.1
  refine va_newaK C0.1 C0.2.1 (hts _ hw) rfl hd rfl hv hN hb (Nat.le_trans hr.1 hR.1) (Nat.le_trans hr.2 hR.2) hS.2.2 fun H1 cA e1 z1 o1 hAr hNm => ?_
  have hcA : cA = hk_cid G t ∧ defaultValue (newarray.typeOf at_) = .int 0 := by
    rcases ht with ⟨rfl, h2⟩ | ⟨rfl, h2⟩
    · rw [h2] at hNm ⊢
      have h3 : s.vm.findClass ("[" ++ FieldType.int.toString) = some G.2.1.1 := (hS.1.2 0 _ rfl).2
      exact ⟨Option.some.inj (hNm.symm.trans h3), rfl⟩
    · rw [h2] at hNm ⊢
      have h3 : s.vm.findClass ("[" ++ FieldType.boolean.toString) = some G.2.1.2.1 := (hS.1.2 1 _ rfl).2
      exact ⟨Option.some.inj (hNm.symm.trans h3), rfl⟩
  rw [hcA.1, hcA.2] at e1
  refine kk G p l e R s m args below meth c H1 locs lsA C0 (hk_S_push (x := .inl (t, N, .inl (fun _ => 0))) hS e1 (by rw [z1, hS.2.2]) (fun q hq => o1 q (by rw [← hS.2.2]; exact hq))) ?_ hL
  exact ⟨Nat.le_trans hV.1 (by rw [z1, hS.2.2]; exact Nat.le_succ _), fun q h1 h2 => by rw [o1 q (by rw [← hS.2.2]; exact Nat.lt_of_lt_of_le h1 hV.1)]; exact hV.2.1 q h1 h2, hV.2.2⟩
theorem hk_newq {idx N : Nat} {v : Int32} (hw : Cond.classLink M.1.cls idx RX3 ∈ hk_T) (hv : ¬ v < 0) (hN : v.toNatClampNeg = N) (hb : N * 4 ≤ 536870912) (hr : k + 1 ≤ mc ∧ n + N ≤ ms)
    (hd : decode M.2.1 pc = .ok (.anewarray idx, 3)) (kk : hk_WP M d mc ms (k + 1) (n + N) (pc + 3) ls (.ref h.1 :: st) (hk_push h (.inl (2, N, .inr (fun _ => none)))) Q) : hk_WP M d mc ms k n pc ls (.int v :: st) h Q := by
  intro G p l e R s m args below meth c H locs lsA C0 hS hV hL
  have hts := C0.2.2.2.2.1
  have hR := C0.2.2.2.2.2.2.2.2.2.1
  subst hN
  refine W.anew C0.1 C0.2.1 C0.2.2.2.1 (hts _ hw) (va_AO.use C0.2.2.2.2.2.2.2.2.2.2.2.2.2.2.2.2) rfl hd rfl hv hb (Nat.le_trans hr.1 hR.1) (Nat.le_trans hr.2 hR.2) fun cA kA comp f1 f2 f3 f4 => ?_
  obtain ⟨_, _, _, _, _, h3⟩ := (hS.1.2 2 _ rfl).2
  have hcA : cA = hk_cid G 2 := Option.some.inj (f1.symm.trans h3)
  rw [hcA, show (H.push ({ cls := hk_cid G 2, slots := Array.replicate v.toNatClampNeg .null, vm := .none } : Cell)) = H.push (arrV (hk_cid G 2) v.toNatClampNeg (fun _ => .null)) by rw [← arrV_new]]
  rw [show H.size = hk_b G + h.1 from hS.2.2]
  refine kk G p l e R s m args below meth c _ locs lsA C0 (hk_S_push (x := .inl (2, v.toNatClampNeg, .inr (fun _ => none))) hS ?_ (by simp) (fun q hq => by rw [Array.getElem?_push, if_neg (Nat.ne_of_lt hq)])) ?_ hL
  · show (H.push _)[hk_b G + h.1]? = some (vp_cell _ _)
    rw [← hS.2.2, Array.getElem?_push_size]
    rfl
  · exact ⟨Nat.le_trans hV.1 (by simp), fun q h1 h2 => by rw [Array.getElem?_push, if_neg (Nat.ne_of_lt (Nat.lt_of_lt_of_le h1 hV.1))]; exact hV.2.1 q h1 h2, hV.2.2⟩
theorem hk_aastore {a w ci N : Nat} {f : Nat → Option Nat} {vs : List Value} {i : Int32} (hci : (vwCl[ci]?).map (·.1) = some RX3) (hd : decode M.2.1 pc = .ok (.aastore, 1)) (ha : a < h.1) (he : h.2 a = .inl (2, N, .inr f)) (hin : vp_in i N) (hw : w < h.1) (hwe : h.2 w = .inr (ci, vs))
    (kk : hk_WP M d mc ms k n (pc + 1) ls st (hk_up h a (.inl (2, N, .inr (va_up f i.toNatClampNeg (some w))))) Q) : hk_WP M d mc ms k n pc ls (.ref w :: .int i :: .ref a :: st) h Q := by
  intro G p l e R s m args below meth c H locs lsA C0 hS hV hL
  have he' := hk_wl_ref (G := G) ha he
  have hP := hS.2.1 a _ he'
  obtain ⟨r, hr', cellV, g1, g2, g3, -⟩ := hS.2.1 w _ (hk_wl_obj (G := G) hw hwe)
  have hr1 : r.1 = RX3 := by
    have hr'' : vwCl[ci]? = some r := hr'
    rw [hr''] at hci
    exact Option.some.inj hci
  have hcls := (hS.1.1 ci r hr').2
  obtain ⟨kA, comp, k1, k2, k3, -⟩ := (hS.1.2 2 _ rfl).2
  obtain ⟨hfc, kC, hkC, hkind⟩ := id hcls
  have hcomp : comp = G.1.1 ci := Option.some.inj (k3.symm.trans (by rw [← hr1]; exact hfc))
  subst hcomp
  have hlt : i.toNatClampNeg < N := Nat.not_le.mp fun q => hin (Or.inr q)
  have h0 : ¬ i < 0 := fun q => hin (Or.inl q)
  refine W.aast C0.1 C0.2.1 (v := hk_b G + w) (cv := cellV) (t := .object RX3) hP (fun q h => by cases h) (fun h => by cases h) k1 k2 rfl hkC ⟨h0, by show _ < (arrV _ _ _).slots.size; rw [arrV_size]; exact hlt⟩ g1 (fun q h => by rw [g3] at h; cases h) (by rw [g2]; exact hkC) (by rw [g2]; exact va_assign hcls) rfl rfl hd fun H1 e7 z oq => ?_
  have hP1 := hS.2.1.set (hk_D G h) he' (e := .inl (hk_cid G 2, N, .inr (.inr (.inr (.inr (fun j => (va_up f i.toNatClampNeg (some w) j).map (fun a => hk_b G + a))))))) (H1 := H1) (by
    show H1[_]? = some (vp_cell _ _)
    rw [vp_cell_q]
    refine e7.trans ?_
    show some ((arrV _ _ _).setSlot _ _) = _
    rw [arrV_store]
    congr 2
    funext q
    by_cases hq : q = i.toNatClampNeg
    · subst hq; simp [updV, va_up, va_rf]
    · simp [updV, va_up, hq]) oq
  exact kk G p l e R s m args below meth c H1 _ lsA C0 (hk_S_set (x := .inl (2, N, .inr (va_up f i.toNatClampNeg (some w)))) hS hP1 z) (hV.put z oq (Nat.le_add_right _ _)) hL
end HM
