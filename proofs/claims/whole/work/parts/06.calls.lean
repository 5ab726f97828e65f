/-! calls over contracts -/
theorem hk_after {p : Program} {l : Launch} {e : Env} {R : Room} {s : State} {m : MethodId} {args : Array Value} {below : List Frame} {meth : Method} {c : Code} {H : Heap} {locs : List Loc} {cells slots mc' ms' pc : Nat} {Z : State → Prop} {G : hk_G} {lsA : Array Slot} {st0 rest : List Value} {Qc : Option Value → hk_H → Prop} {a : Array Value}
    (hr : va_Run p l e R s m args below meth c H locs cells slots mc' ms' (F0 m pc lsA st0) rest (hk_Q G Qc a) (hk_A G)) (hS : va_S (hk_A G) s.heap H locs)
    (kk : ∀ (r : Option Value) (h' : hk_H) (H1 : Heap) (locs1 : List Loc), Qc r h' → hk_S G h' s H1 → va_S (hk_A G) s.heap H1 locs1 → W p l e R s m args below meth c H1 locs1 (cells + mc') (slots + ms') Z (F0 m (pc + 3) lsA ((r.map (hk_v (hk_b G))).toList ++ rest))) :
    W p l e R s m args below meth c H locs cells slots Z (F0 m pc lsA st0) := by
  intro T hT X
  obtain ⟨v, st₀, t, T', L, h0, X', hL, e1, e2, ⟨⟨r, h', hv, hp, hb⟩, hz, hk⟩, st⟩ := hr T hT X
  cases hv
  rw [h0] at hz hk
  have hvm : t.vm.Alike s.vm := by rw [← e2]; exact X'.warmed.alike.symm
  obtain ⟨t2, a1, b1⟩ := kk r h' T'.heap (locs ++ L) hp (by rw [e1]; exact ⟨va_K.moved hvm hb.1, hb.2⟩)
    ⟨Nat.le_trans hS.1 (by rw [e1]; exact hz), fun q h1 h2 => by rw [e1, hk q (Nat.lt_of_lt_of_le h1 hS.1) h2]; exact hS.2.1 q h1 h2, fun q hq => by
      rcases List.mem_append.mp hq with h | h
      · exact hS.2.2 q h
      · exact hL q h⟩ T' rfl X'
  exact ⟨t2, st t2 a1, b1⟩
theorem hk_blind {G : hk_G} {av : List Value} {h : hk_H} : FrameBlind (hk_Pre G av h) := fun a U g mk q => by
  obtain ⟨q1, q2, q3, q4⟩ := q
  exact ⟨q1, ⟨va_K.moved (u := U) (U := U.calling g mk a) (Vm.Alike.refl U.vm) q2.1, q2.2⟩, hk_Nw.same (u := U) (U := U.calling g mk a) rfl q3, hk_X.same (u := U) (U := U.calling g mk a) rfl q4⟩
/-- the words of a call -/
def hk_Wd (y : MethodName) (bytes : ByteArray) (maxL : Nat) (ret : Option FieldType) (n : Nat) : Prop :=
  Cond.code y bytes maxL ret ∈ hk_T ∧ Cond.initialized y.cls ∈ hk_T ∧ (y.cls ≠ "java/lang/invoke/MethodHandle" ∧ y.cls ≠ "java/lang/invoke/VarHandle" ∧ (parseMethodDescriptor y.desc).map (fun d => d.parameters.length) = some n) ∧ maxL ≤ 45
section HC
variable {M : hk_M} {d mc ms k n pc : Nat} {ls : List (Option Value)} {st st0 : List Value} {h : hk_H} {Q Qc : Option Value → hk_H → Prop} {y : MethodName} {bytes : ByteArray} {maxL : Nat} {ret : Option FieldType} {d' mc' ms' idx na a : Nat} {As : List Value} {fs : List Value} {ci : Nat}
theorem hk_pre_at {G : hk_G} {av : List Value} {s : State} {H : Heap} {locs : List Loc} {args : Array Value} (hS : hk_S G h s H) (hV : va_S (hk_A G) s.heap H locs) (hN : hk_Nw s) (hX : hk_X G s s.heap) : ∀ U : State, U.heap = H → s.WarmedH U.vm → hk_Pre G av h (av.map (hk_v (hk_b G))).toArray U := by
  intro U hU hW
  refine ⟨rfl, by rw [hU]; exact hS.warm hW, hN.warm hW, ?_⟩
  rw [hU]
  exact (hX.kept (fun q h1 h2 => hV.2.1 q h1 h2)).warm hW
theorem hk_lenargs {sig : MethodDescriptor} (hw : hk_Wd y bytes maxL ret na) (h : parseMethodDescriptor y.desc = some sig) : na = sig.parameters.length := by
  have := hw.2.2.1.2.2
  rw [h] at this
  exact (Option.some.inj this).symm
/-- what a call's words and room give -/
theorem hk_CB {G : hk_G} {p : Program} {R : Room} {s : State} {m : MethodId} {args : Array Value} {meth : Method} {c : Code} (C0 : hk_Cx M d mc ms G p R s m args meth c) (hw : hk_Wd y bytes maxL ret na) (hl : Cond.methodLink M.1.cls idx y ∈ hk_T) (hdep : d' + 1 ≤ d) :
    CallB R s args M.1.cls idx y bytes maxL ret (.code y bytes maxL ret :: hk_T) (hk_rm d' mc' ms') mc' ms' na := by
  have hts := C0.2.2.2.2.1
  have hR := C0.2.2.2.2.2.2.2.2.1
  refine callB_of na hts (hk_goodIn _ (fun w h => by rcases List.mem_cons.mp h with rfl | h; exact hw.1; exact h)) rfl rfl rfl (hts _ hw.2.1) (hts _ hl) hw.2.2.1 ⟨Nat.le_trans hdep hR.1, ?_⟩
  have := hw.2.2.2
  show 8 + (maxL + 11) + 64 * d' ≤ R.locals
  omega
theorem hk_CN {G : hk_G} {p : Program} {R : Room} {s : State} {m : MethodId} {args : Array Value} {meth : Method} {c : Code} {host : String} (C0 : hk_Cx M d mc ms G p R s m args meth c) (hw : hk_Wd y bytes maxL ret na) (hl : Cond.methodLinkNest M.1.cls idx y host ∈ hk_N) (hdep : d' + 1 ≤ d) :
    va_CN R s args M.1.cls idx y host bytes maxL ret (.code y bytes maxL ret :: hk_T) (hk_rm d' mc' ms') mc' ms' na := by
  have hts := C0.2.2.2.2.1
  have hR := C0.2.2.2.2.2.2.2.2.1
  refine va_cnB na hts (hk_goodIn _ (fun w h => by rcases List.mem_cons.mp h with rfl | h; exact hw.1; exact h)) rfl rfl rfl (C0.2.2.2.2.2.2.2.2.2.2.1 _ hl) (hts _ hw.2.1) hw.2.2.1 ⟨Nat.le_trans hdep hR.1, ?_⟩
  have := hw.2.2.2
  show 8 + (maxL + 11) + 64 * d' ≤ R.locals
  omega
theorem hk_recv {G : hk_G} {s : State} {H : Heap} (hS : hk_S G h s H) (ha : a < h.1) (he : h.2 a = .inr (ci, fs)) (hci : (vwCl[ci]?).map (·.1) = some y.cls) : ∃ cell : Cell, H[hk_b G + a]? = some cell ∧ cell.vm.isStatics = false ∧ s.vm.findClass y.cls = some cell.cls := by
  obtain ⟨q, hq, hq1⟩ := Option.map_eq_some_iff.mp hci
  rw [← hq1]
  exact va_recv hS.1 hS.2.1 hq (hk_wl_obj ha he)
theorem hk_rev {b : Nat} {As : List Value} : (As.map (hk_v b)).reverse = As.reverse.map (hk_v b) := List.map_reverse.symm
theorem hk_stk {b : Nat} {As : List Value} (v : Value) (hst : st0 = As.reverse ++ v :: st) : st0.map (hk_v b) = (As.map (hk_v b)).reverse ++ hk_v b v :: st.map (hk_v b) := by
  rw [hst, List.map_append, hk_rev]; rfl
theorem hk_stkS {b : Nat} {As : List Value} (hst : st0 = As.reverse ++ st) : st0.map (hk_v b) = (As.map (hk_v b)).reverse ++ st.map (hk_v b) := by
  rw [hst, List.map_append, hk_rev]
theorem hk_cats {b : Nat} (h : (st.map fun v => v.category).sum ≤ 8) {m pc : Nat} {cl : MethodId} {lsA : Array Slot} {x : List Value} : 2 * (F0 cl pc lsA x).monitorRoom + ((st.map (hk_v b)).map fun v => v.category).sum ≤ 8 := by
  refine lv_room ?_
  rw [List.map_map]
  have : ((fun v => Value.category v) ∘ hk_v b) = fun v => v.category := by funext v; exact hk_v_cat b v
  rw [this]
  exact h
theorem hk_rl {b : Nat} {r : Option Value} : (r.map (hk_v b)).toList ++ st.map (hk_v b) = (r.toList ++ st).map (hk_v b) := by cases r <;> rfl
theorem hk_invV (hC : hk_Ct (y, bytes, maxL, ret) d' mc' ms' (.ref a :: As) h Qc) (hw : hk_Wd y bytes maxL ret na) (hl : Cond.methodLink M.1.cls idx y ∈ hk_T ∧ Cond.instanceMethod y ∈ hk_T ∧ Cond.selects y.cls y y ∈ hk_T)
    (hd : decode M.2.1 pc = .ok (.invokevirtual idx, 3)) (ha : a < h.1) (he : h.2 a = .inr (ci, fs)) (hci : (vwCl[ci]?).map (·.1) = some y.cls) (hst : st0 = As.reverse ++ .ref a :: st) (hn : As.length = na) (hdep : d' + 1 ≤ d) (hrm : k + mc' ≤ mc ∧ n + ms' ≤ ms) (hcat : (st.map fun v => v.category).sum ≤ 8)
    (kk : ∀ (r : Option Value) (h' : hk_H), Qc r h' → hk_WP M d mc ms (k + mc') (n + ms') (pc + 3) ls (r.toList ++ st) h' Q) : hk_WP M d mc ms k n pc ls st0 h Q := by
  intro G p l e R s m args below meth c H locs lsA C0 hS hV hL
  have hts := C0.2.2.2.2.1
  have hR := C0.2.2.2.2.2.2.2.2.2.1
  refine hk_after (va_runV ⟨C0.1, C0.2.1, C0.2.2.1, C0.2.2.2.1, hts⟩ (hC l G) ⟨hk_CB C0 hw hl.1 hdep, hts _ hl.2.1, hts _ hl.2.2⟩ ⟨hk_blind, hk_recv hS ha he hci, hk_pre_at (args := args) hS hV C0.2.2.2.2.2.2.2.2.2.2.1 C0.2.2.2.2.2.2.2.2.2.2.2.2⟩ rfl (by rw [List.length_map]; exact hn) hL.1 (hk_stk _ hst) (hk_cats (m := 0) hcat) hd ⟨Nat.le_trans hrm.1 hR.1, Nat.le_trans hrm.2 hR.2⟩) hV (fun r h' H1 locs1 hq hS1 hV1 => ?_)
  rw [hk_rl]
  exact kk r h' hq G p l e R s m args below meth c H1 locs1 lsA C0 hS1 hV1 hL
theorem hk_invVN {host : String} (hC : hk_Ct (y, bytes, maxL, ret) d' mc' ms' (.ref a :: As) h Qc) (hw : hk_Wd y bytes maxL ret na) (hl : Cond.methodLinkNest M.1.cls idx y host ∈ hk_N ∧ Cond.instanceMethod y ∈ hk_T ∧ Cond.selects y.cls y y ∈ hk_T)
    (hd : decode M.2.1 pc = .ok (.invokevirtual idx, 3)) (ha : a < h.1) (he : h.2 a = .inr (ci, fs)) (hci : (vwCl[ci]?).map (·.1) = some y.cls) (hst : st0 = As.reverse ++ .ref a :: st) (hn : As.length = na) (hdep : d' + 1 ≤ d) (hrm : k + mc' ≤ mc ∧ n + ms' ≤ ms) (hcat : (st.map fun v => v.category).sum ≤ 8)
    (kk : ∀ (r : Option Value) (h' : hk_H), Qc r h' → hk_WP M d mc ms (k + mc') (n + ms') (pc + 3) ls (r.toList ++ st) h' Q) : hk_WP M d mc ms k n pc ls st0 h Q := by
  intro G p l e R s m args below meth c H locs lsA C0 hS hV hL
  have hts := C0.2.2.2.2.1
  have hR := C0.2.2.2.2.2.2.2.2.2.1
  refine hk_after (va_runVN ⟨C0.1, C0.2.1, C0.2.2.1, C0.2.2.2.1, hts⟩ (hC l G) ⟨hk_CN C0 hw hl.1 hdep, hts _ hl.2.1, hts _ hl.2.2⟩ ⟨hk_blind, hk_recv hS ha he hci, hk_pre_at (args := args) hS hV C0.2.2.2.2.2.2.2.2.2.2.1 C0.2.2.2.2.2.2.2.2.2.2.2.2⟩ rfl (by rw [List.length_map]; exact hn) hL.1 (hk_stk _ hst) (hk_cats (m := 0) hcat) hd ⟨Nat.le_trans hrm.1 hR.1, Nat.le_trans hrm.2 hR.2⟩) hV (fun r h' H1 locs1 hq hS1 hV1 => ?_)
  rw [hk_rl]
  exact kk r h' hq G p l e R s m args below meth c H1 locs1 lsA C0 hS1 hV1 hL
theorem hk_invS (hC : hk_Ct (y, bytes, maxL, ret) d' mc' ms' As h Qc) (hw : hk_Wd y bytes maxL ret na) (hl : Cond.methodLink M.1.cls idx y ∈ hk_T ∧ Cond.static y ∈ hk_T)
    (hd : decode M.2.1 pc = .ok (.invokestatic idx, 3)) (hst : st0 = As.reverse ++ st) (hn : As.length = na) (hdep : d' + 1 ≤ d) (hrm : k + mc' ≤ mc ∧ n + ms' ≤ ms) (hcat : (st.map fun v => v.category).sum ≤ 8)
    (kk : ∀ (r : Option Value) (h' : hk_H), Qc r h' → hk_WP M d mc ms (k + mc') (n + ms') (pc + 3) ls (r.toList ++ st) h' Q) : hk_WP M d mc ms k n pc ls st0 h Q := by
  intro G p l e R s m args below meth c H locs lsA C0 hS hV hL
  have hts := C0.2.2.2.2.1
  have hR := C0.2.2.2.2.2.2.2.2.2.1
  refine hk_after (va_runS ⟨C0.1, C0.2.1, C0.2.2.1, C0.2.2.2.1, hts⟩ (hC l G) ⟨hk_CB C0 hw hl.1 hdep, hts _ hl.2⟩ ⟨hk_blind, hk_pre_at (args := args) hS hV C0.2.2.2.2.2.2.2.2.2.2.1 C0.2.2.2.2.2.2.2.2.2.2.2.2⟩ rfl (by rw [List.length_map]; exact hn) hL.1 (hk_stkS hst) (hk_cats (m := 0) hcat) hd ⟨Nat.le_trans hrm.1 hR.1, Nat.le_trans hrm.2 hR.2⟩) hV (fun r h' H1 locs1 hq hS1 hV1 => ?_)
  rw [hk_rl]
  exact kk r h' hq G p l e R s m args below meth c H1 locs1 lsA C0 hS1 hV1 hL
theorem hk_invSN {host : String} (hC : hk_Ct (y, bytes, maxL, ret) d' mc' ms' As h Qc) (hw : hk_Wd y bytes maxL ret na) (hl : Cond.methodLinkNest M.1.cls idx y host ∈ hk_N ∧ Cond.static y ∈ hk_T)
    (hd : decode M.2.1 pc = .ok (.invokestatic idx, 3)) (hst : st0 = As.reverse ++ st) (hn : As.length = na) (hdep : d' + 1 ≤ d) (hrm : k + mc' ≤ mc ∧ n + ms' ≤ ms) (hcat : (st.map fun v => v.category).sum ≤ 8)
    (kk : ∀ (r : Option Value) (h' : hk_H), Qc r h' → hk_WP M d mc ms (k + mc') (n + ms') (pc + 3) ls (r.toList ++ st) h' Q) : hk_WP M d mc ms k n pc ls st0 h Q := by
  intro G p l e R s m args below meth c H locs lsA C0 hS hV hL
  have hts := C0.2.2.2.2.1
  have hR := C0.2.2.2.2.2.2.2.2.2.1
  refine hk_after (va_runSN ⟨C0.1, C0.2.1, C0.2.2.1, C0.2.2.2.1, hts⟩ (hC l G) ⟨hk_CN C0 hw hl.1 hdep, hts _ hl.2, trivial⟩ ⟨hk_blind, hk_pre_at (args := args) hS hV C0.2.2.2.2.2.2.2.2.2.2.1 C0.2.2.2.2.2.2.2.2.2.2.2.2⟩ rfl (by rw [List.length_map]; exact hn) hL.1 (hk_stkS hst) (hk_cats (m := 0) hcat) hd ⟨Nat.le_trans hrm.1 hR.1, Nat.le_trans hrm.2 hR.2⟩) hV (fun r h' H1 locs1 hq hS1 hV1 => ?_)
  rw [hk_rl]
  exact kk r h' hq G p l e R s m args below meth c H1 locs1 lsA C0 hS1 hV1 hL
theorem hk_invI (hC : hk_Ct (y, bytes, maxL, none) d' mc' ms' (.ref a :: As) h Qc) (hw : hk_Wd y bytes maxL none na) (hy : y.name = "<init>") (hl : Cond.methodLink M.1.cls idx y ∈ hk_T ∧ Cond.instanceMethod y ∈ hk_T)
    (hd : decode M.2.1 pc = .ok (.invokespecial idx, 3)) (hst : st0 = As.reverse ++ .ref a :: st) (hn : As.length = na) (hdep : d' + 1 ≤ d) (hrm : k + mc' ≤ mc ∧ n + ms' ≤ ms) (hcat : (st.map fun v => v.category).sum ≤ 8)
    (kk : ∀ (r : Option Value) (h' : hk_H), Qc r h' → hk_WP M d mc ms (k + mc') (n + ms') (pc + 3) ls (r.toList ++ st) h' Q) : hk_WP M d mc ms k n pc ls st0 h Q := by
  intro G p l e R s m args below meth c H locs lsA C0 hS hV hL
  have hts := C0.2.2.2.2.1
  have hR := C0.2.2.2.2.2.2.2.2.2.1
  refine hk_after (va_runI ⟨C0.1, C0.2.1, C0.2.2.1, C0.2.2.2.1, hts⟩ (hC l G) ⟨hk_CB C0 hw hl.1 hdep, hy, hts _ hl.2⟩ ⟨hk_blind, hk_pre_at (args := args) hS hV C0.2.2.2.2.2.2.2.2.2.2.1 C0.2.2.2.2.2.2.2.2.2.2.2.2⟩ rfl (by rw [List.length_map]; exact hn) hL.1 (hk_stk _ hst) (hk_cats (m := 0) hcat) hd ⟨Nat.le_trans hrm.1 hR.1, Nat.le_trans hrm.2 hR.2⟩) hV (fun r h' H1 locs1 hq hS1 hV1 => ?_)
  rw [hk_rl]
  exact kk r h' hq G p l e R s m args below meth c H1 locs1 lsA C0 hS1 hV1 hL
theorem hk_invIN {host : String} (hC : hk_Ct (y, bytes, maxL, none) d' mc' ms' (.ref a :: As) h Qc) (hw : hk_Wd y bytes maxL none na) (hy : y.name = "<init>") (hl : Cond.methodLinkNest M.1.cls idx y host ∈ hk_N ∧ Cond.instanceMethod y ∈ hk_T)
    (hd : decode M.2.1 pc = .ok (.invokespecial idx, 3)) (hst : st0 = As.reverse ++ .ref a :: st) (hn : As.length = na) (hdep : d' + 1 ≤ d) (hrm : k + mc' ≤ mc ∧ n + ms' ≤ ms) (hcat : (st.map fun v => v.category).sum ≤ 8)
    (kk : ∀ (r : Option Value) (h' : hk_H), Qc r h' → hk_WP M d mc ms (k + mc') (n + ms') (pc + 3) ls (r.toList ++ st) h' Q) : hk_WP M d mc ms k n pc ls st0 h Q := by
  intro G p l e R s m args below meth c H locs lsA C0 hS hV hL
  have hts := C0.2.2.2.2.1
  have hR := C0.2.2.2.2.2.2.2.2.2.1
  refine hk_after (va_runIN ⟨C0.1, C0.2.1, C0.2.2.1, C0.2.2.2.1, hts⟩ (hC l G) ⟨hk_CN C0 hw hl.1 hdep, hy, hts _ hl.2⟩ ⟨hk_blind, hk_pre_at (args := args) hS hV C0.2.2.2.2.2.2.2.2.2.2.1 C0.2.2.2.2.2.2.2.2.2.2.2.2⟩ rfl (by rw [List.length_map]; exact hn) hL.1 (hk_stk _ hst) (hk_cats (m := 0) hcat) hd ⟨Nat.le_trans hrm.1 hR.1, Nat.le_trans hrm.2 hR.2⟩) hV (fun r h' H1 locs1 hq hS1 hV1 => ?_)
  rw [hk_rl]
  exact kk r h' hq G p l e R s m args below meth c H1 locs1 lsA C0 hS1 hV1 hL
/-- Object's constructor does nothing -/
theorem hk_objInit (hl : Cond.methodLink M.1.cls idx Lib.objectInit ∈ hk_T ∧ Cond.instanceMethod Lib.objectInit ∈ hk_T ∧ Cond.code Lib.objectInit ⟨#[0xb1]⟩ 1 none ∈ hk_T) (hd : decode M.2.1 pc = .ok (.invokespecial idx, 3)) (hdep : 1 ≤ d) (hcat : (st.map fun v => v.category).sum ≤ 8) (kk : hk_WP M d mc ms k n (pc + 3) ls st h Q) : hk_WP M d mc ms k n pc ls (.ref a :: st) h Q := by
  intro G p l e R s m args below meth c H locs lsA C0 hS hV hL
  have hts := C0.2.2.2.2.1
  have hR := C0.2.2.2.2.2.2.2.2.1
  refine W.objInit C0.1 C0.2.1 C0.2.2.2.1 (hts _ hl.1) (hts _ hl.2.1) (hts _ hl.2.2) rfl (hL.1.trans C0.2.2.1.symm) rfl hd (Nat.le_trans hdep hR.1) ?_ (kk G p l e R s m args below meth c H locs lsA C0 hS hV hL)
  have h1 := hk_cats (b := hk_b G) (m := 0) (cl := m) (pc := pc) (lsA := lsA) (x := (Value.ref a :: st).map (hk_v (hk_b G))) hcat
  omega
theorem hk_mmax {x z : Int32} (hl : Cond.methodLink M.1.cls idx Lib.Math.max.name ∈ hk_T ∧ Cond.static Lib.Math.max.name ∈ hk_T ∧ Cond.initialized "java/lang/Math" ∈ hk_T ∧ Cond.code Lib.Math.max.name Lib.Math.max.code 2 (some .int) ∈ hk_T) (hd : decode M.2.1 pc = .ok (.invokestatic idx, 3)) (hdep : 1 ≤ d) (hcat : (st.map fun v => v.category).sum ≤ 8) (hk : k ≤ mc ∧ n ≤ ms)
    (kk : hk_WP M d mc ms k n (pc + 3) ls (.int (if x < z then z else x) :: st) h Q) : hk_WP M d mc ms k n pc ls (.int z :: .int x :: st) h Q := by
  intro G p l e R s m args below meth c H locs lsA C0 hS hV hL
  have hts := C0.2.2.2.2.1
  have hR := C0.2.2.2.2.2.2.2.2.1
  have hR2 := C0.2.2.2.2.2.2.2.2.2.1
  refine va_mmax C0.1 C0.2.1 (C0.2.2.1.trans hL.1.symm) C0.2.2.2.1 (hts _ hl.1) (hts _ hl.2.1) (hts _ hl.2.2.1) (hts _ hl.2.2.2) (Nat.le_trans hdep hR.1) ?_ (Nat.le_trans hk.1 hR2.1) (Nat.le_trans hk.2 hR2.2) hd (kk G p l e R s m args below meth c H locs lsA C0 hS hV hL)
  have h1 := hk_cats (b := hk_b G) (m := 0) (cl := m) (pc := pc) (lsA := lsA) (x := []) hcat
  omega
theorem hk_mmin {x z : Int32} (hl : Cond.methodLink M.1.cls idx Lib.Math.min.name ∈ hk_T ∧ Cond.static Lib.Math.min.name ∈ hk_T ∧ Cond.initialized "java/lang/Math" ∈ hk_T ∧ Cond.code Lib.Math.min.name Lib.Math.min.code 2 (some .int) ∈ hk_T) (hd : decode M.2.1 pc = .ok (.invokestatic idx, 3)) (hdep : 1 ≤ d) (hcat : (st.map fun v => v.category).sum ≤ 8) (hk : k ≤ mc ∧ n ≤ ms)
    (kk : hk_WP M d mc ms k n (pc + 3) ls (.int (if z < x then z else x) :: st) h Q) : hk_WP M d mc ms k n pc ls (.int z :: .int x :: st) h Q := by
  intro G p l e R s m args below meth c H locs lsA C0 hS hV hL
  have hts := C0.2.2.2.2.1
  have hR := C0.2.2.2.2.2.2.2.2.1
  have hR2 := C0.2.2.2.2.2.2.2.2.2.1
  refine va_mmin C0.1 C0.2.1 (C0.2.2.1.trans hL.1.symm) C0.2.2.2.1 (hts _ hl.1) (hts _ hl.2.1) (hts _ hl.2.2.1) (hts _ hl.2.2.2) (Nat.le_trans hdep hR.1) ?_ (Nat.le_trans hk.1 hR2.1) (Nat.le_trans hk.2 hR2.2) hd (kk G p l e R s m args below meth c H locs lsA C0 hS hV hL)
  have h1 := hk_cats (b := hk_b G) (m := 0) (cl := m) (pc := pc) (lsA := lsA) (x := []) hcat
  omega
theorem hk_mminL {x z : Int64} (hl : Cond.methodLink M.1.cls idx Lib.MathLoose.min_long.x ∈ hk_T ∧ Cond.static Lib.MathLoose.min_long.x ∈ hk_T ∧ Cond.initialized "java/lang/Math" ∈ hk_T ∧ Cond.code Lib.MathLoose.min_long.x Lib.MathLoose.min_long.code 4 (some .long) ∈ hk_T) (hd : decode M.2.1 pc = .ok (.invokestatic idx, 3)) (hdep : 1 ≤ d) (hcat : (st.map fun v => v.category).sum ≤ 8) (hk : k ≤ mc ∧ n ≤ ms)
    (kk : hk_WP M d mc ms k n (pc + 3) ls (.long (if z < x then z else x) :: st) h Q) : hk_WP M d mc ms k n pc ls (.long z :: .long x :: st) h Q := by
  intro G p l e R s m args below meth c H locs lsA C0 hS hV hL
  have hts := C0.2.2.2.2.1
  have hR := C0.2.2.2.2.2.2.2.2.1
  have hR2 := C0.2.2.2.2.2.2.2.2.2.1
  refine va_mmin_long C0.1 C0.2.1 (C0.2.2.1.trans hL.1.symm) C0.2.2.2.1 (hts _ hl.1) (hts _ hl.2.1) (hts _ hl.2.2.1) (hts _ hl.2.2.2) (Nat.le_trans hdep hR.1) ?_ (Nat.le_trans hk.1 hR2.1) (Nat.le_trans hk.2 hR2.2) hd (kk G p l e R s m args below meth c H locs lsA C0 hS hV hL)
  have h1 := hk_cats (b := hk_b G) (m := 0) (cl := m) (pc := pc) (lsA := lsA) (x := []) hcat
  omega
theorem hk_args : ∀ (vs : List Value) (j : Nat), (∀ v ∈ vs, v.category = 1) → ∀ (i : Nat) (v : Value), vs[i]? = some v → (j + i, v) ∈ lv_args j vs := by
  intro vs
  induction vs with
  | nil => intro j _ i v h; simp at h
  | cons a l ih =>
    intro j hc i v h
    have ha : a.category = 1 := hc a List.mem_cons_self
    unfold lv_args
    rw [ha]
    match i, h with
    | 0, h => simp at h; subst h; exact List.mem_cons_self
    | i + 1, h =>
      refine List.mem_cons_of_mem _ ?_
      have := ih (j + 1) (fun v hv => hc v (List.mem_cons_of_mem _ hv)) i v (by simpa using h)
      rw [show j + (i + 1) = j + 1 + i by omega]
      exact this
theorem hk_sl_len : ∀ (vs : List Value), (∀ v ∈ vs, v.category = 1) → (lg_sl vs).length = vs.length := by
  intro vs
  induction vs with
  | nil => intro _; rfl
  | cons a l ih =>
    intro hc
    have ha : a.category = 1 := hc a List.mem_cons_self
    have := ih (fun v hv => hc v (List.mem_cons_of_mem _ hv))
    simp [lg_sl, ha] at this ⊢
    try omega
/-- a contract out of a walk of the body -/
theorem hk_ofWP {M : hk_M} {av : List Value} (hy : plainName M.1.cls = true) (hcat : ∀ v ∈ av, v.category = 1) (hlen : av.length ≤ M.2.2.1) (w : hk_WP M d mc ms 0 0 0 (av.map some ++ List.replicate (M.2.2.1 - av.length) none) [] h Q) : hk_Ct M d mc ms av h Q := by
  intro l G
  refine Met.ofW (cc := M.2.1) (maxL := M.2.2.1) (ret := M.2.2.2) hy rfl ?_
  intro p e s m args below meth c s₁ B hml hv
  obtain ⟨rfl, hS, hN, hX⟩ := hv
  have hts := atoms_spec (ws := Cond.code M.1 M.2.1 M.2.2.1 M.2.2.2 :: hk_T) B.pre
  have hcat' : ∀ v ∈ av.map (hk_v (hk_b G)), v.category = 1 := fun v hv => by
    obtain ⟨w, hw, rfl⟩ := List.mem_map.mp hv
    rw [hk_v_cat]; exact hcat w hw
  rw [lg_entry_eq]
  refine w G p l e _ s m _ below meth c s.heap [] _ ⟨B.exec, B.bytes, hml, findClass_of_methodNamed B.named, fun w hw => hts w (List.mem_cons_of_mem _ hw), B.returns, B.notSynchronized, (name_of_methodNamed B.named B.method).1, ⟨Nat.le_refl _, Nat.le_refl _⟩, ⟨Nat.le_refl _, Nat.le_refl _⟩, hN, by rw [hS.2.2]; exact Nat.le_add_right _ _, hX⟩ hS va_S.rf ?_
  have hl := lv_entry (av.map (hk_v (hk_b G))) (n := M.2.2.1) (by rw [hk_sl_len _ hcat', List.length_map]; exact hlen)
  refine ⟨hl.1, hl.2.1, fun q hq => hl.2.2 q ?_⟩
  obtain ⟨v, h1, h2⟩ := hk_as_mem.mp hq
  by_cases hi : q.1 < av.length
  · rw [List.getElem?_append_left (by simpa using hi), List.getElem?_map] at h1
    have h3 : av[q.1]? = some v := by
      cases h4 : av[q.1]? with
      | none => rw [h4] at h1; simp at h1
      | some w => rw [h4] at h1; simp at h1; rw [h1]
    have := hk_args (av.map (hk_v (hk_b G))) 0 hcat' q.1 (hk_v (hk_b G) v) (by rw [List.getElem?_map, h3]; rfl)
    rw [← h2] at this
    simpa using this
  · rw [List.getElem?_append_right (by simpa using Nat.not_lt.mp hi)] at h1
    rw [List.getElem?_replicate] at h1
    split at h1 <;> simp at h1
end HC
