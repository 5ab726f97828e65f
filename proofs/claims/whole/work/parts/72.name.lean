/-! THE NAMES' STRING, below the base: length, charAt -/
section CSy
/-- as hk_Ct, of arguments as they stand, a heap left as it is -/
def hr_Ct (G : hk_G) (M : hk_M) (d : Nat) (av : List Value) (h : hk_H) (r : Option Value) : Prop :=
  ∀ (l : Launch), Met l M.1 (.code M.1 M.2.1 M.2.2.1 M.2.2.2 :: hk_T) (hk_rm d 0 0) (va_Pc av (fun U => hk_S G h U U.heap ∧ hk_Nw U ∧ hk_X G U U.heap)) (hk_Q G (fun r' h' => r' = r ∧ h' = h)) 0 0 (hk_A G)
def hr_WP (G : hk_G) (M : hk_M) (d pc : Nat) (lv : List (Nat × Value)) (st : List Value) (h : hk_H) (r : Option Value) : Prop :=
  ∀ (p : Program) (l : Launch) (e : Env) (R : Room) (s : State) (m : MethodId) (args : Array Value) (below : List Frame) (meth : Method) (c : Code) (H : Heap) (locs : List Loc) (lsA : Array Slot),
    hk_Cx M d 0 0 G p R s m args meth c → hk_S G h s H → va_S (hk_A G) s.heap H locs → lv_has lsA M.2.2.1 lv →
    W p l e R s m args below meth c H locs 0 0 (MQ below (hk_Q G (fun r' h' => r' = r ∧ h' = h)) args s 0 0 (hk_A G)) (F0 m pc lsA st)
section HRR
variable {G : hk_G} {M : hk_M} {d d' pc na idx maxL : Nat} {lv : List (Nat × Value)} {st st0 av As : List Value} {h : hk_H} {r r1 : Option Value} {y : MethodName} {bytes : ByteArray} {ret : Option FieldType}
theorem hr_of (hy : plainName M.1.cls = true) (hlen : (lg_sl av).length ≤ M.2.2.1) (w : hr_WP G M d 0 (lv_args 0 av) [] h r) : hr_Ct G M d av h r := by
  intro l
  refine Met.ofW (cc := M.2.1) (maxL := M.2.2.1) (ret := M.2.2.2) hy rfl ?_
  intro p e s m args below meth c s₁ B hml hv
  obtain ⟨rfl, hS, hN, hX⟩ := hv
  have hts := atoms_spec (ws := Cond.code M.1 M.2.1 M.2.2.1 M.2.2.2 :: hk_T) B.pre
  rw [lg_entry_eq]
  exact w p l e _ s m _ below meth c s.heap [] _ ⟨B.exec, B.bytes, hml, findClass_of_methodNamed B.named, fun w hw => hts w (List.mem_cons_of_mem _ hw), B.returns, B.notSynchronized, (name_of_methodNamed B.named B.method).1, ⟨Nat.le_refl _, Nat.le_refl _⟩, ⟨Nat.le_refl _, Nat.le_refl _⟩, hN, by rw [hS.2.2]; exact Nat.le_add_right _ _, hX⟩ hS va_S.rf (lv_entry av hlen)
/-- the nine names' letters -/
def nmb (i : Nat) : Int32 := ([121, 116, 119, 110, 100, 104, 112, 98, 115] : List Int32).getD i 0
theorem hr_aload_n {f : Fin 4} {i x : Nat} (hd : decode M.2.1 pc = .ok (.aload_n f, 1)) (hi : (f : Nat) = i) (hl : (i, Value.ref x) ∈ lv) (kk : hr_WP G M d (pc + 1) lv (.ref x :: st) h r) : hr_WP G M d pc lv (st) h r := by
  intro p l e R s m args below meth c H locs lsA C0 hS hV hL
  exact lv_aload_n C0.1 C0.2.1 hd hi (hL.2.2 _ hl) (kk p l e R s m args below meth c H locs lsA C0 hS hV hL)
theorem hr_aload_nN {f : Fin 4} {i : Nat} (hd : decode M.2.1 pc = .ok (.aload_n f, 1)) (hi : (f : Nat) = i) (hl : (i, Value.null) ∈ lv) (kk : hr_WP G M d (pc + 1) lv (.null :: st) h r) : hr_WP G M d pc lv (st) h r := by
  intro p l e R s m args below meth c H locs lsA C0 hS hV hL
  exact lv_aload_nN C0.1 C0.2.1 hd hi (hL.2.2 _ hl) (kk p l e R s m args below meth c H locs lsA C0 hS hV hL)
theorem hr_iload_n {f : Fin 4} {i : Nat} {x : Int32} (hd : decode M.2.1 pc = .ok (.iload_n f, 1)) (hi : (f : Nat) = i) (hl : (i, Value.int x) ∈ lv) (kk : hr_WP G M d (pc + 1) lv (.int x :: st) h r) : hr_WP G M d pc lv (st) h r := by
  intro p l e R s m args below meth c H locs lsA C0 hS hV hL
  exact lv_iload_n C0.1 C0.2.1 hd hi (hL.2.2 _ hl) (kk p l e R s m args below meth c H locs lsA C0 hS hV hL)
theorem hr_iconst {i : Int} {v : Int32} (hd : decode M.2.1 pc = .ok (.iconst i, 1)) (hv : Int32.ofInt i = v) (kk : hr_WP G M d (pc + 1) lv (.int v :: st) h r) : hr_WP G M d pc lv (st) h r := by
  intro p l e R s m args below meth c H locs lsA C0 hS hV hL
  exact lv_iconst C0.1 C0.2.1 hd hv (kk p l e R s m args below meth c H locs lsA C0 hS hV hL)
theorem hr_sipush {i : Int} {v : Int32} (hd : decode M.2.1 pc = .ok (.sipush i, 3)) (hv : (Int16.ofInt i).toInt32 = v) (kk : hr_WP G M d (pc + 3) lv (.int v :: st) h r) : hr_WP G M d pc lv (st) h r := by
  intro p l e R s m args below meth c H locs lsA C0 hS hV hL
  exact lv_sipush C0.1 C0.2.1 hd hv (kk p l e R s m args below meth c H locs lsA C0 hS hV hL)
theorem hr_ishr {x y : Int32} (hd : decode M.2.1 pc = .ok (.ishr, 1)) (kk : hr_WP G M d (pc + 1) lv (.int (x >>> (y &&& 31)) :: st) h r) : hr_WP G M d pc lv (.int y :: .int x :: st) h r := by
  intro p l e R s m args below meth c H locs lsA C0 hS hV hL
  exact lv_ishr C0.1 C0.2.1 hd (kk p l e R s m args below meth c H locs lsA C0 hS hV hL)
theorem hr_iand {x y : Int32} (hd : decode M.2.1 pc = .ok (.iand, 1)) (kk : hr_WP G M d (pc + 1) lv (.int (x &&& y) :: st) h r) : hr_WP G M d pc lv (.int y :: .int x :: st) h r := by
  intro p l e R s m args below meth c H locs lsA C0 hS hV hL
  exact lv_iand C0.1 C0.2.1 hd (kk p l e R s m args below meth c H locs lsA C0 hS hV hL)
theorem hr_i2c {x v : Int32} (hd : decode M.2.1 pc = .ok (.i2c, 1)) (hv : (x.toUInt32 % 65536).toInt32 = v) (kk : hr_WP G M d (pc + 1) lv (.int v :: st) h r) : hr_WP G M d pc lv (.int x :: st) h r := by
  intro p l e R s m args below meth c H locs lsA C0 hS hV hL
  exact lv_i2c C0.1 C0.2.1 hd hv (kk p l e R s m args below meth c H locs lsA C0 hS hV hL)
theorem hr_pop {v : Value} (hd : decode M.2.1 pc = .ok (.pop, 1)) (hc : v.category = 1) (kk : hr_WP G M d (pc + 1) lv (st) h r) : hr_WP G M d pc lv (v :: st) h r := by
  intro p l e R s m args below meth c H locs lsA C0 hS hV hL
  exact lv_pop C0.1 C0.2.1 hd hc (kk p l e R s m args below meth c H locs lsA C0 hS hV hL)
theorem hr_if_eq_f {x : Int32} {off : Int} {tgt : Nat} (hd : decode M.2.1 pc = .ok (.ifCond .eq off, 3)) (ht : (pc : Int) + off = (tgt : Int)) (hx : ¬ x = 0) (kk : hr_WP G M d (pc + 3) lv (st) h r) : hr_WP G M d pc lv (.int x :: st) h r := by
  intro p l e R s m args below meth c H locs lsA C0 hS hV hL
  exact lv_if_eq C0.1 C0.2.1 hd ht (fun q => absurd q hx) (fun _ => (kk p l e R s m args below meth c H locs lsA C0 hS hV hL))
theorem hr_if_ne_f {x : Int32} {off : Int} {tgt : Nat} (hd : decode M.2.1 pc = .ok (.ifCond .ne off, 3)) (ht : (pc : Int) + off = (tgt : Int)) (hx : x = 0) (kk : hr_WP G M d (pc + 3) lv (st) h r) : hr_WP G M d pc lv (.int x :: st) h r := by
  intro p l e R s m args below meth c H locs lsA C0 hS hV hL
  exact lv_if_ne C0.1 C0.2.1 hd ht (fun q => absurd hx q) (fun _ => (kk p l e R s m args below meth c H locs lsA C0 hS hV hL))
theorem hr_if_lt_f {x : Int32} {off : Int} {tgt : Nat} (hd : decode M.2.1 pc = .ok (.ifCond .lt off, 3)) (ht : (pc : Int) + off = (tgt : Int)) (hx : ¬ x < 0) (kk : hr_WP G M d (pc + 3) lv (st) h r) : hr_WP G M d pc lv (.int x :: st) h r := by
  intro p l e R s m args below meth c H locs lsA C0 hS hV hL
  exact lv_if_lt C0.1 C0.2.1 hd ht (fun q => absurd q hx) (fun _ => (kk p l e R s m args below meth c H locs lsA C0 hS hV hL))
theorem hr_icmp_lt_t {x y : Int32} {off : Int} {tgt : Nat} (hd : decode M.2.1 pc = .ok (.if_icmp .lt off, 3)) (ht : (pc : Int) + off = (tgt : Int)) (hx : x < y) (kk : hr_WP G M d (tgt) lv (st) h r) : hr_WP G M d pc lv (.int y :: .int x :: st) h r := by
  intro p l e R s m args below meth c H locs lsA C0 hS hV hL
  exact lv_icmp_lt C0.1 C0.2.1 hd ht (fun _ => (kk p l e R s m args below meth c H locs lsA C0 hS hV hL)) (fun q => absurd hx q)
theorem hr_goto {off : Int} {tgt : Nat} (hd : decode M.2.1 pc = .ok (.goto off, 3)) (ht : (pc : Int) + off = (tgt : Int)) (kk : hr_WP G M d (tgt) lv (st) h r) : hr_WP G M d pc lv (st) h r := by
  intro p l e R s m args below meth c H locs lsA C0 hS hV hL
  exact lv_goto C0.1 C0.2.1 hd ht (kk p l e R s m args below meth c H locs lsA C0 hS hV hL)
theorem hr_ireturn {v : Int32} {ty : FieldType} (hd : decode M.2.1 pc = .ok (.ireturn, 1)) (hr : M.2.2.2 = some ty) (hn : narrow ty (.int v) = .int v) (hQ : some (Value.int v) = r) : hr_WP G M d pc lv ([.int v]) h r := by
  intro p l e R s m args below meth c H locs lsA C0 hS hV hL
  exact W.zret C0.1 C0.2.1 (C0.2.2.2.2.2.1.trans hr) hn (fun t ht hW => ⟨⟨some (.int v), h, rfl, ⟨hQ, rfl⟩, by rw [ht]; exact hS.warm hW⟩, hV.F ht⟩) hV.2.2 hd C0.2.2.2.2.2.2.1
theorem hr_return (hd : decode M.2.1 pc = .ok (.return_, 1)) (hr : M.2.2.2 = none) (hQ : none = r) : hr_WP G M d pc lv ([]) h r := by
  intro p l e R s m args below meth c H locs lsA C0 hS hV hL
  exact W.vret C0.1 C0.2.1 (C0.2.2.2.2.2.1.trans hr) (fun t ht hW => ⟨⟨none, h, rfl, ⟨hQ, rfl⟩, by rw [ht]; exact hS.warm hW⟩, hV.F ht⟩) hV.2.2 hd C0.2.2.2.2.2.2.1
theorem hr_value (hd : decode M.2.1 pc = .ok (.getfield idx, 3)) (hl : Cond.fieldLink M.1.cls idx "java/lang/String" "value" "[B" ∈ hk_T) (kk : hr_WP G M d (pc + 3) lv (.ref (G.2.2.2.2 0) :: st) h r) : hr_WP G M d pc lv (.ref (G.2.2.2.1 0) :: st) h r := by
  intro p l e R s m args below meth c H locs lsA C0 hS hV hL
  exact vk_getf C0.1 C0.2.1 (C0.2.2.2.2.2.2.2.2.2.2.2.2.1.1 0 (by decide)).2.2.1 hV C0.2.2.2.1 (C0.2.2.2.2.1 _ hl) (fun _ h => h) hd (kk p l e R s m args below meth c H locs lsA C0 hS hV hL)
theorem hr_coder (hd : decode M.2.1 pc = .ok (.getfield idx, 3)) (hl : Cond.fieldLink M.1.cls idx "java/lang/String" "coder" "B" ∈ hk_T) (kk : hr_WP G M d (pc + 3) lv (.int 0 :: st) h r) : hr_WP G M d pc lv (.ref (G.2.2.2.1 0) :: st) h r := by
  intro p l e R s m args below meth c H locs lsA C0 hS hV hL
  exact vk_getf C0.1 C0.2.1 (C0.2.2.2.2.2.2.2.2.2.2.2.2.1.1 0 (by decide)).2.1 hV C0.2.2.2.1 (C0.2.2.2.2.1 _ hl) (fun _ h => h) hd (kk p l e R s m args below meth c H locs lsA C0 hS hV hL)
theorem hr_len (hd : decode M.2.1 pc = .ok (.arraylength, 1)) (kk : hr_WP G M d (pc + 1) lv (.int 9 :: st) h r) : hr_WP G M d pc lv (.ref (G.2.2.2.2 0) :: st) h r := by
  intro p l e R s m args below meth c H locs lsA C0 hS hV hL
  exact va_tlen C0.1 C0.2.1 (C0.2.2.2.2.2.2.2.2.2.2.2.2.1.1 0 (by decide)).2.2.2 hV rfl hd (kk p l e R s m args below meth c H locs lsA C0 hS hV hL)
theorem hr_byte {i : Nat} (hi : i < 9) (hd : decode M.2.1 pc = .ok (.baload, 1)) (kk : hr_WP G M d (pc + 1) lv (.int (nmb i) :: st) h r) : hr_WP G M d pc lv (.int (nI i) :: .ref (G.2.2.2.2 0) :: st) h r := by
  intro p l e R s m args below meth c H locs lsA C0 hS hV hL
  exact va_tb C0.1 C0.2.1 (C0.2.2.2.2.2.2.2.2.2.2.2.2.1.1 0 (by decide)).2.2.2 hV (vp_in_nI hi (by decide)) (by rw [nI_clamp (by omega)]; rfl) hd (kk p l e R s m args below meth c H locs lsA C0 hS hV hL)
theorem hr_compact (hd : decode M.2.1 pc = .ok (.getstatic idx, 3)) (hl : Cond.fieldLink M.1.cls idx "java/lang/String" "COMPACT_STRINGS" "Z" ∈ hk_T) (kk : hr_WP G M d (pc + 3) lv (.int 1 :: st) h r) : hr_WP G M d pc lv (st) h r := by
  intro p l e R s m args below meth c H locs lsA C0 hS hV hL
  exact va_gets C0.1 C0.2.1 C0.2.2.2.2.2.2.2.2.2.2.2.2.2.2.1 hV C0.2.2.2.1 (C0.2.2.2.2.1 _ hl) (fun _ h => h) hd (kk p l e R s m args below meth c H locs lsA C0 hS hV hL)
theorem hr_sioobe (hd : decode M.2.1 pc = .ok (.getstatic idx, 3)) (hl : Cond.fieldLink M.1.cls idx "jdk/internal/util/Preconditions" "SIOOBE_FORMATTER" "Ljava/util/function/BiFunction;" ∈ hk_T) (k1 : hr_WP G M d (pc + 3) lv (.null :: st) h r) (k2 : ∀ t : Nat, hr_WP G M d (pc + 3) lv (.ref t :: st) h r) : hr_WP G M d pc lv st h r := by
  intro p l e R s m args below meth c H locs lsA C0 hS hV hL
  rcases C0.2.2.2.2.2.2.2.2.2.2.2.2.2.2.2.1 with hZ | ⟨t, hZ⟩
  · exact va_gets C0.1 C0.2.1 hZ hV C0.2.2.2.1 (C0.2.2.2.2.1 _ hl) (fun _ h => h) hd (k1 p l e R s m args below meth c H locs lsA C0 hS hV hL)
  · exact va_gets C0.1 C0.2.1 hZ hV C0.2.2.2.1 (C0.2.2.2.2.1 _ hl) (fun _ h => h) hd (k2 t p l e R s m args below meth c H locs lsA C0 hS hV hL)
theorem hr_blind : FrameBlind (va_Pc av (fun U => hk_S G h U U.heap ∧ hk_Nw U ∧ hk_X G U U.heap)) := fun a U g mk q => by
  obtain ⟨q1, q2, q3, q4⟩ := q
  exact ⟨q1, ⟨va_K.moved (u := U) (U := U.calling g mk a) (Vm.Alike.refl U.vm) q2.1, q2.2⟩, hk_Nw.same (u := U) (U := U.calling g mk a) rfl q3, hk_X.same (u := U) (U := U.calling g mk a) rfl q4⟩
theorem hr_pre {s : State} {H : Heap} {locs : List Loc} (hS : hk_S G h s H) (hV : va_S (hk_A G) s.heap H locs) (hN : hk_Nw s) (hX : hk_X G s s.heap) : ∀ U : State, U.heap = H → s.WarmedH U.vm → va_Pc av (fun U => hk_S G h U U.heap ∧ hk_Nw U ∧ hk_X G U U.heap) av.toArray U := by
  intro U hU hW
  refine ⟨rfl, by rw [hU]; exact hS.warm hW, hN.warm hW, ?_⟩
  rw [hU]
  exact (hX.kept (fun q h1 h2 => hV.2.1 q h1 h2)).warm hW
theorem hr_V {x : Int32} (hC : hr_Ct G (y, bytes, maxL, ret) d' (.ref (G.2.2.2.1 0) :: As) h (some (.int x))) (hy : y.cls = "java/lang/String") (hw : hk_Wd y bytes maxL ret na) (hl : Cond.methodLink M.1.cls idx y ∈ hk_T ∧ Cond.instanceMethod y ∈ hk_T ∧ Cond.selects y.cls y y ∈ hk_T)
    (hd : decode M.2.1 pc = .ok (.invokevirtual idx, 3)) (hst : st0 = As.reverse ++ .ref (G.2.2.2.1 0) :: st) (hn : As.length = na) (hdep : d' + 1 ≤ d) (hcat : (st.map fun v => v.category).sum ≤ 8)
    (kk : hr_WP G M d (pc + 3) lv (.int x :: st) h r) : hr_WP G M d pc lv st0 h r := by
  intro p l e R s m args below meth c H locs lsA C0 hS hV hL
  have hts := C0.2.2.2.2.1
  refine hk_after (va_runV ⟨C0.1, C0.2.1, C0.2.2.1, C0.2.2.2.1, hts⟩ (hC l) ⟨hk_CB (mc' := 0) (ms' := 0) C0 hw hl.1 hdep, hts _ hl.2.1, hts _ hl.2.2⟩ ⟨hr_blind, by rw [hy]; exact vk_recv C0.2.2.2.2.2.2.2.2.2.2.2.2.1 (by decide) hV, hr_pre hS hV C0.2.2.2.2.2.2.2.2.2.2.1 C0.2.2.2.2.2.2.2.2.2.2.2.2⟩ rfl hn hL.1 hst (lv_room hcat) hd ⟨Nat.zero_le _, Nat.zero_le _⟩) hV (fun r' h' H1 locs1 hq hS1 hV1 => ?_)
  obtain ⟨rfl, rfl⟩ := hq
  exact kk p l e R s m args below meth c H1 locs1 lsA C0 hS1 hV1 hL
theorem hr_S (hC : hr_Ct G (y, bytes, maxL, ret) d' As h r1) (hr1 : r1 = none ∨ ∃ x, r1 = some (.int x)) (hw : hk_Wd y bytes maxL ret na) (hl : Cond.methodLink M.1.cls idx y ∈ hk_T ∧ Cond.static y ∈ hk_T)
    (hd : decode M.2.1 pc = .ok (.invokestatic idx, 3)) (hst : st0 = As.reverse ++ st) (hn : As.length = na) (hdep : d' + 1 ≤ d) (hcat : (st.map fun v => v.category).sum ≤ 8)
    (kk : hr_WP G M d (pc + 3) lv (r1.toList ++ st) h r) : hr_WP G M d pc lv st0 h r := by
  intro p l e R s m args below meth c H locs lsA C0 hS hV hL
  have hts := C0.2.2.2.2.1
  refine hk_after (va_runS ⟨C0.1, C0.2.1, C0.2.2.1, C0.2.2.2.1, hts⟩ (hC l) ⟨hk_CB (mc' := 0) (ms' := 0) C0 hw hl.1 hdep, hts _ hl.2⟩ ⟨hr_blind, hr_pre hS hV C0.2.2.2.2.2.2.2.2.2.2.1 C0.2.2.2.2.2.2.2.2.2.2.2.2⟩ rfl hn hL.1 hst (lv_room hcat) hd ⟨Nat.zero_le _, Nat.zero_le _⟩) hV (fun r' h' H1 locs1 hq hS1 hV1 => ?_)
  obtain ⟨rfl, rfl⟩ := hq
  have eL : (r'.map (hk_v (hk_b G))).toList = r'.toList := by
    rcases hr1 with rfl | ⟨x, rfl⟩ <;> rfl
  rw [eL]
  exact kk p l e R s m args below meth c H1 locs1 lsA C0 hS1 hV1 hL
end HRR
abbrev MJ0_length_8abf5 : hk_M := (yJ0_length_8abf5, cJ0_length_8abf5, 1, some .int)
theorem hk_wJ0_length_8abf5 : hk_Wd yJ0_length_8abf5 cJ0_length_8abf5 1 (some .int) 0 := ⟨hk_t 587 (by decide +kernel) rfl, hk_t 13 (by decide +kernel) rfl, ⟨by decide +kernel, by decide +kernel, by decide +kernel⟩, by decide⟩
abbrev MJ0_coder_7d493 : hk_M := (yJ0_coder_7d493, cJ0_coder_7d493, 1, some .byte)
theorem hk_wJ0_coder_7d493 : hk_Wd yJ0_coder_7d493 cJ0_coder_7d493 1 (some .byte) 0 := ⟨hk_t 591 (by decide +kernel) rfl, hk_t 13 (by decide +kernel) rfl, ⟨by decide +kernel, by decide +kernel, by decide +kernel⟩, by decide⟩
abbrev MJ0_isLatin1_aae02 : hk_M := (yJ0_isLatin1_aae02, cJ0_isLatin1_aae02, 1, some .boolean)
theorem hk_wJ0_isLatin1_aae02 : hk_Wd yJ0_isLatin1_aae02 cJ0_isLatin1_aae02 1 (some .boolean) 0 := ⟨hk_t 601 (by decide +kernel) rfl, hk_t 13 (by decide +kernel) rfl, ⟨by decide +kernel, by decide +kernel, by decide +kernel⟩, by decide⟩
abbrev MJ0_charAt_5068e : hk_M := (yJ0_charAt_5068e, cJ0_charAt_5068e, 2, some .char)
theorem hk_wJ0_charAt_5068e : hk_Wd yJ0_charAt_5068e cJ0_charAt_5068e 2 (some .char) 1 := ⟨hk_t 597 (by decide +kernel) rfl, hk_t 13 (by decide +kernel) rfl, ⟨by decide +kernel, by decide +kernel, by decide +kernel⟩, by decide⟩
abbrev MJ1_charAt_3b067 : hk_M := (yJ1_charAt_3b067, cJ1_charAt_3b067, 2, some .char)
theorem hk_wJ1_charAt_3b067 : hk_Wd yJ1_charAt_3b067 cJ1_charAt_3b067 2 (some .char) 2 := ⟨hk_t 604 (by decide +kernel) rfl, hk_t 14 (by decide +kernel) rfl, ⟨by decide +kernel, by decide +kernel, by decide +kernel⟩, by decide⟩
abbrev MJ0_checkIndex_df160 : hk_M := (yJ0_checkIndex_df160, cJ0_checkIndex_df160, 2, none)
theorem hk_wJ0_checkIndex_df160 : hk_Wd yJ0_checkIndex_df160 cJ0_checkIndex_df160 2 (none) 2 := ⟨hk_t 607 (by decide +kernel) rfl, hk_t 13 (by decide +kernel) rfl, ⟨by decide +kernel, by decide +kernel, by decide +kernel⟩, by decide⟩
abbrev MJ3_checkIndex_8e157 : hk_M := (yJ3_checkIndex_8e157, cJ3_checkIndex_8e157, 3, some .int)
theorem hk_wJ3_checkIndex_8e157 : hk_Wd yJ3_checkIndex_8e157 cJ3_checkIndex_8e157 3 (some .int) 3 := ⟨hk_t 612 (by decide +kernel) rfl, hk_t 15 (by decide +kernel) rfl, ⟨by decide +kernel, by decide +kernel, by decide +kernel⟩, by decide⟩
set_option maxRecDepth 20000 in
theorem hr_coderC {G : hk_G} {h : hk_H} : hr_Ct G MJ0_coder_7d493 0 [.ref (G.2.2.2.1 0)] h (some (.int 0)) := by
  refine hr_of (by decide) (Nat.le_of_ble_eq_true rfl) ?_
  refine hr_compact dJ0_coder_7d493_0 (hk_t 592 (by decide +kernel) rfl) ?_
  refine hr_if_eq_f (tgt := 13) dJ0_coder_7d493_3 (by decide) (by decide) ?_
  refine hr_aload_n dJ0_coder_7d493_6 rfl (List.mem_cons_self) ?_
  refine hr_coder dJ0_coder_7d493_7 (hk_t 1469 (by decide +kernel) rfl) ?_
  refine hr_goto (tgt := 14) dJ0_coder_7d493_10 (by decide) ?_
  exact hr_ireturn dJ0_coder_7d493_14 rfl rfl rfl
set_option maxRecDepth 20000 in
theorem hr_lengthC {G : hk_G} {h : hk_H} : hr_Ct G MJ0_length_8abf5 1 [.ref (G.2.2.2.1 0)] h (some (.int 9)) := by
  refine hr_of (by decide) (Nat.le_of_ble_eq_true rfl) ?_
  refine hr_aload_n dJ0_length_8abf5_0 rfl (List.mem_cons_self) ?_
  refine hr_value dJ0_length_8abf5_1 (hk_t 1468 (by decide +kernel) rfl) ?_
  refine hr_len dJ0_length_8abf5_4 ?_
  refine hr_aload_n dJ0_length_8abf5_5 rfl (List.mem_cons_self) ?_
  refine hr_V (As := []) hr_coderC rfl hk_wJ0_coder_7d493 ⟨hk_t 588 (by decide +kernel) rfl, hk_t 589 (by decide +kernel) rfl, hk_t 590 (by decide +kernel) rfl⟩ dJ0_length_8abf5_6 rfl rfl (by decide) (Nat.le_of_ble_eq_true rfl) ?_
  refine hr_ishr dJ0_length_8abf5_9 ?_
  exact hr_ireturn dJ0_length_8abf5_10 rfl rfl rfl
set_option maxRecDepth 20000 in
theorem hr_isLatin1C {G : hk_G} {h : hk_H} : hr_Ct G MJ0_isLatin1_aae02 0 [.ref (G.2.2.2.1 0)] h (some (.int 1)) := by
  refine hr_of (by decide) (Nat.le_of_ble_eq_true rfl) ?_
  refine hr_compact dJ0_isLatin1_aae02_0 (hk_t 592 (by decide +kernel) rfl) ?_
  refine hr_if_eq_f (tgt := 17) dJ0_isLatin1_aae02_3 (by decide) (by decide) ?_
  refine hr_aload_n dJ0_isLatin1_aae02_6 rfl (List.mem_cons_self) ?_
  refine hr_coder dJ0_isLatin1_aae02_7 (hk_t 1469 (by decide +kernel) rfl) ?_
  refine hr_if_ne_f (tgt := 17) dJ0_isLatin1_aae02_10 (by decide) rfl ?_
  refine hr_iconst (v := 1) dJ0_isLatin1_aae02_13 (by decide) ?_
  refine hr_goto (tgt := 18) dJ0_isLatin1_aae02_14 (by decide) ?_
  exact hr_ireturn dJ0_isLatin1_aae02_18 rfl rfl rfl
set_option maxRecDepth 20000 in
theorem hr_pCheckN {G : hk_G} {h : hk_H} {i : Nat} (hi : i < 9) : hr_Ct G MJ3_checkIndex_8e157 0 [.int (nI i), .int 9, .null] h (some (.int (nI i))) := by
  refine hr_of (by decide) (Nat.le_of_ble_eq_true rfl) ?_
  refine hr_iload_n dJ3_checkIndex_8e157_0 rfl (List.mem_cons_self) ?_
  refine hr_if_lt_f (tgt := 9) dJ3_checkIndex_8e157_1 (by decide) (nI_pos (by omega)) ?_
  refine hr_iload_n dJ3_checkIndex_8e157_4 rfl (List.mem_cons_self) ?_
  refine hr_iload_n dJ3_checkIndex_8e157_5 rfl (List.mem_cons_of_mem _ List.mem_cons_self) ?_
  refine hr_icmp_lt_t (tgt := 16) dJ3_checkIndex_8e157_6 (by decide) (nI_lt hi (by decide)) ?_
  refine hr_iload_n dJ3_checkIndex_8e157_16 rfl (List.mem_cons_self) ?_
  exact hr_ireturn dJ3_checkIndex_8e157_17 rfl rfl rfl
set_option maxRecDepth 20000 in
theorem hr_pCheckR {G : hk_G} {h : hk_H} {i : Nat} {t : Nat} (hi : i < 9) : hr_Ct G MJ3_checkIndex_8e157 0 [.int (nI i), .int 9, .ref t] h (some (.int (nI i))) := by
  refine hr_of (by decide) (Nat.le_of_ble_eq_true rfl) ?_
  refine hr_iload_n dJ3_checkIndex_8e157_0 rfl (List.mem_cons_self) ?_
  refine hr_if_lt_f (tgt := 9) dJ3_checkIndex_8e157_1 (by decide) (nI_pos (by omega)) ?_
  refine hr_iload_n dJ3_checkIndex_8e157_4 rfl (List.mem_cons_self) ?_
  refine hr_iload_n dJ3_checkIndex_8e157_5 rfl (List.mem_cons_of_mem _ List.mem_cons_self) ?_
  refine hr_icmp_lt_t (tgt := 16) dJ3_checkIndex_8e157_6 (by decide) (nI_lt hi (by decide)) ?_
  refine hr_iload_n dJ3_checkIndex_8e157_16 rfl (List.mem_cons_self) ?_
  exact hr_ireturn dJ3_checkIndex_8e157_17 rfl rfl rfl
set_option maxRecDepth 20000 in
theorem hr_sCheckC {G : hk_G} {h : hk_H} {i : Nat} (hi : i < 9) : hr_Ct G MJ0_checkIndex_df160 1 [.int (nI i), .int 9] h none := by
  refine hr_of (by decide) (Nat.le_of_ble_eq_true rfl) ?_
  refine hr_iload_n dJ0_checkIndex_df160_0 rfl (List.mem_cons_self) ?_
  refine hr_iload_n dJ0_checkIndex_df160_1 rfl (List.mem_cons_of_mem _ List.mem_cons_self) ?_
  refine hr_sioobe dJ0_checkIndex_df160_2 (hk_t 608 (by decide +kernel) rfl) ?_ (fun t => ?_)
  · refine hr_S (As := [.int (nI i), .int 9, .null]) (hr_pCheckN hi) (Or.inr ⟨_, rfl⟩) hk_wJ3_checkIndex_8e157 ⟨hk_t 610 (by decide +kernel) rfl, hk_t 611 (by decide +kernel) rfl⟩ dJ0_checkIndex_df160_5 rfl rfl (by decide) (Nat.le_of_ble_eq_true rfl) ?_
    refine hr_pop dJ0_checkIndex_df160_8 rfl ?_
    exact hr_return dJ0_checkIndex_df160_9 rfl rfl
  · refine hr_S (As := [.int (nI i), .int 9, .ref t]) (hr_pCheckR hi) (Or.inr ⟨_, rfl⟩) hk_wJ3_checkIndex_8e157 ⟨hk_t 610 (by decide +kernel) rfl, hk_t 611 (by decide +kernel) rfl⟩ dJ0_checkIndex_df160_5 rfl rfl (by decide) (Nat.le_of_ble_eq_true rfl) ?_
    refine hr_pop dJ0_checkIndex_df160_8 rfl ?_
    exact hr_return dJ0_checkIndex_df160_9 rfl rfl
theorem nmb_255 : ∀ i, i < 9 → ((nmb i &&& 255).toUInt32 % 65536).toInt32 = nmb i := by decide
theorem nmb_n : ∀ i, i < 9 → narrow .char (.int (nmb i)) = .int (nmb i) := by decide
theorem nmo_b : ∀ i, i < 9 → nmo (nmb i) = nI i := by decide
set_option maxRecDepth 20000 in
theorem hr_l1C {G : hk_G} {h : hk_H} {i : Nat} (hi : i < 9) : hr_Ct G MJ1_charAt_3b067 2 [.ref (G.2.2.2.2 0), .int (nI i)] h (some (.int (nmb i))) := by
  refine hr_of (by decide) (Nat.le_of_ble_eq_true rfl) ?_
  refine hr_iload_n dJ1_charAt_3b067_0 rfl (List.mem_cons_of_mem _ List.mem_cons_self) ?_
  refine hr_aload_n dJ1_charAt_3b067_1 rfl (List.mem_cons_self) ?_
  refine hr_len dJ1_charAt_3b067_2 ?_
  refine hr_S (As := [.int (nI i), .int 9]) (hr_sCheckC hi) (Or.inl rfl) hk_wJ0_checkIndex_df160 ⟨hk_t 605 (by decide +kernel) rfl, hk_t 606 (by decide +kernel) rfl⟩ dJ1_charAt_3b067_3 rfl rfl (by decide) (Nat.le_of_ble_eq_true rfl) ?_
  refine hr_aload_n dJ1_charAt_3b067_6 rfl (List.mem_cons_self) ?_
  refine hr_iload_n dJ1_charAt_3b067_7 rfl (List.mem_cons_of_mem _ List.mem_cons_self) ?_
  refine hr_byte hi dJ1_charAt_3b067_8 ?_
  refine hr_sipush (v := 255) dJ1_charAt_3b067_9 (by decide) ?_
  refine hr_iand dJ1_charAt_3b067_12 ?_
  refine hr_i2c dJ1_charAt_3b067_13 (nmb_255 i hi) ?_
  exact hr_ireturn dJ1_charAt_3b067_14 rfl (nmb_n i hi) rfl
set_option maxRecDepth 20000 in
theorem hr_charAtC {G : hk_G} {h : hk_H} {i : Nat} (hi : i < 9) : hr_Ct G MJ0_charAt_5068e 3 [.ref (G.2.2.2.1 0), .int (nI i)] h (some (.int (nmb i))) := by
  refine hr_of (by decide) (Nat.le_of_ble_eq_true rfl) ?_
  refine hr_aload_n dJ0_charAt_5068e_0 rfl (List.mem_cons_self) ?_
  refine hr_V (As := []) hr_isLatin1C rfl hk_wJ0_isLatin1_aae02 ⟨hk_t 598 (by decide +kernel) rfl, hk_t 599 (by decide +kernel) rfl, hk_t 600 (by decide +kernel) rfl⟩ dJ0_charAt_5068e_1 rfl rfl (by decide) (Nat.le_of_ble_eq_true rfl) ?_
  refine hr_if_eq_f (tgt := 16) dJ0_charAt_5068e_4 (by decide) (by decide) ?_
  refine hr_aload_n dJ0_charAt_5068e_7 rfl (List.mem_cons_self) ?_
  refine hr_value dJ0_charAt_5068e_8 (hk_t 1468 (by decide +kernel) rfl) ?_
  refine hr_iload_n dJ0_charAt_5068e_11 rfl (List.mem_cons_of_mem _ List.mem_cons_self) ?_
  refine hr_S (As := [.ref (G.2.2.2.2 0), .int (nI i)]) (hr_l1C hi) (Or.inr ⟨_, rfl⟩) hk_wJ1_charAt_3b067 ⟨hk_t 602 (by decide +kernel) rfl, hk_t 603 (by decide +kernel) rfl⟩ dJ0_charAt_5068e_12 rfl rfl (by decide) (Nat.le_of_ble_eq_true rfl) ?_
  exact hr_ireturn dJ0_charAt_5068e_15 rfl (nmb_n i hi) rfl
section HRN
variable {d mc ms k n L : Nat} {ls : List (Option Value)} {st : List Value} {m : Nat → Nat → Int32} {Q : Option Value → hk_H → Prop} {h : hk_H}
theorem hk_nmlen (hd : 2 ≤ d) (hcat : (st.map fun v => v.category).sum ≤ 8) (kk : hk_WP MX4_nameOf d mc ms k n 8 ls (.int 9 :: st) h Q) (hk : k ≤ mc ∧ n ≤ ms) : hk_WP MX4_nameOf d mc ms k n 3 ls st h Q := by
  intro G p l e R s m args below meth c H locs lsA C0 hS hV hL
  have hts := C0.2.2.2.2.1
  have hR2 := C0.2.2.2.2.2.2.2.2.2.1
  refine va_ldcS C0.1 C0.2.1 C0.2.2.2.1 C0.2.2.2.2.2.2.2.2.2.2.2.2.2.1 dX4_nameOf_3 ?_
  refine hk_after (va_runV (As := []) ⟨C0.1, C0.2.1, C0.2.2.1, C0.2.2.2.1, hts⟩ (hr_lengthC (G := G) (h := h) l) ⟨hk_CB (mc' := 0) (ms' := 0) C0 hk_wJ0_length_8abf5 (hk_t 584 (by decide +kernel) rfl) hd, hts _ (hk_t 585 (by decide +kernel) rfl), hts _ (hk_t 586 (by decide +kernel) rfl)⟩ ⟨hr_blind, vk_recv C0.2.2.2.2.2.2.2.2.2.2.2.2.1 (by decide) hV, hr_pre hS hV C0.2.2.2.2.2.2.2.2.2.2.1 C0.2.2.2.2.2.2.2.2.2.2.2.2⟩ rfl rfl hL.1 rfl (hk_cats (m := 0) hcat) dX4_nameOf_5 ⟨Nat.le_trans hk.1 hR2.1, Nat.le_trans hk.2 hR2.2⟩) hV (fun r' h' H1 locs1 hq hS1 hV1 => ?_)
  obtain ⟨rfl, rfl⟩ := hq
  exact kk G p l e R s m args below meth c H1 locs1 lsA C0 hS1 hV1 hL
theorem hk_nmchr {i : Nat} (hi : i < 9) (hl : ls[1]? = some (some (.int (nI i)))) (hd : 4 ≤ d) (hcat : (st.map fun v => v.category).sum ≤ 8) (kk : hk_WP MX4_nameOf d mc ms k n 17 ls (.int (nmb i) :: st) h Q) (hk : k ≤ mc ∧ n ≤ ms) : hk_WP MX4_nameOf d mc ms k n 11 ls st h Q := by
  intro G p l e R s m args below meth c H locs lsA C0 hS hV hL
  have hts := C0.2.2.2.2.1
  have hR2 := C0.2.2.2.2.2.2.2.2.2.1
  refine va_ldcS C0.1 C0.2.1 C0.2.2.2.1 C0.2.2.2.2.2.2.2.2.2.2.2.2.2.1 dX4_nameOf_11 ?_
  refine lv_iload_n C0.1 C0.2.1 dX4_nameOf_13 rfl (hk_L_at hL hl) ?_
  refine hk_after (va_runV (As := [.int (nI i)]) ⟨C0.1, C0.2.1, C0.2.2.1, C0.2.2.2.1, hts⟩ (hr_charAtC (G := G) (h := h) hi l) ⟨hk_CB (mc' := 0) (ms' := 0) C0 hk_wJ0_charAt_5068e (hk_t 594 (by decide +kernel) rfl) hd, hts _ (hk_t 595 (by decide +kernel) rfl), hts _ (hk_t 596 (by decide +kernel) rfl)⟩ ⟨hr_blind, vk_recv C0.2.2.2.2.2.2.2.2.2.2.2.2.1 (by decide) hV, hr_pre hS hV C0.2.2.2.2.2.2.2.2.2.2.1 C0.2.2.2.2.2.2.2.2.2.2.2.2⟩ rfl rfl hL.1 rfl (hk_cats (m := 0) hcat) dX4_nameOf_14 ⟨Nat.le_trans hk.1 hR2.1, Nat.le_trans hk.2 hR2.2⟩) hV (fun r' h' H1 locs1 hq hS1 hV1 => ?_)
  obtain ⟨rfl, rfl⟩ := hq
  exact kk G p l e R s m args below meth c H1 locs1 lsA C0 hS1 hV1 hL
end HRN
theorem nmo_no {s : Int32} (h : ∀ j, j < 9 → ¬ nmb j = s) : nmo s = -1 := by
  unfold nmo
  rw [if_neg (fun e => h 0 (by decide) (by rw [e]; rfl)), if_neg (fun e => h 1 (by decide) (by rw [e]; rfl)), if_neg (fun e => h 2 (by decide) (by rw [e]; rfl)), if_neg (fun e => h 3 (by decide) (by rw [e]; rfl)), if_neg (fun e => h 4 (by decide) (by rw [e]; rfl)), if_neg (fun e => h 5 (by decide) (by rw [e]; rfl)), if_neg (fun e => h 6 (by decide) (by rw [e]; rfl)), if_neg (fun e => h 7 (by decide) (by rw [e]; rfl)), if_neg (fun e => h 8 (by decide) (by rw [e]; rfl))]
theorem lp_nameOf {L : Nat} {m : Nat → Nat → Int32} {s : Int32} (i : Nat) (hi : i ≤ 9) (hn : ∀ j, j < i → ¬ nmb j = s) : hk_WP MX4_nameOf 6 0 0 0 0 2 [some (.int s), some (.int (nI i))] [] (hk_h L m) (fun r h => r = some (.int (nmo s)) ∧ h = hk_h L m) := by
  refine hk_iload_n dX4_nameOf_2 rfl rfl ?_
  refine hk_nmlen (by decide) (Nat.le_of_ble_eq_true rfl) ?_ ⟨by decide, by decide⟩
  refine hk_icmp_ge (tgt := 29) dX4_nameOf_8 (by decide) (fun c8 => ?_) (fun c8 => ?_)
  · rw [show (9 : Int32) = nI 9 from rfl, nI_leI (by decide) (by omega)] at c8
    refine hk_iconst (v := (-1)) dX4_nameOf_29 (by decide) ?_
    exact hk_ireturn dX4_nameOf_30 rfl rfl (by decide) ⟨by rw [nmo_no (fun j hj => hn j (by omega))], rfl⟩
  · rw [show (9 : Int32) = nI 9 from rfl, nI_leI (by decide) (by omega)] at c8
    have hlt : i < 9 := by omega
    refine hk_nmchr hlt rfl (by decide) (Nat.le_of_ble_eq_true rfl) ?_ ⟨by decide, by decide⟩
    refine hk_iload_n dX4_nameOf_17 rfl rfl ?_
    refine hk_icmp_ne (tgt := 23) dX4_nameOf_18 (by decide) (fun c18 => ?_) (fun c18 => ?_)
    · refine hk_iinc (v := nI (i + 1)) dX4_nameOf_23 rfl (nI_1 i) (by decide) rfl ?_
      refine hk_goto (tgt := 2) dX4_nameOf_26 (by decide) ?_
      exact lp_nameOf (i + 1) hlt (fun j hj => by
        by_cases e : j = i
        · subst e; exact c18
        · exact hn j (by omega))
    · refine hk_iload_n dX4_nameOf_21 rfl rfl ?_
      exact hk_ireturn dX4_nameOf_22 rfl rfl (by decide) ⟨by rw [← c18, nmo_b i hlt], rfl⟩
termination_by 9 - i
decreasing_by all_goals omega
set_option maxRecDepth 20000 in
set_option maxHeartbeats 2000000 in
theorem name_of0 {L : Nat} (m : Nat → Nat → Int32) (s : Int32) : hk_Cd MX4_nameOf 6 0 0 [.int s] (hk_h L m) (some (.int (nmo s))) (hk_h L m) := by
  refine hk_ofWP (by decide) (by simp [Value.category]) (Nat.le_of_ble_eq_true rfl) ?_
  show hk_WP _ _ _ _ _ _ _ [some (.int s), none] [] _ _
  refine hk_iconst (v := 0) dX4_nameOf_0 (by decide) ?_
  refine hk_istore_n dX4_nameOf_1 rfl (by decide) rfl ?_
  exact lp_nameOf 0 (by decide) (fun j hj => absurd hj (Nat.not_lt_zero _))
theorem name_of (L : Nat) : NameOf L := fun m s => name_of0 m s
end CSy
