/-! THE LAW: rows of its body over the hk_ layer -/
section LAWR
variable {p : Program} {l : Launch} {e : Env} {s : State} {m : MethodId} {below : List Frame} {meth : Method} {c : Code} {b L : Nat} {xs : Nat → Int32} {G : hk_G} {lv : List (Nat × Value)} {k n pc : Nat} {st : List Value} {h : hk_H} {i : Nat}
def lw_C (p : Program) (s : State) (m : MethodId) (meth : Method) (c : Code) (b L : Nat) (xs : Nat → Int32) (G : hk_G) : Prop := lw_At p s m meth c b L xs ∧ hk_b G = s.heap.size ∧ hk_Nw s ∧ hk_X G s s.heap
def lw_WP (p : Program) (l : Launch) (e : Env) (s : State) (m : MethodId) (below : List Frame) (meth : Method) (c : Code) (b : Nat) (G : hk_G) (lv : List (Nat × Value)) (k n pc : Nat) (st : List Value) (h : hk_H) : Prop :=
  ∀ (H : Heap) (locs : List Loc) (lsA : Array Slot), hk_S G h s H → va_S (hk_A G) s.heap H locs → lv_has lsA 4 lv → W p l e room_1 s m #[Value.ref b] below meth c H locs k n (lw_Z below #[Value.ref b] s) (F0 m pc lsA (st.map (hk_v (hk_b G))))
def lw_lv (G : hk_G) (b i : Nat) : List (Nat × Value) := [(0, .ref b), (1, .ref (hk_b G + 0)), (2, .ref (hk_b G + 37)), (3, .int (nI i))]
abbrev lw_M (meth : Method) : hk_M := (⟨R_law, meth.name, ""⟩, code, 4, ret)
theorem lw_C.cx (C : lw_C p s m meth c b L xs G) : hk_Cx (lw_M meth) 301 600000 7302250 G p room_1 s m #[Value.ref b] meth c := by
  obtain ⟨⟨hx, hb, hr, hml, hown, hts, hX, hbl, hlocks, hgv⟩, hG, hN, hXX⟩ := C
  exact ⟨hx, hb, hml, hown, fun w hw => hts w (List.mem_filter.mp hw).1, hr, hlocks, rfl, ⟨by decide, by decide⟩, ⟨Nat.le_refl _, Nat.le_refl _⟩, hN, by rw [hG]; exact Nat.le_refl _, hXX⟩
theorem lr_widen {k' n' : Nat} (hk : k ≤ k') (hn : n ≤ n') (kk : lw_WP p l e s m below meth c b G lv k' n' pc st h) : lw_WP p l e s m below meth c b G lv k n pc st h := fun H locs lsA hS hV hl => W.widen hk hn (kk H locs lsA hS hV hl)
theorem lr_eqv {h' : hk_H} (he : hk_eqv h h') (kk : lw_WP p l e s m below meth c b G lv k n pc st h') : lw_WP p l e s m below meth c b G lv k n pc st h := fun H locs lsA hS hV hl => kk H locs lsA (he G s H hS) hV hl
theorem lr_ref1 (C : lw_C p s m meth c b L xs G) (hd : decode code pc = .ok (.aload_n 1, 1)) (kk : lw_WP p l e s m below meth c b G (lw_lv G b i) k n (pc + 1) (.ref 0 :: st) h) : lw_WP p l e s m below meth c b G (lw_lv G b i) k n pc st h := by
  intro H locs lsA hS hV hl
  exact lv_aload_n C.1.1 C.1.2.1 hd rfl (lv_at hl 1 rfl) (kk H locs lsA hS hV hl)
theorem lr_ref2 (C : lw_C p s m meth c b L xs G) (hd : decode code pc = .ok (.aload_n 2, 1)) (kk : lw_WP p l e s m below meth c b G (lw_lv G b i) k n (pc + 1) (.ref 37 :: st) h) : lw_WP p l e s m below meth c b G (lw_lv G b i) k n pc st h := by
  intro H locs lsA hS hV hl
  exact lv_aload_n C.1.1 C.1.2.1 hd rfl (lv_at hl 2 rfl) (kk H locs lsA hS hV hl)
theorem lr_out (C : lw_C p s m meth c b L xs G) : ¬ hk_A G b := by
  show ¬ hk_b G ≤ b
  rw [C.2.1]
  exact Nat.not_le.mpr C.1.2.2.2.2.2.2.2.1
theorem lr_arg (C : lw_C p s m meth c b L xs G) (hL : L ≤ 3072) {j : Nat} {jj : Int} (hij : i + j < L) (hj : Int32.ofInt jj = nI j) (d0 : decode code pc = .ok (.aload_n 0, 1)) (d1 : decode code (pc + 1) = .ok (.iload_n 3, 1)) (d2 : decode code (pc + 2) = .ok (.iconst jj, 1)) (d3 : decode code (pc + 3) = .ok (.iadd, 1)) (d4 : decode code (pc + 4) = .ok (.iaload, 1))
    (kk : lw_WP p l e s m below meth c b G (lw_lv G b i) k n (pc + 5) (.int (xs (i + j)) :: st) h) : lw_WP p l e s m below meth c b G (lw_lv G b i) k n pc st h := by
  intro H locs lsA hS hV hl
  have hbA := lr_out C
  obtain ⟨⟨hx, hb, hr, hml, hown, hts, hX, hbl, hlocks, hgv⟩, hG, hN, hXX⟩ := C
  refine lv_aload_n hx hb d0 rfl (lv_at hl 0 rfl) ?_
  refine lv_iload_n hx hb d1 rfl (lv_at hl 3 rfl) ?_
  refine lv_iconst (v := nI j) hx hb d2 hj ?_
  refine lv_iadd hx hb d3 ?_
  rw [nI_add]
  refine va_sld hx hb hX hbl hbA hV (vp_in_nI hij (by omega)) d4 ?_
  rw [nI_clamp (by omega)]
  exact kk H locs lsA hS hV hl
theorem lr_arg0 (C : lw_C p s m meth c b L xs G) (hL : L ≤ 3072) (hi : i < L) (d0 : decode code pc = .ok (.aload_n 0, 1)) (d1 : decode code (pc + 1) = .ok (.iload_n 3, 1)) (d4 : decode code (pc + 2) = .ok (.iaload, 1))
    (kk : lw_WP p l e s m below meth c b G (lw_lv G b i) k n (pc + 3) (.int (xs i) :: st) h) : lw_WP p l e s m below meth c b G (lw_lv G b i) k n pc st h := by
  intro H locs lsA hS hV hl
  have hbA := lr_out C
  obtain ⟨⟨hx, hb, hr, hml, hown, hts, hX, hbl, hlocks, hgv⟩, hG, hN, hXX⟩ := C
  refine lv_aload_n hx hb d0 rfl (lv_at hl 0 rfl) ?_
  refine lv_iload_n hx hb d1 rfl (lv_at hl 3 rfl) ?_
  refine va_sld hx hb hX hbl hbA hV (vp_in_nI hi (by omega)) d4 ?_
  rw [nI_clamp (by omega)]
  exact kk H locs lsA hS hV hl
theorem lr_call {y : MethodName} {bytes : ByteArray} {maxL : Nat} {rt : Option FieldType} {d' mc' ms' idx na a ci : Nat} {As fs st0 : List Value} {Qc : Option Value → hk_H → Prop} (C : lw_C p s m meth c b L xs G)
    (hC : hk_Ct (y, bytes, maxL, rt) d' mc' ms' (.ref a :: As) h Qc) (hw : hk_Wd y bytes maxL rt na) (hl : Cond.methodLink R_law idx y ∈ hk_T ∧ Cond.instanceMethod y ∈ hk_T ∧ Cond.selects y.cls y y ∈ hk_T)
    (hd : decode code pc = .ok (.invokevirtual idx, 3)) (ha : a < h.1) (he : h.2 a = .inr (ci, fs)) (hci : (vwCl[ci]?).map (·.1) = some y.cls) (hst : st0 = As.reverse ++ .ref a :: st) (hn : As.length = na) (hdep : d' ≤ 300) (hrm : k + mc' ≤ 600000 ∧ n + ms' ≤ 7302250) (hcat : (st.map fun v => v.category).sum ≤ 8)
    (kk : ∀ (r : Option Value) (h' : hk_H), Qc r h' → lw_WP p l e s m below meth c b G lv (k + mc') (n + ms') (pc + 3) (r.toList ++ st) h') : lw_WP p l e s m below meth c b G lv k n pc st0 h := by
  intro H locs lsA hS hV hl4
  have C0 := C.cx
  have hts := C0.2.2.2.2.1
  refine hk_after (va_runV ⟨C0.1, C0.2.1, C0.2.2.1, C0.2.2.2.1, hts⟩ (hC l G) ⟨hk_CB C0 hw hl.1 (Nat.succ_le_succ hdep), hts _ hl.2.1, hts _ hl.2.2⟩ ⟨hk_blind, hk_recv hS ha he hci, hk_pre_at (args := #[Value.ref b]) hS hV C0.2.2.2.2.2.2.2.2.2.2.1 C0.2.2.2.2.2.2.2.2.2.2.2.2⟩ rfl (by rw [List.length_map]; exact hn) hl4.1 (hk_stk _ hst) (hk_cats (m := 0) hcat) hd hrm) hV (fun r h' H1 locs1 hq hS1 hV1 => ?_)
  rw [hk_rl]
  exact kk r h' hq H1 locs1 lsA hS1 hV1 hl4
theorem lr_init {y : MethodName} {bytes : ByteArray} {maxL : Nat} {d' mc' ms' idx a : Nat} {h1 : hk_H} (C : lw_C p s m meth c b L xs G)
    (hC : hk_Cd (y, bytes, maxL, none) d' mc' ms' [.ref a] h none h1) (hw : hk_Wd y bytes maxL none 0) (hy : y.name = "<init>") (hl : Cond.methodLink R_law idx y ∈ hk_T ∧ Cond.instanceMethod y ∈ hk_T)
    (hd : decode code pc = .ok (.invokespecial idx, 3)) (hdep : d' ≤ 300) (hrm : k + mc' ≤ 600000 ∧ n + ms' ≤ 7302250) (hcat : (st.map fun v => v.category).sum ≤ 8)
    (kk : lw_WP p l e s m below meth c b G lv (k + mc') (n + ms') (pc + 3) st h1) : lw_WP p l e s m below meth c b G lv k n pc (.ref a :: st) h := by
  intro H locs lsA hS hV hl4
  have C0 := C.cx
  have hts := C0.2.2.2.2.1
  refine hk_after (va_runI ⟨C0.1, C0.2.1, C0.2.2.1, C0.2.2.2.1, hts⟩ (hC l G) ⟨hk_CB C0 hw hl.1 (Nat.succ_le_succ hdep), hy, hts _ hl.2⟩ ⟨hk_blind, hk_pre_at (args := #[Value.ref b]) hS hV C0.2.2.2.2.2.2.2.2.2.2.1 C0.2.2.2.2.2.2.2.2.2.2.2.2⟩ rfl rfl hl4.1 rfl (hk_cats (m := 0) hcat) hd hrm) hV (fun r h' H1 locs1 hq hS1 hV1 => ?_)
  obtain ⟨rfl, rfl⟩ := hq
  exact kk H1 locs1 lsA hS1 hV1 hl4
theorem lr_new {Cn : String} {Tt : u_T} {N ci idx : Nat} {fs : List Value} (C : lw_C p s m meth c b L xs G) (ty : Nat → FieldType) (hty : ∀ k, k < N → parseFieldDescriptor (Tt k).2.2.1 = some (ty k)) (hc : vwCl[ci]? = some (Cn, Tt, N)) (hin : ∀ w ∈ u_ws Cn Tt N, w ∈ hk_T)
    (hw : Cond.classLink R_law idx Cn ∈ hk_T ∧ Cond.instantiable Cn N ∈ hk_T ∧ Cond.initialized Cn ∈ hk_T) (hfs : ∀ b j, j < N → defaultValue (ty j) = vp_V (fs.map (hk_v b)) j) (hr : k + 1 ≤ 600000 ∧ n + N ≤ 7302250)
    (hd : decode code pc = .ok (.new idx, 3)) (kk : lw_WP p l e s m below meth c b G lv (k + 1) (n + N) (pc + 3) (.ref h.1 :: st) (hk_push h (.inr (ci, fs)))) : lw_WP p l e s m below meth c b G lv k n pc st h := by
  intro H locs lsA hS hV hl
  have C0 := C.cx
  have hts := C0.2.2.2.2.1
  have hKn := hS.1.1 ci _ hc
  refine W.newcK C0.1 C0.2.1 C0.2.2.2.1 (hts _ hw.1) (hts _ hw.2.1) (hts _ hw.2.2) rfl hd hr.1 hr.2 hKn.2.1 hS.2.2 fun H1 kC hkC e1 z1 o1 => ?_
  refine kk H1 locs lsA (hk_S_push (x := .inr (ci, fs)) hS ⟨_, hc, (u_born ty hts hin hKn hkC e1 hty).to (hfs _)⟩ (by rw [z1, hS.2.2]) (fun q hq => o1 q (by rw [← hS.2.2]; exact hq))) ?_ hl
  exact ⟨Nat.le_trans hV.1 (by rw [z1, hS.2.2]; exact Nat.le_succ _), fun q h1 h2 => by rw [o1 q (by rw [← hS.2.2]; exact Nat.lt_of_lt_of_le h1 hV.1)]; exact hV.2.1 q h1 h2, hV.2.2⟩
theorem lr_eq {off : Int} {tgt : Nat} {v : Int32} (C : lw_C p s m meth c b L xs G) (hd : decode code pc = .ok (.if_icmp .eq off, 3)) (ht : (pc : Int) + off = (tgt : Int)) (kk : lw_WP p l e s m below meth c b G lv k n tgt st h) : lw_WP p l e s m below meth c b G lv k n pc (.int v :: .int v :: st) h := by
  intro H locs lsA hS hV hl
  exact lv_icmp_eq C.1.1 C.1.2.1 hd ht (fun _ => kk H locs lsA hS hV hl) (fun q => absurd rfl q)
end LAWR
theorem lw_wX9_corner : hk_Wd yX9_corner cX9_corner 1 (some .int) 0 := ⟨(hk_t 244 (by decide +kernel) rfl), hk_t 1 (by decide +kernel) rfl, ⟨by decide +kernel, by decide +kernel, by decide +kernel⟩, by decide⟩
theorem lw_wX10_corner : hk_Wd yX10_corner cX10_corner 1 (some .int) 0 := ⟨(hk_t 1154 (by decide +kernel) rfl), hk_t 10 (by decide +kernel) rfl, ⟨by decide +kernel, by decide +kernel, by decide +kernel⟩, by decide⟩
set_option maxRecDepth 20000 in
theorem lw_c0 {p : Program} {l : Launch} {e : Env} {s : State} {m : MethodId} {below : List Frame} {meth : Method} {c : Code} {b L : Nat} {xs : Nat → Int32} {G : hk_G} {k n : Nat} {i : Nat} (C : lw_C p s m meth c b L xs G) (hL : L ≤ 3072) (hi : i + 6 ≤ L) {LL : Nat} {z : Nat → Nat} {mm : Nat → Nat → Int32} (hI : Inv LL z mm) (hk : k + 2 ≤ 600000) (hn : n + 164 ≤ 7302250) (next : ∀ LL z mm, Inv LL z mm → lw_WP p l e s m below meth c b G (lw_lv G b i) (k + 2) (n + 164) 1312 [] (hk_h LL mm)) : lw_WP p l e s m below meth c b G (lw_lv G b i) k n 176 [] (hk_h LL mm) := by
  obtain ⟨d1, c1, s1, d2, b1, b2, b3, b4, hA⟩ := OpOK.e (op_corner hI)
  refine lr_ref1 C (pc := 176) d_law_176 ?_
  refine lr_call C (pc := 177) (a := 0) (As := []) hA lw_wX9_corner ⟨(hk_t 241 (by decide +kernel) rfl), (hk_t 242 (by decide +kernel) rfl), (hk_t 243 (by decide +kernel) rfl)⟩ d_law_177 (hk_lt (by decide)) rfl rfl rfl rfl b1 ⟨by omega, by omega⟩ (Nat.le_of_ble_eq_true rfl) (fun r h' hq => ?_)
  obtain ⟨v, L1, m1, rfl, rfl, hB⟩ := hq
  refine lr_ref2 C (pc := 180) d_law_180 ?_
  refine lr_call C (pc := 181) (a := 37) (As := []) hB lw_wX10_corner ⟨(hk_t 1151 (by decide +kernel) rfl), (hk_t 1152 (by decide +kernel) rfl), (hk_t 1153 (by decide +kernel) rfl)⟩ d_law_181 (hk_lt (by decide)) rfl rfl rfl rfl b4 ⟨by omega, by omega⟩ (Nat.le_of_ble_eq_true rfl) (fun r h' hq => ?_)
  obtain ⟨m2, z2, rfl, rfl, hI2⟩ := hq
  refine lr_eq C (pc := 184) (tgt := 1312) d_law_184 (by decide) ?_
  exact lr_widen (by omega) (by omega) (next _ _ _ hI2)
theorem lw_wX9_street : hk_Wd yX9_street cX9_street 6 (some .int) 3 := ⟨(hk_t 252 (by decide +kernel) rfl), hk_t 1 (by decide +kernel) rfl, ⟨by decide +kernel, by decide +kernel, by decide +kernel⟩, by decide⟩
theorem lw_wX10_street : hk_Wd yX10_street cX10_street 4 (some .int) 3 := ⟨(hk_t 1158 (by decide +kernel) rfl), hk_t 10 (by decide +kernel) rfl, ⟨by decide +kernel, by decide +kernel, by decide +kernel⟩, by decide⟩
set_option maxRecDepth 20000 in
theorem lw_c1 {p : Program} {l : Launch} {e : Env} {s : State} {m : MethodId} {below : List Frame} {meth : Method} {c : Code} {b L : Nat} {xs : Nat → Int32} {G : hk_G} {k n : Nat} {i : Nat} (C : lw_C p s m meth c b L xs G) (hL : L ≤ 3072) (hi : i + 6 ≤ L) {LL : Nat} {z : Nat → Nat} {mm : Nat → Nat → Int32} (hI : Inv LL z mm) (hk : k + 2 ≤ 600000) (hn : n + 164 ≤ 7302250) (next : ∀ LL z mm, Inv LL z mm → lw_WP p l e s m below meth c b G (lw_lv G b i) (k + 2) (n + 164) 1312 [] (hk_h LL mm)) : lw_WP p l e s m below meth c b G (lw_lv G b i) k n 189 [] (hk_h LL mm) := by
  obtain ⟨d1, c1, s1, d2, b1, b2, b3, b4, hA⟩ := OpOK.e (op_street hI (xs (i + 1)) (xs (i + 2)) (xs (i + 3)))
  refine lr_ref1 C (pc := 189) d_law_189 ?_
  refine lr_arg C hL (j := 1) (pc := 190) (by omega) rfl d_law_190 d_law_191 d_law_192 d_law_193 d_law_194 ?_
  refine lr_arg C hL (j := 2) (pc := 195) (by omega) rfl d_law_195 d_law_196 d_law_197 d_law_198 d_law_199 ?_
  refine lr_arg C hL (j := 3) (pc := 200) (by omega) rfl d_law_200 d_law_201 d_law_202 d_law_203 d_law_204 ?_
  refine lr_call C (pc := 205) (a := 0) (As := [.int (xs (i + 1)), .int (xs (i + 2)), .int (xs (i + 3))]) hA lw_wX9_street ⟨(hk_t 249 (by decide +kernel) rfl), (hk_t 250 (by decide +kernel) rfl), (hk_t 251 (by decide +kernel) rfl)⟩ d_law_205 (hk_lt (by decide)) rfl rfl rfl rfl b1 ⟨by omega, by omega⟩ (Nat.le_of_ble_eq_true rfl) (fun r h' hq => ?_)
  obtain ⟨v, L1, m1, rfl, rfl, hB⟩ := hq
  refine lr_ref2 C (pc := 208) d_law_208 ?_
  refine lr_arg C hL (j := 1) (pc := 209) (by omega) rfl d_law_209 d_law_210 d_law_211 d_law_212 d_law_213 ?_
  refine lr_arg C hL (j := 2) (pc := 214) (by omega) rfl d_law_214 d_law_215 d_law_216 d_law_217 d_law_218 ?_
  refine lr_arg C hL (j := 3) (pc := 219) (by omega) rfl d_law_219 d_law_220 d_law_221 d_law_222 d_law_223 ?_
  refine lr_call C (pc := 224) (a := 37) (As := [.int (xs (i + 1)), .int (xs (i + 2)), .int (xs (i + 3))]) hB lw_wX10_street ⟨(hk_t 1155 (by decide +kernel) rfl), (hk_t 1156 (by decide +kernel) rfl), (hk_t 1157 (by decide +kernel) rfl)⟩ d_law_224 (hk_lt (by decide)) rfl rfl rfl rfl b4 ⟨by omega, by omega⟩ (Nat.le_of_ble_eq_true rfl) (fun r h' hq => ?_)
  obtain ⟨m2, z2, rfl, rfl, hI2⟩ := hq
  refine lr_eq C (pc := 227) (tgt := 1312) d_law_227 (by decide) ?_
  exact lr_widen (by omega) (by omega) (next _ _ _ hI2)
theorem lw_wX9_shut : hk_Wd yX9_shut cX9_shut 4 (some .int) 3 := ⟨(hk_t 269 (by decide +kernel) rfl), hk_t 1 (by decide +kernel) rfl, ⟨by decide +kernel, by decide +kernel, by decide +kernel⟩, by decide⟩
theorem lw_wX10_shut : hk_Wd yX10_shut cX10_shut 4 (some .int) 3 := ⟨(hk_t 1169 (by decide +kernel) rfl), hk_t 10 (by decide +kernel) rfl, ⟨by decide +kernel, by decide +kernel, by decide +kernel⟩, by decide⟩
set_option maxRecDepth 20000 in
theorem lw_c2 {p : Program} {l : Launch} {e : Env} {s : State} {m : MethodId} {below : List Frame} {meth : Method} {c : Code} {b L : Nat} {xs : Nat → Int32} {G : hk_G} {k n : Nat} {i : Nat} (C : lw_C p s m meth c b L xs G) (hL : L ≤ 3072) (hi : i + 6 ≤ L) {LL : Nat} {z : Nat → Nat} {mm : Nat → Nat → Int32} (hI : Inv LL z mm) (hk : k + 2 ≤ 600000) (hn : n + 164 ≤ 7302250) (next : ∀ LL z mm, Inv LL z mm → lw_WP p l e s m below meth c b G (lw_lv G b i) (k + 2) (n + 164) 1312 [] (hk_h LL mm)) : lw_WP p l e s m below meth c b G (lw_lv G b i) k n 232 [] (hk_h LL mm) := by
  obtain ⟨d1, c1, s1, d2, b1, b2, b3, b4, hA⟩ := OpOK.e (op_shut hI (xs (i + 1)) (xs (i + 2)) (xs (i + 3)))
  refine lr_ref1 C (pc := 232) d_law_232 ?_
  refine lr_arg C hL (j := 1) (pc := 233) (by omega) rfl d_law_233 d_law_234 d_law_235 d_law_236 d_law_237 ?_
  refine lr_arg C hL (j := 2) (pc := 238) (by omega) rfl d_law_238 d_law_239 d_law_240 d_law_241 d_law_242 ?_
  refine lr_arg C hL (j := 3) (pc := 243) (by omega) rfl d_law_243 d_law_244 d_law_245 d_law_246 d_law_247 ?_
  refine lr_call C (pc := 248) (a := 0) (As := [.int (xs (i + 1)), .int (xs (i + 2)), .int (xs (i + 3))]) hA lw_wX9_shut ⟨(hk_t 266 (by decide +kernel) rfl), (hk_t 267 (by decide +kernel) rfl), (hk_t 268 (by decide +kernel) rfl)⟩ d_law_248 (hk_lt (by decide)) rfl rfl rfl rfl b1 ⟨by omega, by omega⟩ (Nat.le_of_ble_eq_true rfl) (fun r h' hq => ?_)
  obtain ⟨v, L1, m1, rfl, rfl, hB⟩ := hq
  refine lr_ref2 C (pc := 251) d_law_251 ?_
  refine lr_arg C hL (j := 1) (pc := 252) (by omega) rfl d_law_252 d_law_253 d_law_254 d_law_255 d_law_256 ?_
  refine lr_arg C hL (j := 2) (pc := 257) (by omega) rfl d_law_257 d_law_258 d_law_259 d_law_260 d_law_261 ?_
  refine lr_arg C hL (j := 3) (pc := 262) (by omega) rfl d_law_262 d_law_263 d_law_264 d_law_265 d_law_266 ?_
  refine lr_call C (pc := 267) (a := 37) (As := [.int (xs (i + 1)), .int (xs (i + 2)), .int (xs (i + 3))]) hB lw_wX10_shut ⟨(hk_t 1166 (by decide +kernel) rfl), (hk_t 1167 (by decide +kernel) rfl), (hk_t 1168 (by decide +kernel) rfl)⟩ d_law_267 (hk_lt (by decide)) rfl rfl rfl rfl b4 ⟨by omega, by omega⟩ (Nat.le_of_ble_eq_true rfl) (fun r h' hq => ?_)
  obtain ⟨m2, z2, rfl, rfl, hI2⟩ := hq
  refine lr_eq C (pc := 270) (tgt := 1312) d_law_270 (by decide) ?_
  exact lr_widen (by omega) (by omega) (next _ _ _ hI2)
theorem lw_wX9_sun : hk_Wd yX9_sun cX9_sun 4 (some .int) 3 := ⟨(hk_t 286 (by decide +kernel) rfl), hk_t 1 (by decide +kernel) rfl, ⟨by decide +kernel, by decide +kernel, by decide +kernel⟩, by decide⟩
theorem lw_wX10_sun : hk_Wd yX10_sun cX10_sun 4 (some .int) 3 := ⟨(hk_t 1174 (by decide +kernel) rfl), hk_t 10 (by decide +kernel) rfl, ⟨by decide +kernel, by decide +kernel, by decide +kernel⟩, by decide⟩
set_option maxRecDepth 20000 in
theorem lw_c3 {p : Program} {l : Launch} {e : Env} {s : State} {m : MethodId} {below : List Frame} {meth : Method} {c : Code} {b L : Nat} {xs : Nat → Int32} {G : hk_G} {k n : Nat} {i : Nat} (C : lw_C p s m meth c b L xs G) (hL : L ≤ 3072) (hi : i + 6 ≤ L) {LL : Nat} {z : Nat → Nat} {mm : Nat → Nat → Int32} (hI : Inv LL z mm) (hk : k + 2 ≤ 600000) (hn : n + 164 ≤ 7302250) (next : ∀ LL z mm, Inv LL z mm → lw_WP p l e s m below meth c b G (lw_lv G b i) (k + 2) (n + 164) 1312 [] (hk_h LL mm)) : lw_WP p l e s m below meth c b G (lw_lv G b i) k n 275 [] (hk_h LL mm) := by
  obtain ⟨d1, c1, s1, d2, b1, b2, b3, b4, hA⟩ := OpOK.e (op_sun hI (xs (i + 1)) (xs (i + 2)) (xs (i + 3)))
  refine lr_ref1 C (pc := 275) d_law_275 ?_
  refine lr_arg C hL (j := 1) (pc := 276) (by omega) rfl d_law_276 d_law_277 d_law_278 d_law_279 d_law_280 ?_
  refine lr_arg C hL (j := 2) (pc := 281) (by omega) rfl d_law_281 d_law_282 d_law_283 d_law_284 d_law_285 ?_
  refine lr_arg C hL (j := 3) (pc := 286) (by omega) rfl d_law_286 d_law_287 d_law_288 d_law_289 d_law_290 ?_
  refine lr_call C (pc := 291) (a := 0) (As := [.int (xs (i + 1)), .int (xs (i + 2)), .int (xs (i + 3))]) hA lw_wX9_sun ⟨(hk_t 283 (by decide +kernel) rfl), (hk_t 284 (by decide +kernel) rfl), (hk_t 285 (by decide +kernel) rfl)⟩ d_law_291 (hk_lt (by decide)) rfl rfl rfl rfl b1 ⟨by omega, by omega⟩ (Nat.le_of_ble_eq_true rfl) (fun r h' hq => ?_)
  obtain ⟨v, L1, m1, rfl, rfl, hB⟩ := hq
  refine lr_ref2 C (pc := 294) d_law_294 ?_
  refine lr_arg C hL (j := 1) (pc := 295) (by omega) rfl d_law_295 d_law_296 d_law_297 d_law_298 d_law_299 ?_
  refine lr_arg C hL (j := 2) (pc := 300) (by omega) rfl d_law_300 d_law_301 d_law_302 d_law_303 d_law_304 ?_
  refine lr_arg C hL (j := 3) (pc := 305) (by omega) rfl d_law_305 d_law_306 d_law_307 d_law_308 d_law_309 ?_
  refine lr_call C (pc := 310) (a := 37) (As := [.int (xs (i + 1)), .int (xs (i + 2)), .int (xs (i + 3))]) hB lw_wX10_sun ⟨(hk_t 1171 (by decide +kernel) rfl), (hk_t 1172 (by decide +kernel) rfl), (hk_t 1173 (by decide +kernel) rfl)⟩ d_law_310 (hk_lt (by decide)) rfl rfl rfl rfl b4 ⟨by omega, by omega⟩ (Nat.le_of_ble_eq_true rfl) (fun r h' hq => ?_)
  obtain ⟨m2, z2, rfl, rfl, hI2⟩ := hq
  refine lr_eq C (pc := 313) (tgt := 1312) d_law_313 (by decide) ?_
  exact lr_widen (by omega) (by omega) (next _ _ _ hI2)
theorem lw_wX9_way : hk_Wd yX9_way cX9_way 5 (some .int) 3 := ⟨(hk_t 291 (by decide +kernel) rfl), hk_t 1 (by decide +kernel) rfl, ⟨by decide +kernel, by decide +kernel, by decide +kernel⟩, by decide⟩
theorem lw_wX10_way : hk_Wd yX10_way cX10_way 6 (some .int) 3 := ⟨(hk_t 1190 (by decide +kernel) rfl), hk_t 10 (by decide +kernel) rfl, ⟨by decide +kernel, by decide +kernel, by decide +kernel⟩, by decide⟩
set_option maxRecDepth 20000 in
theorem lw_c4 {p : Program} {l : Launch} {e : Env} {s : State} {m : MethodId} {below : List Frame} {meth : Method} {c : Code} {b L : Nat} {xs : Nat → Int32} {G : hk_G} {k n : Nat} {i : Nat} (C : lw_C p s m meth c b L xs G) (hL : L ≤ 3072) (hi : i + 6 ≤ L) {LL : Nat} {z : Nat → Nat} {mm : Nat → Nat → Int32} (hI : Inv LL z mm) (hk : k + 2 ≤ 600000) (hn : n + 164 ≤ 7302250) (next : ∀ LL z mm, Inv LL z mm → lw_WP p l e s m below meth c b G (lw_lv G b i) (k + 2) (n + 164) 1312 [] (hk_h LL mm)) : lw_WP p l e s m below meth c b G (lw_lv G b i) k n 318 [] (hk_h LL mm) := by
  obtain ⟨d1, c1, s1, d2, b1, b2, b3, b4, hA⟩ := op_way hI (xs (i + 1)) (xs (i + 2)) (xs (i + 3))
  refine lr_ref1 C (pc := 318) d_law_318 ?_
  refine lr_arg C hL (j := 1) (pc := 319) (by omega) rfl d_law_319 d_law_320 d_law_321 d_law_322 d_law_323 ?_
  refine lr_arg C hL (j := 2) (pc := 324) (by omega) rfl d_law_324 d_law_325 d_law_326 d_law_327 d_law_328 ?_
  refine lr_arg C hL (j := 3) (pc := 329) (by omega) rfl d_law_329 d_law_330 d_law_331 d_law_332 d_law_333 ?_
  refine lr_call C (pc := 334) (a := 0) (As := [.int (xs (i + 1)), .int (xs (i + 2)), .int (xs (i + 3))]) hA lw_wX9_way ⟨(hk_t 288 (by decide +kernel) rfl), (hk_t 289 (by decide +kernel) rfl), (hk_t 290 (by decide +kernel) rfl)⟩ d_law_334 (hk_lt (by decide)) rfl rfl rfl rfl b1 ⟨by omega, by omega⟩ (Nat.le_of_ble_eq_true rfl) (fun r h' hq => ?_)
  obtain ⟨v, L1, m1, rfl, rfl, hB⟩ := hq
  refine lr_ref2 C (pc := 337) d_law_337 ?_
  refine lr_arg C hL (j := 1) (pc := 338) (by omega) rfl d_law_338 d_law_339 d_law_340 d_law_341 d_law_342 ?_
  refine lr_arg C hL (j := 2) (pc := 343) (by omega) rfl d_law_343 d_law_344 d_law_345 d_law_346 d_law_347 ?_
  refine lr_arg C hL (j := 3) (pc := 348) (by omega) rfl d_law_348 d_law_349 d_law_350 d_law_351 d_law_352 ?_
  refine lr_call C (pc := 353) (a := 37) (As := [.int (xs (i + 1)), .int (xs (i + 2)), .int (xs (i + 3))]) hB lw_wX10_way ⟨(hk_t 1187 (by decide +kernel) rfl), (hk_t 1188 (by decide +kernel) rfl), (hk_t 1189 (by decide +kernel) rfl)⟩ d_law_353 (hk_lt (by decide)) rfl rfl rfl rfl b4 ⟨by omega, by omega⟩ (Nat.le_of_ble_eq_true rfl) (fun r h' hq => ?_)
  obtain ⟨m2, z2, rfl, rfl, hI2⟩ := hq
  refine lr_eq C (pc := 356) (tgt := 1312) d_law_356 (by decide) ?_
  exact lr_widen (by omega) (by omega) (next _ _ _ hI2)
theorem lw_wX9_step : hk_Wd yX9_step cX9_step 2 (some .int) 1 := ⟨(hk_t 336 (by decide +kernel) rfl), hk_t 1 (by decide +kernel) rfl, ⟨by decide +kernel, by decide +kernel, by decide +kernel⟩, by decide⟩
theorem lw_wX10_step : hk_Wd yX10_step cX10_step 2 (some .int) 1 := ⟨(hk_t 1215 (by decide +kernel) rfl), hk_t 10 (by decide +kernel) rfl, ⟨by decide +kernel, by decide +kernel, by decide +kernel⟩, by decide⟩
set_option maxRecDepth 20000 in
theorem lw_c5 {p : Program} {l : Launch} {e : Env} {s : State} {m : MethodId} {below : List Frame} {meth : Method} {c : Code} {b L : Nat} {xs : Nat → Int32} {G : hk_G} {k n : Nat} {i : Nat} (C : lw_C p s m meth c b L xs G) (hL : L ≤ 3072) (hi : i + 6 ≤ L) {LL : Nat} {z : Nat → Nat} {mm : Nat → Nat → Int32} (hI : Inv LL z mm) (hk : k + 2 ≤ 600000) (hn : n + 164 ≤ 7302250) (next : ∀ LL z mm, Inv LL z mm → lw_WP p l e s m below meth c b G (lw_lv G b i) (k + 2) (n + 164) 1312 [] (hk_h LL mm)) : lw_WP p l e s m below meth c b G (lw_lv G b i) k n 361 [] (hk_h LL mm) := by
  obtain ⟨d1, c1, s1, d2, b1, b2, b3, b4, hA⟩ := OpOK.e (op_step hI (xs (i + 1)))
  refine lr_ref1 C (pc := 361) d_law_361 ?_
  refine lr_arg C hL (j := 1) (pc := 362) (by omega) rfl d_law_362 d_law_363 d_law_364 d_law_365 d_law_366 ?_
  refine lr_call C (pc := 367) (a := 0) (As := [.int (xs (i + 1))]) hA lw_wX9_step ⟨(hk_t 333 (by decide +kernel) rfl), (hk_t 334 (by decide +kernel) rfl), (hk_t 335 (by decide +kernel) rfl)⟩ d_law_367 (hk_lt (by decide)) rfl rfl rfl rfl b1 ⟨by omega, by omega⟩ (Nat.le_of_ble_eq_true rfl) (fun r h' hq => ?_)
  obtain ⟨v, L1, m1, rfl, rfl, hB⟩ := hq
  refine lr_ref2 C (pc := 370) d_law_370 ?_
  refine lr_arg C hL (j := 1) (pc := 371) (by omega) rfl d_law_371 d_law_372 d_law_373 d_law_374 d_law_375 ?_
  refine lr_call C (pc := 376) (a := 37) (As := [.int (xs (i + 1))]) hB lw_wX10_step ⟨(hk_t 1212 (by decide +kernel) rfl), (hk_t 1213 (by decide +kernel) rfl), (hk_t 1214 (by decide +kernel) rfl)⟩ d_law_376 (hk_lt (by decide)) rfl rfl rfl rfl b4 ⟨by omega, by omega⟩ (Nat.le_of_ble_eq_true rfl) (fun r h' hq => ?_)
  obtain ⟨m2, z2, rfl, rfl, hI2⟩ := hq
  refine lr_eq C (pc := 379) (tgt := 1312) d_law_379 (by decide) ?_
  exact lr_widen (by omega) (by omega) (next _ _ _ hI2)
theorem lw_wX9_night : hk_Wd yX9_night cX9_night 2 (some .int) 1 := ⟨(hk_t 344 (by decide +kernel) rfl), hk_t 1 (by decide +kernel) rfl, ⟨by decide +kernel, by decide +kernel, by decide +kernel⟩, by decide⟩
theorem lw_wX10_night : hk_Wd yX10_night cX10_night 2 (some .int) 1 := ⟨(hk_t 1178 (by decide +kernel) rfl), hk_t 10 (by decide +kernel) rfl, ⟨by decide +kernel, by decide +kernel, by decide +kernel⟩, by decide⟩
set_option maxRecDepth 20000 in
theorem lw_c6 {p : Program} {l : Launch} {e : Env} {s : State} {m : MethodId} {below : List Frame} {meth : Method} {c : Code} {b L : Nat} {xs : Nat → Int32} {G : hk_G} {k n : Nat} {i : Nat} (C : lw_C p s m meth c b L xs G) (hL : L ≤ 3072) (hi : i + 6 ≤ L) {LL : Nat} {z : Nat → Nat} {mm : Nat → Nat → Int32} (hI : Inv LL z mm) (hk : k + 2 ≤ 600000) (hn : n + 164 ≤ 7302250) (next : ∀ LL z mm, Inv LL z mm → lw_WP p l e s m below meth c b G (lw_lv G b i) (k + 2) (n + 164) 1312 [] (hk_h LL mm)) : lw_WP p l e s m below meth c b G (lw_lv G b i) k n 384 [] (hk_h LL mm) := by
  obtain ⟨d1, c1, s1, d2, b1, b2, b3, b4, hA⟩ := OpOK.e (op_night hI (xs (i + 1)))
  refine lr_ref1 C (pc := 384) d_law_384 ?_
  refine lr_arg C hL (j := 1) (pc := 385) (by omega) rfl d_law_385 d_law_386 d_law_387 d_law_388 d_law_389 ?_
  refine lr_call C (pc := 390) (a := 0) (As := [.int (xs (i + 1))]) hA lw_wX9_night ⟨(hk_t 341 (by decide +kernel) rfl), (hk_t 342 (by decide +kernel) rfl), (hk_t 343 (by decide +kernel) rfl)⟩ d_law_390 (hk_lt (by decide)) rfl rfl rfl rfl b1 ⟨by omega, by omega⟩ (Nat.le_of_ble_eq_true rfl) (fun r h' hq => ?_)
  obtain ⟨v, L1, m1, rfl, rfl, hB⟩ := hq
  refine lr_ref2 C (pc := 393) d_law_393 ?_
  refine lr_arg C hL (j := 1) (pc := 394) (by omega) rfl d_law_394 d_law_395 d_law_396 d_law_397 d_law_398 ?_
  refine lr_call C (pc := 399) (a := 37) (As := [.int (xs (i + 1))]) hB lw_wX10_night ⟨(hk_t 1175 (by decide +kernel) rfl), (hk_t 1176 (by decide +kernel) rfl), (hk_t 1177 (by decide +kernel) rfl)⟩ d_law_399 (hk_lt (by decide)) rfl rfl rfl rfl b4 ⟨by omega, by omega⟩ (Nat.le_of_ble_eq_true rfl) (fun r h' hq => ?_)
  obtain ⟨m2, z2, rfl, rfl, hI2⟩ := hq
  refine lr_eq C (pc := 402) (tgt := 1312) d_law_402 (by decide) ?_
  exact lr_widen (by omega) (by omega) (next _ _ _ hI2)
theorem lw_wX9_coach : hk_Wd yX9_coach cX9_coach 3 (some .int) 2 := ⟨(hk_t 355 (by decide +kernel) rfl), hk_t 1 (by decide +kernel) rfl, ⟨by decide +kernel, by decide +kernel, by decide +kernel⟩, by decide⟩
theorem lw_wX10_coach : hk_Wd yX10_coach cX10_coach 4 (some .int) 2 := ⟨(hk_t 1219 (by decide +kernel) rfl), hk_t 10 (by decide +kernel) rfl, ⟨by decide +kernel, by decide +kernel, by decide +kernel⟩, by decide⟩
set_option maxRecDepth 20000 in
theorem lw_c7 {p : Program} {l : Launch} {e : Env} {s : State} {m : MethodId} {below : List Frame} {meth : Method} {c : Code} {b L : Nat} {xs : Nat → Int32} {G : hk_G} {k n : Nat} {i : Nat} (C : lw_C p s m meth c b L xs G) (hL : L ≤ 3072) (hi : i + 6 ≤ L) {LL : Nat} {z : Nat → Nat} {mm : Nat → Nat → Int32} (hI : Inv LL z mm) (hk : k + 2 ≤ 600000) (hn : n + 164 ≤ 7302250) (next : ∀ LL z mm, Inv LL z mm → lw_WP p l e s m below meth c b G (lw_lv G b i) (k + 2) (n + 164) 1312 [] (hk_h LL mm)) : lw_WP p l e s m below meth c b G (lw_lv G b i) k n 407 [] (hk_h LL mm) := by
  obtain ⟨d1, c1, s1, d2, b1, b2, b3, b4, hA⟩ := OpOK.e (op_coach hI (xs (i + 1)) (xs (i + 2)))
  refine lr_ref1 C (pc := 407) d_law_407 ?_
  refine lr_arg C hL (j := 1) (pc := 408) (by omega) rfl d_law_408 d_law_409 d_law_410 d_law_411 d_law_412 ?_
  refine lr_arg C hL (j := 2) (pc := 413) (by omega) rfl d_law_413 d_law_414 d_law_415 d_law_416 d_law_417 ?_
  refine lr_call C (pc := 418) (a := 0) (As := [.int (xs (i + 1)), .int (xs (i + 2))]) hA lw_wX9_coach ⟨(hk_t 352 (by decide +kernel) rfl), (hk_t 353 (by decide +kernel) rfl), (hk_t 354 (by decide +kernel) rfl)⟩ d_law_418 (hk_lt (by decide)) rfl rfl rfl rfl b1 ⟨by omega, by omega⟩ (Nat.le_of_ble_eq_true rfl) (fun r h' hq => ?_)
  obtain ⟨v, L1, m1, rfl, rfl, hB⟩ := hq
  refine lr_ref2 C (pc := 421) d_law_421 ?_
  refine lr_arg C hL (j := 1) (pc := 422) (by omega) rfl d_law_422 d_law_423 d_law_424 d_law_425 d_law_426 ?_
  refine lr_arg C hL (j := 2) (pc := 427) (by omega) rfl d_law_427 d_law_428 d_law_429 d_law_430 d_law_431 ?_
  refine lr_call C (pc := 432) (a := 37) (As := [.int (xs (i + 1)), .int (xs (i + 2))]) hB lw_wX10_coach ⟨(hk_t 1216 (by decide +kernel) rfl), (hk_t 1217 (by decide +kernel) rfl), (hk_t 1218 (by decide +kernel) rfl)⟩ d_law_432 (hk_lt (by decide)) rfl rfl rfl rfl b4 ⟨by omega, by omega⟩ (Nat.le_of_ble_eq_true rfl) (fun r h' hq => ?_)
  obtain ⟨m2, z2, rfl, rfl, hI2⟩ := hq
  refine lr_eq C (pc := 435) (tgt := 1312) d_law_435 (by decide) ?_
  exact lr_widen (by omega) (by omega) (next _ _ _ hI2)
theorem lw_wX9_licence : hk_Wd yX9_licence cX9_licence 4 (some .int) 3 := ⟨(hk_t 374 (by decide +kernel) rfl), hk_t 1 (by decide +kernel) rfl, ⟨by decide +kernel, by decide +kernel, by decide +kernel⟩, by decide⟩
theorem lw_wX10_licence : hk_Wd yX10_licence cX10_licence 4 (some .int) 3 := ⟨(hk_t 1223 (by decide +kernel) rfl), hk_t 10 (by decide +kernel) rfl, ⟨by decide +kernel, by decide +kernel, by decide +kernel⟩, by decide⟩
set_option maxRecDepth 20000 in
theorem lw_c8 {p : Program} {l : Launch} {e : Env} {s : State} {m : MethodId} {below : List Frame} {meth : Method} {c : Code} {b L : Nat} {xs : Nat → Int32} {G : hk_G} {k n : Nat} {i : Nat} (C : lw_C p s m meth c b L xs G) (hL : L ≤ 3072) (hi : i + 6 ≤ L) {LL : Nat} {z : Nat → Nat} {mm : Nat → Nat → Int32} (hI : Inv LL z mm) (hk : k + 2 ≤ 600000) (hn : n + 164 ≤ 7302250) (next : ∀ LL z mm, Inv LL z mm → lw_WP p l e s m below meth c b G (lw_lv G b i) (k + 2) (n + 164) 1312 [] (hk_h LL mm)) : lw_WP p l e s m below meth c b G (lw_lv G b i) k n 440 [] (hk_h LL mm) := by
  obtain ⟨d1, c1, s1, d2, b1, b2, b3, b4, hA⟩ := OpOK.e (op_licence hI (xs (i + 1)) (xs (i + 2)) (xs (i + 3)))
  refine lr_ref1 C (pc := 440) d_law_440 ?_
  refine lr_arg C hL (j := 1) (pc := 441) (by omega) rfl d_law_441 d_law_442 d_law_443 d_law_444 d_law_445 ?_
  refine lr_arg C hL (j := 2) (pc := 446) (by omega) rfl d_law_446 d_law_447 d_law_448 d_law_449 d_law_450 ?_
  refine lr_arg C hL (j := 3) (pc := 451) (by omega) rfl d_law_451 d_law_452 d_law_453 d_law_454 d_law_455 ?_
  refine lr_call C (pc := 456) (a := 0) (As := [.int (xs (i + 1)), .int (xs (i + 2)), .int (xs (i + 3))]) hA lw_wX9_licence ⟨(hk_t 371 (by decide +kernel) rfl), (hk_t 372 (by decide +kernel) rfl), (hk_t 373 (by decide +kernel) rfl)⟩ d_law_456 (hk_lt (by decide)) rfl rfl rfl rfl b1 ⟨by omega, by omega⟩ (Nat.le_of_ble_eq_true rfl) (fun r h' hq => ?_)
  obtain ⟨v, L1, m1, rfl, rfl, hB⟩ := hq
  refine lr_ref2 C (pc := 459) d_law_459 ?_
  refine lr_arg C hL (j := 1) (pc := 460) (by omega) rfl d_law_460 d_law_461 d_law_462 d_law_463 d_law_464 ?_
  refine lr_arg C hL (j := 2) (pc := 465) (by omega) rfl d_law_465 d_law_466 d_law_467 d_law_468 d_law_469 ?_
  refine lr_arg C hL (j := 3) (pc := 470) (by omega) rfl d_law_470 d_law_471 d_law_472 d_law_473 d_law_474 ?_
  refine lr_call C (pc := 475) (a := 37) (As := [.int (xs (i + 1)), .int (xs (i + 2)), .int (xs (i + 3))]) hB lw_wX10_licence ⟨(hk_t 1220 (by decide +kernel) rfl), (hk_t 1221 (by decide +kernel) rfl), (hk_t 1222 (by decide +kernel) rfl)⟩ d_law_475 (hk_lt (by decide)) rfl rfl rfl rfl b4 ⟨by omega, by omega⟩ (Nat.le_of_ble_eq_true rfl) (fun r h' hq => ?_)
  obtain ⟨m2, z2, rfl, rfl, hI2⟩ := hq
  refine lr_eq C (pc := 478) (tgt := 1312) d_law_478 (by decide) ?_
  exact lr_widen (by omega) (by omega) (next _ _ _ hI2)
theorem lw_wX9_look : hk_Wd yX9_look cX9_look 4 (some .int) 2 := ⟨(hk_t 386 (by decide +kernel) rfl), hk_t 1 (by decide +kernel) rfl, ⟨by decide +kernel, by decide +kernel, by decide +kernel⟩, by decide⟩
theorem lw_wX10_look : hk_Wd yX10_look cX10_look 4 (some .int) 2 := ⟨(hk_t 1235 (by decide +kernel) rfl), hk_t 10 (by decide +kernel) rfl, ⟨by decide +kernel, by decide +kernel, by decide +kernel⟩, by decide⟩
set_option maxRecDepth 20000 in
theorem lw_c9 {p : Program} {l : Launch} {e : Env} {s : State} {m : MethodId} {below : List Frame} {meth : Method} {c : Code} {b L : Nat} {xs : Nat → Int32} {G : hk_G} {k n : Nat} {i : Nat} (C : lw_C p s m meth c b L xs G) (hL : L ≤ 3072) (hi : i + 6 ≤ L) {LL : Nat} {z : Nat → Nat} {mm : Nat → Nat → Int32} (hI : Inv LL z mm) (hk : k + 2 ≤ 600000) (hn : n + 164 ≤ 7302250) (next : ∀ LL z mm, Inv LL z mm → lw_WP p l e s m below meth c b G (lw_lv G b i) (k + 2) (n + 164) 1312 [] (hk_h LL mm)) : lw_WP p l e s m below meth c b G (lw_lv G b i) k n 483 [] (hk_h LL mm) := by
  obtain ⟨d1, c1, s1, d2, b1, b2, b3, b4, hA⟩ := OpOK.e (op_look hI (xs (i + 1)) (xs (i + 2)))
  refine lr_ref1 C (pc := 483) d_law_483 ?_
  refine lr_arg C hL (j := 1) (pc := 484) (by omega) rfl d_law_484 d_law_485 d_law_486 d_law_487 d_law_488 ?_
  refine lr_arg C hL (j := 2) (pc := 489) (by omega) rfl d_law_489 d_law_490 d_law_491 d_law_492 d_law_493 ?_
  refine lr_call C (pc := 494) (a := 0) (As := [.int (xs (i + 1)), .int (xs (i + 2))]) hA lw_wX9_look ⟨(hk_t 383 (by decide +kernel) rfl), (hk_t 384 (by decide +kernel) rfl), (hk_t 385 (by decide +kernel) rfl)⟩ d_law_494 (hk_lt (by decide)) rfl rfl rfl rfl b1 ⟨by omega, by omega⟩ (Nat.le_of_ble_eq_true rfl) (fun r h' hq => ?_)
  obtain ⟨v, L1, m1, rfl, rfl, hB⟩ := hq
  refine lr_ref2 C (pc := 497) d_law_497 ?_
  refine lr_arg C hL (j := 1) (pc := 498) (by omega) rfl d_law_498 d_law_499 d_law_500 d_law_501 d_law_502 ?_
  refine lr_arg C hL (j := 2) (pc := 503) (by omega) rfl d_law_503 d_law_504 d_law_505 d_law_506 d_law_507 ?_
  refine lr_call C (pc := 508) (a := 37) (As := [.int (xs (i + 1)), .int (xs (i + 2))]) hB lw_wX10_look ⟨(hk_t 1232 (by decide +kernel) rfl), (hk_t 1233 (by decide +kernel) rfl), (hk_t 1234 (by decide +kernel) rfl)⟩ d_law_508 (hk_lt (by decide)) rfl rfl rfl rfl b4 ⟨by omega, by omega⟩ (Nat.le_of_ble_eq_true rfl) (fun r h' hq => ?_)
  obtain ⟨m2, z2, rfl, rfl, hI2⟩ := hq
  refine lr_eq C (pc := 511) (tgt := 1312) d_law_511 (by decide) ?_
  exact lr_widen (by omega) (by omega) (next _ _ _ hI2)
theorem lw_wX9_stand : hk_Wd yX9_stand cX9_stand 3 (some .int) 2 := ⟨(hk_t 396 (by decide +kernel) rfl), hk_t 1 (by decide +kernel) rfl, ⟨by decide +kernel, by decide +kernel, by decide +kernel⟩, by decide⟩
theorem lw_wX10_stand : hk_Wd yX10_stand cX10_stand 3 (some .int) 2 := ⟨(hk_t 1243 (by decide +kernel) rfl), hk_t 10 (by decide +kernel) rfl, ⟨by decide +kernel, by decide +kernel, by decide +kernel⟩, by decide⟩
set_option maxRecDepth 20000 in
theorem lw_c10 {p : Program} {l : Launch} {e : Env} {s : State} {m : MethodId} {below : List Frame} {meth : Method} {c : Code} {b L : Nat} {xs : Nat → Int32} {G : hk_G} {k n : Nat} {i : Nat} (C : lw_C p s m meth c b L xs G) (hL : L ≤ 3072) (hi : i + 6 ≤ L) {LL : Nat} {z : Nat → Nat} {mm : Nat → Nat → Int32} (hI : Inv LL z mm) (hk : k + 2 ≤ 600000) (hn : n + 164 ≤ 7302250) (next : ∀ LL z mm, Inv LL z mm → lw_WP p l e s m below meth c b G (lw_lv G b i) (k + 2) (n + 164) 1312 [] (hk_h LL mm)) : lw_WP p l e s m below meth c b G (lw_lv G b i) k n 516 [] (hk_h LL mm) := by
  obtain ⟨d1, c1, s1, d2, b1, b2, b3, b4, hA⟩ := OpOK.e (op_stand hI (xs (i + 1)) (xs (i + 2)))
  refine lr_ref1 C (pc := 516) d_law_516 ?_
  refine lr_arg C hL (j := 1) (pc := 517) (by omega) rfl d_law_517 d_law_518 d_law_519 d_law_520 d_law_521 ?_
  refine lr_arg C hL (j := 2) (pc := 522) (by omega) rfl d_law_522 d_law_523 d_law_524 d_law_525 d_law_526 ?_
  refine lr_call C (pc := 527) (a := 0) (As := [.int (xs (i + 1)), .int (xs (i + 2))]) hA lw_wX9_stand ⟨(hk_t 393 (by decide +kernel) rfl), (hk_t 394 (by decide +kernel) rfl), (hk_t 395 (by decide +kernel) rfl)⟩ d_law_527 (hk_lt (by decide)) rfl rfl rfl rfl b1 ⟨by omega, by omega⟩ (Nat.le_of_ble_eq_true rfl) (fun r h' hq => ?_)
  obtain ⟨v, L1, m1, rfl, rfl, hB⟩ := hq
  refine lr_ref2 C (pc := 530) d_law_530 ?_
  refine lr_arg C hL (j := 1) (pc := 531) (by omega) rfl d_law_531 d_law_532 d_law_533 d_law_534 d_law_535 ?_
  refine lr_arg C hL (j := 2) (pc := 536) (by omega) rfl d_law_536 d_law_537 d_law_538 d_law_539 d_law_540 ?_
  refine lr_call C (pc := 541) (a := 37) (As := [.int (xs (i + 1)), .int (xs (i + 2))]) hB lw_wX10_stand ⟨(hk_t 1240 (by decide +kernel) rfl), (hk_t 1241 (by decide +kernel) rfl), (hk_t 1242 (by decide +kernel) rfl)⟩ d_law_541 (hk_lt (by decide)) rfl rfl rfl rfl b4 ⟨by omega, by omega⟩ (Nat.le_of_ble_eq_true rfl) (fun r h' hq => ?_)
  obtain ⟨m2, z2, rfl, rfl, hI2⟩ := hq
  refine lr_eq C (pc := 544) (tgt := 1312) d_law_544 (by decide) ?_
  exact lr_widen (by omega) (by omega) (next _ _ _ hI2)
theorem lw_wX9_go : hk_Wd yX9_go cX9_go 6 (some .int) 2 := ⟨(hk_t 404 (by decide +kernel) rfl), hk_t 1 (by decide +kernel) rfl, ⟨by decide +kernel, by decide +kernel, by decide +kernel⟩, by decide⟩
theorem lw_wX10_go : hk_Wd yX10_go cX10_go 6 (some .int) 2 := ⟨(hk_t 1247 (by decide +kernel) rfl), hk_t 10 (by decide +kernel) rfl, ⟨by decide +kernel, by decide +kernel, by decide +kernel⟩, by decide⟩
set_option maxRecDepth 20000 in
theorem lw_c11 {p : Program} {l : Launch} {e : Env} {s : State} {m : MethodId} {below : List Frame} {meth : Method} {c : Code} {b L : Nat} {xs : Nat → Int32} {G : hk_G} {k n : Nat} {i : Nat} (C : lw_C p s m meth c b L xs G) (hL : L ≤ 3072) (hi : i + 6 ≤ L) {LL : Nat} {z : Nat → Nat} {mm : Nat → Nat → Int32} (hI : Inv LL z mm) (hk : k + 2 ≤ 600000) (hn : n + 164 ≤ 7302250) (next : ∀ LL z mm, Inv LL z mm → lw_WP p l e s m below meth c b G (lw_lv G b i) (k + 2) (n + 164) 1312 [] (hk_h LL mm)) : lw_WP p l e s m below meth c b G (lw_lv G b i) k n 549 [] (hk_h LL mm) := by
  obtain ⟨d1, c1, s1, d2, b1, b2, b3, b4, hA⟩ := op_go hI (xs (i + 1)) (xs (i + 2))
  refine lr_ref1 C (pc := 549) d_law_549 ?_
  refine lr_arg C hL (j := 1) (pc := 550) (by omega) rfl d_law_550 d_law_551 d_law_552 d_law_553 d_law_554 ?_
  refine lr_arg C hL (j := 2) (pc := 555) (by omega) rfl d_law_555 d_law_556 d_law_557 d_law_558 d_law_559 ?_
  refine lr_call C (pc := 560) (a := 0) (As := [.int (xs (i + 1)), .int (xs (i + 2))]) hA lw_wX9_go ⟨(hk_t 401 (by decide +kernel) rfl), (hk_t 402 (by decide +kernel) rfl), (hk_t 403 (by decide +kernel) rfl)⟩ d_law_560 (hk_lt (by decide)) rfl rfl rfl rfl b1 ⟨by omega, by omega⟩ (Nat.le_of_ble_eq_true rfl) (fun r h' hq => ?_)
  obtain ⟨v, L1, m1, rfl, rfl, hB⟩ := hq
  refine lr_ref2 C (pc := 563) d_law_563 ?_
  refine lr_arg C hL (j := 1) (pc := 564) (by omega) rfl d_law_564 d_law_565 d_law_566 d_law_567 d_law_568 ?_
  refine lr_arg C hL (j := 2) (pc := 569) (by omega) rfl d_law_569 d_law_570 d_law_571 d_law_572 d_law_573 ?_
  refine lr_call C (pc := 574) (a := 37) (As := [.int (xs (i + 1)), .int (xs (i + 2))]) hB lw_wX10_go ⟨(hk_t 1244 (by decide +kernel) rfl), (hk_t 1245 (by decide +kernel) rfl), (hk_t 1246 (by decide +kernel) rfl)⟩ d_law_574 (hk_lt (by decide)) rfl rfl rfl rfl b4 ⟨by omega, by omega⟩ (Nat.le_of_ble_eq_true rfl) (fun r h' hq => ?_)
  obtain ⟨m2, z2, rfl, rfl, hI2⟩ := hq
  refine lr_eq C (pc := 577) (tgt := 1312) d_law_577 (by decide) ?_
  exact lr_widen (by omega) (by omega) (next _ _ _ hI2)
theorem lw_wX9_about : hk_Wd yX9_about cX9_about 3 (some .int) 2 := ⟨(hk_t 443 (by decide +kernel) rfl), hk_t 1 (by decide +kernel) rfl, ⟨by decide +kernel, by decide +kernel, by decide +kernel⟩, by decide⟩
theorem lw_wX10_about : hk_Wd yX10_about cX10_about 4 (some .int) 2 := ⟨(hk_t 1270 (by decide +kernel) rfl), hk_t 10 (by decide +kernel) rfl, ⟨by decide +kernel, by decide +kernel, by decide +kernel⟩, by decide⟩
set_option maxRecDepth 20000 in
theorem lw_c12 {p : Program} {l : Launch} {e : Env} {s : State} {m : MethodId} {below : List Frame} {meth : Method} {c : Code} {b L : Nat} {xs : Nat → Int32} {G : hk_G} {k n : Nat} {i : Nat} (C : lw_C p s m meth c b L xs G) (hL : L ≤ 3072) (hi : i + 6 ≤ L) {LL : Nat} {z : Nat → Nat} {mm : Nat → Nat → Int32} (hI : Inv LL z mm) (hk : k + 2 ≤ 600000) (hn : n + 164 ≤ 7302250) (next : ∀ LL z mm, Inv LL z mm → lw_WP p l e s m below meth c b G (lw_lv G b i) (k + 2) (n + 164) 1312 [] (hk_h LL mm)) : lw_WP p l e s m below meth c b G (lw_lv G b i) k n 582 [] (hk_h LL mm) := by
  obtain ⟨d1, c1, s1, d2, b1, b2, b3, b4, hA⟩ := op_about hI (xs (i + 1)) (xs (i + 2))
  refine lr_ref1 C (pc := 582) d_law_582 ?_
  refine lr_arg C hL (j := 1) (pc := 583) (by omega) rfl d_law_583 d_law_584 d_law_585 d_law_586 d_law_587 ?_
  refine lr_arg C hL (j := 2) (pc := 588) (by omega) rfl d_law_588 d_law_589 d_law_590 d_law_591 d_law_592 ?_
  refine lr_call C (pc := 593) (a := 0) (As := [.int (xs (i + 1)), .int (xs (i + 2))]) hA lw_wX9_about ⟨(hk_t 440 (by decide +kernel) rfl), (hk_t 441 (by decide +kernel) rfl), (hk_t 442 (by decide +kernel) rfl)⟩ d_law_593 (hk_lt (by decide)) rfl rfl rfl rfl b1 ⟨by omega, by omega⟩ (Nat.le_of_ble_eq_true rfl) (fun r h' hq => ?_)
  obtain ⟨v, L1, m1, rfl, rfl, hB⟩ := hq
  refine lr_ref2 C (pc := 596) d_law_596 ?_
  refine lr_arg C hL (j := 1) (pc := 597) (by omega) rfl d_law_597 d_law_598 d_law_599 d_law_600 d_law_601 ?_
  refine lr_arg C hL (j := 2) (pc := 602) (by omega) rfl d_law_602 d_law_603 d_law_604 d_law_605 d_law_606 ?_
  refine lr_call C (pc := 607) (a := 37) (As := [.int (xs (i + 1)), .int (xs (i + 2))]) hB lw_wX10_about ⟨(hk_t 1267 (by decide +kernel) rfl), (hk_t 1268 (by decide +kernel) rfl), (hk_t 1269 (by decide +kernel) rfl)⟩ d_law_607 (hk_lt (by decide)) rfl rfl rfl rfl b4 ⟨by omega, by omega⟩ (Nat.le_of_ble_eq_true rfl) (fun r h' hq => ?_)
  obtain ⟨m2, z2, rfl, rfl, hI2⟩ := hq
  refine lr_eq C (pc := 610) (tgt := 1312) d_law_610 (by decide) ?_
  exact lr_widen (by omega) (by omega) (next _ _ _ hI2)
theorem lw_wX9_turn : hk_Wd yX9_turn cX9_turn 3 (some .int) 2 := ⟨(hk_t 519 (by decide +kernel) rfl), hk_t 1 (by decide +kernel) rfl, ⟨by decide +kernel, by decide +kernel, by decide +kernel⟩, by decide⟩
theorem lw_wX10_turn : hk_Wd yX10_turn cX10_turn 3 (some .int) 2 := ⟨(hk_t 1342 (by decide +kernel) rfl), hk_t 10 (by decide +kernel) rfl, ⟨by decide +kernel, by decide +kernel, by decide +kernel⟩, by decide⟩
set_option maxRecDepth 20000 in
theorem lw_c13 {p : Program} {l : Launch} {e : Env} {s : State} {m : MethodId} {below : List Frame} {meth : Method} {c : Code} {b L : Nat} {xs : Nat → Int32} {G : hk_G} {k n : Nat} {i : Nat} (C : lw_C p s m meth c b L xs G) (hL : L ≤ 3072) (hi : i + 6 ≤ L) {LL : Nat} {z : Nat → Nat} {mm : Nat → Nat → Int32} (hI : Inv LL z mm) (hk : k + 2 ≤ 600000) (hn : n + 164 ≤ 7302250) (next : ∀ LL z mm, Inv LL z mm → lw_WP p l e s m below meth c b G (lw_lv G b i) (k + 2) (n + 164) 1312 [] (hk_h LL mm)) : lw_WP p l e s m below meth c b G (lw_lv G b i) k n 615 [] (hk_h LL mm) := by
  obtain ⟨d1, c1, s1, d2, b1, b2, b3, b4, hA⟩ := OpOK.e (op_turn hI (xs (i + 1)) (xs (i + 2)))
  refine lr_ref1 C (pc := 615) d_law_615 ?_
  refine lr_arg C hL (j := 1) (pc := 616) (by omega) rfl d_law_616 d_law_617 d_law_618 d_law_619 d_law_620 ?_
  refine lr_arg C hL (j := 2) (pc := 621) (by omega) rfl d_law_621 d_law_622 d_law_623 d_law_624 d_law_625 ?_
  refine lr_call C (pc := 626) (a := 0) (As := [.int (xs (i + 1)), .int (xs (i + 2))]) hA lw_wX9_turn ⟨(hk_t 516 (by decide +kernel) rfl), (hk_t 517 (by decide +kernel) rfl), (hk_t 518 (by decide +kernel) rfl)⟩ d_law_626 (hk_lt (by decide)) rfl rfl rfl rfl b1 ⟨by omega, by omega⟩ (Nat.le_of_ble_eq_true rfl) (fun r h' hq => ?_)
  obtain ⟨v, L1, m1, rfl, rfl, hB⟩ := hq
  refine lr_ref2 C (pc := 629) d_law_629 ?_
  refine lr_arg C hL (j := 1) (pc := 630) (by omega) rfl d_law_630 d_law_631 d_law_632 d_law_633 d_law_634 ?_
  refine lr_arg C hL (j := 2) (pc := 635) (by omega) rfl d_law_635 d_law_636 d_law_637 d_law_638 d_law_639 ?_
  refine lr_call C (pc := 640) (a := 37) (As := [.int (xs (i + 1)), .int (xs (i + 2))]) hB lw_wX10_turn ⟨(hk_t 1339 (by decide +kernel) rfl), (hk_t 1340 (by decide +kernel) rfl), (hk_t 1341 (by decide +kernel) rfl)⟩ d_law_640 (hk_lt (by decide)) rfl rfl rfl rfl b4 ⟨by omega, by omega⟩ (Nat.le_of_ble_eq_true rfl) (fun r h' hq => ?_)
  obtain ⟨m2, z2, rfl, rfl, hI2⟩ := hq
  refine lr_eq C (pc := 643) (tgt := 1312) d_law_643 (by decide) ?_
  exact lr_widen (by omega) (by omega) (next _ _ _ hI2)
theorem lw_wX9_feed : hk_Wd yX9_feed cX9_feed 3 (some .int) 2 := ⟨(hk_t 524 (by decide +kernel) rfl), hk_t 1 (by decide +kernel) rfl, ⟨by decide +kernel, by decide +kernel, by decide +kernel⟩, by decide⟩
theorem lw_wX10_feed : hk_Wd yX10_feed cX10_feed 4 (some .int) 2 := ⟨(hk_t 1346 (by decide +kernel) rfl), hk_t 10 (by decide +kernel) rfl, ⟨by decide +kernel, by decide +kernel, by decide +kernel⟩, by decide⟩
set_option maxRecDepth 20000 in
theorem lw_c14 {p : Program} {l : Launch} {e : Env} {s : State} {m : MethodId} {below : List Frame} {meth : Method} {c : Code} {b L : Nat} {xs : Nat → Int32} {G : hk_G} {k n : Nat} {i : Nat} (C : lw_C p s m meth c b L xs G) (hL : L ≤ 3072) (hi : i + 6 ≤ L) {LL : Nat} {z : Nat → Nat} {mm : Nat → Nat → Int32} (hI : Inv LL z mm) (hk : k + 2 ≤ 600000) (hn : n + 164 ≤ 7302250) (next : ∀ LL z mm, Inv LL z mm → lw_WP p l e s m below meth c b G (lw_lv G b i) (k + 2) (n + 164) 1312 [] (hk_h LL mm)) : lw_WP p l e s m below meth c b G (lw_lv G b i) k n 648 [] (hk_h LL mm) := by
  obtain ⟨d1, c1, s1, d2, b1, b2, b3, b4, hA⟩ := op_feed hI (xs (i + 1)) (xs (i + 2))
  refine lr_ref1 C (pc := 648) d_law_648 ?_
  refine lr_arg C hL (j := 1) (pc := 649) (by omega) rfl d_law_649 d_law_650 d_law_651 d_law_652 d_law_653 ?_
  refine lr_arg C hL (j := 2) (pc := 654) (by omega) rfl d_law_654 d_law_655 d_law_656 d_law_657 d_law_658 ?_
  refine lr_call C (pc := 659) (a := 0) (As := [.int (xs (i + 1)), .int (xs (i + 2))]) hA lw_wX9_feed ⟨(hk_t 521 (by decide +kernel) rfl), (hk_t 522 (by decide +kernel) rfl), (hk_t 523 (by decide +kernel) rfl)⟩ d_law_659 (hk_lt (by decide)) rfl rfl rfl rfl b1 ⟨by omega, by omega⟩ (Nat.le_of_ble_eq_true rfl) (fun r h' hq => ?_)
  obtain ⟨v, L1, m1, rfl, rfl, hB⟩ := hq
  refine lr_ref2 C (pc := 662) d_law_662 ?_
  refine lr_arg C hL (j := 1) (pc := 663) (by omega) rfl d_law_663 d_law_664 d_law_665 d_law_666 d_law_667 ?_
  refine lr_arg C hL (j := 2) (pc := 668) (by omega) rfl d_law_668 d_law_669 d_law_670 d_law_671 d_law_672 ?_
  refine lr_call C (pc := 673) (a := 37) (As := [.int (xs (i + 1)), .int (xs (i + 2))]) hB lw_wX10_feed ⟨(hk_t 1343 (by decide +kernel) rfl), (hk_t 1344 (by decide +kernel) rfl), (hk_t 1345 (by decide +kernel) rfl)⟩ d_law_673 (hk_lt (by decide)) rfl rfl rfl rfl b4 ⟨by omega, by omega⟩ (Nat.le_of_ble_eq_true rfl) (fun r h' hq => ?_)
  obtain ⟨m2, z2, rfl, rfl, hI2⟩ := hq
  refine lr_eq C (pc := 676) (tgt := 1312) d_law_676 (by decide) ?_
  exact lr_widen (by omega) (by omega) (next _ _ _ hI2)
theorem lw_wX9_law : hk_Wd yX9_law cX9_law 3 (some .int) 2 := ⟨(hk_t 532 (by decide +kernel) rfl), hk_t 1 (by decide +kernel) rfl, ⟨by decide +kernel, by decide +kernel, by decide +kernel⟩, by decide⟩
theorem lw_wX10_law : hk_Wd yX10_law cX10_law 6 (some .int) 2 := ⟨(hk_t 1350 (by decide +kernel) rfl), hk_t 10 (by decide +kernel) rfl, ⟨by decide +kernel, by decide +kernel, by decide +kernel⟩, by decide⟩
set_option maxRecDepth 20000 in
theorem lw_c15 {p : Program} {l : Launch} {e : Env} {s : State} {m : MethodId} {below : List Frame} {meth : Method} {c : Code} {b L : Nat} {xs : Nat → Int32} {G : hk_G} {k n : Nat} {i : Nat} (C : lw_C p s m meth c b L xs G) (hL : L ≤ 3072) (hi : i + 6 ≤ L) {LL : Nat} {z : Nat → Nat} {mm : Nat → Nat → Int32} (hI : Inv LL z mm) (hk : k + 2 ≤ 600000) (hn : n + 164 ≤ 7302250) (next : ∀ LL z mm, Inv LL z mm → lw_WP p l e s m below meth c b G (lw_lv G b i) (k + 2) (n + 164) 1312 [] (hk_h LL mm)) : lw_WP p l e s m below meth c b G (lw_lv G b i) k n 681 [] (hk_h LL mm) := by
  obtain ⟨d1, c1, s1, d2, b1, b2, b3, b4, hA⟩ := op_law (name_of _) hI (xs (i + 1)) (xs (i + 2))
  refine lr_ref1 C (pc := 681) d_law_681 ?_
  refine lr_arg C hL (j := 1) (pc := 682) (by omega) rfl d_law_682 d_law_683 d_law_684 d_law_685 d_law_686 ?_
  refine lr_arg C hL (j := 2) (pc := 687) (by omega) rfl d_law_687 d_law_688 d_law_689 d_law_690 d_law_691 ?_
  refine lr_call C (pc := 692) (a := 0) (As := [.int (xs (i + 1)), .int (xs (i + 2))]) hA lw_wX9_law ⟨(hk_t 529 (by decide +kernel) rfl), (hk_t 530 (by decide +kernel) rfl), (hk_t 531 (by decide +kernel) rfl)⟩ d_law_692 (hk_lt (by decide)) rfl rfl rfl rfl b1 ⟨by omega, by omega⟩ (Nat.le_of_ble_eq_true rfl) (fun r h' hq => ?_)
  obtain ⟨v, L1, m1, rfl, rfl, hB⟩ := hq
  refine lr_ref2 C (pc := 695) d_law_695 ?_
  refine lr_arg C hL (j := 1) (pc := 696) (by omega) rfl d_law_696 d_law_697 d_law_698 d_law_699 d_law_700 ?_
  refine lr_arg C hL (j := 2) (pc := 701) (by omega) rfl d_law_701 d_law_702 d_law_703 d_law_704 d_law_705 ?_
  refine lr_call C (pc := 706) (a := 37) (As := [.int (xs (i + 1)), .int (xs (i + 2))]) hB lw_wX10_law ⟨(hk_t 1347 (by decide +kernel) rfl), (hk_t 1348 (by decide +kernel) rfl), (hk_t 1349 (by decide +kernel) rfl)⟩ d_law_706 (hk_lt (by decide)) rfl rfl rfl rfl b4 ⟨by omega, by omega⟩ (Nat.le_of_ble_eq_true rfl) (fun r h' hq => ?_)
  obtain ⟨m2, z2, rfl, rfl, hI2⟩ := hq
  refine lr_eq C (pc := 709) (tgt := 1312) d_law_709 (by decide) ?_
  exact lr_widen (by omega) (by omega) (next _ _ _ hI2)
theorem lw_wX9_inForce : hk_Wd yX9_inForce cX9_inForce 5 (some .int) 3 := ⟨(hk_t 674 (by decide +kernel) rfl), hk_t 1 (by decide +kernel) rfl, ⟨by decide +kernel, by decide +kernel, by decide +kernel⟩, by decide⟩
theorem lw_wX10_inForce : hk_Wd yX10_inForce cX10_inForce 4 (some .int) 3 := ⟨(hk_t 1357 (by decide +kernel) rfl), hk_t 10 (by decide +kernel) rfl, ⟨by decide +kernel, by decide +kernel, by decide +kernel⟩, by decide⟩
set_option maxRecDepth 20000 in
theorem lw_c16 {p : Program} {l : Launch} {e : Env} {s : State} {m : MethodId} {below : List Frame} {meth : Method} {c : Code} {b L : Nat} {xs : Nat → Int32} {G : hk_G} {k n : Nat} {i : Nat} (C : lw_C p s m meth c b L xs G) (hL : L ≤ 3072) (hi : i + 6 ≤ L) {LL : Nat} {z : Nat → Nat} {mm : Nat → Nat → Int32} (hI : Inv LL z mm) (hk : k + 2 ≤ 600000) (hn : n + 164 ≤ 7302250) (next : ∀ LL z mm, Inv LL z mm → lw_WP p l e s m below meth c b G (lw_lv G b i) (k + 2) (n + 164) 1312 [] (hk_h LL mm)) : lw_WP p l e s m below meth c b G (lw_lv G b i) k n 714 [] (hk_h LL mm) := by
  obtain ⟨d1, c1, s1, d2, b1, b2, b3, b4, hA⟩ := OpOK.e (op_inForce hI (xs (i + 1)) (xs (i + 2)) (xs (i + 3)))
  refine lr_ref1 C (pc := 714) d_law_714 ?_
  refine lr_arg C hL (j := 1) (pc := 715) (by omega) rfl d_law_715 d_law_716 d_law_717 d_law_718 d_law_719 ?_
  refine lr_arg C hL (j := 2) (pc := 720) (by omega) rfl d_law_720 d_law_721 d_law_722 d_law_723 d_law_724 ?_
  refine lr_arg C hL (j := 3) (pc := 725) (by omega) rfl d_law_725 d_law_726 d_law_727 d_law_728 d_law_729 ?_
  refine lr_call C (pc := 730) (a := 0) (As := [.int (xs (i + 1)), .int (xs (i + 2)), .int (xs (i + 3))]) hA lw_wX9_inForce ⟨(hk_t 671 (by decide +kernel) rfl), (hk_t 672 (by decide +kernel) rfl), (hk_t 673 (by decide +kernel) rfl)⟩ d_law_730 (hk_lt (by decide)) rfl rfl rfl rfl b1 ⟨by omega, by omega⟩ (Nat.le_of_ble_eq_true rfl) (fun r h' hq => ?_)
  obtain ⟨v, L1, m1, rfl, rfl, hB⟩ := hq
  refine lr_ref2 C (pc := 733) d_law_733 ?_
  refine lr_arg C hL (j := 1) (pc := 734) (by omega) rfl d_law_734 d_law_735 d_law_736 d_law_737 d_law_738 ?_
  refine lr_arg C hL (j := 2) (pc := 739) (by omega) rfl d_law_739 d_law_740 d_law_741 d_law_742 d_law_743 ?_
  refine lr_arg C hL (j := 3) (pc := 744) (by omega) rfl d_law_744 d_law_745 d_law_746 d_law_747 d_law_748 ?_
  refine lr_call C (pc := 749) (a := 37) (As := [.int (xs (i + 1)), .int (xs (i + 2)), .int (xs (i + 3))]) hB lw_wX10_inForce ⟨(hk_t 1354 (by decide +kernel) rfl), (hk_t 1355 (by decide +kernel) rfl), (hk_t 1356 (by decide +kernel) rfl)⟩ d_law_749 (hk_lt (by decide)) rfl rfl rfl rfl b4 ⟨by omega, by omega⟩ (Nat.le_of_ble_eq_true rfl) (fun r h' hq => ?_)
  obtain ⟨m2, z2, rfl, rfl, hI2⟩ := hq
  refine lr_eq C (pc := 752) (tgt := 1312) d_law_752 (by decide) ?_
  exact lr_widen (by omega) (by omega) (next _ _ _ hI2)
theorem lw_wX9_says : hk_Wd yX9_says cX9_says 9 (some .int) 5 := ⟨(hk_t 681 (by decide +kernel) rfl), hk_t 1 (by decide +kernel) rfl, ⟨by decide +kernel, by decide +kernel, by decide +kernel⟩, by decide⟩
theorem lw_wX10_says : hk_Wd yX10_says cX10_says 6 (some .int) 5 := ⟨(hk_t 1361 (by decide +kernel) rfl), hk_t 10 (by decide +kernel) rfl, ⟨by decide +kernel, by decide +kernel, by decide +kernel⟩, by decide⟩
set_option maxRecDepth 20000 in
theorem lw_c17 {p : Program} {l : Launch} {e : Env} {s : State} {m : MethodId} {below : List Frame} {meth : Method} {c : Code} {b L : Nat} {xs : Nat → Int32} {G : hk_G} {k n : Nat} {i : Nat} (C : lw_C p s m meth c b L xs G) (hL : L ≤ 3072) (hi : i + 6 ≤ L) {LL : Nat} {z : Nat → Nat} {mm : Nat → Nat → Int32} (hI : Inv LL z mm) (hk : k + 2 ≤ 600000) (hn : n + 164 ≤ 7302250) (next : ∀ LL z mm, Inv LL z mm → lw_WP p l e s m below meth c b G (lw_lv G b i) (k + 2) (n + 164) 1312 [] (hk_h LL mm)) : lw_WP p l e s m below meth c b G (lw_lv G b i) k n 757 [] (hk_h LL mm) := by
  obtain ⟨d1, c1, s1, d2, b1, b2, b3, b4, hA⟩ := op_says hI (xs (i + 1)) (xs (i + 2)) (xs (i + 3)) (xs (i + 4)) (xs (i + 5))
  refine lr_ref1 C (pc := 757) d_law_757 ?_
  refine lr_arg C hL (j := 1) (pc := 758) (by omega) rfl d_law_758 d_law_759 d_law_760 d_law_761 d_law_762 ?_
  refine lr_arg C hL (j := 2) (pc := 763) (by omega) rfl d_law_763 d_law_764 d_law_765 d_law_766 d_law_767 ?_
  refine lr_arg C hL (j := 3) (pc := 768) (by omega) rfl d_law_768 d_law_769 d_law_770 d_law_771 d_law_772 ?_
  refine lr_arg C hL (j := 4) (pc := 773) (by omega) rfl d_law_773 d_law_774 d_law_775 d_law_776 d_law_777 ?_
  refine lr_arg C hL (j := 5) (pc := 778) (by omega) rfl d_law_778 d_law_779 d_law_780 d_law_781 d_law_782 ?_
  refine lr_call C (pc := 783) (a := 0) (As := [.int (xs (i + 1)), .int (xs (i + 2)), .int (xs (i + 3)), .int (xs (i + 4)), .int (xs (i + 5))]) hA lw_wX9_says ⟨(hk_t 678 (by decide +kernel) rfl), (hk_t 679 (by decide +kernel) rfl), (hk_t 680 (by decide +kernel) rfl)⟩ d_law_783 (hk_lt (by decide)) rfl rfl rfl rfl b1 ⟨by omega, by omega⟩ (Nat.le_of_ble_eq_true rfl) (fun r h' hq => ?_)
  obtain ⟨v, L1, m1, rfl, rfl, hB⟩ := hq
  refine lr_ref2 C (pc := 786) d_law_786 ?_
  refine lr_arg C hL (j := 1) (pc := 787) (by omega) rfl d_law_787 d_law_788 d_law_789 d_law_790 d_law_791 ?_
  refine lr_arg C hL (j := 2) (pc := 792) (by omega) rfl d_law_792 d_law_793 d_law_794 d_law_795 d_law_796 ?_
  refine lr_arg C hL (j := 3) (pc := 797) (by omega) rfl d_law_797 d_law_798 d_law_799 d_law_800 d_law_801 ?_
  refine lr_arg C hL (j := 4) (pc := 802) (by omega) rfl d_law_802 d_law_803 d_law_804 d_law_805 d_law_806 ?_
  refine lr_arg C hL (j := 5) (pc := 807) (by omega) rfl d_law_807 d_law_808 d_law_809 d_law_810 d_law_811 ?_
  refine lr_call C (pc := 812) (a := 37) (As := [.int (xs (i + 1)), .int (xs (i + 2)), .int (xs (i + 3)), .int (xs (i + 4)), .int (xs (i + 5))]) hB lw_wX10_says ⟨(hk_t 1358 (by decide +kernel) rfl), (hk_t 1359 (by decide +kernel) rfl), (hk_t 1360 (by decide +kernel) rfl)⟩ d_law_812 (hk_lt (by decide)) rfl rfl rfl rfl b4 ⟨by omega, by omega⟩ (Nat.le_of_ble_eq_true rfl) (fun r h' hq => ?_)
  obtain ⟨m2, z2, rfl, rfl, hI2⟩ := hq
  refine lr_eq C (pc := 815) (tgt := 1312) d_law_815 (by decide) ?_
  exact lr_widen (by omega) (by omega) (next _ _ _ hI2)
theorem lw_wX9_call : hk_Wd yX9_call cX9_call 7 (some .int) 3 := ⟨(hk_t 692 (by decide +kernel) rfl), hk_t 1 (by decide +kernel) rfl, ⟨by decide +kernel, by decide +kernel, by decide +kernel⟩, by decide⟩
theorem lw_wX10_call : hk_Wd yX10_call cX10_call 13 (some .int) 3 := ⟨(hk_t 1367 (by decide +kernel) rfl), hk_t 10 (by decide +kernel) rfl, ⟨by decide +kernel, by decide +kernel, by decide +kernel⟩, by decide⟩
set_option maxRecDepth 20000 in
theorem lw_c18 {p : Program} {l : Launch} {e : Env} {s : State} {m : MethodId} {below : List Frame} {meth : Method} {c : Code} {b L : Nat} {xs : Nat → Int32} {G : hk_G} {k n : Nat} {i : Nat} (C : lw_C p s m meth c b L xs G) (hL : L ≤ 3072) (hi : i + 6 ≤ L) {LL : Nat} {z : Nat → Nat} {mm : Nat → Nat → Int32} (hI : Inv LL z mm) (hk : k + 2 ≤ 600000) (hn : n + 164 ≤ 7302250) (next : ∀ LL z mm, Inv LL z mm → lw_WP p l e s m below meth c b G (lw_lv G b i) (k + 2) (n + 164) 1312 [] (hk_h LL mm)) : lw_WP p l e s m below meth c b G (lw_lv G b i) k n 820 [] (hk_h LL mm) := by
  obtain ⟨d1, c1, s1, d2, b1, b2, b3, b4, hA⟩ := op_call hI (xs (i + 1)) (xs (i + 2)) (xs (i + 3))
  refine lr_ref1 C (pc := 820) d_law_820 ?_
  refine lr_arg C hL (j := 1) (pc := 821) (by omega) rfl d_law_821 d_law_822 d_law_823 d_law_824 d_law_825 ?_
  refine lr_arg C hL (j := 2) (pc := 826) (by omega) rfl d_law_826 d_law_827 d_law_828 d_law_829 d_law_830 ?_
  refine lr_arg C hL (j := 3) (pc := 831) (by omega) rfl d_law_831 d_law_832 d_law_833 d_law_834 d_law_835 ?_
  refine lr_call C (pc := 836) (a := 0) (As := [.int (xs (i + 1)), .int (xs (i + 2)), .int (xs (i + 3))]) hA lw_wX9_call ⟨(hk_t 689 (by decide +kernel) rfl), (hk_t 690 (by decide +kernel) rfl), (hk_t 691 (by decide +kernel) rfl)⟩ d_law_836 (hk_lt (by decide)) rfl rfl rfl rfl b1 ⟨by omega, by omega⟩ (Nat.le_of_ble_eq_true rfl) (fun r h' hq => ?_)
  obtain ⟨v, L1, m1, rfl, rfl, hB⟩ := hq
  refine lr_ref2 C (pc := 839) d_law_839 ?_
  refine lr_arg C hL (j := 1) (pc := 840) (by omega) rfl d_law_840 d_law_841 d_law_842 d_law_843 d_law_844 ?_
  refine lr_arg C hL (j := 2) (pc := 845) (by omega) rfl d_law_845 d_law_846 d_law_847 d_law_848 d_law_849 ?_
  refine lr_arg C hL (j := 3) (pc := 850) (by omega) rfl d_law_850 d_law_851 d_law_852 d_law_853 d_law_854 ?_
  refine lr_call C (pc := 855) (a := 37) (As := [.int (xs (i + 1)), .int (xs (i + 2)), .int (xs (i + 3))]) hB lw_wX10_call ⟨(hk_t 1364 (by decide +kernel) rfl), (hk_t 1365 (by decide +kernel) rfl), (hk_t 1366 (by decide +kernel) rfl)⟩ d_law_855 (hk_lt (by decide)) rfl rfl rfl rfl b4 ⟨by omega, by omega⟩ (Nat.le_of_ble_eq_true rfl) (fun r h' hq => ?_)
  obtain ⟨m2, z2, rfl, rfl, hI2⟩ := hq
  refine lr_eq C (pc := 858) (tgt := 1312) d_law_858 (by decide) ?_
  exact lr_widen (by omega) (by omega) (next _ _ _ hI2)
theorem lw_wX9_why : hk_Wd yX9_why cX9_why 6 (some .int) 4 := ⟨(hk_t 754 (by decide +kernel) rfl), hk_t 1 (by decide +kernel) rfl, ⟨by decide +kernel, by decide +kernel, by decide +kernel⟩, by decide⟩
theorem lw_wX10_why : hk_Wd yX10_why cX10_why 8 (some .int) 4 := ⟨(hk_t 1390 (by decide +kernel) rfl), hk_t 10 (by decide +kernel) rfl, ⟨by decide +kernel, by decide +kernel, by decide +kernel⟩, by decide⟩
set_option maxRecDepth 20000 in
theorem lw_c19 {p : Program} {l : Launch} {e : Env} {s : State} {m : MethodId} {below : List Frame} {meth : Method} {c : Code} {b L : Nat} {xs : Nat → Int32} {G : hk_G} {k n : Nat} {i : Nat} (C : lw_C p s m meth c b L xs G) (hL : L ≤ 3072) (hi : i + 6 ≤ L) {LL : Nat} {z : Nat → Nat} {mm : Nat → Nat → Int32} (hI : Inv LL z mm) (hk : k + 2 ≤ 600000) (hn : n + 164 ≤ 7302250) (next : ∀ LL z mm, Inv LL z mm → lw_WP p l e s m below meth c b G (lw_lv G b i) (k + 2) (n + 164) 1312 [] (hk_h LL mm)) : lw_WP p l e s m below meth c b G (lw_lv G b i) k n 863 [] (hk_h LL mm) := by
  obtain ⟨d1, c1, s1, d2, b1, b2, b3, b4, hA⟩ := op_why hI (xs (i + 1)) (xs (i + 2)) (xs (i + 3)) (xs (i + 4))
  refine lr_ref1 C (pc := 863) d_law_863 ?_
  refine lr_arg C hL (j := 1) (pc := 864) (by omega) rfl d_law_864 d_law_865 d_law_866 d_law_867 d_law_868 ?_
  refine lr_arg C hL (j := 2) (pc := 869) (by omega) rfl d_law_869 d_law_870 d_law_871 d_law_872 d_law_873 ?_
  refine lr_arg C hL (j := 3) (pc := 874) (by omega) rfl d_law_874 d_law_875 d_law_876 d_law_877 d_law_878 ?_
  refine lr_arg C hL (j := 4) (pc := 879) (by omega) rfl d_law_879 d_law_880 d_law_881 d_law_882 d_law_883 ?_
  refine lr_call C (pc := 884) (a := 0) (As := [.int (xs (i + 1)), .int (xs (i + 2)), .int (xs (i + 3)), .int (xs (i + 4))]) hA lw_wX9_why ⟨(hk_t 751 (by decide +kernel) rfl), (hk_t 752 (by decide +kernel) rfl), (hk_t 753 (by decide +kernel) rfl)⟩ d_law_884 (hk_lt (by decide)) rfl rfl rfl rfl b1 ⟨by omega, by omega⟩ (Nat.le_of_ble_eq_true rfl) (fun r h' hq => ?_)
  obtain ⟨v, L1, m1, rfl, rfl, hB⟩ := hq
  refine lr_ref2 C (pc := 887) d_law_887 ?_
  refine lr_arg C hL (j := 1) (pc := 888) (by omega) rfl d_law_888 d_law_889 d_law_890 d_law_891 d_law_892 ?_
  refine lr_arg C hL (j := 2) (pc := 893) (by omega) rfl d_law_893 d_law_894 d_law_895 d_law_896 d_law_897 ?_
  refine lr_arg C hL (j := 3) (pc := 898) (by omega) rfl d_law_898 d_law_899 d_law_900 d_law_901 d_law_902 ?_
  refine lr_arg C hL (j := 4) (pc := 903) (by omega) rfl d_law_903 d_law_904 d_law_905 d_law_906 d_law_907 ?_
  refine lr_call C (pc := 908) (a := 37) (As := [.int (xs (i + 1)), .int (xs (i + 2)), .int (xs (i + 3)), .int (xs (i + 4))]) hB lw_wX10_why ⟨(hk_t 1387 (by decide +kernel) rfl), (hk_t 1388 (by decide +kernel) rfl), (hk_t 1389 (by decide +kernel) rfl)⟩ d_law_908 (hk_lt (by decide)) rfl rfl rfl rfl b4 ⟨by omega, by omega⟩ (Nat.le_of_ble_eq_true rfl) (fun r h' hq => ?_)
  obtain ⟨m2, z2, rfl, rfl, hI2⟩ := hq
  refine lr_eq C (pc := 911) (tgt := 1312) d_law_911 (by decide) ?_
  exact lr_widen (by omega) (by omega) (next _ _ _ hI2)
theorem lw_wX9_minutes : hk_Wd yX9_minutes cX9_minutes 5 (some .int) 1 := ⟨(hk_t 759 (by decide +kernel) rfl), hk_t 1 (by decide +kernel) rfl, ⟨by decide +kernel, by decide +kernel, by decide +kernel⟩, by decide⟩
theorem lw_wX10_minutes : hk_Wd yX10_minutes cX10_minutes 3 (some .int) 1 := ⟨(hk_t 1394 (by decide +kernel) rfl), hk_t 10 (by decide +kernel) rfl, ⟨by decide +kernel, by decide +kernel, by decide +kernel⟩, by decide⟩
set_option maxRecDepth 20000 in
theorem lw_c20 {p : Program} {l : Launch} {e : Env} {s : State} {m : MethodId} {below : List Frame} {meth : Method} {c : Code} {b L : Nat} {xs : Nat → Int32} {G : hk_G} {k n : Nat} {i : Nat} (C : lw_C p s m meth c b L xs G) (hL : L ≤ 3072) (hi : i + 6 ≤ L) {LL : Nat} {z : Nat → Nat} {mm : Nat → Nat → Int32} (hI : Inv LL z mm) (hk : k + 2 ≤ 600000) (hn : n + 164 ≤ 7302250) (next : ∀ LL z mm, Inv LL z mm → lw_WP p l e s m below meth c b G (lw_lv G b i) (k + 2) (n + 164) 1312 [] (hk_h LL mm)) : lw_WP p l e s m below meth c b G (lw_lv G b i) k n 916 [] (hk_h LL mm) := by
  obtain ⟨d1, c1, s1, d2, b1, b2, b3, b4, hA⟩ := op_minutes hI (xs (i + 1))
  refine lr_ref1 C (pc := 916) d_law_916 ?_
  refine lr_arg C hL (j := 1) (pc := 917) (by omega) rfl d_law_917 d_law_918 d_law_919 d_law_920 d_law_921 ?_
  refine lr_call C (pc := 922) (a := 0) (As := [.int (xs (i + 1))]) hA lw_wX9_minutes ⟨(hk_t 756 (by decide +kernel) rfl), (hk_t 757 (by decide +kernel) rfl), (hk_t 758 (by decide +kernel) rfl)⟩ d_law_922 (hk_lt (by decide)) rfl rfl rfl rfl b1 ⟨by omega, by omega⟩ (Nat.le_of_ble_eq_true rfl) (fun r h' hq => ?_)
  obtain ⟨v, L1, m1, rfl, rfl, hB⟩ := hq
  refine lr_ref2 C (pc := 925) d_law_925 ?_
  refine lr_arg C hL (j := 1) (pc := 926) (by omega) rfl d_law_926 d_law_927 d_law_928 d_law_929 d_law_930 ?_
  refine lr_call C (pc := 931) (a := 37) (As := [.int (xs (i + 1))]) hB lw_wX10_minutes ⟨(hk_t 1391 (by decide +kernel) rfl), (hk_t 1392 (by decide +kernel) rfl), (hk_t 1393 (by decide +kernel) rfl)⟩ d_law_931 (hk_lt (by decide)) rfl rfl rfl rfl b4 ⟨by omega, by omega⟩ (Nat.le_of_ble_eq_true rfl) (fun r h' hq => ?_)
  obtain ⟨m2, z2, rfl, rfl, hI2⟩ := hq
  refine lr_eq C (pc := 934) (tgt := 1312) d_law_934 (by decide) ?_
  exact lr_widen (by omega) (by omega) (next _ _ _ hI2)
theorem lw_wX9_trip : hk_Wd yX9_trip cX9_trip 3 (some .int) 2 := ⟨(hk_t 781 (by decide +kernel) rfl), hk_t 1 (by decide +kernel) rfl, ⟨by decide +kernel, by decide +kernel, by decide +kernel⟩, by decide⟩
theorem lw_wX10_trip : hk_Wd yX10_trip cX10_trip 3 (some .int) 2 := ⟨(hk_t 1402 (by decide +kernel) rfl), hk_t 10 (by decide +kernel) rfl, ⟨by decide +kernel, by decide +kernel, by decide +kernel⟩, by decide⟩
set_option maxRecDepth 20000 in
theorem lw_c21 {p : Program} {l : Launch} {e : Env} {s : State} {m : MethodId} {below : List Frame} {meth : Method} {c : Code} {b L : Nat} {xs : Nat → Int32} {G : hk_G} {k n : Nat} {i : Nat} (C : lw_C p s m meth c b L xs G) (hL : L ≤ 3072) (hi : i + 6 ≤ L) {LL : Nat} {z : Nat → Nat} {mm : Nat → Nat → Int32} (hI : Inv LL z mm) (hk : k + 2 ≤ 600000) (hn : n + 164 ≤ 7302250) (next : ∀ LL z mm, Inv LL z mm → lw_WP p l e s m below meth c b G (lw_lv G b i) (k + 2) (n + 164) 1312 [] (hk_h LL mm)) : lw_WP p l e s m below meth c b G (lw_lv G b i) k n 939 [] (hk_h LL mm) := by
  obtain ⟨d1, c1, s1, d2, b1, b2, b3, b4, hA⟩ := OpOK.e (op_trip hI (xs (i + 1)) (xs (i + 2)))
  refine lr_ref1 C (pc := 939) d_law_939 ?_
  refine lr_arg C hL (j := 1) (pc := 940) (by omega) rfl d_law_940 d_law_941 d_law_942 d_law_943 d_law_944 ?_
  refine lr_arg C hL (j := 2) (pc := 945) (by omega) rfl d_law_945 d_law_946 d_law_947 d_law_948 d_law_949 ?_
  refine lr_call C (pc := 950) (a := 0) (As := [.int (xs (i + 1)), .int (xs (i + 2))]) hA lw_wX9_trip ⟨(hk_t 778 (by decide +kernel) rfl), (hk_t 779 (by decide +kernel) rfl), (hk_t 780 (by decide +kernel) rfl)⟩ d_law_950 (hk_lt (by decide)) rfl rfl rfl rfl b1 ⟨by omega, by omega⟩ (Nat.le_of_ble_eq_true rfl) (fun r h' hq => ?_)
  obtain ⟨v, L1, m1, rfl, rfl, hB⟩ := hq
  refine lr_ref2 C (pc := 953) d_law_953 ?_
  refine lr_arg C hL (j := 1) (pc := 954) (by omega) rfl d_law_954 d_law_955 d_law_956 d_law_957 d_law_958 ?_
  refine lr_arg C hL (j := 2) (pc := 959) (by omega) rfl d_law_959 d_law_960 d_law_961 d_law_962 d_law_963 ?_
  refine lr_call C (pc := 964) (a := 37) (As := [.int (xs (i + 1)), .int (xs (i + 2))]) hB lw_wX10_trip ⟨(hk_t 1399 (by decide +kernel) rfl), (hk_t 1400 (by decide +kernel) rfl), (hk_t 1401 (by decide +kernel) rfl)⟩ d_law_964 (hk_lt (by decide)) rfl rfl rfl rfl b4 ⟨by omega, by omega⟩ (Nat.le_of_ble_eq_true rfl) (fun r h' hq => ?_)
  obtain ⟨m2, z2, rfl, rfl, hI2⟩ := hq
  refine lr_eq C (pc := 967) (tgt := 1312) d_law_967 (by decide) ?_
  exact lr_widen (by omega) (by omega) (next _ _ _ hI2)
theorem lw_wX9_due : hk_Wd yX9_due cX9_due 5 (some .int) 3 := ⟨(hk_t 790 (by decide +kernel) rfl), hk_t 1 (by decide +kernel) rfl, ⟨by decide +kernel, by decide +kernel, by decide +kernel⟩, by decide⟩
theorem lw_wX10_due : hk_Wd yX10_due cX10_due 5 (some .int) 3 := ⟨(hk_t 1410 (by decide +kernel) rfl), hk_t 10 (by decide +kernel) rfl, ⟨by decide +kernel, by decide +kernel, by decide +kernel⟩, by decide⟩
set_option maxRecDepth 20000 in
theorem lw_c22 {p : Program} {l : Launch} {e : Env} {s : State} {m : MethodId} {below : List Frame} {meth : Method} {c : Code} {b L : Nat} {xs : Nat → Int32} {G : hk_G} {k n : Nat} {i : Nat} (C : lw_C p s m meth c b L xs G) (hL : L ≤ 3072) (hi : i + 6 ≤ L) {LL : Nat} {z : Nat → Nat} {mm : Nat → Nat → Int32} (hI : Inv LL z mm) (hk : k + 2 ≤ 600000) (hn : n + 164 ≤ 7302250) (next : ∀ LL z mm, Inv LL z mm → lw_WP p l e s m below meth c b G (lw_lv G b i) (k + 2) (n + 164) 1312 [] (hk_h LL mm)) : lw_WP p l e s m below meth c b G (lw_lv G b i) k n 972 [] (hk_h LL mm) := by
  obtain ⟨d1, c1, s1, d2, b1, b2, b3, b4, hA⟩ := op_due hI (xs (i + 1)) (xs (i + 2)) (xs (i + 3))
  refine lr_ref1 C (pc := 972) d_law_972 ?_
  refine lr_arg C hL (j := 1) (pc := 973) (by omega) rfl d_law_973 d_law_974 d_law_975 d_law_976 d_law_977 ?_
  refine lr_arg C hL (j := 2) (pc := 978) (by omega) rfl d_law_978 d_law_979 d_law_980 d_law_981 d_law_982 ?_
  refine lr_arg C hL (j := 3) (pc := 983) (by omega) rfl d_law_983 d_law_984 d_law_985 d_law_986 d_law_987 ?_
  refine lr_call C (pc := 988) (a := 0) (As := [.int (xs (i + 1)), .int (xs (i + 2)), .int (xs (i + 3))]) hA lw_wX9_due ⟨(hk_t 787 (by decide +kernel) rfl), (hk_t 788 (by decide +kernel) rfl), (hk_t 789 (by decide +kernel) rfl)⟩ d_law_988 (hk_lt (by decide)) rfl rfl rfl rfl b1 ⟨by omega, by omega⟩ (Nat.le_of_ble_eq_true rfl) (fun r h' hq => ?_)
  obtain ⟨v, L1, m1, rfl, rfl, hB⟩ := hq
  refine lr_ref2 C (pc := 991) d_law_991 ?_
  refine lr_arg C hL (j := 1) (pc := 992) (by omega) rfl d_law_992 d_law_993 d_law_994 d_law_995 d_law_996 ?_
  refine lr_arg C hL (j := 2) (pc := 997) (by omega) rfl d_law_997 d_law_998 d_law_999 d_law_1000 d_law_1001 ?_
  refine lr_arg C hL (j := 3) (pc := 1002) (by omega) rfl d_law_1002 d_law_1003 d_law_1004 d_law_1005 d_law_1006 ?_
  refine lr_call C (pc := 1007) (a := 37) (As := [.int (xs (i + 1)), .int (xs (i + 2)), .int (xs (i + 3))]) hB lw_wX10_due ⟨(hk_t 1407 (by decide +kernel) rfl), (hk_t 1408 (by decide +kernel) rfl), (hk_t 1409 (by decide +kernel) rfl)⟩ d_law_1007 (hk_lt (by decide)) rfl rfl rfl rfl b4 ⟨by omega, by omega⟩ (Nat.le_of_ble_eq_true rfl) (fun r h' hq => ?_)
  obtain ⟨m2, z2, rfl, rfl, hI2⟩ := hq
  refine lr_eq C (pc := 1010) (tgt := 1312) d_law_1010 (by decide) ?_
  exact lr_widen (by omega) (by omega) (next _ _ _ hI2)
theorem lw_wX9_refusal : hk_Wd yX9_refusal cX9_refusal 3 (some .int) 2 := ⟨(hk_t 798 (by decide +kernel) rfl), hk_t 1 (by decide +kernel) rfl, ⟨by decide +kernel, by decide +kernel, by decide +kernel⟩, by decide⟩
theorem lw_wX10_refusal : hk_Wd yX10_refusal cX10_refusal 3 (some .int) 2 := ⟨(hk_t 1414 (by decide +kernel) rfl), hk_t 10 (by decide +kernel) rfl, ⟨by decide +kernel, by decide +kernel, by decide +kernel⟩, by decide⟩
set_option maxRecDepth 20000 in
theorem lw_c23 {p : Program} {l : Launch} {e : Env} {s : State} {m : MethodId} {below : List Frame} {meth : Method} {c : Code} {b L : Nat} {xs : Nat → Int32} {G : hk_G} {k n : Nat} {i : Nat} (C : lw_C p s m meth c b L xs G) (hL : L ≤ 3072) (hi : i + 6 ≤ L) {LL : Nat} {z : Nat → Nat} {mm : Nat → Nat → Int32} (hI : Inv LL z mm) (hk : k + 2 ≤ 600000) (hn : n + 164 ≤ 7302250) (next : ∀ LL z mm, Inv LL z mm → lw_WP p l e s m below meth c b G (lw_lv G b i) (k + 2) (n + 164) 1312 [] (hk_h LL mm)) : lw_WP p l e s m below meth c b G (lw_lv G b i) k n 1015 [] (hk_h LL mm) := by
  obtain ⟨d1, c1, s1, d2, b1, b2, b3, b4, hA⟩ := OpOK.e (op_refusal hI (xs (i + 1)) (xs (i + 2)))
  refine lr_ref1 C (pc := 1015) d_law_1015 ?_
  refine lr_arg C hL (j := 1) (pc := 1016) (by omega) rfl d_law_1016 d_law_1017 d_law_1018 d_law_1019 d_law_1020 ?_
  refine lr_arg C hL (j := 2) (pc := 1021) (by omega) rfl d_law_1021 d_law_1022 d_law_1023 d_law_1024 d_law_1025 ?_
  refine lr_call C (pc := 1026) (a := 0) (As := [.int (xs (i + 1)), .int (xs (i + 2))]) hA lw_wX9_refusal ⟨(hk_t 795 (by decide +kernel) rfl), (hk_t 796 (by decide +kernel) rfl), (hk_t 797 (by decide +kernel) rfl)⟩ d_law_1026 (hk_lt (by decide)) rfl rfl rfl rfl b1 ⟨by omega, by omega⟩ (Nat.le_of_ble_eq_true rfl) (fun r h' hq => ?_)
  obtain ⟨v, L1, m1, rfl, rfl, hB⟩ := hq
  refine lr_ref2 C (pc := 1029) d_law_1029 ?_
  refine lr_arg C hL (j := 1) (pc := 1030) (by omega) rfl d_law_1030 d_law_1031 d_law_1032 d_law_1033 d_law_1034 ?_
  refine lr_arg C hL (j := 2) (pc := 1035) (by omega) rfl d_law_1035 d_law_1036 d_law_1037 d_law_1038 d_law_1039 ?_
  refine lr_call C (pc := 1040) (a := 37) (As := [.int (xs (i + 1)), .int (xs (i + 2))]) hB lw_wX10_refusal ⟨(hk_t 1411 (by decide +kernel) rfl), (hk_t 1412 (by decide +kernel) rfl), (hk_t 1413 (by decide +kernel) rfl)⟩ d_law_1040 (hk_lt (by decide)) rfl rfl rfl rfl b4 ⟨by omega, by omega⟩ (Nat.le_of_ble_eq_true rfl) (fun r h' hq => ?_)
  obtain ⟨m2, z2, rfl, rfl, hI2⟩ := hq
  refine lr_eq C (pc := 1043) (tgt := 1312) d_law_1043 (by decide) ?_
  exact lr_widen (by omega) (by omega) (next _ _ _ hI2)
theorem lw_wX9_complain : hk_Wd yX9_complain cX9_complain 3 (some .int) 2 := ⟨(hk_t 802 (by decide +kernel) rfl), hk_t 1 (by decide +kernel) rfl, ⟨by decide +kernel, by decide +kernel, by decide +kernel⟩, by decide⟩
theorem lw_wX10_complain : hk_Wd yX10_complain cX10_complain 4 (some .int) 2 := ⟨(hk_t 1418 (by decide +kernel) rfl), hk_t 10 (by decide +kernel) rfl, ⟨by decide +kernel, by decide +kernel, by decide +kernel⟩, by decide⟩
set_option maxRecDepth 20000 in
theorem lw_c24 {p : Program} {l : Launch} {e : Env} {s : State} {m : MethodId} {below : List Frame} {meth : Method} {c : Code} {b L : Nat} {xs : Nat → Int32} {G : hk_G} {k n : Nat} {i : Nat} (C : lw_C p s m meth c b L xs G) (hL : L ≤ 3072) (hi : i + 6 ≤ L) {LL : Nat} {z : Nat → Nat} {mm : Nat → Nat → Int32} (hI : Inv LL z mm) (hk : k + 2 ≤ 600000) (hn : n + 164 ≤ 7302250) (next : ∀ LL z mm, Inv LL z mm → lw_WP p l e s m below meth c b G (lw_lv G b i) (k + 2) (n + 164) 1312 [] (hk_h LL mm)) : lw_WP p l e s m below meth c b G (lw_lv G b i) k n 1048 [] (hk_h LL mm) := by
  obtain ⟨d1, c1, s1, d2, b1, b2, b3, b4, hA⟩ := OpOK.e (op_complain hI (xs (i + 1)) (xs (i + 2)))
  refine lr_ref1 C (pc := 1048) d_law_1048 ?_
  refine lr_arg C hL (j := 1) (pc := 1049) (by omega) rfl d_law_1049 d_law_1050 d_law_1051 d_law_1052 d_law_1053 ?_
  refine lr_arg C hL (j := 2) (pc := 1054) (by omega) rfl d_law_1054 d_law_1055 d_law_1056 d_law_1057 d_law_1058 ?_
  refine lr_call C (pc := 1059) (a := 0) (As := [.int (xs (i + 1)), .int (xs (i + 2))]) hA lw_wX9_complain ⟨(hk_t 799 (by decide +kernel) rfl), (hk_t 800 (by decide +kernel) rfl), (hk_t 801 (by decide +kernel) rfl)⟩ d_law_1059 (hk_lt (by decide)) rfl rfl rfl rfl b1 ⟨by omega, by omega⟩ (Nat.le_of_ble_eq_true rfl) (fun r h' hq => ?_)
  obtain ⟨v, L1, m1, rfl, rfl, hB⟩ := hq
  refine lr_ref2 C (pc := 1062) d_law_1062 ?_
  refine lr_arg C hL (j := 1) (pc := 1063) (by omega) rfl d_law_1063 d_law_1064 d_law_1065 d_law_1066 d_law_1067 ?_
  refine lr_arg C hL (j := 2) (pc := 1068) (by omega) rfl d_law_1068 d_law_1069 d_law_1070 d_law_1071 d_law_1072 ?_
  refine lr_call C (pc := 1073) (a := 37) (As := [.int (xs (i + 1)), .int (xs (i + 2))]) hB lw_wX10_complain ⟨(hk_t 1415 (by decide +kernel) rfl), (hk_t 1416 (by decide +kernel) rfl), (hk_t 1417 (by decide +kernel) rfl)⟩ d_law_1073 (hk_lt (by decide)) rfl rfl rfl rfl b4 ⟨by omega, by omega⟩ (Nat.le_of_ble_eq_true rfl) (fun r h' hq => ?_)
  obtain ⟨m2, z2, rfl, rfl, hI2⟩ := hq
  refine lr_eq C (pc := 1076) (tgt := 1312) d_law_1076 (by decide) ?_
  exact lr_widen (by omega) (by omega) (next _ _ _ hI2)
theorem lw_wX9_judged : hk_Wd yX9_judged cX9_judged 3 (some .int) 2 := ⟨(hk_t 818 (by decide +kernel) rfl), hk_t 1 (by decide +kernel) rfl, ⟨by decide +kernel, by decide +kernel, by decide +kernel⟩, by decide⟩
theorem lw_wX10_judged : hk_Wd yX10_judged cX10_judged 7 (some .int) 2 := ⟨(hk_t 1422 (by decide +kernel) rfl), hk_t 10 (by decide +kernel) rfl, ⟨by decide +kernel, by decide +kernel, by decide +kernel⟩, by decide⟩
set_option maxRecDepth 20000 in
theorem lw_c25 {p : Program} {l : Launch} {e : Env} {s : State} {m : MethodId} {below : List Frame} {meth : Method} {c : Code} {b L : Nat} {xs : Nat → Int32} {G : hk_G} {k n : Nat} {i : Nat} (C : lw_C p s m meth c b L xs G) (hL : L ≤ 3072) (hi : i + 6 ≤ L) {LL : Nat} {z : Nat → Nat} {mm : Nat → Nat → Int32} (hI : Inv LL z mm) (hk : k + 2 ≤ 600000) (hn : n + 164 ≤ 7302250) (next : ∀ LL z mm, Inv LL z mm → lw_WP p l e s m below meth c b G (lw_lv G b i) (k + 2) (n + 164) 1312 [] (hk_h LL mm)) : lw_WP p l e s m below meth c b G (lw_lv G b i) k n 1081 [] (hk_h LL mm) := by
  obtain ⟨d1, c1, s1, d2, b1, b2, b3, b4, hA⟩ := op_judged hI (xs (i + 1)) (xs (i + 2))
  refine lr_ref1 C (pc := 1081) d_law_1081 ?_
  refine lr_arg C hL (j := 1) (pc := 1082) (by omega) rfl d_law_1082 d_law_1083 d_law_1084 d_law_1085 d_law_1086 ?_
  refine lr_arg C hL (j := 2) (pc := 1087) (by omega) rfl d_law_1087 d_law_1088 d_law_1089 d_law_1090 d_law_1091 ?_
  refine lr_call C (pc := 1092) (a := 0) (As := [.int (xs (i + 1)), .int (xs (i + 2))]) hA lw_wX9_judged ⟨(hk_t 815 (by decide +kernel) rfl), (hk_t 816 (by decide +kernel) rfl), (hk_t 817 (by decide +kernel) rfl)⟩ d_law_1092 (hk_lt (by decide)) rfl rfl rfl rfl b1 ⟨by omega, by omega⟩ (Nat.le_of_ble_eq_true rfl) (fun r h' hq => ?_)
  obtain ⟨v, L1, m1, rfl, rfl, hB⟩ := hq
  refine lr_ref2 C (pc := 1095) d_law_1095 ?_
  refine lr_arg C hL (j := 1) (pc := 1096) (by omega) rfl d_law_1096 d_law_1097 d_law_1098 d_law_1099 d_law_1100 ?_
  refine lr_arg C hL (j := 2) (pc := 1101) (by omega) rfl d_law_1101 d_law_1102 d_law_1103 d_law_1104 d_law_1105 ?_
  refine lr_call C (pc := 1106) (a := 37) (As := [.int (xs (i + 1)), .int (xs (i + 2))]) hB lw_wX10_judged ⟨(hk_t 1419 (by decide +kernel) rfl), (hk_t 1420 (by decide +kernel) rfl), (hk_t 1421 (by decide +kernel) rfl)⟩ d_law_1106 (hk_lt (by decide)) rfl rfl rfl rfl b4 ⟨by omega, by omega⟩ (Nat.le_of_ble_eq_true rfl) (fun r h' hq => ?_)
  obtain ⟨m2, z2, rfl, rfl, hI2⟩ := hq
  refine lr_eq C (pc := 1109) (tgt := 1312) d_law_1109 (by decide) ?_
  exact lr_widen (by omega) (by omega) (next _ _ _ hI2)
theorem lw_wX9_lost : hk_Wd yX9_lost cX9_lost 5 (some .int) 4 := ⟨(hk_t 842 (by decide +kernel) rfl), hk_t 1 (by decide +kernel) rfl, ⟨by decide +kernel, by decide +kernel, by decide +kernel⟩, by decide⟩
theorem lw_wX10_lost : hk_Wd yX10_lost cX10_lost 5 (some .int) 4 := ⟨(hk_t 1434 (by decide +kernel) rfl), hk_t 10 (by decide +kernel) rfl, ⟨by decide +kernel, by decide +kernel, by decide +kernel⟩, by decide⟩
set_option maxRecDepth 20000 in
theorem lw_c26 {p : Program} {l : Launch} {e : Env} {s : State} {m : MethodId} {below : List Frame} {meth : Method} {c : Code} {b L : Nat} {xs : Nat → Int32} {G : hk_G} {k n : Nat} {i : Nat} (C : lw_C p s m meth c b L xs G) (hL : L ≤ 3072) (hi : i + 6 ≤ L) {LL : Nat} {z : Nat → Nat} {mm : Nat → Nat → Int32} (hI : Inv LL z mm) (hk : k + 2 ≤ 600000) (hn : n + 164 ≤ 7302250) (next : ∀ LL z mm, Inv LL z mm → lw_WP p l e s m below meth c b G (lw_lv G b i) (k + 2) (n + 164) 1312 [] (hk_h LL mm)) : lw_WP p l e s m below meth c b G (lw_lv G b i) k n 1114 [] (hk_h LL mm) := by
  obtain ⟨d1, c1, s1, d2, b1, b2, b3, b4, hA⟩ := OpOK.e (op_lost hI (xs (i + 1)) (xs (i + 2)) (xs (i + 3)) (xs (i + 4)))
  refine lr_ref1 C (pc := 1114) d_law_1114 ?_
  refine lr_arg C hL (j := 1) (pc := 1115) (by omega) rfl d_law_1115 d_law_1116 d_law_1117 d_law_1118 d_law_1119 ?_
  refine lr_arg C hL (j := 2) (pc := 1120) (by omega) rfl d_law_1120 d_law_1121 d_law_1122 d_law_1123 d_law_1124 ?_
  refine lr_arg C hL (j := 3) (pc := 1125) (by omega) rfl d_law_1125 d_law_1126 d_law_1127 d_law_1128 d_law_1129 ?_
  refine lr_arg C hL (j := 4) (pc := 1130) (by omega) rfl d_law_1130 d_law_1131 d_law_1132 d_law_1133 d_law_1134 ?_
  refine lr_call C (pc := 1135) (a := 0) (As := [.int (xs (i + 1)), .int (xs (i + 2)), .int (xs (i + 3)), .int (xs (i + 4))]) hA lw_wX9_lost ⟨(hk_t 839 (by decide +kernel) rfl), (hk_t 840 (by decide +kernel) rfl), (hk_t 841 (by decide +kernel) rfl)⟩ d_law_1135 (hk_lt (by decide)) rfl rfl rfl rfl b1 ⟨by omega, by omega⟩ (Nat.le_of_ble_eq_true rfl) (fun r h' hq => ?_)
  obtain ⟨v, L1, m1, rfl, rfl, hB⟩ := hq
  refine lr_ref2 C (pc := 1138) d_law_1138 ?_
  refine lr_arg C hL (j := 1) (pc := 1139) (by omega) rfl d_law_1139 d_law_1140 d_law_1141 d_law_1142 d_law_1143 ?_
  refine lr_arg C hL (j := 2) (pc := 1144) (by omega) rfl d_law_1144 d_law_1145 d_law_1146 d_law_1147 d_law_1148 ?_
  refine lr_arg C hL (j := 3) (pc := 1149) (by omega) rfl d_law_1149 d_law_1150 d_law_1151 d_law_1152 d_law_1153 ?_
  refine lr_arg C hL (j := 4) (pc := 1154) (by omega) rfl d_law_1154 d_law_1155 d_law_1156 d_law_1157 d_law_1158 ?_
  refine lr_call C (pc := 1159) (a := 37) (As := [.int (xs (i + 1)), .int (xs (i + 2)), .int (xs (i + 3)), .int (xs (i + 4))]) hB lw_wX10_lost ⟨(hk_t 1431 (by decide +kernel) rfl), (hk_t 1432 (by decide +kernel) rfl), (hk_t 1433 (by decide +kernel) rfl)⟩ d_law_1159 (hk_lt (by decide)) rfl rfl rfl rfl b4 ⟨by omega, by omega⟩ (Nat.le_of_ble_eq_true rfl) (fun r h' hq => ?_)
  obtain ⟨m2, z2, rfl, rfl, hI2⟩ := hq
  refine lr_eq C (pc := 1162) (tgt := 1312) d_law_1162 (by decide) ?_
  exact lr_widen (by omega) (by omega) (next _ _ _ hI2)
theorem lw_wX9_found : hk_Wd yX9_found cX9_found 3 (some .int) 2 := ⟨(hk_t 852 (by decide +kernel) rfl), hk_t 1 (by decide +kernel) rfl, ⟨by decide +kernel, by decide +kernel, by decide +kernel⟩, by decide⟩
theorem lw_wX10_found : hk_Wd yX10_found cX10_found 3 (some .int) 2 := ⟨(hk_t 1438 (by decide +kernel) rfl), hk_t 10 (by decide +kernel) rfl, ⟨by decide +kernel, by decide +kernel, by decide +kernel⟩, by decide⟩
set_option maxRecDepth 20000 in
theorem lw_c27 {p : Program} {l : Launch} {e : Env} {s : State} {m : MethodId} {below : List Frame} {meth : Method} {c : Code} {b L : Nat} {xs : Nat → Int32} {G : hk_G} {k n : Nat} {i : Nat} (C : lw_C p s m meth c b L xs G) (hL : L ≤ 3072) (hi : i + 6 ≤ L) {LL : Nat} {z : Nat → Nat} {mm : Nat → Nat → Int32} (hI : Inv LL z mm) (hk : k + 2 ≤ 600000) (hn : n + 164 ≤ 7302250) (next : ∀ LL z mm, Inv LL z mm → lw_WP p l e s m below meth c b G (lw_lv G b i) (k + 2) (n + 164) 1312 [] (hk_h LL mm)) : lw_WP p l e s m below meth c b G (lw_lv G b i) k n 1167 [] (hk_h LL mm) := by
  obtain ⟨d1, c1, s1, d2, b1, b2, b3, b4, hA⟩ := OpOK.e (op_found hI (xs (i + 1)) (xs (i + 2)))
  refine lr_ref1 C (pc := 1167) d_law_1167 ?_
  refine lr_arg C hL (j := 1) (pc := 1168) (by omega) rfl d_law_1168 d_law_1169 d_law_1170 d_law_1171 d_law_1172 ?_
  refine lr_arg C hL (j := 2) (pc := 1173) (by omega) rfl d_law_1173 d_law_1174 d_law_1175 d_law_1176 d_law_1177 ?_
  refine lr_call C (pc := 1178) (a := 0) (As := [.int (xs (i + 1)), .int (xs (i + 2))]) hA lw_wX9_found ⟨(hk_t 849 (by decide +kernel) rfl), (hk_t 850 (by decide +kernel) rfl), (hk_t 851 (by decide +kernel) rfl)⟩ d_law_1178 (hk_lt (by decide)) rfl rfl rfl rfl b1 ⟨by omega, by omega⟩ (Nat.le_of_ble_eq_true rfl) (fun r h' hq => ?_)
  obtain ⟨v, L1, m1, rfl, rfl, hB⟩ := hq
  refine lr_ref2 C (pc := 1181) d_law_1181 ?_
  refine lr_arg C hL (j := 1) (pc := 1182) (by omega) rfl d_law_1182 d_law_1183 d_law_1184 d_law_1185 d_law_1186 ?_
  refine lr_arg C hL (j := 2) (pc := 1187) (by omega) rfl d_law_1187 d_law_1188 d_law_1189 d_law_1190 d_law_1191 ?_
  refine lr_call C (pc := 1192) (a := 37) (As := [.int (xs (i + 1)), .int (xs (i + 2))]) hB lw_wX10_found ⟨(hk_t 1435 (by decide +kernel) rfl), (hk_t 1436 (by decide +kernel) rfl), (hk_t 1437 (by decide +kernel) rfl)⟩ d_law_1192 (hk_lt (by decide)) rfl rfl rfl rfl b4 ⟨by omega, by omega⟩ (Nat.le_of_ble_eq_true rfl) (fun r h' hq => ?_)
  obtain ⟨m2, z2, rfl, rfl, hI2⟩ := hq
  refine lr_eq C (pc := 1195) (tgt := 1312) d_law_1195 (by decide) ?_
  exact lr_widen (by omega) (by omega) (next _ _ _ hI2)
theorem lw_wX9_joined : hk_Wd yX9_joined cX9_joined 3 (some .int) 1 := ⟨(hk_t 860 (by decide +kernel) rfl), hk_t 1 (by decide +kernel) rfl, ⟨by decide +kernel, by decide +kernel, by decide +kernel⟩, by decide⟩
theorem lw_wX10_joined : hk_Wd yX10_joined cX10_joined 5 (some .int) 1 := ⟨(hk_t 1454 (by decide +kernel) rfl), hk_t 10 (by decide +kernel) rfl, ⟨by decide +kernel, by decide +kernel, by decide +kernel⟩, by decide⟩
set_option maxRecDepth 20000 in
theorem lw_c28 {p : Program} {l : Launch} {e : Env} {s : State} {m : MethodId} {below : List Frame} {meth : Method} {c : Code} {b L : Nat} {xs : Nat → Int32} {G : hk_G} {k n : Nat} {i : Nat} (C : lw_C p s m meth c b L xs G) (hL : L ≤ 3072) (hi : i + 6 ≤ L) {LL : Nat} {z : Nat → Nat} {mm : Nat → Nat → Int32} (hI : Inv LL z mm) (hk : k + 2 ≤ 600000) (hn : n + 164 ≤ 7302250) (next : ∀ LL z mm, Inv LL z mm → lw_WP p l e s m below meth c b G (lw_lv G b i) (k + 2) (n + 164) 1312 [] (hk_h LL mm)) : lw_WP p l e s m below meth c b G (lw_lv G b i) k n 1200 [] (hk_h LL mm) := by
  obtain ⟨d1, c1, s1, d2, b1, b2, b3, b4, hA⟩ := OpOK.e (op_joined hI (xs (i + 1)))
  refine lr_ref1 C (pc := 1200) d_law_1200 ?_
  refine lr_arg C hL (j := 1) (pc := 1201) (by omega) rfl d_law_1201 d_law_1202 d_law_1203 d_law_1204 d_law_1205 ?_
  refine lr_call C (pc := 1206) (a := 0) (As := [.int (xs (i + 1))]) hA lw_wX9_joined ⟨(hk_t 857 (by decide +kernel) rfl), (hk_t 858 (by decide +kernel) rfl), (hk_t 859 (by decide +kernel) rfl)⟩ d_law_1206 (hk_lt (by decide)) rfl rfl rfl rfl b1 ⟨by omega, by omega⟩ (Nat.le_of_ble_eq_true rfl) (fun r h' hq => ?_)
  obtain ⟨v, L1, m1, rfl, rfl, hB⟩ := hq
  refine lr_ref2 C (pc := 1209) d_law_1209 ?_
  refine lr_arg C hL (j := 1) (pc := 1210) (by omega) rfl d_law_1210 d_law_1211 d_law_1212 d_law_1213 d_law_1214 ?_
  refine lr_call C (pc := 1215) (a := 37) (As := [.int (xs (i + 1))]) hB lw_wX10_joined ⟨(hk_t 1451 (by decide +kernel) rfl), (hk_t 1452 (by decide +kernel) rfl), (hk_t 1453 (by decide +kernel) rfl)⟩ d_law_1215 (hk_lt (by decide)) rfl rfl rfl rfl b4 ⟨by omega, by omega⟩ (Nat.le_of_ble_eq_true rfl) (fun r h' hq => ?_)
  obtain ⟨m2, z2, rfl, rfl, hI2⟩ := hq
  refine lr_eq C (pc := 1218) (tgt := 1312) d_law_1218 (by decide) ?_
  exact lr_widen (by omega) (by omega) (next _ _ _ hI2)
theorem lw_wX9_fits : hk_Wd yX9_fits cX9_fits 4 (some .int) 1 := ⟨(hk_t 883 (by decide +kernel) rfl), hk_t 1 (by decide +kernel) rfl, ⟨by decide +kernel, by decide +kernel, by decide +kernel⟩, by decide⟩
theorem lw_wX10_fits : hk_Wd yX10_fits cX10_fits 4 (some .int) 1 := ⟨(hk_t 1442 (by decide +kernel) rfl), hk_t 10 (by decide +kernel) rfl, ⟨by decide +kernel, by decide +kernel, by decide +kernel⟩, by decide⟩
set_option maxRecDepth 20000 in
theorem lw_c29 {p : Program} {l : Launch} {e : Env} {s : State} {m : MethodId} {below : List Frame} {meth : Method} {c : Code} {b L : Nat} {xs : Nat → Int32} {G : hk_G} {k n : Nat} {i : Nat} (C : lw_C p s m meth c b L xs G) (hL : L ≤ 3072) (hi : i + 6 ≤ L) {LL : Nat} {z : Nat → Nat} {mm : Nat → Nat → Int32} (hI : Inv LL z mm) (hk : k + 2 ≤ 600000) (hn : n + 164 ≤ 7302250) (next : ∀ LL z mm, Inv LL z mm → lw_WP p l e s m below meth c b G (lw_lv G b i) (k + 2) (n + 164) 1312 [] (hk_h LL mm)) : lw_WP p l e s m below meth c b G (lw_lv G b i) k n 1223 [] (hk_h LL mm) := by
  obtain ⟨d1, c1, s1, d2, b1, b2, b3, b4, hA⟩ := OpOK.e (op_fits hI (xs (i + 1)))
  refine lr_ref1 C (pc := 1223) d_law_1223 ?_
  refine lr_arg C hL (j := 1) (pc := 1224) (by omega) rfl d_law_1224 d_law_1225 d_law_1226 d_law_1227 d_law_1228 ?_
  refine lr_call C (pc := 1229) (a := 0) (As := [.int (xs (i + 1))]) hA lw_wX9_fits ⟨(hk_t 880 (by decide +kernel) rfl), (hk_t 881 (by decide +kernel) rfl), (hk_t 882 (by decide +kernel) rfl)⟩ d_law_1229 (hk_lt (by decide)) rfl rfl rfl rfl b1 ⟨by omega, by omega⟩ (Nat.le_of_ble_eq_true rfl) (fun r h' hq => ?_)
  obtain ⟨v, L1, m1, rfl, rfl, hB⟩ := hq
  refine lr_ref2 C (pc := 1232) d_law_1232 ?_
  refine lr_arg C hL (j := 1) (pc := 1233) (by omega) rfl d_law_1233 d_law_1234 d_law_1235 d_law_1236 d_law_1237 ?_
  refine lr_call C (pc := 1238) (a := 37) (As := [.int (xs (i + 1))]) hB lw_wX10_fits ⟨(hk_t 1439 (by decide +kernel) rfl), (hk_t 1440 (by decide +kernel) rfl), (hk_t 1441 (by decide +kernel) rfl)⟩ d_law_1238 (hk_lt (by decide)) rfl rfl rfl rfl b4 ⟨by omega, by omega⟩ (Nat.le_of_ble_eq_true rfl) (fun r h' hq => ?_)
  obtain ⟨m2, z2, rfl, rfl, hI2⟩ := hq
  refine lr_eq C (pc := 1241) (tgt := 1312) d_law_1241 (by decide) ?_
  exact lr_widen (by omega) (by omega) (next _ _ _ hI2)
theorem lw_wX9_tried : hk_Wd yX9_tried cX9_tried 10 (some .int) 3 := ⟨(hk_t 887 (by decide +kernel) rfl), hk_t 1 (by decide +kernel) rfl, ⟨by decide +kernel, by decide +kernel, by decide +kernel⟩, by decide⟩
theorem lw_wX10_tried : hk_Wd yX10_tried cX10_tried 7 (some .int) 3 := ⟨(hk_t 1459 (by decide +kernel) rfl), hk_t 10 (by decide +kernel) rfl, ⟨by decide +kernel, by decide +kernel, by decide +kernel⟩, by decide⟩
set_option maxRecDepth 20000 in
theorem lw_c30 {p : Program} {l : Launch} {e : Env} {s : State} {m : MethodId} {below : List Frame} {meth : Method} {c : Code} {b L : Nat} {xs : Nat → Int32} {G : hk_G} {k n : Nat} {i : Nat} (C : lw_C p s m meth c b L xs G) (hL : L ≤ 3072) (hi : i + 6 ≤ L) {LL : Nat} {z : Nat → Nat} {mm : Nat → Nat → Int32} (hI : Inv LL z mm) (hk : k + 2 ≤ 600000) (hn : n + 164 ≤ 7302250) (next : ∀ LL z mm, Inv LL z mm → lw_WP p l e s m below meth c b G (lw_lv G b i) (k + 2) (n + 164) 1312 [] (hk_h LL mm)) : lw_WP p l e s m below meth c b G (lw_lv G b i) k n 1246 [] (hk_h LL mm) := by
  obtain ⟨d1, c1, s1, d2, b1, b2, b3, b4, hA⟩ := op_tried hI (xs (i + 1)) (xs (i + 2)) (xs (i + 3))
  refine lr_ref1 C (pc := 1246) d_law_1246 ?_
  refine lr_arg C hL (j := 1) (pc := 1247) (by omega) rfl d_law_1247 d_law_1248 d_law_1249 d_law_1250 d_law_1251 ?_
  refine lr_arg C hL (j := 2) (pc := 1252) (by omega) rfl d_law_1252 d_law_1253 d_law_1254 d_law_1255 d_law_1256 ?_
  refine lr_arg C hL (j := 3) (pc := 1257) (by omega) rfl d_law_1257 d_law_1258 d_law_1259 d_law_1260 d_law_1261 ?_
  refine lr_call C (pc := 1262) (a := 0) (As := [.int (xs (i + 1)), .int (xs (i + 2)), .int (xs (i + 3))]) hA lw_wX9_tried ⟨(hk_t 884 (by decide +kernel) rfl), (hk_t 885 (by decide +kernel) rfl), (hk_t 886 (by decide +kernel) rfl)⟩ d_law_1262 (hk_lt (by decide)) rfl rfl rfl rfl b1 ⟨by omega, by omega⟩ (Nat.le_of_ble_eq_true rfl) (fun r h' hq => ?_)
  obtain ⟨v, L1, m1, rfl, rfl, hB⟩ := hq
  refine lr_ref2 C (pc := 1265) d_law_1265 ?_
  refine lr_arg C hL (j := 1) (pc := 1266) (by omega) rfl d_law_1266 d_law_1267 d_law_1268 d_law_1269 d_law_1270 ?_
  refine lr_arg C hL (j := 2) (pc := 1271) (by omega) rfl d_law_1271 d_law_1272 d_law_1273 d_law_1274 d_law_1275 ?_
  refine lr_arg C hL (j := 3) (pc := 1276) (by omega) rfl d_law_1276 d_law_1277 d_law_1278 d_law_1279 d_law_1280 ?_
  refine lr_call C (pc := 1281) (a := 37) (As := [.int (xs (i + 1)), .int (xs (i + 2)), .int (xs (i + 3))]) hB lw_wX10_tried ⟨(hk_t 1456 (by decide +kernel) rfl), (hk_t 1457 (by decide +kernel) rfl), (hk_t 1458 (by decide +kernel) rfl)⟩ d_law_1281 (hk_lt (by decide)) rfl rfl rfl rfl b4 ⟨by omega, by omega⟩ (Nat.le_of_ble_eq_true rfl) (fun r h' hq => ?_)
  obtain ⟨m2, z2, rfl, rfl, hI2⟩ := hq
  refine lr_eq C (pc := 1284) (tgt := 1312) d_law_1284 (by decide) ?_
  exact lr_widen (by omega) (by omega) (next _ _ _ hI2)
theorem lw_wX9_count : hk_Wd yX9_count cX9_count 2 (some .int) 1 := ⟨(hk_t 899 (by decide +kernel) rfl), hk_t 1 (by decide +kernel) rfl, ⟨by decide +kernel, by decide +kernel, by decide +kernel⟩, by decide⟩
theorem lw_wX10_count : hk_Wd yX10_count cX10_count 2 (some .int) 1 := ⟨(hk_t 1467 (by decide +kernel) rfl), hk_t 10 (by decide +kernel) rfl, ⟨by decide +kernel, by decide +kernel, by decide +kernel⟩, by decide⟩
set_option maxRecDepth 20000 in
theorem lw_c31 {p : Program} {l : Launch} {e : Env} {s : State} {m : MethodId} {below : List Frame} {meth : Method} {c : Code} {b L : Nat} {xs : Nat → Int32} {G : hk_G} {k n : Nat} {i : Nat} (C : lw_C p s m meth c b L xs G) (hL : L ≤ 3072) (hi : i + 6 ≤ L) {LL : Nat} {z : Nat → Nat} {mm : Nat → Nat → Int32} (hI : Inv LL z mm) (hk : k + 2 ≤ 600000) (hn : n + 164 ≤ 7302250) (next : ∀ LL z mm, Inv LL z mm → lw_WP p l e s m below meth c b G (lw_lv G b i) (k + 2) (n + 164) 1312 [] (hk_h LL mm)) : lw_WP p l e s m below meth c b G (lw_lv G b i) k n 1289 [] (hk_h LL mm) := by
  obtain ⟨d1, c1, s1, d2, b1, b2, b3, b4, hA⟩ := OpOK.e (op_count hI (xs (i + 1)))
  refine lr_ref1 C (pc := 1289) d_law_1289 ?_
  refine lr_arg C hL (j := 1) (pc := 1290) (by omega) rfl d_law_1290 d_law_1291 d_law_1292 d_law_1293 d_law_1294 ?_
  refine lr_call C (pc := 1295) (a := 0) (As := [.int (xs (i + 1))]) hA lw_wX9_count ⟨(hk_t 896 (by decide +kernel) rfl), (hk_t 897 (by decide +kernel) rfl), (hk_t 898 (by decide +kernel) rfl)⟩ d_law_1295 (hk_lt (by decide)) rfl rfl rfl rfl b1 ⟨by omega, by omega⟩ (Nat.le_of_ble_eq_true rfl) (fun r h' hq => ?_)
  obtain ⟨v, L1, m1, rfl, rfl, hB⟩ := hq
  refine lr_ref2 C (pc := 1298) d_law_1298 ?_
  refine lr_arg C hL (j := 1) (pc := 1299) (by omega) rfl d_law_1299 d_law_1300 d_law_1301 d_law_1302 d_law_1303 ?_
  refine lr_call C (pc := 1304) (a := 37) (As := [.int (xs (i + 1))]) hB lw_wX10_count ⟨(hk_t 1464 (by decide +kernel) rfl), (hk_t 1465 (by decide +kernel) rfl), (hk_t 1466 (by decide +kernel) rfl)⟩ d_law_1304 (hk_lt (by decide)) rfl rfl rfl rfl b4 ⟨by omega, by omega⟩ (Nat.le_of_ble_eq_true rfl) (fun r h' hq => ?_)
  obtain ⟨m2, z2, rfl, rfl, hI2⟩ := hq
  refine lr_eq C (pc := 1307) (tgt := 1312) d_law_1307 (by decide) ?_
  exact lr_widen (by omega) (by omega) (next _ _ _ hI2)
theorem and31 (x : Int32) : ∃ q : Nat, q < 32 ∧ x &&& 31 = nI q := by
  refine ⟨(x &&& 31).toBitVec.toNat, ?_, ?_⟩
  · show (x.toBitVec &&& 31#32).toNat < 32
    rw [BitVec.toNat_and]
    exact Nat.lt_of_le_of_lt Nat.and_le_right (by decide)
  · apply Int32.toBitVec_inj.mp
    show (x &&& 31).toBitVec = BitVec.ofNat 32 ((x &&& 31).toBitVec.toNat)
    rw [BitVec.ofNat_toNat, BitVec.setWidth_eq]
theorem lw_iinc {p : Program} {l : Launch} {e : Env} {s : State} {m : MethodId} {below : List Frame} {meth : Method} {c : Code} {b L : Nat} {xs : Nat → Int32} {G : hk_G} {k n : Nat} {i : Nat} (C : lw_C p s m meth c b L xs G) {h : hk_H} (kk : lw_WP p l e s m below meth c b G (lw_lv G b (i + 6)) k n 18 [] h) : lw_WP p l e s m below meth c b G (lw_lv G b i) k n 1312 [] h := by
  intro H locs lsA hS hV hl
  refine lv_iinc (v := nI (i + 6)) (lv' := [(3, .int (nI (i + 6))), (0, .ref b), (1, .ref (hk_b G + 0)), (2, .ref (hk_b G + 37))]) C.1.1 C.1.2.1 d_law_1312 hl (k := 3) rfl (by rw [← nI_add]; rfl) (by decide) rfl (fun ls hl => ?_)
  refine lv_goto (tgt := 18) C.1.1 C.1.2.1 d_law_1315 (by decide) ?_
  exact kk H locs ls hS hV (lv_sub hl [1, 2, 3, 0] rfl)
set_option maxRecDepth 20000 in
theorem lw_table {p : Program} {l : Launch} {e : Env} {s : State} {m : MethodId} {below : List Frame} {meth : Method} {c : Code} {b L : Nat} {xs : Nat → Int32} {G : hk_G} {k n : Nat} {i : Nat} (C : lw_C p s m meth c b L xs G) (hL : L ≤ 3072) (hi : i + 6 ≤ L) {LL : Nat} {z : Nat → Nat} {mm : Nat → Nat → Int32} (hI : Inv LL z mm) (hk : k + 2 ≤ 600000) (hn : n + 164 ≤ 7302250) (next : ∀ LL z mm, Inv LL z mm → lw_WP p l e s m below meth c b G (lw_lv G b i) (k + 2) (n + 164) 1312 [] (hk_h LL mm)) (H : Heap) (locs : List Loc) (lsA : Array Slot) (hS : hk_S G (hk_h LL mm) s H) (hV : va_S (hk_A G) s.heap H locs) (hl : lv_has lsA 4 (lw_lv G b i)) :
    ∀ q, q < 32 → W p l e room_1 s m #[Value.ref b] below meth c H locs k n (lw_Z below #[Value.ref b] s) (F0 m 33 lsA [.int (nI q)])
  | 0, _ => by
    refine lv_tableIn (tgt := 176) C.1.1 C.1.2.1 d_law_33 (by decide) (by decide) rfl (by decide) ?_
    exact lw_c0 C hL hi hI hk hn next H locs lsA hS hV hl
  | 1, _ => by
    refine lv_tableIn (tgt := 189) C.1.1 C.1.2.1 d_law_33 (by decide) (by decide) rfl (by decide) ?_
    exact lw_c1 C hL hi hI hk hn next H locs lsA hS hV hl
  | 2, _ => by
    refine lv_tableIn (tgt := 232) C.1.1 C.1.2.1 d_law_33 (by decide) (by decide) rfl (by decide) ?_
    exact lw_c2 C hL hi hI hk hn next H locs lsA hS hV hl
  | 3, _ => by
    refine lv_tableIn (tgt := 275) C.1.1 C.1.2.1 d_law_33 (by decide) (by decide) rfl (by decide) ?_
    exact lw_c3 C hL hi hI hk hn next H locs lsA hS hV hl
  | 4, _ => by
    refine lv_tableIn (tgt := 318) C.1.1 C.1.2.1 d_law_33 (by decide) (by decide) rfl (by decide) ?_
    exact lw_c4 C hL hi hI hk hn next H locs lsA hS hV hl
  | 5, _ => by
    refine lv_tableIn (tgt := 361) C.1.1 C.1.2.1 d_law_33 (by decide) (by decide) rfl (by decide) ?_
    exact lw_c5 C hL hi hI hk hn next H locs lsA hS hV hl
  | 6, _ => by
    refine lv_tableIn (tgt := 384) C.1.1 C.1.2.1 d_law_33 (by decide) (by decide) rfl (by decide) ?_
    exact lw_c6 C hL hi hI hk hn next H locs lsA hS hV hl
  | 7, _ => by
    refine lv_tableIn (tgt := 407) C.1.1 C.1.2.1 d_law_33 (by decide) (by decide) rfl (by decide) ?_
    exact lw_c7 C hL hi hI hk hn next H locs lsA hS hV hl
  | 8, _ => by
    refine lv_tableIn (tgt := 440) C.1.1 C.1.2.1 d_law_33 (by decide) (by decide) rfl (by decide) ?_
    exact lw_c8 C hL hi hI hk hn next H locs lsA hS hV hl
  | 9, _ => by
    refine lv_tableIn (tgt := 483) C.1.1 C.1.2.1 d_law_33 (by decide) (by decide) rfl (by decide) ?_
    exact lw_c9 C hL hi hI hk hn next H locs lsA hS hV hl
  | 10, _ => by
    refine lv_tableIn (tgt := 516) C.1.1 C.1.2.1 d_law_33 (by decide) (by decide) rfl (by decide) ?_
    exact lw_c10 C hL hi hI hk hn next H locs lsA hS hV hl
  | 11, _ => by
    refine lv_tableIn (tgt := 549) C.1.1 C.1.2.1 d_law_33 (by decide) (by decide) rfl (by decide) ?_
    exact lw_c11 C hL hi hI hk hn next H locs lsA hS hV hl
  | 12, _ => by
    refine lv_tableIn (tgt := 582) C.1.1 C.1.2.1 d_law_33 (by decide) (by decide) rfl (by decide) ?_
    exact lw_c12 C hL hi hI hk hn next H locs lsA hS hV hl
  | 13, _ => by
    refine lv_tableIn (tgt := 615) C.1.1 C.1.2.1 d_law_33 (by decide) (by decide) rfl (by decide) ?_
    exact lw_c13 C hL hi hI hk hn next H locs lsA hS hV hl
  | 14, _ => by
    refine lv_tableIn (tgt := 648) C.1.1 C.1.2.1 d_law_33 (by decide) (by decide) rfl (by decide) ?_
    exact lw_c14 C hL hi hI hk hn next H locs lsA hS hV hl
  | 15, _ => by
    refine lv_tableIn (tgt := 681) C.1.1 C.1.2.1 d_law_33 (by decide) (by decide) rfl (by decide) ?_
    exact lw_c15 C hL hi hI hk hn next H locs lsA hS hV hl
  | 16, _ => by
    refine lv_tableIn (tgt := 714) C.1.1 C.1.2.1 d_law_33 (by decide) (by decide) rfl (by decide) ?_
    exact lw_c16 C hL hi hI hk hn next H locs lsA hS hV hl
  | 17, _ => by
    refine lv_tableIn (tgt := 757) C.1.1 C.1.2.1 d_law_33 (by decide) (by decide) rfl (by decide) ?_
    exact lw_c17 C hL hi hI hk hn next H locs lsA hS hV hl
  | 18, _ => by
    refine lv_tableIn (tgt := 820) C.1.1 C.1.2.1 d_law_33 (by decide) (by decide) rfl (by decide) ?_
    exact lw_c18 C hL hi hI hk hn next H locs lsA hS hV hl
  | 19, _ => by
    refine lv_tableIn (tgt := 863) C.1.1 C.1.2.1 d_law_33 (by decide) (by decide) rfl (by decide) ?_
    exact lw_c19 C hL hi hI hk hn next H locs lsA hS hV hl
  | 20, _ => by
    refine lv_tableIn (tgt := 916) C.1.1 C.1.2.1 d_law_33 (by decide) (by decide) rfl (by decide) ?_
    exact lw_c20 C hL hi hI hk hn next H locs lsA hS hV hl
  | 21, _ => by
    refine lv_tableIn (tgt := 939) C.1.1 C.1.2.1 d_law_33 (by decide) (by decide) rfl (by decide) ?_
    exact lw_c21 C hL hi hI hk hn next H locs lsA hS hV hl
  | 22, _ => by
    refine lv_tableIn (tgt := 972) C.1.1 C.1.2.1 d_law_33 (by decide) (by decide) rfl (by decide) ?_
    exact lw_c22 C hL hi hI hk hn next H locs lsA hS hV hl
  | 23, _ => by
    refine lv_tableIn (tgt := 1015) C.1.1 C.1.2.1 d_law_33 (by decide) (by decide) rfl (by decide) ?_
    exact lw_c23 C hL hi hI hk hn next H locs lsA hS hV hl
  | 24, _ => by
    refine lv_tableIn (tgt := 1048) C.1.1 C.1.2.1 d_law_33 (by decide) (by decide) rfl (by decide) ?_
    exact lw_c24 C hL hi hI hk hn next H locs lsA hS hV hl
  | 25, _ => by
    refine lv_tableIn (tgt := 1081) C.1.1 C.1.2.1 d_law_33 (by decide) (by decide) rfl (by decide) ?_
    exact lw_c25 C hL hi hI hk hn next H locs lsA hS hV hl
  | 26, _ => by
    refine lv_tableIn (tgt := 1114) C.1.1 C.1.2.1 d_law_33 (by decide) (by decide) rfl (by decide) ?_
    exact lw_c26 C hL hi hI hk hn next H locs lsA hS hV hl
  | 27, _ => by
    refine lv_tableIn (tgt := 1167) C.1.1 C.1.2.1 d_law_33 (by decide) (by decide) rfl (by decide) ?_
    exact lw_c27 C hL hi hI hk hn next H locs lsA hS hV hl
  | 28, _ => by
    refine lv_tableIn (tgt := 1200) C.1.1 C.1.2.1 d_law_33 (by decide) (by decide) rfl (by decide) ?_
    exact lw_c28 C hL hi hI hk hn next H locs lsA hS hV hl
  | 29, _ => by
    refine lv_tableIn (tgt := 1223) C.1.1 C.1.2.1 d_law_33 (by decide) (by decide) rfl (by decide) ?_
    exact lw_c29 C hL hi hI hk hn next H locs lsA hS hV hl
  | 30, _ => by
    refine lv_tableIn (tgt := 1246) C.1.1 C.1.2.1 d_law_33 (by decide) (by decide) rfl (by decide) ?_
    exact lw_c30 C hL hi hI hk hn next H locs lsA hS hV hl
  | 31, _ => by
    refine lv_tableIn (tgt := 1289) C.1.1 C.1.2.1 d_law_33 (by decide) (by decide) rfl (by decide) ?_
    exact lw_c31 C hL hi hI hk hn next H locs lsA hS hV hl
  | q + 32, h => absurd h (by omega)
theorem lw_loop {p : Program} {l : Launch} {e : Env} {s : State} {m : MethodId} {below : List Frame} {meth : Method} {c : Code} {b L : Nat} {xs : Nat → Int32} {G : hk_G} (C : lw_C p s m meth c b L xs G) (hL : L ≤ 3072) (i : Nat) (hi : i ≤ L) : ∀ (k n LL : Nat) (z : Nat → Nat) (mm : Nat → Nat → Int32), Inv LL z mm → k + 2 * (L - i) ≤ 600000 → n + 164 * (L - i) ≤ 7302250 → lw_WP p l e s m below meth c b G (lw_lv G b i) k n 18 [] (hk_h LL mm) := by
  intro k n LL z mm hI hk hn H locs lsA hS hV hl
  have hbA := lr_out C
  obtain ⟨⟨hx, hb, hr, hml, hown, hts, hX, hbl, hlocks, hgv⟩, hG, hN, hXX⟩ := id C
  refine lv_iload_n hx hb d_law_18 rfl (lv_at hl 3 rfl) ?_
  refine lv_aload_n hx hb d_law_19 rfl (lv_at hl 0 rfl) ?_
  refine va_slen hx hb hX hbl hbA hV d_law_20 ?_
  refine lv_bipush (v := 6) hx hb d_law_21 (by decide) ?_
  refine lv_isub hx hb d_law_23 ?_
  refine lv_icmp_gt (tgt := 1318) hx hb d_law_24 (by decide) (fun _ => ?_) (fun c24 => ?_)
  · refine lv_iconst (v := 1) hx hb d_law_1318 (by decide) ?_
    refine va_forget (fun q hq => by have h1 : hk_b G ≤ q.base := hV.2.2 q hq; rw [hG] at h1; exact h1) ?_
    refine W.widen (k := 600000) (n := 7302250) (by omega) (by omega) ?_
    exact lw_ret hx hb hr hlocks d_law_1319
  · have hi6 : i + 6 ≤ L := by
      refine Classical.byContradiction (fun hn6 => c24 ?_)
      show nI L - nI 6 < nI i
      by_cases h6 : 6 ≤ L
      · rw [nI_sub h6]; exact nI_lt (by omega) (by omega)
      · exact Int32.lt_of_lt_of_le (pk_sneg (by decide) (by omega)) (nI_pos' (by omega))
    have hnext : ∀ LL z mm, Inv LL z mm → lw_WP p l e s m below meth c b G (lw_lv G b i) (k + 2) (n + 164) 1312 [] (hk_h LL mm) := fun LL z mm hI => lw_iinc C (lw_loop C hL (i + 6) hi6 (k + 2) (n + 164) LL z mm hI (by omega) (by omega))
    refine lv_aload_n hx hb d_law_27 rfl (lv_at hl 0 rfl) ?_
    refine lv_iload_n hx hb d_law_28 rfl (lv_at hl 3 rfl) ?_
    refine va_sld hx hb hX hbl hbA hV (vp_in_nI (show i < L by omega) (by omega)) d_law_29 ?_
    refine lv_bipush (v := 31) hx hb d_law_30 (by decide) ?_
    refine lv_iand hx hb d_law_32 ?_
    obtain ⟨q, hq, eq⟩ := and31 (xs (nI i).toNatClampNeg)
    rw [eq]
    exact lw_table C hL hi6 hI (by omega) (by omega) hnext H locs lsA hS hV hl q hq
termination_by L - i
decreasing_by all_goals omega
