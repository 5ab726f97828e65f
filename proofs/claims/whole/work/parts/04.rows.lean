/-! rows of the hk_ layer, one an instruction (written by wip/whole/rows.py) -/
section HR
variable {M : hk_M} {d mc ms k n pc : Nat} {ls : List (Option Value)} {st : List Value} {h : hk_H} {Q : Option Value → hk_H → Prop}
theorem hk_iconst {i : Int} {v : Int32} (hd : decode M.2.1 pc = .ok (.iconst i, 1)) (hv : Int32.ofInt i = v) (kk : hk_WP M d mc ms k n (pc + 1) ls (.int v :: st) h Q) : hk_WP M d mc ms k n pc ls (st) h Q := by
  intro G p l e R s m args below meth c H locs lsA C hS hV hL
  exact lv_iconst C.1 C.2.1 hd hv (kk G p l e R s m args below meth c H locs lsA C hS hV hL)
theorem hk_bipush {i : Int} {v : Int32} (hd : decode M.2.1 pc = .ok (.bipush i, 2)) (hv : (Int8.ofInt i).toInt32 = v) (kk : hk_WP M d mc ms k n (pc + 2) ls (.int v :: st) h Q) : hk_WP M d mc ms k n pc ls (st) h Q := by
  intro G p l e R s m args below meth c H locs lsA C hS hV hL
  exact lv_bipush C.1 C.2.1 hd hv (kk G p l e R s m args below meth c H locs lsA C hS hV hL)
theorem hk_sipush {i : Int} {v : Int32} (hd : decode M.2.1 pc = .ok (.sipush i, 3)) (hv : (Int16.ofInt i).toInt32 = v) (kk : hk_WP M d mc ms k n (pc + 3) ls (.int v :: st) h Q) : hk_WP M d mc ms k n pc ls (st) h Q := by
  intro G p l e R s m args below meth c H locs lsA C hS hV hL
  exact lv_sipush C.1 C.2.1 hd hv (kk G p l e R s m args below meth c H locs lsA C hS hV hL)
theorem hk_lconst {i : Fin 2} {v : Int64} (hd : decode M.2.1 pc = .ok (.lconst i, 1)) (hv : Int64.ofNat (i : Nat) = v) (kk : hk_WP M d mc ms k n (pc + 1) ls (.long v :: st) h Q) : hk_WP M d mc ms k n pc ls (st) h Q := by
  intro G p l e R s m args below meth c H locs lsA C hS hV hL
  exact lv_lconst C.1 C.2.1 hd hv (kk G p l e R s m args below meth c H locs lsA C hS hV hL)
theorem hk_ldc {i : Nat} {v : Int32} (hd : decode M.2.1 pc = .ok (.ldc i, 2)) (hv : Cond.constant M.1.cls i v ∈ hk_T) (kk : hk_WP M d mc ms k n (pc + 2) ls (.int v :: st) h Q) : hk_WP M d mc ms k n pc ls (st) h Q := by
  intro G p l e R s m args below meth c H locs lsA C hS hV hL
  exact lv_ldc C.1 C.2.1 C.2.2.2.1 (C.2.2.2.2.1 _ hv) hd (kk G p l e R s m args below meth c H locs lsA C hS hV hL)
theorem hk_ldcw {i : Nat} {v : Int32} (hd : decode M.2.1 pc = .ok (.ldc_w i, 3)) (hv : Cond.constant M.1.cls i v ∈ hk_T) (kk : hk_WP M d mc ms k n (pc + 3) ls (.int v :: st) h Q) : hk_WP M d mc ms k n pc ls (st) h Q := by
  intro G p l e R s m args below meth c H locs lsA C hS hV hL
  exact lv_ldcw C.1 C.2.1 C.2.2.2.1 (C.2.2.2.2.1 _ hv) hd (kk G p l e R s m args below meth c H locs lsA C hS hV hL)
theorem hk_ldc2 {i : Nat} {v : Int64} (hd : decode M.2.1 pc = .ok (.ldc2_w i, 3)) (hv : Cond.constantLong M.1.cls i v ∈ hk_T) (kk : hk_WP M d mc ms k n (pc + 3) ls (.long v :: st) h Q) : hk_WP M d mc ms k n pc ls (st) h Q := by
  intro G p l e R s m args below meth c H locs lsA C hS hV hL
  exact lv_ldc2 C.1 C.2.1 C.2.2.2.1 (C.2.2.2.2.1 _ hv) hd (kk G p l e R s m args below meth c H locs lsA C hS hV hL)
theorem hk_iload_n {f : Fin 4} {i : Nat} {x : Int32} (hd : decode M.2.1 pc = .ok (.iload_n f, 1)) (hi : (f : Nat) = i) (hl : ls[i]? = some (some (.int x))) (kk : hk_WP M d mc ms k n (pc + 1) ls (.int x :: st) h Q) : hk_WP M d mc ms k n pc ls (st) h Q := by
  intro G p l e R s m args below meth c H locs lsA C hS hV hL
  exact lv_iload_n C.1 C.2.1 hd hi (hk_L_at hL hl) (kk G p l e R s m args below meth c H locs lsA C hS hV hL)
theorem hk_iload {i : Nat} {x : Int32} (hd : decode M.2.1 pc = .ok (.iload i, 2)) (hl : ls[i]? = some (some (.int x))) (kk : hk_WP M d mc ms k n (pc + 2) ls (.int x :: st) h Q) : hk_WP M d mc ms k n pc ls (st) h Q := by
  intro G p l e R s m args below meth c H locs lsA C hS hV hL
  exact lv_iload C.1 C.2.1 hd (hk_L_at hL hl) (kk G p l e R s m args below meth c H locs lsA C hS hV hL)
theorem hk_lload_n {f : Fin 4} {i : Nat} {x : Int64} (hd : decode M.2.1 pc = .ok (.lload_n f, 1)) (hi : (f : Nat) = i) (hl : ls[i]? = some (some (.long x))) (kk : hk_WP M d mc ms k n (pc + 1) ls (.long x :: st) h Q) : hk_WP M d mc ms k n pc ls (st) h Q := by
  intro G p l e R s m args below meth c H locs lsA C hS hV hL
  exact lv_lload_n C.1 C.2.1 hd hi (hk_L_at hL hl) (kk G p l e R s m args below meth c H locs lsA C hS hV hL)
theorem hk_lload {i : Nat} {x : Int64} (hd : decode M.2.1 pc = .ok (.lload i, 2)) (hl : ls[i]? = some (some (.long x))) (kk : hk_WP M d mc ms k n (pc + 2) ls (.long x :: st) h Q) : hk_WP M d mc ms k n pc ls (st) h Q := by
  intro G p l e R s m args below meth c H locs lsA C hS hV hL
  exact lv_lload C.1 C.2.1 hd (hk_L_at hL hl) (kk G p l e R s m args below meth c H locs lsA C hS hV hL)
theorem hk_aload_n {f : Fin 4} {i : Nat} {x : Nat} (hd : decode M.2.1 pc = .ok (.aload_n f, 1)) (hi : (f : Nat) = i) (hl : ls[i]? = some (some (.ref x))) (kk : hk_WP M d mc ms k n (pc + 1) ls (.ref x :: st) h Q) : hk_WP M d mc ms k n pc ls (st) h Q := by
  intro G p l e R s m args below meth c H locs lsA C hS hV hL
  exact lv_aload_n C.1 C.2.1 hd hi (hk_L_at hL hl) (kk G p l e R s m args below meth c H locs lsA C hS hV hL)
theorem hk_aload {i : Nat} {x : Nat} (hd : decode M.2.1 pc = .ok (.aload i, 2)) (hl : ls[i]? = some (some (.ref x))) (kk : hk_WP M d mc ms k n (pc + 2) ls (.ref x :: st) h Q) : hk_WP M d mc ms k n pc ls (st) h Q := by
  intro G p l e R s m args below meth c H locs lsA C hS hV hL
  exact lv_aload C.1 C.2.1 hd (hk_L_at hL hl) (kk G p l e R s m args below meth c H locs lsA C hS hV hL)
theorem hk_aload_nN {f : Fin 4} {i : Nat} (hd : decode M.2.1 pc = .ok (.aload_n f, 1)) (hi : (f : Nat) = i) (hl : ls[i]? = some (some .null)) (kk : hk_WP M d mc ms k n (pc + 1) ls (.null :: st) h Q) : hk_WP M d mc ms k n pc ls (st) h Q := by
  intro G p l e R s m args below meth c H locs lsA C hS hV hL
  exact lv_aload_nN C.1 C.2.1 hd hi (hk_L_at hL hl) (kk G p l e R s m args below meth c H locs lsA C hS hV hL)
theorem hk_aloadN {i : Nat} (hd : decode M.2.1 pc = .ok (.aload i, 2)) (hl : ls[i]? = some (some .null)) (kk : hk_WP M d mc ms k n (pc + 2) ls (.null :: st) h Q) : hk_WP M d mc ms k n pc ls (st) h Q := by
  intro G p l e R s m args below meth c H locs lsA C hS hV hL
  exact lv_aloadN C.1 C.2.1 hd (hk_L_at hL hl) (kk G p l e R s m args below meth c H locs lsA C hS hV hL)
theorem hk_istore_n {f : Fin 4} {i : Nat} {x : Int32} (hd : decode M.2.1 pc = .ok (.istore_n f, 1)) (hi : (f : Nat) = i) (hn : i < M.2.2.1) (hok : hk_ok ls i = true) (kk : hk_WP M d mc ms k n (pc + 1) (ls.set i (some (.int x))) (st) h Q) : hk_WP M d mc ms k n pc ls (.int x :: st) h Q := by
  intro G p l e R s m args below meth c H locs lsA C hS hV hL
  exact lv_istore_n C.1 C.2.1 hd hi hL hn rfl (fun ls' hl' => kk G p l e R s m args below meth c H locs ls' C hS hV (hk_L_set hok hl'))
theorem hk_istore {i : Nat} {x : Int32} (hd : decode M.2.1 pc = .ok (.istore i, 2)) (hn : i < M.2.2.1) (hok : hk_ok ls i = true) (kk : hk_WP M d mc ms k n (pc + 2) (ls.set i (some (.int x))) (st) h Q) : hk_WP M d mc ms k n pc ls (.int x :: st) h Q := by
  intro G p l e R s m args below meth c H locs lsA C hS hV hL
  exact lv_istore C.1 C.2.1 hd hL hn rfl (fun ls' hl' => kk G p l e R s m args below meth c H locs ls' C hS hV (hk_L_set hok hl'))
theorem hk_astore_n {f : Fin 4} {i : Nat} {x : Nat} (hd : decode M.2.1 pc = .ok (.astore_n f, 1)) (hi : (f : Nat) = i) (hn : i < M.2.2.1) (hok : hk_ok ls i = true) (kk : hk_WP M d mc ms k n (pc + 1) (ls.set i (some (.ref x))) (st) h Q) : hk_WP M d mc ms k n pc ls (.ref x :: st) h Q := by
  intro G p l e R s m args below meth c H locs lsA C hS hV hL
  exact lv_astore_n C.1 C.2.1 hd hi hL hn rfl (fun ls' hl' => kk G p l e R s m args below meth c H locs ls' C hS hV (hk_L_set hok hl'))
theorem hk_astore {i : Nat} {x : Nat} (hd : decode M.2.1 pc = .ok (.astore i, 2)) (hn : i < M.2.2.1) (hok : hk_ok ls i = true) (kk : hk_WP M d mc ms k n (pc + 2) (ls.set i (some (.ref x))) (st) h Q) : hk_WP M d mc ms k n pc ls (.ref x :: st) h Q := by
  intro G p l e R s m args below meth c H locs lsA C hS hV hL
  exact lv_astore C.1 C.2.1 hd hL hn rfl (fun ls' hl' => kk G p l e R s m args below meth c H locs ls' C hS hV (hk_L_set hok hl'))
theorem hk_astore_nN {f : Fin 4} {i : Nat} (hd : decode M.2.1 pc = .ok (.astore_n f, 1)) (hi : (f : Nat) = i) (hn : i < M.2.2.1) (hok : hk_ok ls i = true) (kk : hk_WP M d mc ms k n (pc + 1) (ls.set i (some .null)) (st) h Q) : hk_WP M d mc ms k n pc ls (.null :: st) h Q := by
  intro G p l e R s m args below meth c H locs lsA C hS hV hL
  exact lv_astore_nN C.1 C.2.1 hd hi hL hn rfl (fun ls' hl' => kk G p l e R s m args below meth c H locs ls' C hS hV (hk_L_set hok hl'))
theorem hk_astoreN {i : Nat} (hd : decode M.2.1 pc = .ok (.astore i, 2)) (hn : i < M.2.2.1) (hok : hk_ok ls i = true) (kk : hk_WP M d mc ms k n (pc + 2) (ls.set i (some .null)) (st) h Q) : hk_WP M d mc ms k n pc ls (.null :: st) h Q := by
  intro G p l e R s m args below meth c H locs lsA C hS hV hL
  exact lv_astoreN C.1 C.2.1 hd hL hn rfl (fun ls' hl' => kk G p l e R s m args below meth c H locs ls' C hS hV (hk_L_set hok hl'))
theorem hk_lstore_n {f : Fin 4} {i : Nat} {x : Int64} (hd : decode M.2.1 pc = .ok (.lstore_n f, 1)) (hi : (f : Nat) = i) (hn : i + 1 < M.2.2.1) (hok : hk_ok ls i = true) (kk : hk_WP M d mc ms k n (pc + 1) ((ls.set i (some (.long x))).set (i + 1) none) (st) h Q) : hk_WP M d mc ms k n pc ls (.long x :: st) h Q := by
  intro G p l e R s m args below meth c H locs lsA C hS hV hL
  exact lv_lstore_n C.1 C.2.1 hd hi hL hn rfl (fun ls' hl' => kk G p l e R s m args below meth c H locs ls' C hS hV (hk_L_set2 hok hl'))
theorem hk_lstore {i : Nat} {x : Int64} (hd : decode M.2.1 pc = .ok (.lstore i, 2)) (hn : i + 1 < M.2.2.1) (hok : hk_ok ls i = true) (kk : hk_WP M d mc ms k n (pc + 2) ((ls.set i (some (.long x))).set (i + 1) none) (st) h Q) : hk_WP M d mc ms k n pc ls (.long x :: st) h Q := by
  intro G p l e R s m args below meth c H locs lsA C hS hV hL
  exact lv_lstore C.1 C.2.1 hd hL hn rfl (fun ls' hl' => kk G p l e R s m args below meth c H locs ls' C hS hV (hk_L_set2 hok hl'))
theorem hk_iinc {i : Nat} {z : Int} {x v : Int32} (hd : decode M.2.1 pc = .ok (.iinc i z, 3)) (hl : ls[i]? = some (some (.int x))) (hv : x + Int32.ofInt z = v) (hn : i < M.2.2.1) (hok : hk_ok ls i = true) (kk : hk_WP M d mc ms k n (pc + 3) (ls.set i (some (.int v))) (st) h Q) : hk_WP M d mc ms k n pc ls (st) h Q := by
  intro G p l e R s m args below meth c H locs lsA C hS hV hL
  obtain ⟨j, hj⟩ := List.getElem?_of_mem (hk_as_mem (b := hk_b G) (q := (i, .int x)) |>.mpr ⟨.int x, hl, rfl⟩)
  exact lv_iinc C.1 C.2.1 hd hL hj hv hn rfl (fun ls' hl' => kk G p l e R s m args below meth c H locs ls' C hS hV (hk_L_set hok hl'))
theorem hk_iadd {x y : Int32} (hd : decode M.2.1 pc = .ok (.iadd, 1)) (kk : hk_WP M d mc ms k n (pc + 1) ls (.int (x + y) :: st) h Q) : hk_WP M d mc ms k n pc ls (.int y :: .int x :: st) h Q := by
  intro G p l e R s m args below meth c H locs lsA C hS hV hL
  exact lv_iadd C.1 C.2.1 hd (kk G p l e R s m args below meth c H locs lsA C hS hV hL)
theorem hk_isub {x y : Int32} (hd : decode M.2.1 pc = .ok (.isub, 1)) (kk : hk_WP M d mc ms k n (pc + 1) ls (.int (x - y) :: st) h Q) : hk_WP M d mc ms k n pc ls (.int y :: .int x :: st) h Q := by
  intro G p l e R s m args below meth c H locs lsA C hS hV hL
  exact lv_isub C.1 C.2.1 hd (kk G p l e R s m args below meth c H locs lsA C hS hV hL)
theorem hk_imul {x y : Int32} (hd : decode M.2.1 pc = .ok (.imul, 1)) (kk : hk_WP M d mc ms k n (pc + 1) ls (.int (x * y) :: st) h Q) : hk_WP M d mc ms k n pc ls (.int y :: .int x :: st) h Q := by
  intro G p l e R s m args below meth c H locs lsA C hS hV hL
  exact lv_imul C.1 C.2.1 hd (kk G p l e R s m args below meth c H locs lsA C hS hV hL)
theorem hk_iand {x y : Int32} (hd : decode M.2.1 pc = .ok (.iand, 1)) (kk : hk_WP M d mc ms k n (pc + 1) ls (.int (x &&& y) :: st) h Q) : hk_WP M d mc ms k n pc ls (.int y :: .int x :: st) h Q := by
  intro G p l e R s m args below meth c H locs lsA C hS hV hL
  exact lv_iand C.1 C.2.1 hd (kk G p l e R s m args below meth c H locs lsA C hS hV hL)
theorem hk_ior {x y : Int32} (hd : decode M.2.1 pc = .ok (.ior, 1)) (kk : hk_WP M d mc ms k n (pc + 1) ls (.int (x ||| y) :: st) h Q) : hk_WP M d mc ms k n pc ls (.int y :: .int x :: st) h Q := by
  intro G p l e R s m args below meth c H locs lsA C hS hV hL
  exact lv_ior C.1 C.2.1 hd (kk G p l e R s m args below meth c H locs lsA C hS hV hL)
theorem hk_ishl {x y : Int32} (hd : decode M.2.1 pc = .ok (.ishl, 1)) (kk : hk_WP M d mc ms k n (pc + 1) ls (.int (x <<< (y &&& 31)) :: st) h Q) : hk_WP M d mc ms k n pc ls (.int y :: .int x :: st) h Q := by
  intro G p l e R s m args below meth c H locs lsA C hS hV hL
  exact lv_ishl C.1 C.2.1 hd (kk G p l e R s m args below meth c H locs lsA C hS hV hL)
theorem hk_ishr {x y : Int32} (hd : decode M.2.1 pc = .ok (.ishr, 1)) (kk : hk_WP M d mc ms k n (pc + 1) ls (.int (x >>> (y &&& 31)) :: st) h Q) : hk_WP M d mc ms k n pc ls (.int y :: .int x :: st) h Q := by
  intro G p l e R s m args below meth c H locs lsA C hS hV hL
  exact lv_ishr C.1 C.2.1 hd (kk G p l e R s m args below meth c H locs lsA C hS hV hL)
theorem hk_idiv {x y : Int32} (hd : decode M.2.1 pc = .ok (.idiv, 1)) (hne : ¬ y = 0) (kk : hk_WP M d mc ms k n (pc + 1) ls (.int (x / y) :: st) h Q) : hk_WP M d mc ms k n pc ls (.int y :: .int x :: st) h Q := by
  intro G p l e R s m args below meth c H locs lsA C hS hV hL
  exact lv_idiv C.1 C.2.1 hd hne (kk G p l e R s m args below meth c H locs lsA C hS hV hL)
theorem hk_irem {x y : Int32} (hd : decode M.2.1 pc = .ok (.irem, 1)) (hne : ¬ y = 0) (kk : hk_WP M d mc ms k n (pc + 1) ls (.int (x - x / y * y) :: st) h Q) : hk_WP M d mc ms k n pc ls (.int y :: .int x :: st) h Q := by
  intro G p l e R s m args below meth c H locs lsA C hS hV hL
  exact lv_irem C.1 C.2.1 hd hne (kk G p l e R s m args below meth c H locs lsA C hS hV hL)
theorem hk_ladd {x y : Int64} (hd : decode M.2.1 pc = .ok (.ladd, 1)) (kk : hk_WP M d mc ms k n (pc + 1) ls (.long (x + y) :: st) h Q) : hk_WP M d mc ms k n pc ls (.long y :: .long x :: st) h Q := by
  intro G p l e R s m args below meth c H locs lsA C hS hV hL
  exact lv_ladd C.1 C.2.1 hd (kk G p l e R s m args below meth c H locs lsA C hS hV hL)
theorem hk_i2l {x : Int32} {v : Int64} (hd : decode M.2.1 pc = .ok (.i2l, 1)) (hv : x.toInt64 = v) (kk : hk_WP M d mc ms k n (pc + 1) ls (.long v :: st) h Q) : hk_WP M d mc ms k n pc ls (.int x :: st) h Q := by
  intro G p l e R s m args below meth c H locs lsA C hS hV hL
  exact lv_i2l C.1 C.2.1 hd hv (kk G p l e R s m args below meth c H locs lsA C hS hV hL)
theorem hk_l2i {x : Int64} {v : Int32} (hd : decode M.2.1 pc = .ok (.l2i, 1)) (hv : x.toInt32 = v) (kk : hk_WP M d mc ms k n (pc + 1) ls (.int v :: st) h Q) : hk_WP M d mc ms k n pc ls (.long x :: st) h Q := by
  intro G p l e R s m args below meth c H locs lsA C hS hV hL
  exact lv_l2i C.1 C.2.1 hd hv (kk G p l e R s m args below meth c H locs lsA C hS hV hL)
theorem hk_dup {v : Value} (hd : decode M.2.1 pc = .ok (.dup, 1)) (hc : v.category = 1) (kk : hk_WP M d mc ms k n (pc + 1) ls (v :: v :: st) h Q) : hk_WP M d mc ms k n pc ls (v :: st) h Q := by
  intro G p l e R s m args below meth c H locs lsA C hS hV hL
  exact lv_dup C.1 C.2.1 hd ((hk_v_cat _ v).trans hc) (kk G p l e R s m args below meth c H locs lsA C hS hV hL)
theorem hk_pop {v : Value} (hd : decode M.2.1 pc = .ok (.pop, 1)) (hc : v.category = 1) (kk : hk_WP M d mc ms k n (pc + 1) ls (st) h Q) : hk_WP M d mc ms k n pc ls (v :: st) h Q := by
  intro G p l e R s m args below meth c H locs lsA C hS hV hL
  exact lv_pop C.1 C.2.1 hd ((hk_v_cat _ v).trans hc) (kk G p l e R s m args below meth c H locs lsA C hS hV hL)
theorem hk_dup2 {v w : Value} (hd : decode M.2.1 pc = .ok (.dup2, 1)) (hc : v.category = 1) (hc2 : w.category = 1) (kk : hk_WP M d mc ms k n (pc + 1) ls (v :: w :: v :: w :: st) h Q) : hk_WP M d mc ms k n pc ls (v :: w :: st) h Q := by
  intro G p l e R s m args below meth c H locs lsA C hS hV hL
  exact lv_dup2_11 C.1 C.2.1 hd ((hk_v_cat _ v).trans hc) ((hk_v_cat _ w).trans hc2) (kk G p l e R s m args below meth c H locs lsA C hS hV hL)
theorem hk_dup_x1 {v w : Value} (hd : decode M.2.1 pc = .ok (.dup_x1, 1)) (hc : v.category = 1) (hc2 : w.category = 1) (kk : hk_WP M d mc ms k n (pc + 1) ls (v :: w :: v :: st) h Q) : hk_WP M d mc ms k n pc ls (v :: w :: st) h Q := by
  intro G p l e R s m args below meth c H locs lsA C hS hV hL
  exact lv_dup_x1 C.1 C.2.1 hd ((hk_v_cat _ v).trans hc) ((hk_v_cat _ w).trans hc2) (kk G p l e R s m args below meth c H locs lsA C hS hV hL)
theorem hk_if_eq {x : Int32} {off : Int} {tgt : Nat} (hd : decode M.2.1 pc = .ok (.ifCond .eq off, 3)) (ht : (pc : Int) + off = (tgt : Int)) (kt : x = 0 → hk_WP M d mc ms k n (tgt) ls (st) h Q) (kf : ¬ x = 0 → hk_WP M d mc ms k n (pc + 3) ls (st) h Q) : hk_WP M d mc ms k n pc ls (.int x :: st) h Q := by
  intro G p l e R s m args below meth c H locs lsA C hS hV hL
  exact lv_if_eq C.1 C.2.1 hd ht (fun q => kt q G p l e R s m args below meth c H locs lsA C hS hV hL) (fun q => kf q G p l e R s m args below meth c H locs lsA C hS hV hL)
theorem hk_icmp_eq {x y : Int32} {off : Int} {tgt : Nat} (hd : decode M.2.1 pc = .ok (.if_icmp .eq off, 3)) (ht : (pc : Int) + off = (tgt : Int)) (kt : x = y → hk_WP M d mc ms k n (tgt) ls (st) h Q) (kf : ¬ x = y → hk_WP M d mc ms k n (pc + 3) ls (st) h Q) : hk_WP M d mc ms k n pc ls (.int y :: .int x :: st) h Q := by
  intro G p l e R s m args below meth c H locs lsA C hS hV hL
  exact lv_icmp_eq C.1 C.2.1 hd ht (fun q => kt q G p l e R s m args below meth c H locs lsA C hS hV hL) (fun q => kf q G p l e R s m args below meth c H locs lsA C hS hV hL)
theorem hk_if_ne {x : Int32} {off : Int} {tgt : Nat} (hd : decode M.2.1 pc = .ok (.ifCond .ne off, 3)) (ht : (pc : Int) + off = (tgt : Int)) (kt : ¬ x = 0 → hk_WP M d mc ms k n (tgt) ls (st) h Q) (kf : x = 0 → hk_WP M d mc ms k n (pc + 3) ls (st) h Q) : hk_WP M d mc ms k n pc ls (.int x :: st) h Q := by
  intro G p l e R s m args below meth c H locs lsA C hS hV hL
  exact lv_if_ne C.1 C.2.1 hd ht (fun q => kt q G p l e R s m args below meth c H locs lsA C hS hV hL) (fun q => kf q G p l e R s m args below meth c H locs lsA C hS hV hL)
theorem hk_icmp_ne {x y : Int32} {off : Int} {tgt : Nat} (hd : decode M.2.1 pc = .ok (.if_icmp .ne off, 3)) (ht : (pc : Int) + off = (tgt : Int)) (kt : ¬ x = y → hk_WP M d mc ms k n (tgt) ls (st) h Q) (kf : x = y → hk_WP M d mc ms k n (pc + 3) ls (st) h Q) : hk_WP M d mc ms k n pc ls (.int y :: .int x :: st) h Q := by
  intro G p l e R s m args below meth c H locs lsA C hS hV hL
  exact lv_icmp_ne C.1 C.2.1 hd ht (fun q => kt q G p l e R s m args below meth c H locs lsA C hS hV hL) (fun q => kf q G p l e R s m args below meth c H locs lsA C hS hV hL)
theorem hk_if_lt {x : Int32} {off : Int} {tgt : Nat} (hd : decode M.2.1 pc = .ok (.ifCond .lt off, 3)) (ht : (pc : Int) + off = (tgt : Int)) (kt : x < 0 → hk_WP M d mc ms k n (tgt) ls (st) h Q) (kf : ¬ x < 0 → hk_WP M d mc ms k n (pc + 3) ls (st) h Q) : hk_WP M d mc ms k n pc ls (.int x :: st) h Q := by
  intro G p l e R s m args below meth c H locs lsA C hS hV hL
  exact lv_if_lt C.1 C.2.1 hd ht (fun q => kt q G p l e R s m args below meth c H locs lsA C hS hV hL) (fun q => kf q G p l e R s m args below meth c H locs lsA C hS hV hL)
theorem hk_icmp_lt {x y : Int32} {off : Int} {tgt : Nat} (hd : decode M.2.1 pc = .ok (.if_icmp .lt off, 3)) (ht : (pc : Int) + off = (tgt : Int)) (kt : x < y → hk_WP M d mc ms k n (tgt) ls (st) h Q) (kf : ¬ x < y → hk_WP M d mc ms k n (pc + 3) ls (st) h Q) : hk_WP M d mc ms k n pc ls (.int y :: .int x :: st) h Q := by
  intro G p l e R s m args below meth c H locs lsA C hS hV hL
  exact lv_icmp_lt C.1 C.2.1 hd ht (fun q => kt q G p l e R s m args below meth c H locs lsA C hS hV hL) (fun q => kf q G p l e R s m args below meth c H locs lsA C hS hV hL)
theorem hk_if_ge {x : Int32} {off : Int} {tgt : Nat} (hd : decode M.2.1 pc = .ok (.ifCond .ge off, 3)) (ht : (pc : Int) + off = (tgt : Int)) (kt : 0 ≤ x → hk_WP M d mc ms k n (tgt) ls (st) h Q) (kf : ¬ 0 ≤ x → hk_WP M d mc ms k n (pc + 3) ls (st) h Q) : hk_WP M d mc ms k n pc ls (.int x :: st) h Q := by
  intro G p l e R s m args below meth c H locs lsA C hS hV hL
  exact lv_if_ge C.1 C.2.1 hd ht (fun q => kt q G p l e R s m args below meth c H locs lsA C hS hV hL) (fun q => kf q G p l e R s m args below meth c H locs lsA C hS hV hL)
theorem hk_icmp_ge {x y : Int32} {off : Int} {tgt : Nat} (hd : decode M.2.1 pc = .ok (.if_icmp .ge off, 3)) (ht : (pc : Int) + off = (tgt : Int)) (kt : y ≤ x → hk_WP M d mc ms k n (tgt) ls (st) h Q) (kf : ¬ y ≤ x → hk_WP M d mc ms k n (pc + 3) ls (st) h Q) : hk_WP M d mc ms k n pc ls (.int y :: .int x :: st) h Q := by
  intro G p l e R s m args below meth c H locs lsA C hS hV hL
  exact lv_icmp_ge C.1 C.2.1 hd ht (fun q => kt q G p l e R s m args below meth c H locs lsA C hS hV hL) (fun q => kf q G p l e R s m args below meth c H locs lsA C hS hV hL)
theorem hk_if_gt {x : Int32} {off : Int} {tgt : Nat} (hd : decode M.2.1 pc = .ok (.ifCond .gt off, 3)) (ht : (pc : Int) + off = (tgt : Int)) (kt : 0 < x → hk_WP M d mc ms k n (tgt) ls (st) h Q) (kf : ¬ 0 < x → hk_WP M d mc ms k n (pc + 3) ls (st) h Q) : hk_WP M d mc ms k n pc ls (.int x :: st) h Q := by
  intro G p l e R s m args below meth c H locs lsA C hS hV hL
  exact lv_if_gt C.1 C.2.1 hd ht (fun q => kt q G p l e R s m args below meth c H locs lsA C hS hV hL) (fun q => kf q G p l e R s m args below meth c H locs lsA C hS hV hL)
theorem hk_icmp_gt {x y : Int32} {off : Int} {tgt : Nat} (hd : decode M.2.1 pc = .ok (.if_icmp .gt off, 3)) (ht : (pc : Int) + off = (tgt : Int)) (kt : y < x → hk_WP M d mc ms k n (tgt) ls (st) h Q) (kf : ¬ y < x → hk_WP M d mc ms k n (pc + 3) ls (st) h Q) : hk_WP M d mc ms k n pc ls (.int y :: .int x :: st) h Q := by
  intro G p l e R s m args below meth c H locs lsA C hS hV hL
  exact lv_icmp_gt C.1 C.2.1 hd ht (fun q => kt q G p l e R s m args below meth c H locs lsA C hS hV hL) (fun q => kf q G p l e R s m args below meth c H locs lsA C hS hV hL)
theorem hk_if_le {x : Int32} {off : Int} {tgt : Nat} (hd : decode M.2.1 pc = .ok (.ifCond .le off, 3)) (ht : (pc : Int) + off = (tgt : Int)) (kt : x ≤ 0 → hk_WP M d mc ms k n (tgt) ls (st) h Q) (kf : ¬ x ≤ 0 → hk_WP M d mc ms k n (pc + 3) ls (st) h Q) : hk_WP M d mc ms k n pc ls (.int x :: st) h Q := by
  intro G p l e R s m args below meth c H locs lsA C hS hV hL
  exact lv_if_le C.1 C.2.1 hd ht (fun q => kt q G p l e R s m args below meth c H locs lsA C hS hV hL) (fun q => kf q G p l e R s m args below meth c H locs lsA C hS hV hL)
theorem hk_icmp_le {x y : Int32} {off : Int} {tgt : Nat} (hd : decode M.2.1 pc = .ok (.if_icmp .le off, 3)) (ht : (pc : Int) + off = (tgt : Int)) (kt : x ≤ y → hk_WP M d mc ms k n (tgt) ls (st) h Q) (kf : ¬ x ≤ y → hk_WP M d mc ms k n (pc + 3) ls (st) h Q) : hk_WP M d mc ms k n pc ls (.int y :: .int x :: st) h Q := by
  intro G p l e R s m args below meth c H locs lsA C hS hV hL
  exact lv_icmp_le C.1 C.2.1 hd ht (fun q => kt q G p l e R s m args below meth c H locs lsA C hS hV hL) (fun q => kf q G p l e R s m args below meth c H locs lsA C hS hV hL)
theorem hk_goto {off : Int} {tgt : Nat} (hd : decode M.2.1 pc = .ok (.goto off, 3)) (ht : (pc : Int) + off = (tgt : Int)) (kk : hk_WP M d mc ms k n (tgt) ls (st) h Q) : hk_WP M d mc ms k n pc ls (st) h Q := by
  intro G p l e R s m args below meth c H locs lsA C hS hV hL
  exact lv_goto C.1 C.2.1 hd ht (kk G p l e R s m args below meth c H locs lsA C hS hV hL)
theorem hk_ifnull {x : Nat} {off : Int} (hd : decode M.2.1 pc = .ok (.ifnull off, 3)) (kk : hk_WP M d mc ms k n (pc + 3) ls (st) h Q) : hk_WP M d mc ms k n pc ls (.ref x :: st) h Q := by
  intro G p l e R s m args below meth c H locs lsA C hS hV hL
  exact lv_ifnull C.1 C.2.1 hd (kk G p l e R s m args below meth c H locs lsA C hS hV hL)
theorem hk_ifnullN {off : Int} {tgt : Nat} (hd : decode M.2.1 pc = .ok (.ifnull off, 3)) (ht : (pc : Int) + off = (tgt : Int)) (kk : hk_WP M d mc ms k n (tgt) ls (st) h Q) : hk_WP M d mc ms k n pc ls (.null :: st) h Q := by
  intro G p l e R s m args below meth c H locs lsA C hS hV hL
  exact lv_ifnullN C.1 C.2.1 hd ht (kk G p l e R s m args below meth c H locs lsA C hS hV hL)
theorem hk_ifnonnull {x : Nat} {off : Int} {tgt : Nat} (hd : decode M.2.1 pc = .ok (.ifnonnull off, 3)) (ht : (pc : Int) + off = (tgt : Int)) (kk : hk_WP M d mc ms k n (tgt) ls (st) h Q) : hk_WP M d mc ms k n pc ls (.ref x :: st) h Q := by
  intro G p l e R s m args below meth c H locs lsA C hS hV hL
  exact lv_ifnonnull C.1 C.2.1 hd ht (kk G p l e R s m args below meth c H locs lsA C hS hV hL)
theorem hk_ifnonnullN {off : Int} (hd : decode M.2.1 pc = .ok (.ifnonnull off, 3)) (kk : hk_WP M d mc ms k n (pc + 3) ls (st) h Q) : hk_WP M d mc ms k n pc ls (.null :: st) h Q := by
  intro G p l e R s m args below meth c H locs lsA C hS hV hL
  exact lv_ifnonnullN C.1 C.2.1 hd (kk G p l e R s m args below meth c H locs lsA C hS hV hL)
theorem hk_null (hd : decode M.2.1 pc = .ok (.aconst_null, 1)) (kk : hk_WP M d mc ms k n (pc + 1) ls (.null :: st) h Q) : hk_WP M d mc ms k n pc ls (st) h Q := by
  intro G p l e R s m args below meth c H locs lsA C hS hV hL
  exact lv_null C.1 C.2.1 hd (kk G p l e R s m args below meth c H locs lsA C hS hV hL)
theorem hk_tableIn {dflt lo hi : Int} {offs : Array Int} {len : Nat} {x : Int32} {off : Int} {tgt : Nat} (hd : decode M.2.1 pc = .ok (.tableswitch dflt lo hi offs, len)) (h1 : ¬ x.toInt < lo) (h2 : ¬ hi < x.toInt) (ho : offs[(x.toInt - lo).toNat]? = some off) (ht : (pc : Int) + off = (tgt : Int)) (kk : hk_WP M d mc ms k n (tgt) ls (st) h Q) : hk_WP M d mc ms k n pc ls (.int x :: st) h Q := by
  intro G p l e R s m args below meth c H locs lsA C hS hV hL
  exact lv_tableIn C.1 C.2.1 hd h1 h2 ho ht (kk G p l e R s m args below meth c H locs lsA C hS hV hL)
theorem hk_tableOut {dflt lo hi : Int} {offs : Array Int} {len : Nat} {x : Int32} {tgt : Nat} (hd : decode M.2.1 pc = .ok (.tableswitch dflt lo hi offs, len)) (h1 : x.toInt < lo ∨ hi < x.toInt) (ht : (pc : Int) + dflt = (tgt : Int)) (kk : hk_WP M d mc ms k n (tgt) ls (st) h Q) : hk_WP M d mc ms k n pc ls (.int x :: st) h Q := by
  intro G p l e R s m args below meth c H locs lsA C hS hV hL
  exact lv_tableOut C.1 C.2.1 hd h1 ht (kk G p l e R s m args below meth c H locs lsA C hS hV hL)
theorem hk_lookup {dflt : Int} {ps : Array (Int × Int)} {len : Nat} {x : Int32} {off : Int} {tgt : Nat} (hd : decode M.2.1 pc = .ok (.lookupswitch dflt ps, len)) (hp : (ps.toList.zip (ps.toList.drop 1)).all (fun (a, next) => a.1 < next.1) = true) (ho : Op.lookupswitch.offset ps.toList dflt x.toInt = off) (ht : (pc : Int) + off = (tgt : Int)) (kk : hk_WP M d mc ms k n (tgt) ls (st) h Q) : hk_WP M d mc ms k n pc ls (.int x :: st) h Q := by
  intro G p l e R s m args below meth c H locs lsA C hS hV hL
  exact lv_lookup C.1 C.2.1 hd hp ho ht (kk G p l e R s m args below meth c H locs lsA C hS hV hL)
theorem hk_ireturn {v : Int32} {ty : FieldType} (hd : decode M.2.1 pc = .ok (.ireturn, 1)) (hr : M.2.2.2 = some ty) (hn : narrow ty (.int v) = .int v) (hk : k ≤ mc ∧ n ≤ ms) (hQ : Q (some (.int v)) h) : hk_WP M d mc ms k n pc ls [.int v] h Q := by
  intro G p l e R s m args below meth c H locs lsA C hS hV hL
  refine W.widen hk.1 hk.2 ?_
  exact W.zret C.1 C.2.1 (C.2.2.2.2.2.1.trans hr) hn (fun t ht hW => ⟨⟨some (.int v), h, rfl, hQ, by rw [ht]; exact hS.warm hW⟩, hV.F ht⟩) hV.2.2 hd C.2.2.2.2.2.2.1
theorem hk_return (hd : decode M.2.1 pc = .ok (.return_, 1)) (hr : M.2.2.2 = none) (hk : k ≤ mc ∧ n ≤ ms) (hQ : Q none h) : hk_WP M d mc ms k n pc ls [] h Q := by
  intro G p l e R s m args below meth c H locs lsA C hS hV hL
  refine W.widen hk.1 hk.2 ?_
  exact W.vret C.1 C.2.1 (C.2.2.2.2.2.1.trans hr) (fun t ht hW => ⟨⟨none, h, rfl, hQ, by rw [ht]; exact hS.warm hW⟩, hV.F ht⟩) hV.2.2 hd C.2.2.2.2.2.2.1
theorem hk_areturn {v : Value} {rt : FieldType} (hd : decode M.2.1 pc = .ok (.areturn, 1)) (hr : M.2.2.2 = some rt) (hrt : (∃ n, rt = .object n) ∨ ∃ t, rt = .array t) (hv : v = .null ∨ ∃ a, v = .ref a) (hk : k ≤ mc ∧ n ≤ ms) (hQ : Q (some v) h) : hk_WP M d mc ms k n pc ls [v] h Q := by
  intro G p l e R s m args below meth c H locs lsA C hS hV hL
  refine W.widen hk.1 hk.2 ?_
  exact W.aret C.1 C.2.1 (C.2.2.2.2.2.1.trans hr) hrt (by rcases hv with rfl | ⟨a, rfl⟩; exact Or.inl rfl; exact Or.inr ⟨_, rfl⟩) (fun t ht hW => ⟨⟨some v, h, rfl, hQ, by rw [ht]; exact hS.warm hW⟩, hV.F ht⟩) hV.2.2 hd C.2.2.2.2.2.2.1
end HR
