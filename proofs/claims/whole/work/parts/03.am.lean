/-! THE hk_ LAYER: an abstract heap whose object number k lies at base + k; contracts and walks over it -/
abbrev hk_G : Type := va_G × (ClassId × ClassId × ClassId) × Nat × (Nat → Nat) × (Nat → Nat)
abbrev hk_b (G : hk_G) : Nat := G.2.2.1
abbrev hk_tys (G : hk_G) : List (ClassId × FieldType) := [(G.2.1.1, .int), (G.2.1.2.1, .boolean), (G.2.1.2.2, .object RX3)]
def hk_cid (G : hk_G) (t : Nat) : ClassId := match t with | 0 => G.2.1.1 | 1 => G.2.1.2.1 | _ => G.2.1.2.2
abbrev hk_E : Type := (Nat × Nat × ((Nat → Int32) ⊕ (Nat → Option Nat))) ⊕ (Nat × List Value)
abbrev hk_H : Type := Nat × (Nat → hk_E)
def hk_v (b : Nat) (v : Value) : Value := match v with | .ref a => .ref (b + a) | v => v
theorem hk_v_cat (b : Nat) (v : Value) : (hk_v b v).category = v.category := by cases v <;> rfl
def hk_ce (G : hk_G) (x : hk_E) : va_E := match x with
  | .inl (t, n, .inl f) => .inl (hk_cid G t, n, .inl f)
  | .inl (t, n, .inr f) => .inl (hk_cid G t, n, .inr (.inr (.inr (.inr (fun j => (f j).map (fun a => hk_b G + a))))))
  | .inr (ci, fs) => .inr (ci, fs.map (hk_v (hk_b G)))
def hk_wl (G : hk_G) (h : hk_H) : va_W := (List.range h.1).map fun k => (hk_b G + k, hk_ce G (h.2 k))
def hk_A (G : hk_G) : Nat → Prop := fun q => hk_b G ≤ q
theorem hk_wl_get {G : hk_G} {h : hk_H} {k : Nat} (hk : k < h.1) : (hk_wl G h)[k]? = some (hk_b G + k, hk_ce G (h.2 k)) := by
  unfold hk_wl
  rw [List.getElem?_map, List.getElem?_range hk]
  rfl
theorem hk_wl_inv {G : hk_G} {h : hk_H} {k : Nat} {q : Nat × va_E} (hq : (hk_wl G h)[k]? = some q) : k < h.1 ∧ q = (hk_b G + k, hk_ce G (h.2 k)) := by
  have hk : k < h.1 := by
    have := (List.getElem?_eq_some_iff.mp hq).1
    simpa [hk_wl] using this
  rw [hk_wl_get hk] at hq
  exact ⟨hk, (Option.some.inj hq).symm⟩
theorem hk_D (G : hk_G) (h : hk_H) : va_D (hk_A G) (hk_wl G h) := by
  refine ⟨fun i j p q hi hj hpq => ?_, fun k q hq => ?_⟩
  · obtain ⟨_, rfl⟩ := hk_wl_inv hi
    obtain ⟨_, rfl⟩ := hk_wl_inv hj
    simpa using hpq
  · obtain ⟨_, rfl⟩ := hk_wl_inv hq
    exact Nat.le_add_right _ _
def hk_up (h : hk_H) (a : Nat) (x : hk_E) : hk_H := (h.1, fun q => if q = a then x else h.2 q)
def hk_push (h : hk_H) (x : hk_E) : hk_H := (h.1 + 1, fun q => if q = h.1 then x else h.2 q)
theorem hk_wl_set {G : hk_G} {h : hk_H} {a : Nat} (x : hk_E) : (hk_wl G h).set a (hk_b G + a, hk_ce G x) = hk_wl G (hk_up h a x) := by
  apply List.ext_getElem?
  intro i
  by_cases hi : i < h.1
  · rw [hk_wl_get (h := hk_up h a x) hi, List.getElem?_set]
    by_cases ha : a = i
    · subst ha
      simp [hk_up, hk_wl, hi]
    · rw [if_neg ha, hk_wl_get hi]
      simp only [hk_up]
      rw [if_neg (fun e => ha e.symm)]
  · rw [List.getElem?_eq_none (by simp [hk_wl]; omega), List.getElem?_eq_none (by simp [hk_wl, hk_up]; omega)]
theorem hk_wl_push {G : hk_G} {h : hk_H} (x : hk_E) : hk_wl G h ++ [(hk_b G + h.1, hk_ce G x)] = hk_wl G (hk_push h x) := by
  apply List.ext_getElem?
  intro i
  by_cases hi : i < h.1
  · rw [hk_wl_get (h := hk_push h x) (Nat.lt_succ_of_lt hi), List.getElem?_append_left (by simp [hk_wl]; exact hi), hk_wl_get hi]
    simp only [hk_push]
    rw [if_neg (Nat.ne_of_lt hi)]
  · by_cases he : i = h.1
    · subst he
      rw [hk_wl_get (h := hk_push h x) (Nat.lt_succ_self _), List.getElem?_append_right (by simp [hk_wl])]
      simp [hk_wl, hk_push]
    · rw [List.getElem?_eq_none (by simp [hk_wl]; omega), List.getElem?_eq_none (by simp [hk_wl, hk_push]; omega)]
/-- the words that every contract carries -/
def hk_T : List Cond := lw_tbl.filter goodWord
def hk_isN (c : Cond) : Bool := match c with | .methodLinkNest .. => true | .fieldLinkNest .. => true | _ => false
def hk_N : List Cond := tables_1.filter hk_isN
def hk_Nw (U : State) : Prop := ∀ w ∈ hk_N, va_Nw w U
theorem hk_isN_of {w : Cond} (h : w ∈ hk_N) : hk_isN w = true := (List.mem_filter.mp h).2
theorem hk_Nw.warm {s U : State} (hW : s.WarmedH U.vm) (h : hk_Nw s) : hk_Nw U := by
  intro w hw
  have h1 := h w hw
  have h2 := hk_isN_of hw
  cases w <;> first | exact h1.warmF hW | exact h1.warmM hW | (cases h2)
theorem hk_Nw.same {u U : State} (hv : u.vm = U.vm) (h : hk_Nw u) : hk_Nw U := by
  intro w hw
  have h1 := h w hw
  have h2 := hk_isN_of hw
  exact h1.same (by cases w <;> first | rfl | (cases h2)) hv
theorem hk_T_good {w : Cond} (h : w ∈ lw_tbl) (hg : goodWord w = true) : w ∈ hk_T := List.mem_filter.mpr ⟨h, hg⟩
theorem hk_goodIn (ws : List Cond) (h : ∀ w ∈ ws, w ∈ hk_T) : GoodIn hk_T ws := fun w hw => ⟨h w hw, good_of_word (List.mem_filter.mp (h w hw)).2⟩
/-- the String constant of LawBook, and the statics that its methods read: below the base, never written -/
def hk_X (G : hk_G) (U : State) (H : Heap) : Prop :=
  vk_S 1 [9] [[121, 116, 119, 110, 100, 104, 112, 98, 115]] G.2.2.2.1 G.2.2.2.2 (hk_A G) U H ∧ vk_R RX4 31 "ytwndhpbs" (G.2.2.2.1 0) U ∧
  va_Z "java/lang/String" "COMPACT_STRINGS" "Z" (.int 1) (hk_A G) U H ∧ va_Zq "jdk/internal/util/Preconditions" "SIOOBE_FORMATTER" "Ljava/util/function/BiFunction;" (hk_A G) U H ∧ va_AO RX3 U
theorem hk_X.kept {G : hk_G} {U : State} {H H1 : Heap} (h : hk_X G U H) (hq : ∀ a : Nat, a < H.size → ¬ hk_A G a → H1[a]? = H[a]?) : hk_X G U H1 := ⟨h.1.kept hq, h.2.1, h.2.2.1.kept hq, h.2.2.2.1.kept hq, h.2.2.2.2⟩
theorem hk_X.warm {G : hk_G} {s U : State} {H : Heap} (hW : s.WarmedH U.vm) (h : hk_X G s H) : hk_X G U H := ⟨h.1.moved hW.alike, h.2.1.warm hW, h.2.2.1.moved hW.alike, h.2.2.2.1.moved hW.alike, h.2.2.2.2.moved hW.alike⟩
theorem hk_X.same {G : hk_G} {u U : State} {H : Heap} (hv : U.vm = u.vm) (h : hk_X G u H) : hk_X G U H := by
  have ha : u.vm.Alike U.vm := hv ▸ Vm.Alike.refl u.vm
  exact ⟨h.1.moved ha, h.2.1.same hv, h.2.2.1.moved ha, h.2.2.2.1.moved ha, h.2.2.2.2.moved ha⟩
def hk_S (G : hk_G) (h : hk_H) (U : State) (H : Heap) : Prop := va_K G.1 vwCl (hk_tys G) U ∧ va_P G.1 vwCl (hk_wl G h) H ∧ H.size = hk_b G + h.1
def hk_Pre (G : hk_G) (av : List Value) (h : hk_H) : Array Value → State → Prop := va_Pc (av.map (hk_v (hk_b G))) (fun U => hk_S G h U U.heap ∧ hk_Nw U ∧ hk_X G U U.heap)
def hk_Q (G : hk_G) (Q : Option Value → hk_H → Prop) : Array Value → State → Outcome → State → Prop := fun _ st oc t =>
  (∃ (r : Option Value) (h : hk_H), oc = .returned (r.map (hk_v (hk_b G))) ∧ Q r h ∧ hk_S G h t t.heap) ∧ va_F (hk_A G) st t
abbrev hk_M : Type := MethodName × ByteArray × Nat × Option FieldType
def hk_rm (d mc ms : Nat) : Room := { frames := d, cells := mc, slots := ms, locals := 64 * d }
/-- the contract of a method -/
def hk_Ct (M : hk_M) (d mc ms : Nat) (av : List Value) (h : hk_H) (Q : Option Value → hk_H → Prop) : Prop :=
  ∀ (l : Launch) (G : hk_G), Met l M.1 (.code M.1 M.2.1 M.2.2.1 M.2.2.2 :: hk_T) (hk_rm d mc ms) (hk_Pre G av h) (hk_Q G Q) mc ms (hk_A G)
def hk_Cx (M : hk_M) (d mc ms : Nat) (G : hk_G) (p : Program) (R : Room) (s : State) (m : MethodId) (args : Array Value) (meth : Method) (c : Code) : Prop :=
  p.tables.exec = Jvm.exec ∧ c.code = M.2.1 ∧ c.maxLocals = M.2.2.1 ∧ s.vm.findClass M.1.cls = some m.cls ∧ (∀ w ∈ hk_T, w.before args s = true) ∧ meth.sig.returnType = M.2.2.2 ∧
  meth.locks = false ∧ meth.name = M.1.name ∧ (d ≤ R.frames ∧ 64 * d ≤ R.locals) ∧ (mc ≤ R.cells ∧ ms ≤ R.slots) ∧ hk_Nw s ∧ hk_b G ≤ s.heap.size ∧ hk_X G s s.heap
def hk_as (b : Nat) (ls : List (Option Value)) : List (Nat × Value) := (List.range ls.length).filterMap fun i => ((ls[i]?).join).map fun v => (i, hk_v b v)
def hk_L (b nL : Nat) (ls : List (Option Value)) (lsA : Array Slot) : Prop := lv_has lsA nL (hk_as b ls)
/-- from this place of the method its end is reached, with Q -/
def hk_WP (M : hk_M) (d mc ms k n pc : Nat) (ls : List (Option Value)) (st : List Value) (h : hk_H) (Q : Option Value → hk_H → Prop) : Prop :=
  ∀ (G : hk_G) (p : Program) (l : Launch) (e : Env) (R : Room) (s : State) (m : MethodId) (args : Array Value) (below : List Frame) (meth : Method) (c : Code) (H : Heap) (locs : List Loc) (lsA : Array Slot),
    hk_Cx M d mc ms G p R s m args meth c → hk_S G h s H → va_S (hk_A G) s.heap H locs → hk_L (hk_b G) M.2.2.1 ls lsA →
    W p l e R s m args below meth c H locs k n (MQ below (hk_Q G Q) args s mc ms (hk_A G)) (F0 m pc lsA (st.map (hk_v (hk_b G))))
theorem hk_as_mem {b : Nat} {ls : List (Option Value)} {q : Nat × Value} : q ∈ hk_as b ls ↔ ∃ v, ls[q.1]? = some (some v) ∧ q.2 = hk_v b v := by
  unfold hk_as
  rw [List.mem_filterMap]
  constructor
  · rintro ⟨i, hi, h⟩
    rw [Option.map_eq_some_iff] at h
    obtain ⟨v, h1, rfl⟩ := h
    exact ⟨v, Option.join_eq_some_iff.mp h1, rfl⟩
  · rintro ⟨v, h1, h2⟩
    refine ⟨q.1, List.mem_range.mpr (List.getElem?_eq_some_iff.mp h1).1, ?_⟩
    rw [h1, Option.join_some, Option.map_some, ← h2]
theorem hk_L_at {b nL : Nat} {ls : List (Option Value)} {lsA : Array Slot} (h : hk_L b nL ls lsA) {i : Nat} {v : Value} (hv : ls[i]? = some (some v)) : lsA[i]? = some (.val (hk_v b v)) := by
  have := h.2.2 (i, hk_v b v) (hk_as_mem.mpr ⟨v, hv, rfl⟩)
  exact this
def hk_ok (ls : List (Option Value)) (i : Nat) : Bool := match i with
  | 0 => true
  | j + 1 => match ls[j]? with
    | some (some v) => v.category != 2
    | _ => true
theorem hk_L_set {b nL : Nat} {ls : List (Option Value)} {lsA : Array Slot} {i : Nat} {v : Value} (hok : hk_ok ls i = true)
    (h : lv_has lsA nL ((i, hk_v b v) :: (hk_as b ls).filter (fun q => !(q.1 == i) && !(q.1 + 1 == i && q.2.category == 2)))) : hk_L b nL (ls.set i (some v)) lsA := by
  refine ⟨h.1, h.2.1, fun q hq => h.2.2 q ?_⟩
  obtain ⟨w, h1, h2⟩ := hk_as_mem.mp hq
  rw [List.getElem?_set] at h1
  by_cases hi : i = q.1
  · rw [if_pos hi] at h1
    split at h1
    · have := Option.some.inj (Option.some.inj h1)
      subst this
      rw [List.mem_cons]
      left
      exact Prod.ext hi.symm h2
    · cases h1
  · rw [if_neg hi] at h1
    rw [List.mem_cons]
    right
    rw [List.mem_filter]
    refine ⟨hk_as_mem.mpr ⟨w, h1, h2⟩, ?_⟩
    have e1 : (q.1 == i) = false := by simp; exact fun e => hi e.symm
    rw [e1]
    simp only [Bool.not_false, Bool.true_and, Bool.not_eq_true', Bool.and_eq_false_iff]
    by_cases h3 : q.1 + 1 = i
    · right
      subst h3
      rw [h2, hk_v_cat]
      simpa [hk_ok, h1] using hok
    · left
      simp [h3]
theorem hk_L_set2 {b nL : Nat} {ls : List (Option Value)} {lsA : Array Slot} {i : Nat} {v : Value} (hok : hk_ok ls i = true)
    (h : lv_has lsA nL ((i, hk_v b v) :: (hk_as b ls).filter (fun q => !(q.1 == i) && (!(q.1 == i + 1) && !(q.1 + 1 == i && q.2.category == 2))))) : hk_L b nL ((ls.set i (some v)).set (i + 1) none) lsA := by
  refine ⟨h.1, h.2.1, fun q hq => h.2.2 q ?_⟩
  obtain ⟨w, h1, h2⟩ := hk_as_mem.mp hq
  rw [List.getElem?_set] at h1
  by_cases hi1 : i + 1 = q.1
  · rw [if_pos hi1] at h1
    split at h1 <;> cases h1
  rw [if_neg hi1, List.getElem?_set] at h1
  by_cases hi : i = q.1
  · rw [if_pos hi] at h1
    split at h1
    · have := Option.some.inj (Option.some.inj h1)
      subst this
      rw [List.mem_cons]
      left
      exact Prod.ext hi.symm h2
    · cases h1
  · rw [if_neg hi] at h1
    rw [List.mem_cons]
    right
    rw [List.mem_filter]
    refine ⟨hk_as_mem.mpr ⟨w, h1, h2⟩, ?_⟩
    have e1 : (q.1 == i) = false := by simp; exact fun e => hi e.symm
    have e2 : (q.1 == i + 1) = false := by simp; exact fun e => hi1 e.symm
    rw [e1, e2]
    simp only [Bool.not_false, Bool.true_and, Bool.not_eq_true', Bool.and_eq_false_iff]
    by_cases h3 : q.1 + 1 = i
    · right
      subst h3
      rw [h2, hk_v_cat]
      simpa [hk_ok, h1] using hok
    · left
      simp [h3]
theorem hk_S.warm {G : hk_G} {h : hk_H} {s U : State} {H : Heap} (hW : s.WarmedH U.vm) (hS : hk_S G h s H) : hk_S G h U H := ⟨va_K.moved hW.alike hS.1, hS.2⟩
