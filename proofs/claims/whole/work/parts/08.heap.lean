/-! THE OBJECTS, once both constructors have run (written by wip/whole/heap.py): number k of the table below; from C0 on the laws, two numbers each -/
abbrev hk_C0 : Nat := 99
def hk_tab : List (Nat → (Nat → Int32) → hk_E) := [
  fun _ f => .inr (9, [.int (f 0), .ref 1, .ref 8, .ref 15, .ref 22, .ref 29, .ref 32]),
  fun _ f => .inr (0, [.int (f 0), .ref 2, .ref 4, .ref 5, .ref 6, .ref 7, .int (f 6)]),
  fun _ f => .inr (6, [.int 60, .int 13, .ref 3, .int (f 3)]),
  fun _ f => .inl (0, 780, .inl f),
  fun _ f => .inl (0, 12, .inl f),
  fun _ f => .inl (0, 12, .inl f),
  fun _ f => .inl (0, 24, .inl f),
  fun _ f => .inl (0, 24, .inl f),
  fun _ _ => .inr (2, [.ref 9, .ref 11, .ref 13]),
  fun _ f => .inr (6, [.int 30, .int 8, .ref 10, .int (f 3)]),
  fun _ f => .inl (0, 240, .inl f),
  fun _ f => .inr (6, [.int 200, .int 3, .ref 12, .int (f 3)]),
  fun _ f => .inl (0, 600, .inl f),
  fun _ f => .inr (6, [.int 12, .int 13, .ref 14, .int (f 3)]),
  fun _ f => .inl (0, 156, .inl f),
  fun _ f => .inr (4, [.ref 16, .ref 19, .int (f 2), .ref 20, .ref 21]),
  fun _ f => .inr (5, [.ref 17, .ref 18, .int (f 2), .int (f 3), .int (f 4)]),
  fun _ f => .inl (0, 160, .inl f),
  fun _ f => .inl (0, 160, .inl f),
  fun L _ => .inl (2, 40, .inr (fun j => if j < L then some (99 + 2 * j) else none)),
  fun _ f => .inl (0, 9, .inl f),
  fun _ f => .inl (0, 160, .inl f),
  fun _ _ => .inr (8, [.ref 23, .ref 25, .ref 27]),
  fun _ f => .inr (6, [.int 300, .int 13, .ref 24, .int (f 3)]),
  fun _ f => .inl (0, 3900, .inl f),
  fun _ f => .inr (6, [.int 1, .int 13, .ref 26, .int (f 3)]),
  fun _ f => .inl (0, 13, .inl f),
  fun _ f => .inr (6, [.int 300, .int 4, .ref 28, .int (f 3)]),
  fun _ f => .inl (0, 1200, .inl f),
  fun _ _ => .inr (1, [.ref 30]),
  fun _ f => .inr (6, [.int 300, .int 2, .ref 31, .int (f 3)]),
  fun _ f => .inl (0, 600, .inl f),
  fun _ _ => .inr (7, [.ref 33, .ref 35]),
  fun _ f => .inr (6, [.int 60, .int 4, .ref 34, .int (f 3)]),
  fun _ f => .inl (0, 240, .inl f),
  fun _ f => .inr (6, [.int 60, .int 3, .ref 36, .int (f 3)]),
  fun _ f => .inl (0, 180, .inl f),
  fun _ f => .inr (10, [.int (f 0), .ref 38, .ref 39, .int (f 3), .ref 40, .ref 41, .ref 42, .ref 43, .ref 44, .ref 45, .ref 46, .int (f 11), .ref 47, .ref 48, .ref 49, .int (f 15), .ref 50, .int (f 17), .ref 51, .ref 52, .ref 53, .ref 54, .ref 55, .ref 56, .ref 57, .ref 58, .int (f 26), .ref 59, .ref 60, .ref 61, .int (f 30), .ref 62, .ref 63, .ref 64, .ref 65, .int (f 35), .ref 66, .int (f 37), .ref 67, .ref 68, .ref 69, .ref 70, .ref 71, .int (f 43), .int (f 44), .int (f 45), .ref 72, .ref 73, .ref 74, .ref 75, .ref 76, .ref 77, .ref 78, .ref 79, .ref 80, .ref 81, .ref 82, .ref 83, .ref 84, .ref 85, .int (f 60), .ref 86, .ref 87, .ref 88, .ref 89, .int (f 65), .ref 90, .ref 91, .int (f 68), .ref 92, .ref 93, .ref 94, .ref 95, .int (f 73), .ref 96, .ref 97, .ref 98, .int (f 77), .int (f 78), .int (f 79), .int (f 80)]),
  fun _ f => .inl (0, 12, .inl f),
  fun _ f => .inl (0, 12, .inl f),
  fun _ f => .inl (0, 60, .inl f),
  fun _ f => .inl (0, 60, .inl f),
  fun _ f => .inl (0, 60, .inl f),
  fun _ f => .inl (0, 60, .inl f),
  fun _ f => .inl (0, 240, .inl f),
  fun _ f => .inl (0, 240, .inl f),
  fun _ f => .inl (0, 60, .inl f),
  fun _ f => .inl (0, 24, .inl f),
  fun _ f => .inl (0, 24, .inl f),
  fun _ f => .inl (0, 24, .inl f),
  fun _ f => .inl (0, 24, .inl f),
  fun _ f => .inl (0, 30, .inl f),
  fun _ f => .inl (0, 30, .inl f),
  fun _ f => .inl (0, 30, .inl f),
  fun _ f => .inl (0, 30, .inl f),
  fun _ f => .inl (0, 30, .inl f),
  fun _ f => .inl (0, 30, .inl f),
  fun _ f => .inl (0, 30, .inl f),
  fun _ f => .inl (0, 30, .inl f),
  fun _ f => .inl (0, 200, .inl f),
  fun _ f => .inl (0, 200, .inl f),
  fun _ f => .inl (0, 200, .inl f),
  fun _ f => .inl (0, 12, .inl f),
  fun _ f => .inl (0, 12, .inl f),
  fun _ f => .inl (0, 120, .inl f),
  fun _ f => .inl (0, 12, .inl f),
  fun _ f => .inl (0, 160, .inl f),
  fun _ f => .inl (0, 6400, .inl f),
  fun _ f => .inl (0, 40, .inl f),
  fun _ f => .inl (0, 40, .inl f),
  fun _ f => .inl (0, 40, .inl f),
  fun _ f => .inl (0, 40, .inl f),
  fun _ f => .inl (0, 9, .inl f),
  fun _ f => .inl (0, 300, .inl f),
  fun _ f => .inl (0, 300, .inl f),
  fun _ f => .inl (0, 300, .inl f),
  fun _ f => .inl (0, 300, .inl f),
  fun _ f => .inl (0, 300, .inl f),
  fun _ f => .inl (0, 300, .inl f),
  fun _ f => .inl (0, 300, .inl f),
  fun _ f => .inl (0, 300, .inl f),
  fun _ f => .inl (0, 300, .inl f),
  fun _ f => .inl (0, 300, .inl f),
  fun _ f => .inl (0, 300, .inl f),
  fun _ f => .inl (1, 300, .inl f),
  fun _ f => .inl (0, 300, .inl f),
  fun _ f => .inl (0, 300, .inl f),
  fun _ f => .inl (0, 300, .inl f),
  fun _ f => .inl (0, 300, .inl f),
  fun _ f => .inl (0, 300, .inl f),
  fun _ f => .inl (0, 300, .inl f),
  fun _ f => .inl (0, 300, .inl f),
  fun _ f => .inl (0, 60, .inl f),
  fun _ f => .inl (0, 60, .inl f),
  fun _ f => .inl (0, 60, .inl f),
  fun _ f => .inl (0, 60, .inl f),
  fun _ f => .inl (0, 60, .inl f),
  fun _ f => .inl (0, 60, .inl f),
  fun _ f => .inl (0, 60, .inl f)]
def hk_dyn (k : Nat) (f : Nat → Int32) : hk_E := if (k - hk_C0) % 2 = 0 then .inr (3, [.int (f 0), .int (f 1), .int (f 2), .ref (k + 1)]) else .inl (0, (f 1000).toNatClampNeg, .inl f)
def hk_ent (L k : Nat) (f : Nat → Int32) : hk_E := match hk_tab[k]? with
  | some g => g L f
  | none => hk_dyn k f
def hk_h (L : Nat) (m : Nat → Nat → Int32) : hk_H := (hk_C0 + 2 * L, fun k => hk_ent L k (m k))
def hk_w (m : Nat → Nat → Int32) (a j : Nat) (x : Int32) : Nat → Nat → Int32 := fun q => if q = a then upd (m q) j x else m q
theorem hk_w_ne {m : Nat → Nat → Int32} {a j b i : Nat} {x : Int32} (h : b ≠ a) : hk_w m a j x b i = m b i := by simp [hk_w, h]
theorem hk_w_at {m : Nat → Nat → Int32} {a j i : Nat} {x : Int32} : hk_w m a j x a i = if i = j then x else m a i := by simp [hk_w, upd]
theorem hk_w_eq {m : Nat → Nat → Int32} {a j : Nat} {x : Int32} : hk_w m a j x a j = x := by simp [hk_w, upd]
theorem hk_w_off {m : Nat → Nat → Int32} {a j i : Nat} {x : Int32} (h : i ≠ j) : hk_w m a j x a i = m a i := by simp [hk_w, upd, h]
theorem hk_lt {L : Nat} {m : Nat → Nat → Int32} {a : Nat} (h : a < hk_C0) : a < (hk_h L m).1 := Nat.lt_of_lt_of_le h (Nat.le_add_right _ _)
theorem hk_up_w {L : Nat} {m : Nat → Nat → Int32} {a j : Nat} {x : Int32} {e : hk_E} (he : hk_ent L a (upd (m a) j x) = e) : hk_up (hk_h L m) a e = hk_h L (hk_w m a j x) := by
  refine Prod.ext rfl ?_
  funext q
  show (if q = a then e else hk_ent L q (m q)) = hk_ent L q (hk_w m a j x q)
  by_cases h : q = a
  · subst h; rw [if_pos rfl, ← he]; simp [hk_w]
  · rw [if_neg h]; simp [hk_w, h]
section HH
variable {M : hk_M} {d mc ms k n pc L : Nat} {ls : List (Option Value)} {st : List Value} {m : Nat → Nat → Int32} {Q : Option Value → hk_H → Prop}
theorem hk_st {a j : Nat} {x : Int32} {e : hk_E} (he : hk_ent L a (upd (m a) j x) = e) (kk : hk_WP M d mc ms k n pc ls st (hk_h L (hk_w m a j x)) Q) : hk_WP M d mc ms k n pc ls st (hk_up (hk_h L m) a e) Q := by
  rw [hk_up_w he]; exact kk
theorem hk_ia {a N : Nat} {i : Int32} (hd : decode M.2.1 pc = .ok (.iaload, 1)) (ha : a < hk_C0) (he : ∀ f, hk_ent L a f = .inl (0, N, .inl f)) (hin : vp_in i N) (kk : hk_WP M d mc ms k n (pc + 1) ls (.int (m a i.toNatClampNeg) :: st) (hk_h L m) Q) : hk_WP M d mc ms k n pc ls (.int i :: .ref a :: st) (hk_h L m) Q :=
  hk_iaload hd (hk_lt ha) (he _) hin kk
theorem hk_za {a N : Nat} {i : Int32} (hd : decode M.2.1 pc = .ok (.baload, 1)) (ha : a < hk_C0) (he : ∀ f, hk_ent L a f = .inl (1, N, .inl f)) (hin : vp_in i N) (kk : hk_WP M d mc ms k n (pc + 1) ls (.int (m a i.toNatClampNeg) :: st) (hk_h L m) Q) : hk_WP M d mc ms k n pc ls (.int i :: .ref a :: st) (hk_h L m) Q :=
  hk_zaload hd (hk_lt ha) (he _) hin kk
theorem hk_is {a N : Nat} {i x : Int32} (hd : decode M.2.1 pc = .ok (.iastore, 1)) (ha : a < hk_C0) (he : ∀ f, hk_ent L a f = .inl (0, N, .inl f)) (hin : vp_in i N) (kk : hk_WP M d mc ms k n (pc + 1) ls st (hk_h L (hk_w m a i.toNatClampNeg x)) Q) : hk_WP M d mc ms k n pc ls (.int x :: .int i :: .ref a :: st) (hk_h L m) Q :=
  hk_iastore hd (hk_lt ha) (he _) hin (hk_st (he _) kk)
theorem hk_zs {a N : Nat} {i x : Int32} (hx : narrow .boolean (.int x) = .int x) (hd : decode M.2.1 pc = .ok (.bastore, 1)) (ha : a < hk_C0) (he : ∀ f, hk_ent L a f = .inl (1, N, .inl f)) (hin : vp_in i N) (kk : hk_WP M d mc ms k n (pc + 1) ls st (hk_h L (hk_w m a i.toNatClampNeg x)) Q) : hk_WP M d mc ms k n pc ls (.int x :: .int i :: .ref a :: st) (hk_h L m) Q :=
  hk_zastore hx hd (hk_lt ha) (he _) hin (hk_st (he _) kk)
end HH
/-- a contract that says just one answer and one heap -/
abbrev hk_Cd (M : hk_M) (d mc ms : Nat) (av : List Value) (h : hk_H) (v : Option Value) (h1 : hk_H) : Prop := hk_Ct M d mc ms av h (fun r h' => r = v ∧ h' = h1)
theorem hk_kd {M : hk_M} {d mc ms k n pc : Nat} {ls : List (Option Value)} {st : List Value} {h1 : hk_H} {Q : Option Value → hk_H → Prop} {w : Value} (kk : hk_WP M d mc ms k n pc ls (w :: st) h1 Q) : ∀ (r : Option Value) (h' : hk_H), (r = some w ∧ h' = h1) → hk_WP M d mc ms k n pc ls (r.toList ++ st) h' Q := by
  rintro r h' ⟨rfl, rfl⟩; exact kk
theorem hk_kv {M : hk_M} {d mc ms k n pc : Nat} {ls : List (Option Value)} {st : List Value} {h1 : hk_H} {Q : Option Value → hk_H → Prop} (kk : hk_WP M d mc ms k n pc ls st h1 Q) : ∀ (r : Option Value) (h' : hk_H), (r = none ∧ h' = h1) → hk_WP M d mc ms k n pc ls (r.toList ++ st) h' Q := by
  rintro r h' ⟨rfl, rfl⟩; exact kk
