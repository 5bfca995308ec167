section
variable {p : Program} {l : Launch} {e : Env} {R : Room} {s : State} {m : MethodId} {args : Array Value} {below : List Frame} {meth : Method} {c : Code} {Q : State → Prop}
def pm_Sem (p : Program) (l : Launch) (e : Env) (R : Room) (s : State) (m : MethodId) (args : Array Value) (below : List Frame) (meth : Method) (c : Code) (Q : State → Prop) (g : pm_G) (nL : Nat) (fr : Nat → Prop) : pm_J := fun pc L st A cells slots =>
  ∀ (H : Heap) (locs : List Loc) (ls : Array Slot), pm_hold g A H → (∀ q, A q ≠ none → fr q) → va_S fr s.heap H locs → pm_lv ls nL L → W p l e R s m args below meth c H locs cells slots Q (F0 m pc ls st)
def pm_Rt (p : Program) (l : Launch) (e : Env) (R : Room) (s : State) (m : MethodId) (args : Array Value) (below : List Frame) (meth : Method) (c : Code) (Q : State → Prop) (g : pm_G) (fr : Nat → Prop) (cc : ByteArray) (ret : Option FieldType) (Ret : Option Value → pm_H → Nat → Nat → Prop) : Prop :=
  ∀ (v : Option Value) (A : pm_H) (cells slots : Nat) (H : Heap) (locs : List Loc) (ls : Array Slot) (pc : Nat) (ins : Instr), Ret v A cells slots → pm_hold g A H → (∀ q, A q ≠ none → fr q) → va_S fr s.heap H locs → decode cc pc = .ok (ins, 1) → pm_rk ret ins v → W p l e R s m args below meth c H locs cells slots Q (F0 m pc ls v.toList)
def pm_Cx (p : Program) (l : Launch) (e : Env) (R : Room) (s : State) (m : MethodId) (args : Array Value) (below : List Frame) (meth : Method) (c : Code) (Q : State → Prop) (g : pm_G) (own nL : Nat) (isI : Bool) (ret : Option FieldType) (cc : ByteArray) (ro : Nat → Option (Nat × (Nat → Int32))) (d mc ms : Nat) (Ret : Option Value → pm_H → Nat → Nat → Prop) (fr : Nat → Prop) : Prop :=
  p.tables.exec = Jvm.exec ∧ c.code = cc ∧ c.maxLocals = nL ∧ s.vm.findClass (pm_nm own) = some m.cls ∧ (∀ w ∈ pm_W, w.before args s = true) ∧ pm_K g s ∧ (∀ q, s.heap.size ≤ q → fr q) ∧ (∀ b n f, ro b = some (n, f) → b < s.heap.size ∧ ¬ fr b ∧ va_X b n f s s.heap) ∧ (isI = true → meth.name = "<init>") ∧ (d ≤ R.frames ∧ 40 * d ≤ R.locals ∧ mc ≤ R.cells ∧ ms ≤ R.slots) ∧ pm_Rt p l e R s m args below meth c Q g fr cc ret Ret
theorem pm_hold_up {g : pm_G} {A : pm_H} {H H1 : Heap} {a : Nat} {e : va_E} (h : pm_hold g A H) (he : va_at g.1 vwCl (a, e) H1) (oq : ∀ q : Nat, q ≠ a → H1[q]? = H[q]?) : pm_hold g (pm_up A a e) H1 := by
  intro q x hq
  by_cases hqa : q = a
  · subst hqa
    rw [pm_up_s] at hq
    cases hq
    exact he
  · rw [pm_up_n hqa] at hq
    exact (h q x hq).kept (oq q hqa)
theorem pm_hold_new {g : pm_G} {A : pm_H} {H H1 : Heap} {e : va_E} (h : pm_hold g A H) (he : va_at g.1 vwCl (H.size, e) H1) (oq : ∀ q : Nat, q < H.size → H1[q]? = H[q]?) : pm_hold g (pm_up A H.size e) H1 := by
  intro q x hq
  by_cases hqa : q = H.size
  · subst hqa
    rw [pm_up_s] at hq
    cases hq
    exact he
  · rw [pm_up_n hqa] at hq
    exact (h q x hq).kept (oq q (h q x hq).lt)
theorem pm_hold_free {g : pm_G} {A : pm_H} {H : Heap} (h : pm_hold g A H) {a : Nat} (ha : H.size ≤ a) : A a = none := by
  cases hx : A a with
  | none => rfl
  | some e => exact absurd (h a e hx).lt (Nat.not_lt.mpr ha)
theorem pm_dom_up {A : pm_H} {a : Nat} {e : va_E} {fr : Nat → Prop} (hd : ∀ q, A q ≠ none → fr q) (ha : fr a) : ∀ q, pm_up A a e q ≠ none → fr q := by
  intro q hq
  by_cases hqa : q = a
  · rw [hqa]; exact ha
  · rw [pm_up_n hqa] at hq
    exact hd q hq
theorem pm_S_put {fr : Nat → Prop} {H0 H H1 : Heap} {locs : List Loc} {a i : Nat} (h : va_S fr H0 H locs) (z : H1.size = H.size) (oq : ∀ q : Nat, q ≠ a → H1[q]? = H[q]?) (ha : fr a) : va_S fr H0 H1 (locs ++ [⟨a, i⟩]) := h.put z oq ha
theorem pm_S_new {fr : Nat → Prop} {H0 H H1 : Heap} {locs : List Loc} (h : va_S fr H0 H locs) (z : H.size ≤ H1.size) (oq : ∀ q : Nat, q < H.size → H1[q]? = H[q]?) : va_S fr H0 H1 locs :=
  ⟨Nat.le_trans h.1 z, fun q h1 h2 => (oq q (Nat.lt_of_lt_of_le h1 h.1)).trans (h.2.1 q h1 h2), h.2.2⟩
theorem pm_cl_at {ci : Nat} (h : ci < 12) : vwCl[ci]? = some (pm_cT ci) := by
  rcases (show ci = 0 ∨ ci = 1 ∨ ci = 2 ∨ ci = 3 ∨ ci = 4 ∨ ci = 5 ∨ ci = 6 ∨ ci = 7 ∨ ci = 8 ∨ ci = 9 ∨ ci = 10 ∨ ci = 11 by omega) with rfl | rfl | rfl | rfl | rfl | rfl | rfl | rfl | rfl | rfl | rfl | rfl <;> rfl
theorem pm_at_get : ∀ (fs : List Value) (k : Nat), pm_at fs k = fs[k]?
  | [], k => by simp [pm_at]
  | v :: r, 0 => by simp [pm_at]
  | v :: r, k + 1 => by simp [pm_at, pm_at_get r k]
theorem pm_in_of {x : Int32} {n : Nat} (h : 0 ≤ x.toInt ∧ x.toInt < n) : vp_in x n := vp_in_iff.mpr h
theorem pm_lt (x y : Int32) : x < y ↔ x.toInt < y.toInt := Int32.lt_iff_toInt_lt
theorem pm_le (x y : Int32) : x ≤ y ↔ x.toInt ≤ y.toInt := Int32.le_iff_toInt_le
end
